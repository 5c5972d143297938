set_option maxHeartbeats 4000000 in
set_option maxRecDepth 100000 in
theorem cs_teach {p : Program} {l : Launch} {e : Env} {s : State} {m : MethodId} {below : List Frame} {meth : Method} {c : Code} {H : Heap} {locs : List Loc} {cells slots : Nat} {Q : State → Prop} {ls : Array Slot} {G : va_G} {A : Nat → Prop} {sa sv : Nat → Nat} {cI cS cJ : ClassId} {b L : Nat} {xs : Nat → Int32} {ad am ao i : Nat} {ws : va_W} {J : va_W → Prop} (C : LC p s m c A sa sv G cI cS cJ b L xs) (hi : i + 4 ≤ L) (hl : lv_has ls 9 [(0, .ref b), (1, .ref ad), (2, .ref am), (3, .ref ao), (4, .int (nI i))]) (hP : va_P G vwCl ws H) (hD : va_D A ws) (hS : va_S A s.heap H locs) (hroom : cells + 16 ≤ 601024 ∧ slots + 480 ≤ 7293034) (h : LwS l sa sv G (tyw cI cS cJ) yL_teach wsL_teach [.ref ad, .int (xs (i + 1)), .int (xs (i + 2)), .int (xs (i + 3)), .ref ao] ws (fun k ws1 => LwV l G [(cI, .int)] yX9_teach wsX9_teach ({ frames := 2, cells := 0, slots := 0, locals := 42 } : Room) am [.int (xs (i + 1)), .int (xs (i + 2)), .int (xs (i + 3))] ws1 (fun bv ws2 => LwV l G [(cI, .int)] yX9_thrown wsX9_thrown ({ frames := 0, cells := 0, slots := 0, locals := 0 } : Room) am [] ws2 (fun t ws3 => t = k ∧ (k = 0 → ∃ (q0 : Nat) (g : Nat → Int64), ws3[q0]? = some (ouW cJ ao g) ∧ g 0 = bv.toInt64) ∧ J ws3)))) (kk : ∀ (ws3 : va_W) (H : Heap) (locs : List Loc) (ls : Array Slot), J ws3 → va_P G vwCl ws3 H → va_D A ws3 → va_S A s.heap H locs → lv_has ls 9 [(0, .ref b), (1, .ref ad), (2, .ref am), (3, .ref ao), (4, .int (nI i))] → W p l e room_1 s m #[.ref b] below meth c H locs (cells + 16) (slots + 480) Q (F0 m 1376 ls [])) : W p l e room_1 s m #[.ref b] below meth c H locs cells slots Q (F0 m 152 ls []) := by
  have C0 := C
  obtain ⟨hx, hb, hml, hown, hts, hX, hbl, hbA, hK, hE, hA, hL⟩ := C
  refine lv_aload_n hx hb dL_law_152 rfl (lv_at hl 1 rfl) ?_
  refine lw_ld C0 (lv_at hl 0 rfl) (lv_at hl 4 rfl) hS 1 (by decide) (by omega) dL_law_153 dL_law_154 dL_law_156 dL_law_157 dL_law_158 ?_
  refine lw_ld C0 (lv_at hl 0 rfl) (lv_at hl 4 rfl) hS 2 (by decide) (by omega) dL_law_159 dL_law_160 dL_law_162 dL_law_163 dL_law_164 ?_
  refine lw_ld C0 (lv_at hl 0 rfl) (lv_at hl 4 rfl) hS 3 (by decide) (by omega) dL_law_165 dL_law_166 dL_law_168 dL_law_169 dL_law_170 ?_
  refine lv_aload_n hx hb dL_law_171 rfl (lv_at hl 3 rfl) ?_
  refine h.call 5 hE ⟨hx, hb, hml, hown, hts⟩ gL_law_L_teach rfl (by decide) (by decide +kernel) hP hD hS hA hK rfl hl.1 rfl (lv_room (Nat.le_of_ble_eq_true rfl)) dL_law_172 hroom (fun k ws1 H locs h1 hP hD hS => ?_)
  refine lv_istore hx hb dL_law_175 hl (by decide) rfl (fun ls hl => ?_)
  have hl : lv_has ls 9 [(5, .int k), (0, .ref b), (1, .ref ad), (2, .ref am), (3, .ref ao), (4, .int (nI i))] := hl
  refine lv_aload_n hx hb dL_law_177 rfl (lv_at hl 3 rfl) ?_
  refine lw_ld C0 (lv_at hl 1 rfl) (lv_at hl 5 rfl) hS 1 (by decide) (by omega) dL_law_178 dL_law_179 dL_law_181 dL_law_182 dL_law_183 ?_
  refine lw_ld C0 (lv_at hl 1 rfl) (lv_at hl 5 rfl) hS 2 (by decide) (by omega) dL_law_184 dL_law_185 dL_law_187 dL_law_188 dL_law_189 ?_
  refine lw_ld C0 (lv_at hl 1 rfl) (lv_at hl 5 rfl) hS 3 (by decide) (by omega) dL_law_190 dL_law_191 dL_law_193 dL_law_194 dL_law_195 ?_
  refine h1.call ⟨hx, hb, hml, hown, hts⟩ (cwV 3 hts gL_law_X9_teach rfl rfl rfl (by decide +kernel) ⟨Nat.le_of_ble_eq_true rfl, Nat.le_of_ble_eq_true rfl⟩) rfl hP hD hS hA (hK.sub [0] rfl) rfl hl.1 rfl (lv_room (Nat.le_of_ble_eq_true rfl)) dL_law_196 hroom (fun bv ws2 H locs h2 hP hD hS => ?_)
  refine lv_istore hx hb dL_law_199 hl (by decide) rfl (fun ls hl => ?_)
  have hl : lv_has ls 9 [(6, .int bv), (5, .int k), (0, .ref b), (1, .ref ad), (2, .ref am), (3, .ref ao), (4, .int (nI i))] := hl
  refine lv_aload_n hx hb dL_law_201 rfl (lv_at hl 4 rfl) ?_
  refine h2.call ⟨hx, hb, hml, hown, hts⟩ (cwV 0 hts gL_law_X9_thrown rfl rfl rfl (by decide +kernel) ⟨Nat.le_of_ble_eq_true rfl, Nat.le_of_ble_eq_true rfl⟩) rfl hP hD hS hA (hK.sub [0] rfl) rfl hl.1 rfl (lv_room (Nat.le_of_ble_eq_true rfl)) dL_law_202 hroom (fun t ws3 H locs h3 hP hD hS => ?_)
  obtain ⟨ht, hz, hJ⟩ := h3
  refine lv_iload hx hb dL_law_205 (lv_at hl 1 rfl) ?_
  refine lv_icmp_eq (tgt := 212) hx hb dL_law_207 (by decide) (fun _ => ?_) (fun q => absurd ht q)
  refine lv_iload hx hb dL_law_212 (lv_at hl 1 rfl) ?_
  have hl5 : lv_has ls 9 [(0, .ref b), (1, .ref ad), (2, .ref am), (3, .ref ao), (4, .int (nI i))] := lv_sub hl [2, 3, 4, 5, 6] rfl
  refine lv_if_ne (tgt := 229) hx hb dL_law_214 (by decide) (fun _ => ?_) (fun q => ?_)
  · exact lv_goto (tgt := 1376) hx hb dL_law_229 (by decide) (kk _ _ _ _ hJ hP hD hS hl5)
  · obtain ⟨q0, g, e0, e1⟩ := hz q
    refine lv_aload_n hx hb dL_law_217 rfl (lv_at hl 5 rfl) ?_
    refine lv_iconst (v := 0) hx hb dL_law_218 (by decide) ?_
    refine va_lald hx hb hK hP q0 2 e0 rfl (vp_lit (by decide +kernel)) dL_law_219 ?_
    refine lv_iload hx hb dL_law_220 (lv_at hl 0 rfl) ?_
    refine lv_i2l (v := bv.toInt64) hx hb dL_law_222 rfl ?_
    rw [show g (0 : Int32).toNatClampNeg = bv.toInt64 from e1]
    refine lw_lcmp hx hb dL_law_223 ?_
    refine lv_if_eq (tgt := 229) hx hb dL_law_224 (by decide) (fun _ => ?_) (fun q => absurd rfl q)
    exact lv_goto (tgt := 1376) hx hb dL_law_229 (by decide) (kk _ _ _ _ hJ hP hD hS hl5)
set_option maxHeartbeats 4000000 in
set_option maxRecDepth 100000 in
theorem cs_ear {p : Program} {l : Launch} {e : Env} {s : State} {m : MethodId} {below : List Frame} {meth : Method} {c : Code} {H : Heap} {locs : List Loc} {cells slots : Nat} {Q : State → Prop} {ls : Array Slot} {G : va_G} {A : Nat → Prop} {sa sv : Nat → Nat} {cI cS cJ : ClassId} {b L : Nat} {xs : Nat → Int32} {ad am ao i : Nat} {ws : va_W} {J : va_W → Prop} (C : LC p s m c A sa sv G cI cS cJ b L xs) (hi : i + 4 ≤ L) (hl : lv_has ls 9 [(0, .ref b), (1, .ref ad), (2, .ref am), (3, .ref ao), (4, .int (nI i))]) (hP : va_P G vwCl ws H) (hD : va_D A ws) (hS : va_S A s.heap H locs) (hroom : cells + 16 ≤ 601024 ∧ slots + 480 ≤ 7293034) (h : LwS l sa sv G (tyw cI cS cJ) yL_ear wsL_ear [.ref ad, .int (xs (i + 1)), .int (xs (i + 2)), .ref ao] ws (fun k ws1 => LwV l G [(cI, .int)] yX9_ear wsX9_ear ({ frames := 3, cells := 0, slots := 0, locals := 66 } : Room) am [.int (xs (i + 1)), .int (xs (i + 2))] ws1 (fun bv ws2 => LwV l G [(cI, .int)] yX9_thrown wsX9_thrown ({ frames := 0, cells := 0, slots := 0, locals := 0 } : Room) am [] ws2 (fun t ws3 => t = k ∧ (k = 0 → ∃ (q0 : Nat) (g : Nat → Int64), ws3[q0]? = some (ouW cJ ao g) ∧ g 0 = bv.toInt64) ∧ J ws3)))) (kk : ∀ (ws3 : va_W) (H : Heap) (locs : List Loc) (ls : Array Slot), J ws3 → va_P G vwCl ws3 H → va_D A ws3 → va_S A s.heap H locs → lv_has ls 9 [(0, .ref b), (1, .ref ad), (2, .ref am), (3, .ref ao), (4, .int (nI i))] → W p l e room_1 s m #[.ref b] below meth c H locs (cells + 16) (slots + 480) Q (F0 m 1376 ls [])) : W p l e room_1 s m #[.ref b] below meth c H locs cells slots Q (F0 m 232 ls []) := by
  have C0 := C
  obtain ⟨hx, hb, hml, hown, hts, hX, hbl, hbA, hK, hE, hA, hL⟩ := C
  refine lv_aload_n hx hb dL_law_232 rfl (lv_at hl 1 rfl) ?_
  refine lw_ld C0 (lv_at hl 0 rfl) (lv_at hl 4 rfl) hS 1 (by decide) (by omega) dL_law_233 dL_law_234 dL_law_236 dL_law_237 dL_law_238 ?_
  refine lw_ld C0 (lv_at hl 0 rfl) (lv_at hl 4 rfl) hS 2 (by decide) (by omega) dL_law_239 dL_law_240 dL_law_242 dL_law_243 dL_law_244 ?_
  refine lv_aload_n hx hb dL_law_245 rfl (lv_at hl 3 rfl) ?_
  refine h.call 4 hE ⟨hx, hb, hml, hown, hts⟩ gL_law_L_ear rfl (by decide) (by decide +kernel) hP hD hS hA hK rfl hl.1 rfl (lv_room (Nat.le_of_ble_eq_true rfl)) dL_law_246 hroom (fun k ws1 H locs h1 hP hD hS => ?_)
  refine lv_istore hx hb dL_law_249 hl (by decide) rfl (fun ls hl => ?_)
  have hl : lv_has ls 9 [(5, .int k), (0, .ref b), (1, .ref ad), (2, .ref am), (3, .ref ao), (4, .int (nI i))] := hl
  refine lv_aload_n hx hb dL_law_251 rfl (lv_at hl 3 rfl) ?_
  refine lw_ld C0 (lv_at hl 1 rfl) (lv_at hl 5 rfl) hS 1 (by decide) (by omega) dL_law_252 dL_law_253 dL_law_255 dL_law_256 dL_law_257 ?_
  refine lw_ld C0 (lv_at hl 1 rfl) (lv_at hl 5 rfl) hS 2 (by decide) (by omega) dL_law_258 dL_law_259 dL_law_261 dL_law_262 dL_law_263 ?_
  refine h1.call ⟨hx, hb, hml, hown, hts⟩ (cwV 2 hts gL_law_X9_ear rfl rfl rfl (by decide +kernel) ⟨Nat.le_of_ble_eq_true rfl, Nat.le_of_ble_eq_true rfl⟩) rfl hP hD hS hA (hK.sub [0] rfl) rfl hl.1 rfl (lv_room (Nat.le_of_ble_eq_true rfl)) dL_law_264 hroom (fun bv ws2 H locs h2 hP hD hS => ?_)
  refine lv_istore hx hb dL_law_267 hl (by decide) rfl (fun ls hl => ?_)
  have hl : lv_has ls 9 [(6, .int bv), (5, .int k), (0, .ref b), (1, .ref ad), (2, .ref am), (3, .ref ao), (4, .int (nI i))] := hl
  refine lv_aload_n hx hb dL_law_269 rfl (lv_at hl 4 rfl) ?_
  refine h2.call ⟨hx, hb, hml, hown, hts⟩ (cwV 0 hts gL_law_X9_thrown rfl rfl rfl (by decide +kernel) ⟨Nat.le_of_ble_eq_true rfl, Nat.le_of_ble_eq_true rfl⟩) rfl hP hD hS hA (hK.sub [0] rfl) rfl hl.1 rfl (lv_room (Nat.le_of_ble_eq_true rfl)) dL_law_270 hroom (fun t ws3 H locs h3 hP hD hS => ?_)
  obtain ⟨ht, hz, hJ⟩ := h3
  refine lv_iload hx hb dL_law_273 (lv_at hl 1 rfl) ?_
  refine lv_icmp_eq (tgt := 280) hx hb dL_law_275 (by decide) (fun _ => ?_) (fun q => absurd ht q)
  refine lv_iload hx hb dL_law_280 (lv_at hl 1 rfl) ?_
  have hl5 : lv_has ls 9 [(0, .ref b), (1, .ref ad), (2, .ref am), (3, .ref ao), (4, .int (nI i))] := lv_sub hl [2, 3, 4, 5, 6] rfl
  refine lv_if_ne (tgt := 297) hx hb dL_law_282 (by decide) (fun _ => ?_) (fun q => ?_)
  · exact lv_goto (tgt := 1376) hx hb dL_law_297 (by decide) (kk _ _ _ _ hJ hP hD hS hl5)
  · obtain ⟨q0, g, e0, e1⟩ := hz q
    refine lv_aload_n hx hb dL_law_285 rfl (lv_at hl 5 rfl) ?_
    refine lv_iconst (v := 0) hx hb dL_law_286 (by decide) ?_
    refine va_lald hx hb hK hP q0 2 e0 rfl (vp_lit (by decide +kernel)) dL_law_287 ?_
    refine lv_iload hx hb dL_law_288 (lv_at hl 0 rfl) ?_
    refine lv_i2l (v := bv.toInt64) hx hb dL_law_290 rfl ?_
    rw [show g (0 : Int32).toNatClampNeg = bv.toInt64 from e1]
    refine lw_lcmp hx hb dL_law_291 ?_
    refine lv_if_eq (tgt := 297) hx hb dL_law_292 (by decide) (fun _ => ?_) (fun q => absurd rfl q)
    exact lv_goto (tgt := 1376) hx hb dL_law_297 (by decide) (kk _ _ _ _ hJ hP hD hS hl5)
set_option maxHeartbeats 4000000 in
set_option maxRecDepth 100000 in
theorem cs_fee {p : Program} {l : Launch} {e : Env} {s : State} {m : MethodId} {below : List Frame} {meth : Method} {c : Code} {H : Heap} {locs : List Loc} {cells slots : Nat} {Q : State → Prop} {ls : Array Slot} {G : va_G} {A : Nat → Prop} {sa sv : Nat → Nat} {cI cS cJ : ClassId} {b L : Nat} {xs : Nat → Int32} {ad am ao i : Nat} {ws : va_W} {J : va_W → Prop} (C : LC p s m c A sa sv G cI cS cJ b L xs) (hi : i + 4 ≤ L) (hl : lv_has ls 9 [(0, .ref b), (1, .ref ad), (2, .ref am), (3, .ref ao), (4, .int (nI i))]) (hP : va_P G vwCl ws H) (hD : va_D A ws) (hS : va_S A s.heap H locs) (hroom : cells + 16 ≤ 601024 ∧ slots + 480 ≤ 7293034) (h : LwS l sa sv G (tyw cI cS cJ) yL_fee wsL_fee [.ref ad, .int (xs (i + 1)), .int (xs (i + 2)), .ref ao] ws (fun k ws1 => LwV l G [(cI, .int)] yX9_fee wsX9_fee ({ frames := 3, cells := 0, slots := 0, locals := 66 } : Room) am [.int (xs (i + 1)), .int (xs (i + 2))] ws1 (fun bv ws2 => LwV l G [(cI, .int)] yX9_thrown wsX9_thrown ({ frames := 0, cells := 0, slots := 0, locals := 0 } : Room) am [] ws2 (fun t ws3 => t = k ∧ (k = 0 → ∃ (q0 : Nat) (g : Nat → Int64), ws3[q0]? = some (ouW cJ ao g) ∧ g 0 = bv.toInt64) ∧ J ws3)))) (kk : ∀ (ws3 : va_W) (H : Heap) (locs : List Loc) (ls : Array Slot), J ws3 → va_P G vwCl ws3 H → va_D A ws3 → va_S A s.heap H locs → lv_has ls 9 [(0, .ref b), (1, .ref ad), (2, .ref am), (3, .ref ao), (4, .int (nI i))] → W p l e room_1 s m #[.ref b] below meth c H locs (cells + 16) (slots + 480) Q (F0 m 1376 ls [])) : W p l e room_1 s m #[.ref b] below meth c H locs cells slots Q (F0 m 300 ls []) := by
  have C0 := C
  obtain ⟨hx, hb, hml, hown, hts, hX, hbl, hbA, hK, hE, hA, hL⟩ := C
  refine lv_aload_n hx hb dL_law_300 rfl (lv_at hl 1 rfl) ?_
  refine lw_ld C0 (lv_at hl 0 rfl) (lv_at hl 4 rfl) hS 1 (by decide) (by omega) dL_law_301 dL_law_302 dL_law_304 dL_law_305 dL_law_306 ?_
  refine lw_ld C0 (lv_at hl 0 rfl) (lv_at hl 4 rfl) hS 2 (by decide) (by omega) dL_law_307 dL_law_308 dL_law_310 dL_law_311 dL_law_312 ?_
  refine lv_aload_n hx hb dL_law_313 rfl (lv_at hl 3 rfl) ?_
  refine h.call 4 hE ⟨hx, hb, hml, hown, hts⟩ gL_law_L_fee rfl (by decide) (by decide +kernel) hP hD hS hA hK rfl hl.1 rfl (lv_room (Nat.le_of_ble_eq_true rfl)) dL_law_314 hroom (fun k ws1 H locs h1 hP hD hS => ?_)
  refine lv_istore hx hb dL_law_317 hl (by decide) rfl (fun ls hl => ?_)
  have hl : lv_has ls 9 [(5, .int k), (0, .ref b), (1, .ref ad), (2, .ref am), (3, .ref ao), (4, .int (nI i))] := hl
  refine lv_aload_n hx hb dL_law_319 rfl (lv_at hl 3 rfl) ?_
  refine lw_ld C0 (lv_at hl 1 rfl) (lv_at hl 5 rfl) hS 1 (by decide) (by omega) dL_law_320 dL_law_321 dL_law_323 dL_law_324 dL_law_325 ?_
  refine lw_ld C0 (lv_at hl 1 rfl) (lv_at hl 5 rfl) hS 2 (by decide) (by omega) dL_law_326 dL_law_327 dL_law_329 dL_law_330 dL_law_331 ?_
  refine h1.call ⟨hx, hb, hml, hown, hts⟩ (cwV 2 hts gL_law_X9_fee rfl rfl rfl (by decide +kernel) ⟨Nat.le_of_ble_eq_true rfl, Nat.le_of_ble_eq_true rfl⟩) rfl hP hD hS hA (hK.sub [0] rfl) rfl hl.1 rfl (lv_room (Nat.le_of_ble_eq_true rfl)) dL_law_332 hroom (fun bv ws2 H locs h2 hP hD hS => ?_)
  refine lv_istore hx hb dL_law_335 hl (by decide) rfl (fun ls hl => ?_)
  have hl : lv_has ls 9 [(6, .int bv), (5, .int k), (0, .ref b), (1, .ref ad), (2, .ref am), (3, .ref ao), (4, .int (nI i))] := hl
  refine lv_aload_n hx hb dL_law_337 rfl (lv_at hl 4 rfl) ?_
  refine h2.call ⟨hx, hb, hml, hown, hts⟩ (cwV 0 hts gL_law_X9_thrown rfl rfl rfl (by decide +kernel) ⟨Nat.le_of_ble_eq_true rfl, Nat.le_of_ble_eq_true rfl⟩) rfl hP hD hS hA (hK.sub [0] rfl) rfl hl.1 rfl (lv_room (Nat.le_of_ble_eq_true rfl)) dL_law_338 hroom (fun t ws3 H locs h3 hP hD hS => ?_)
  obtain ⟨ht, hz, hJ⟩ := h3
  refine lv_iload hx hb dL_law_341 (lv_at hl 1 rfl) ?_
  refine lv_icmp_eq (tgt := 348) hx hb dL_law_343 (by decide) (fun _ => ?_) (fun q => absurd ht q)
  refine lv_iload hx hb dL_law_348 (lv_at hl 1 rfl) ?_
  have hl5 : lv_has ls 9 [(0, .ref b), (1, .ref ad), (2, .ref am), (3, .ref ao), (4, .int (nI i))] := lv_sub hl [2, 3, 4, 5, 6] rfl
  refine lv_if_ne (tgt := 365) hx hb dL_law_350 (by decide) (fun _ => ?_) (fun q => ?_)
  · exact lv_goto (tgt := 1376) hx hb dL_law_365 (by decide) (kk _ _ _ _ hJ hP hD hS hl5)
  · obtain ⟨q0, g, e0, e1⟩ := hz q
    refine lv_aload_n hx hb dL_law_353 rfl (lv_at hl 5 rfl) ?_
    refine lv_iconst (v := 0) hx hb dL_law_354 (by decide) ?_
    refine va_lald hx hb hK hP q0 2 e0 rfl (vp_lit (by decide +kernel)) dL_law_355 ?_
    refine lv_iload hx hb dL_law_356 (lv_at hl 0 rfl) ?_
    refine lv_i2l (v := bv.toInt64) hx hb dL_law_358 rfl ?_
    rw [show g (0 : Int32).toNatClampNeg = bv.toInt64 from e1]
    refine lw_lcmp hx hb dL_law_359 ?_
    refine lv_if_eq (tgt := 365) hx hb dL_law_360 (by decide) (fun _ => ?_) (fun q => absurd rfl q)
    exact lv_goto (tgt := 1376) hx hb dL_law_365 (by decide) (kk _ _ _ _ hJ hP hD hS hl5)
set_option maxHeartbeats 4000000 in
set_option maxRecDepth 100000 in
theorem cs_go {p : Program} {l : Launch} {e : Env} {s : State} {m : MethodId} {below : List Frame} {meth : Method} {c : Code} {H : Heap} {locs : List Loc} {cells slots : Nat} {Q : State → Prop} {ls : Array Slot} {G : va_G} {A : Nat → Prop} {sa sv : Nat → Nat} {cI cS cJ : ClassId} {b L : Nat} {xs : Nat → Int32} {ad am ao i : Nat} {ws : va_W} {J : va_W → Prop} (C : LC p s m c A sa sv G cI cS cJ b L xs) (hi : i + 4 ≤ L) (hl : lv_has ls 9 [(0, .ref b), (1, .ref ad), (2, .ref am), (3, .ref ao), (4, .int (nI i))]) (hP : va_P G vwCl ws H) (hD : va_D A ws) (hS : va_S A s.heap H locs) (hroom : cells + 16 ≤ 601024 ∧ slots + 480 ≤ 7293034) (h : LwS l sa sv G (tyw cI cS cJ) yL_go wsL_go [.ref ad, .ref ao] ws (fun k ws1 => LwV l G [(cI, .int)] yX9_go wsX9_go ({ frames := 5, cells := 0, slots := 0, locals := 121 } : Room) am [] ws1 (fun bv ws2 => LwV l G [(cI, .int)] yX9_thrown wsX9_thrown ({ frames := 0, cells := 0, slots := 0, locals := 0 } : Room) am [] ws2 (fun t ws3 => t = k ∧ (k = 0 → ∃ (q0 : Nat) (g : Nat → Int64), ws3[q0]? = some (ouW cJ ao g) ∧ g 0 = bv.toInt64) ∧ J ws3)))) (kk : ∀ (ws3 : va_W) (H : Heap) (locs : List Loc) (ls : Array Slot), J ws3 → va_P G vwCl ws3 H → va_D A ws3 → va_S A s.heap H locs → lv_has ls 9 [(0, .ref b), (1, .ref ad), (2, .ref am), (3, .ref ao), (4, .int (nI i))] → W p l e room_1 s m #[.ref b] below meth c H locs (cells + 16) (slots + 480) Q (F0 m 1376 ls [])) : W p l e room_1 s m #[.ref b] below meth c H locs cells slots Q (F0 m 368 ls []) := by
  have C0 := C
  obtain ⟨hx, hb, hml, hown, hts, hX, hbl, hbA, hK, hE, hA, hL⟩ := C
  refine lv_aload_n hx hb dL_law_368 rfl (lv_at hl 1 rfl) ?_
  refine lv_aload_n hx hb dL_law_369 rfl (lv_at hl 3 rfl) ?_
  refine h.call 2 hE ⟨hx, hb, hml, hown, hts⟩ gL_law_L_go rfl (by decide) (by decide +kernel) hP hD hS hA hK rfl hl.1 rfl (lv_room (Nat.le_of_ble_eq_true rfl)) dL_law_370 hroom (fun k ws1 H locs h1 hP hD hS => ?_)
  refine lv_istore hx hb dL_law_373 hl (by decide) rfl (fun ls hl => ?_)
  have hl : lv_has ls 9 [(5, .int k), (0, .ref b), (1, .ref ad), (2, .ref am), (3, .ref ao), (4, .int (nI i))] := hl
  refine lv_aload_n hx hb dL_law_375 rfl (lv_at hl 3 rfl) ?_
  refine h1.call ⟨hx, hb, hml, hown, hts⟩ (cwV 0 hts gL_law_X9_go rfl rfl rfl (by decide +kernel) ⟨Nat.le_of_ble_eq_true rfl, Nat.le_of_ble_eq_true rfl⟩) rfl hP hD hS hA (hK.sub [0] rfl) rfl hl.1 rfl (lv_room (Nat.le_of_ble_eq_true rfl)) dL_law_376 hroom (fun bv ws2 H locs h2 hP hD hS => ?_)
  refine lv_istore hx hb dL_law_379 hl (by decide) rfl (fun ls hl => ?_)
  have hl : lv_has ls 9 [(6, .int bv), (5, .int k), (0, .ref b), (1, .ref ad), (2, .ref am), (3, .ref ao), (4, .int (nI i))] := hl
  refine lv_aload_n hx hb dL_law_381 rfl (lv_at hl 4 rfl) ?_
  refine h2.call ⟨hx, hb, hml, hown, hts⟩ (cwV 0 hts gL_law_X9_thrown rfl rfl rfl (by decide +kernel) ⟨Nat.le_of_ble_eq_true rfl, Nat.le_of_ble_eq_true rfl⟩) rfl hP hD hS hA (hK.sub [0] rfl) rfl hl.1 rfl (lv_room (Nat.le_of_ble_eq_true rfl)) dL_law_382 hroom (fun t ws3 H locs h3 hP hD hS => ?_)
  obtain ⟨ht, hz, hJ⟩ := h3
  refine lv_iload hx hb dL_law_385 (lv_at hl 1 rfl) ?_
  refine lv_icmp_eq (tgt := 392) hx hb dL_law_387 (by decide) (fun _ => ?_) (fun q => absurd ht q)
  refine lv_iload hx hb dL_law_392 (lv_at hl 1 rfl) ?_
  have hl5 : lv_has ls 9 [(0, .ref b), (1, .ref ad), (2, .ref am), (3, .ref ao), (4, .int (nI i))] := lv_sub hl [2, 3, 4, 5, 6] rfl
  refine lv_if_ne (tgt := 409) hx hb dL_law_394 (by decide) (fun _ => ?_) (fun q => ?_)
  · exact lv_goto (tgt := 1376) hx hb dL_law_409 (by decide) (kk _ _ _ _ hJ hP hD hS hl5)
  · obtain ⟨q0, g, e0, e1⟩ := hz q
    refine lv_aload_n hx hb dL_law_397 rfl (lv_at hl 5 rfl) ?_
    refine lv_iconst (v := 0) hx hb dL_law_398 (by decide) ?_
    refine va_lald hx hb hK hP q0 2 e0 rfl (vp_lit (by decide +kernel)) dL_law_399 ?_
    refine lv_iload hx hb dL_law_400 (lv_at hl 0 rfl) ?_
    refine lv_i2l (v := bv.toInt64) hx hb dL_law_402 rfl ?_
    rw [show g (0 : Int32).toNatClampNeg = bv.toInt64 from e1]
    refine lw_lcmp hx hb dL_law_403 ?_
    refine lv_if_eq (tgt := 409) hx hb dL_law_404 (by decide) (fun _ => ?_) (fun q => absurd rfl q)
    exact lv_goto (tgt := 1376) hx hb dL_law_409 (by decide) (kk _ _ _ _ hJ hP hD hS hl5)
set_option maxHeartbeats 4000000 in
set_option maxRecDepth 100000 in
theorem cs_append {p : Program} {l : Launch} {e : Env} {s : State} {m : MethodId} {below : List Frame} {meth : Method} {c : Code} {H : Heap} {locs : List Loc} {cells slots : Nat} {Q : State → Prop} {ls : Array Slot} {G : va_G} {A : Nat → Prop} {sa sv : Nat → Nat} {cI cS cJ : ClassId} {b L : Nat} {xs : Nat → Int32} {ad am ao i : Nat} {ws : va_W} {J : va_W → Prop} (C : LC p s m c A sa sv G cI cS cJ b L xs) (hi : i + 4 ≤ L) (hl : lv_has ls 9 [(0, .ref b), (1, .ref ad), (2, .ref am), (3, .ref ao), (4, .int (nI i))]) (hP : va_P G vwCl ws H) (hD : va_D A ws) (hS : va_S A s.heap H locs) (hroom : cells + 16 ≤ 601024 ∧ slots + 480 ≤ 7293034) (h : LwS l sa sv G (tyw cI cS cJ) yL_append wsL_append [.ref ad, .int (xs (i + 1)), .ref ao] ws (fun k ws1 => LwV l G [(cI, .int)] yX9_append wsX9_append ({ frames := 1, cells := 0, slots := 0, locals := 22 } : Room) am [.int (xs (i + 1))] ws1 (fun bv ws2 => LwV l G [(cI, .int)] yX9_thrown wsX9_thrown ({ frames := 0, cells := 0, slots := 0, locals := 0 } : Room) am [] ws2 (fun t ws3 => t = k ∧ (k = 0 → ∃ (q0 : Nat) (g : Nat → Int64), ws3[q0]? = some (ouW cJ ao g) ∧ g 0 = bv.toInt64) ∧ J ws3)))) (kk : ∀ (ws3 : va_W) (H : Heap) (locs : List Loc) (ls : Array Slot), J ws3 → va_P G vwCl ws3 H → va_D A ws3 → va_S A s.heap H locs → lv_has ls 9 [(0, .ref b), (1, .ref ad), (2, .ref am), (3, .ref ao), (4, .int (nI i))] → W p l e room_1 s m #[.ref b] below meth c H locs (cells + 16) (slots + 480) Q (F0 m 1376 ls [])) : W p l e room_1 s m #[.ref b] below meth c H locs cells slots Q (F0 m 412 ls []) := by
  have C0 := C
  obtain ⟨hx, hb, hml, hown, hts, hX, hbl, hbA, hK, hE, hA, hL⟩ := C
  refine lv_aload_n hx hb dL_law_412 rfl (lv_at hl 1 rfl) ?_
  refine lw_ld C0 (lv_at hl 0 rfl) (lv_at hl 4 rfl) hS 1 (by decide) (by omega) dL_law_413 dL_law_414 dL_law_416 dL_law_417 dL_law_418 ?_
  refine lv_aload_n hx hb dL_law_419 rfl (lv_at hl 3 rfl) ?_
  refine h.call 3 hE ⟨hx, hb, hml, hown, hts⟩ gL_law_L_append rfl (by decide) (by decide +kernel) hP hD hS hA hK rfl hl.1 rfl (lv_room (Nat.le_of_ble_eq_true rfl)) dL_law_420 hroom (fun k ws1 H locs h1 hP hD hS => ?_)
  refine lv_istore hx hb dL_law_423 hl (by decide) rfl (fun ls hl => ?_)
  have hl : lv_has ls 9 [(5, .int k), (0, .ref b), (1, .ref ad), (2, .ref am), (3, .ref ao), (4, .int (nI i))] := hl
  refine lv_aload_n hx hb dL_law_425 rfl (lv_at hl 3 rfl) ?_
  refine lw_ld C0 (lv_at hl 1 rfl) (lv_at hl 5 rfl) hS 1 (by decide) (by omega) dL_law_426 dL_law_427 dL_law_429 dL_law_430 dL_law_431 ?_
  refine h1.call ⟨hx, hb, hml, hown, hts⟩ (cwV 1 hts gL_law_X9_append rfl rfl rfl (by decide +kernel) ⟨Nat.le_of_ble_eq_true rfl, Nat.le_of_ble_eq_true rfl⟩) rfl hP hD hS hA (hK.sub [0] rfl) rfl hl.1 rfl (lv_room (Nat.le_of_ble_eq_true rfl)) dL_law_432 hroom (fun bv ws2 H locs h2 hP hD hS => ?_)
  refine lv_istore hx hb dL_law_435 hl (by decide) rfl (fun ls hl => ?_)
  have hl : lv_has ls 9 [(6, .int bv), (5, .int k), (0, .ref b), (1, .ref ad), (2, .ref am), (3, .ref ao), (4, .int (nI i))] := hl
  refine lv_aload_n hx hb dL_law_437 rfl (lv_at hl 4 rfl) ?_
  refine h2.call ⟨hx, hb, hml, hown, hts⟩ (cwV 0 hts gL_law_X9_thrown rfl rfl rfl (by decide +kernel) ⟨Nat.le_of_ble_eq_true rfl, Nat.le_of_ble_eq_true rfl⟩) rfl hP hD hS hA (hK.sub [0] rfl) rfl hl.1 rfl (lv_room (Nat.le_of_ble_eq_true rfl)) dL_law_438 hroom (fun t ws3 H locs h3 hP hD hS => ?_)
  obtain ⟨ht, hz, hJ⟩ := h3
  refine lv_iload hx hb dL_law_441 (lv_at hl 1 rfl) ?_
  refine lv_icmp_eq (tgt := 448) hx hb dL_law_443 (by decide) (fun _ => ?_) (fun q => absurd ht q)
  refine lv_iload hx hb dL_law_448 (lv_at hl 1 rfl) ?_
  have hl5 : lv_has ls 9 [(0, .ref b), (1, .ref ad), (2, .ref am), (3, .ref ao), (4, .int (nI i))] := lv_sub hl [2, 3, 4, 5, 6] rfl
  refine lv_if_ne (tgt := 465) hx hb dL_law_450 (by decide) (fun _ => ?_) (fun q => ?_)
  · exact lv_goto (tgt := 1376) hx hb dL_law_465 (by decide) (kk _ _ _ _ hJ hP hD hS hl5)
  · obtain ⟨q0, g, e0, e1⟩ := hz q
    refine lv_aload_n hx hb dL_law_453 rfl (lv_at hl 5 rfl) ?_
    refine lv_iconst (v := 0) hx hb dL_law_454 (by decide) ?_
    refine va_lald hx hb hK hP q0 2 e0 rfl (vp_lit (by decide +kernel)) dL_law_455 ?_
    refine lv_iload hx hb dL_law_456 (lv_at hl 0 rfl) ?_
    refine lv_i2l (v := bv.toInt64) hx hb dL_law_458 rfl ?_
    rw [show g (0 : Int32).toNatClampNeg = bv.toInt64 from e1]
    refine lw_lcmp hx hb dL_law_459 ?_
    refine lv_if_eq (tgt := 465) hx hb dL_law_460 (by decide) (fun _ => ?_) (fun q => absurd rfl q)
    exact lv_goto (tgt := 1376) hx hb dL_law_465 (by decide) (kk _ _ _ _ hJ hP hD hS hl5)
set_option maxHeartbeats 4000000 in
set_option maxRecDepth 100000 in
theorem cs_clearBuffer {p : Program} {l : Launch} {e : Env} {s : State} {m : MethodId} {below : List Frame} {meth : Method} {c : Code} {H : Heap} {locs : List Loc} {cells slots : Nat} {Q : State → Prop} {ls : Array Slot} {G : va_G} {A : Nat → Prop} {sa sv : Nat → Nat} {cI cS cJ : ClassId} {b L : Nat} {xs : Nat → Int32} {ad am ao i : Nat} {ws : va_W} {J : va_W → Prop} (C : LC p s m c A sa sv G cI cS cJ b L xs) (hi : i + 4 ≤ L) (hl : lv_has ls 9 [(0, .ref b), (1, .ref ad), (2, .ref am), (3, .ref ao), (4, .int (nI i))]) (hP : va_P G vwCl ws H) (hD : va_D A ws) (hS : va_S A s.heap H locs) (hroom : cells + 16 ≤ 601024 ∧ slots + 480 ≤ 7293034) (h : LwX l sa sv G [(cI, .int)] yX8_clearBuffer wsX8_clearBuffer ({ frames := 0, cells := 0, slots := 0, locals := 0 } : Room) ad [] ws (fun a ws1 => LwV l G [(cI, .int)] yX9_clearBuffer wsX9_clearBuffer ({ frames := 0, cells := 0, slots := 0, locals := 0 } : Room) am [] ws1 (fun bv ws2 => a = bv ∧ J ws2))) (kk : ∀ (ws3 : va_W) (H : Heap) (locs : List Loc) (ls : Array Slot), J ws3 → va_P G vwCl ws3 H → va_D A ws3 → va_S A s.heap H locs → lv_has ls 9 [(0, .ref b), (1, .ref ad), (2, .ref am), (3, .ref ao), (4, .int (nI i))] → W p l e room_1 s m #[.ref b] below meth c H locs (cells + 16) (slots + 480) Q (F0 m 1376 ls [])) : W p l e room_1 s m #[.ref b] below meth c H locs cells slots Q (F0 m 468 ls []) := by
  have C0 := C
  obtain ⟨hx, hb, hml, hown, hts, hX, hbl, hbA, hK, hE, hA, hL⟩ := C
  refine lv_aload_n hx hb dL_law_468 rfl (lv_at hl 1 rfl) ?_
  refine h.call hE ⟨hx, hb, hml, hown, hts⟩ (cwV 0 hts gL_law_X8_clearBuffer rfl rfl rfl (by decide +kernel) ⟨Nat.le_of_ble_eq_true rfl, Nat.le_of_ble_eq_true rfl⟩) rfl (Nat.le_of_ble_eq_true rfl) (Nat.le_of_ble_eq_true rfl) hP hD hS hA (hK.sub [0] rfl) rfl hl.1 rfl (lv_room (Nat.le_of_ble_eq_true rfl)) dL_law_469 hroom (fun a ws1 H locs h1 hP hD hS => ?_)
  refine lv_aload_n hx hb dL_law_472 rfl (lv_at hl 2 rfl) ?_
  refine h1.call ⟨hx, hb, hml, hown, hts⟩ (cwV 0 hts gL_law_X9_clearBuffer rfl rfl rfl (by decide +kernel) ⟨Nat.le_of_ble_eq_true rfl, Nat.le_of_ble_eq_true rfl⟩) rfl hP hD hS hA (hK.sub [0] rfl) rfl hl.1 rfl (lv_room (Nat.le_of_ble_eq_true rfl)) dL_law_473 hroom (fun bv ws2 H locs h2 hP hD hS => ?_)
  exact lv_icmp_eq (tgt := 1376) hx hb dL_law_476 (by decide) (fun _ => kk _ _ _ _ h2.2 hP hD hS hl) (fun q => absurd h2.1 q)
set_option maxHeartbeats 4000000 in
set_option maxRecDepth 100000 in
theorem cs_firstError {p : Program} {l : Launch} {e : Env} {s : State} {m : MethodId} {below : List Frame} {meth : Method} {c : Code} {H : Heap} {locs : List Loc} {cells slots : Nat} {Q : State → Prop} {ls : Array Slot} {G : va_G} {A : Nat → Prop} {sa sv : Nat → Nat} {cI cS cJ : ClassId} {b L : Nat} {xs : Nat → Int32} {ad am ao i : Nat} {ws : va_W} {J : va_W → Prop} (C : LC p s m c A sa sv G cI cS cJ b L xs) (hi : i + 4 ≤ L) (hl : lv_has ls 9 [(0, .ref b), (1, .ref ad), (2, .ref am), (3, .ref ao), (4, .int (nI i))]) (hP : va_P G vwCl ws H) (hD : va_D A ws) (hS : va_S A s.heap H locs) (hroom : cells + 16 ≤ 601024 ∧ slots + 480 ≤ 7293034) (h : LwX l sa sv G [(cI, .int)] yX8_firstError wsX8_firstError ({ frames := 7, cells := 0, slots := 0, locals := 148 } : Room) ad [] ws (fun a ws1 => LwV l G [(cI, .int)] yX9_firstError wsX9_firstError ({ frames := 6, cells := 0, slots := 0, locals := 129 } : Room) am [] ws1 (fun bv ws2 => a = bv ∧ J ws2))) (kk : ∀ (ws3 : va_W) (H : Heap) (locs : List Loc) (ls : Array Slot), J ws3 → va_P G vwCl ws3 H → va_D A ws3 → va_S A s.heap H locs → lv_has ls 9 [(0, .ref b), (1, .ref ad), (2, .ref am), (3, .ref ao), (4, .int (nI i))] → W p l e room_1 s m #[.ref b] below meth c H locs (cells + 16) (slots + 480) Q (F0 m 1376 ls [])) : W p l e room_1 s m #[.ref b] below meth c H locs cells slots Q (F0 m 481 ls []) := by
  have C0 := C
  obtain ⟨hx, hb, hml, hown, hts, hX, hbl, hbA, hK, hE, hA, hL⟩ := C
  refine lv_aload_n hx hb dL_law_481 rfl (lv_at hl 1 rfl) ?_
  refine h.call hE ⟨hx, hb, hml, hown, hts⟩ (cwV 0 hts gL_law_X8_firstError rfl rfl rfl (by decide +kernel) ⟨Nat.le_of_ble_eq_true rfl, Nat.le_of_ble_eq_true rfl⟩) rfl (Nat.le_of_ble_eq_true rfl) (Nat.le_of_ble_eq_true rfl) hP hD hS hA (hK.sub [0] rfl) rfl hl.1 rfl (lv_room (Nat.le_of_ble_eq_true rfl)) dL_law_482 hroom (fun a ws1 H locs h1 hP hD hS => ?_)
  refine lv_aload_n hx hb dL_law_485 rfl (lv_at hl 2 rfl) ?_
  refine h1.call ⟨hx, hb, hml, hown, hts⟩ (cwV 0 hts gL_law_X9_firstError rfl rfl rfl (by decide +kernel) ⟨Nat.le_of_ble_eq_true rfl, Nat.le_of_ble_eq_true rfl⟩) rfl hP hD hS hA (hK.sub [0] rfl) rfl hl.1 rfl (lv_room (Nat.le_of_ble_eq_true rfl)) dL_law_486 hroom (fun bv ws2 H locs h2 hP hD hS => ?_)
  exact lv_icmp_eq (tgt := 1376) hx hb dL_law_489 (by decide) (fun _ => kk _ _ _ _ h2.2 hP hD hS hl) (fun q => absurd h2.1 q)
set_option maxHeartbeats 4000000 in
set_option maxRecDepth 100000 in
theorem cs_obey {p : Program} {l : Launch} {e : Env} {s : State} {m : MethodId} {below : List Frame} {meth : Method} {c : Code} {H : Heap} {locs : List Loc} {cells slots : Nat} {Q : State → Prop} {ls : Array Slot} {G : va_G} {A : Nat → Prop} {sa sv : Nat → Nat} {cI cS cJ : ClassId} {b L : Nat} {xs : Nat → Int32} {ad am ao i : Nat} {ws : va_W} {J : va_W → Prop} (C : LC p s m c A sa sv G cI cS cJ b L xs) (hi : i + 4 ≤ L) (hl : lv_has ls 9 [(0, .ref b), (1, .ref ad), (2, .ref am), (3, .ref ao), (4, .int (nI i))]) (hP : va_P G vwCl ws H) (hD : va_D A ws) (hS : va_S A s.heap H locs) (hroom : cells + 16 ≤ 601024 ∧ slots + 480 ≤ 7293034) (h : LwS l sa sv G (tyw cI cS cJ) yL_obey wsL_obey [.ref ad, .ref ao] ws (fun k ws1 => LwV l G [(cI, .int)] yX9_obey wsX9_obey ({ frames := 6, cells := 0, slots := 0, locals := 143 } : Room) am [] ws1 (fun bv ws2 => LwV l G [(cI, .int)] yX9_thrown wsX9_thrown ({ frames := 0, cells := 0, slots := 0, locals := 0 } : Room) am [] ws2 (fun t ws3 => t = k ∧ (k = 0 → ∃ (q0 : Nat) (g : Nat → Int64), ws3[q0]? = some (ouW cJ ao g) ∧ g 0 = bv.toInt64) ∧ J ws3)))) (kk : ∀ (ws3 : va_W) (H : Heap) (locs : List Loc) (ls : Array Slot), J ws3 → va_P G vwCl ws3 H → va_D A ws3 → va_S A s.heap H locs → lv_has ls 9 [(0, .ref b), (1, .ref ad), (2, .ref am), (3, .ref ao), (4, .int (nI i))] → W p l e room_1 s m #[.ref b] below meth c H locs (cells + 16) (slots + 480) Q (F0 m 1376 ls [])) : W p l e room_1 s m #[.ref b] below meth c H locs cells slots Q (F0 m 494 ls []) := by
  have C0 := C
  obtain ⟨hx, hb, hml, hown, hts, hX, hbl, hbA, hK, hE, hA, hL⟩ := C
  refine lv_aload_n hx hb dL_law_494 rfl (lv_at hl 1 rfl) ?_
  refine lv_aload_n hx hb dL_law_495 rfl (lv_at hl 3 rfl) ?_
  refine h.call 2 hE ⟨hx, hb, hml, hown, hts⟩ gL_law_L_obey rfl (by decide) (by decide +kernel) hP hD hS hA hK rfl hl.1 rfl (lv_room (Nat.le_of_ble_eq_true rfl)) dL_law_496 hroom (fun k ws1 H locs h1 hP hD hS => ?_)
  refine lv_istore hx hb dL_law_499 hl (by decide) rfl (fun ls hl => ?_)
  have hl : lv_has ls 9 [(5, .int k), (0, .ref b), (1, .ref ad), (2, .ref am), (3, .ref ao), (4, .int (nI i))] := hl
  refine lv_aload_n hx hb dL_law_501 rfl (lv_at hl 3 rfl) ?_
  refine h1.call ⟨hx, hb, hml, hown, hts⟩ (cwV 0 hts gL_law_X9_obey rfl rfl rfl (by decide +kernel) ⟨Nat.le_of_ble_eq_true rfl, Nat.le_of_ble_eq_true rfl⟩) rfl hP hD hS hA (hK.sub [0] rfl) rfl hl.1 rfl (lv_room (Nat.le_of_ble_eq_true rfl)) dL_law_502 hroom (fun bv ws2 H locs h2 hP hD hS => ?_)
  refine lv_istore hx hb dL_law_505 hl (by decide) rfl (fun ls hl => ?_)
  have hl : lv_has ls 9 [(6, .int bv), (5, .int k), (0, .ref b), (1, .ref ad), (2, .ref am), (3, .ref ao), (4, .int (nI i))] := hl
  refine lv_aload_n hx hb dL_law_507 rfl (lv_at hl 4 rfl) ?_
  refine h2.call ⟨hx, hb, hml, hown, hts⟩ (cwV 0 hts gL_law_X9_thrown rfl rfl rfl (by decide +kernel) ⟨Nat.le_of_ble_eq_true rfl, Nat.le_of_ble_eq_true rfl⟩) rfl hP hD hS hA (hK.sub [0] rfl) rfl hl.1 rfl (lv_room (Nat.le_of_ble_eq_true rfl)) dL_law_508 hroom (fun t ws3 H locs h3 hP hD hS => ?_)
  obtain ⟨ht, hz, hJ⟩ := h3
  refine lv_iload hx hb dL_law_511 (lv_at hl 1 rfl) ?_
  refine lv_icmp_eq (tgt := 518) hx hb dL_law_513 (by decide) (fun _ => ?_) (fun q => absurd ht q)
  refine lv_iload hx hb dL_law_518 (lv_at hl 1 rfl) ?_
  have hl5 : lv_has ls 9 [(0, .ref b), (1, .ref ad), (2, .ref am), (3, .ref ao), (4, .int (nI i))] := lv_sub hl [2, 3, 4, 5, 6] rfl
  refine lv_if_ne (tgt := 535) hx hb dL_law_520 (by decide) (fun _ => ?_) (fun q => ?_)
  · exact lv_goto (tgt := 1376) hx hb dL_law_535 (by decide) (kk _ _ _ _ hJ hP hD hS hl5)
  · obtain ⟨q0, g, e0, e1⟩ := hz q
    refine lv_aload_n hx hb dL_law_523 rfl (lv_at hl 5 rfl) ?_
    refine lv_iconst (v := 0) hx hb dL_law_524 (by decide) ?_
    refine va_lald hx hb hK hP q0 2 e0 rfl (vp_lit (by decide +kernel)) dL_law_525 ?_
    refine lv_iload hx hb dL_law_526 (lv_at hl 0 rfl) ?_
    refine lv_i2l (v := bv.toInt64) hx hb dL_law_528 rfl ?_
    rw [show g (0 : Int32).toNatClampNeg = bv.toInt64 from e1]
    refine lw_lcmp hx hb dL_law_529 ?_
    refine lv_if_eq (tgt := 535) hx hb dL_law_530 (by decide) (fun _ => ?_) (fun q => absurd rfl q)
    exact lv_goto (tgt := 1376) hx hb dL_law_535 (by decide) (kk _ _ _ _ hJ hP hD hS hl5)
set_option maxHeartbeats 4000000 in
set_option maxRecDepth 100000 in
theorem cs_stopped {p : Program} {l : Launch} {e : Env} {s : State} {m : MethodId} {below : List Frame} {meth : Method} {c : Code} {H : Heap} {locs : List Loc} {cells slots : Nat} {Q : State → Prop} {ls : Array Slot} {G : va_G} {A : Nat → Prop} {sa sv : Nat → Nat} {cI cS cJ : ClassId} {b L : Nat} {xs : Nat → Int32} {ad am ao i : Nat} {ws : va_W} {J : va_W → Prop} (C : LC p s m c A sa sv G cI cS cJ b L xs) (hi : i + 4 ≤ L) (hl : lv_has ls 9 [(0, .ref b), (1, .ref ad), (2, .ref am), (3, .ref ao), (4, .int (nI i))]) (hP : va_P G vwCl ws H) (hD : va_D A ws) (hS : va_S A s.heap H locs) (hroom : cells + 16 ≤ 601024 ∧ slots + 480 ≤ 7293034) (h : LwS l sa sv G (tyw cI cS cJ) yL_stopped wsL_stopped [.ref ad, .int (xs (i + 1)), .ref ao] ws (fun k ws1 => LwV l G [(cI, .int)] yX9_stopped wsX9_stopped ({ frames := 1, cells := 0, slots := 0, locals := 22 } : Room) am [.int (xs (i + 1))] ws1 (fun bv ws2 => LwV l G [(cI, .int)] yX9_thrown wsX9_thrown ({ frames := 0, cells := 0, slots := 0, locals := 0 } : Room) am [] ws2 (fun t ws3 => t = k ∧ (k = 0 → ∃ (q0 : Nat) (g : Nat → Int64), ws3[q0]? = some (ouW cJ ao g) ∧ g 0 = bv.toInt64) ∧ J ws3)))) (kk : ∀ (ws3 : va_W) (H : Heap) (locs : List Loc) (ls : Array Slot), J ws3 → va_P G vwCl ws3 H → va_D A ws3 → va_S A s.heap H locs → lv_has ls 9 [(0, .ref b), (1, .ref ad), (2, .ref am), (3, .ref ao), (4, .int (nI i))] → W p l e room_1 s m #[.ref b] below meth c H locs (cells + 16) (slots + 480) Q (F0 m 1376 ls [])) : W p l e room_1 s m #[.ref b] below meth c H locs cells slots Q (F0 m 538 ls []) := by
  have C0 := C
  obtain ⟨hx, hb, hml, hown, hts, hX, hbl, hbA, hK, hE, hA, hL⟩ := C
  refine lv_aload_n hx hb dL_law_538 rfl (lv_at hl 1 rfl) ?_
  refine lw_ld C0 (lv_at hl 0 rfl) (lv_at hl 4 rfl) hS 1 (by decide) (by omega) dL_law_539 dL_law_540 dL_law_542 dL_law_543 dL_law_544 ?_
  refine lv_aload_n hx hb dL_law_545 rfl (lv_at hl 3 rfl) ?_
  refine h.call 3 hE ⟨hx, hb, hml, hown, hts⟩ gL_law_L_stopped rfl (by decide) (by decide +kernel) hP hD hS hA hK rfl hl.1 rfl (lv_room (Nat.le_of_ble_eq_true rfl)) dL_law_546 hroom (fun k ws1 H locs h1 hP hD hS => ?_)
  refine lv_istore hx hb dL_law_549 hl (by decide) rfl (fun ls hl => ?_)
  have hl : lv_has ls 9 [(5, .int k), (0, .ref b), (1, .ref ad), (2, .ref am), (3, .ref ao), (4, .int (nI i))] := hl
  refine lv_aload_n hx hb dL_law_551 rfl (lv_at hl 3 rfl) ?_
  refine lw_ld C0 (lv_at hl 1 rfl) (lv_at hl 5 rfl) hS 1 (by decide) (by omega) dL_law_552 dL_law_553 dL_law_555 dL_law_556 dL_law_557 ?_
  refine h1.call ⟨hx, hb, hml, hown, hts⟩ (cwV 1 hts gL_law_X9_stopped rfl rfl rfl (by decide +kernel) ⟨Nat.le_of_ble_eq_true rfl, Nat.le_of_ble_eq_true rfl⟩) rfl hP hD hS hA (hK.sub [0] rfl) rfl hl.1 rfl (lv_room (Nat.le_of_ble_eq_true rfl)) dL_law_558 hroom (fun bv ws2 H locs h2 hP hD hS => ?_)
  refine lv_istore hx hb dL_law_561 hl (by decide) rfl (fun ls hl => ?_)
  have hl : lv_has ls 9 [(6, .int bv), (5, .int k), (0, .ref b), (1, .ref ad), (2, .ref am), (3, .ref ao), (4, .int (nI i))] := hl
  refine lv_aload_n hx hb dL_law_563 rfl (lv_at hl 4 rfl) ?_
  refine h2.call ⟨hx, hb, hml, hown, hts⟩ (cwV 0 hts gL_law_X9_thrown rfl rfl rfl (by decide +kernel) ⟨Nat.le_of_ble_eq_true rfl, Nat.le_of_ble_eq_true rfl⟩) rfl hP hD hS hA (hK.sub [0] rfl) rfl hl.1 rfl (lv_room (Nat.le_of_ble_eq_true rfl)) dL_law_564 hroom (fun t ws3 H locs h3 hP hD hS => ?_)
  obtain ⟨ht, hz, hJ⟩ := h3
  refine lv_iload hx hb dL_law_567 (lv_at hl 1 rfl) ?_
  refine lv_icmp_eq (tgt := 574) hx hb dL_law_569 (by decide) (fun _ => ?_) (fun q => absurd ht q)
  refine lv_iload hx hb dL_law_574 (lv_at hl 1 rfl) ?_
  have hl5 : lv_has ls 9 [(0, .ref b), (1, .ref ad), (2, .ref am), (3, .ref ao), (4, .int (nI i))] := lv_sub hl [2, 3, 4, 5, 6] rfl
  refine lv_if_ne (tgt := 591) hx hb dL_law_576 (by decide) (fun _ => ?_) (fun q => ?_)
  · exact lv_goto (tgt := 1376) hx hb dL_law_591 (by decide) (kk _ _ _ _ hJ hP hD hS hl5)
  · obtain ⟨q0, g, e0, e1⟩ := hz q
    refine lv_aload_n hx hb dL_law_579 rfl (lv_at hl 5 rfl) ?_
    refine lv_iconst (v := 0) hx hb dL_law_580 (by decide) ?_
    refine va_lald hx hb hK hP q0 2 e0 rfl (vp_lit (by decide +kernel)) dL_law_581 ?_
    refine lv_iload hx hb dL_law_582 (lv_at hl 0 rfl) ?_
    refine lv_i2l (v := bv.toInt64) hx hb dL_law_584 rfl ?_
    rw [show g (0 : Int32).toNatClampNeg = bv.toInt64 from e1]
    refine lw_lcmp hx hb dL_law_585 ?_
    refine lv_if_eq (tgt := 591) hx hb dL_law_586 (by decide) (fun _ => ?_) (fun q => absurd rfl q)
    exact lv_goto (tgt := 1376) hx hb dL_law_591 (by decide) (kk _ _ _ _ hJ hP hD hS hl5)
set_option maxHeartbeats 4000000 in
set_option maxRecDepth 100000 in
theorem cs_told {p : Program} {l : Launch} {e : Env} {s : State} {m : MethodId} {below : List Frame} {meth : Method} {c : Code} {H : Heap} {locs : List Loc} {cells slots : Nat} {Q : State → Prop} {ls : Array Slot} {G : va_G} {A : Nat → Prop} {sa sv : Nat → Nat} {cI cS cJ : ClassId} {b L : Nat} {xs : Nat → Int32} {ad am ao i : Nat} {ws : va_W} {J : va_W → Prop} (C : LC p s m c A sa sv G cI cS cJ b L xs) (hi : i + 4 ≤ L) (hl : lv_has ls 9 [(0, .ref b), (1, .ref ad), (2, .ref am), (3, .ref ao), (4, .int (nI i))]) (hP : va_P G vwCl ws H) (hD : va_D A ws) (hS : va_S A s.heap H locs) (hroom : cells + 16 ≤ 601024 ∧ slots + 480 ≤ 7293034) (h : LwS l sa sv G (tyw cI cS cJ) yL_told wsL_told [.ref ad, .int (xs (i + 1)), .int (xs (i + 2)), .ref ao] ws (fun k ws1 => LwV l G [(cI, .int)] yX9_told wsX9_told ({ frames := 2, cells := 0, slots := 0, locals := 48 } : Room) am [.int (xs (i + 1)), .int (xs (i + 2))] ws1 (fun bv ws2 => LwV l G [(cI, .int)] yX9_thrown wsX9_thrown ({ frames := 0, cells := 0, slots := 0, locals := 0 } : Room) am [] ws2 (fun t ws3 => t = k ∧ (k = 0 → ∃ (q0 : Nat) (g : Nat → Int64), ws3[q0]? = some (ouW cJ ao g) ∧ g 0 = bv.toInt64) ∧ J ws3)))) (kk : ∀ (ws3 : va_W) (H : Heap) (locs : List Loc) (ls : Array Slot), J ws3 → va_P G vwCl ws3 H → va_D A ws3 → va_S A s.heap H locs → lv_has ls 9 [(0, .ref b), (1, .ref ad), (2, .ref am), (3, .ref ao), (4, .int (nI i))] → W p l e room_1 s m #[.ref b] below meth c H locs (cells + 16) (slots + 480) Q (F0 m 1376 ls [])) : W p l e room_1 s m #[.ref b] below meth c H locs cells slots Q (F0 m 594 ls []) := by
  have C0 := C
  obtain ⟨hx, hb, hml, hown, hts, hX, hbl, hbA, hK, hE, hA, hL⟩ := C
  refine lv_aload_n hx hb dL_law_594 rfl (lv_at hl 1 rfl) ?_
  refine lw_ld C0 (lv_at hl 0 rfl) (lv_at hl 4 rfl) hS 1 (by decide) (by omega) dL_law_595 dL_law_596 dL_law_598 dL_law_599 dL_law_600 ?_
  refine lw_ld C0 (lv_at hl 0 rfl) (lv_at hl 4 rfl) hS 2 (by decide) (by omega) dL_law_601 dL_law_602 dL_law_604 dL_law_605 dL_law_606 ?_
  refine lv_aload_n hx hb dL_law_607 rfl (lv_at hl 3 rfl) ?_
  refine h.call 4 hE ⟨hx, hb, hml, hown, hts⟩ gL_law_L_told rfl (by decide) (by decide +kernel) hP hD hS hA hK rfl hl.1 rfl (lv_room (Nat.le_of_ble_eq_true rfl)) dL_law_608 hroom (fun k ws1 H locs h1 hP hD hS => ?_)
  refine lv_istore hx hb dL_law_611 hl (by decide) rfl (fun ls hl => ?_)
  have hl : lv_has ls 9 [(5, .int k), (0, .ref b), (1, .ref ad), (2, .ref am), (3, .ref ao), (4, .int (nI i))] := hl
  refine lv_aload_n hx hb dL_law_613 rfl (lv_at hl 3 rfl) ?_
  refine lw_ld C0 (lv_at hl 1 rfl) (lv_at hl 5 rfl) hS 1 (by decide) (by omega) dL_law_614 dL_law_615 dL_law_617 dL_law_618 dL_law_619 ?_
  refine lw_ld C0 (lv_at hl 1 rfl) (lv_at hl 5 rfl) hS 2 (by decide) (by omega) dL_law_620 dL_law_621 dL_law_623 dL_law_624 dL_law_625 ?_
  refine h1.call ⟨hx, hb, hml, hown, hts⟩ (cwV 2 hts gL_law_X9_told rfl rfl rfl (by decide +kernel) ⟨Nat.le_of_ble_eq_true rfl, Nat.le_of_ble_eq_true rfl⟩) rfl hP hD hS hA (hK.sub [0] rfl) rfl hl.1 rfl (lv_room (Nat.le_of_ble_eq_true rfl)) dL_law_626 hroom (fun bv ws2 H locs h2 hP hD hS => ?_)
  refine lv_istore hx hb dL_law_629 hl (by decide) rfl (fun ls hl => ?_)
  have hl : lv_has ls 9 [(6, .int bv), (5, .int k), (0, .ref b), (1, .ref ad), (2, .ref am), (3, .ref ao), (4, .int (nI i))] := hl
  refine lv_aload_n hx hb dL_law_631 rfl (lv_at hl 4 rfl) ?_
  refine h2.call ⟨hx, hb, hml, hown, hts⟩ (cwV 0 hts gL_law_X9_thrown rfl rfl rfl (by decide +kernel) ⟨Nat.le_of_ble_eq_true rfl, Nat.le_of_ble_eq_true rfl⟩) rfl hP hD hS hA (hK.sub [0] rfl) rfl hl.1 rfl (lv_room (Nat.le_of_ble_eq_true rfl)) dL_law_632 hroom (fun t ws3 H locs h3 hP hD hS => ?_)
  obtain ⟨ht, hz, hJ⟩ := h3
  refine lv_iload hx hb dL_law_635 (lv_at hl 1 rfl) ?_
  refine lv_icmp_eq (tgt := 642) hx hb dL_law_637 (by decide) (fun _ => ?_) (fun q => absurd ht q)
  refine lv_iload hx hb dL_law_642 (lv_at hl 1 rfl) ?_
  have hl5 : lv_has ls 9 [(0, .ref b), (1, .ref ad), (2, .ref am), (3, .ref ao), (4, .int (nI i))] := lv_sub hl [2, 3, 4, 5, 6] rfl
  refine lv_if_ne (tgt := 659) hx hb dL_law_644 (by decide) (fun _ => ?_) (fun q => ?_)
  · exact lv_goto (tgt := 1376) hx hb dL_law_659 (by decide) (kk _ _ _ _ hJ hP hD hS hl5)
  · obtain ⟨q0, g, e0, e1⟩ := hz q
    refine lv_aload_n hx hb dL_law_647 rfl (lv_at hl 5 rfl) ?_
    refine lv_iconst (v := 0) hx hb dL_law_648 (by decide) ?_
    refine va_lald hx hb hK hP q0 2 e0 rfl (vp_lit (by decide +kernel)) dL_law_649 ?_
    refine lv_iload hx hb dL_law_650 (lv_at hl 0 rfl) ?_
    refine lv_i2l (v := bv.toInt64) hx hb dL_law_652 rfl ?_
    rw [show g (0 : Int32).toNatClampNeg = bv.toInt64 from e1]
    refine lw_lcmp hx hb dL_law_653 ?_
    refine lv_if_eq (tgt := 659) hx hb dL_law_654 (by decide) (fun _ => ?_) (fun q => absurd rfl q)
    exact lv_goto (tgt := 1376) hx hb dL_law_659 (by decide) (kk _ _ _ _ hJ hP hD hS hl5)
set_option maxHeartbeats 4000000 in
set_option maxRecDepth 100000 in
theorem cs_undo {p : Program} {l : Launch} {e : Env} {s : State} {m : MethodId} {below : List Frame} {meth : Method} {c : Code} {H : Heap} {locs : List Loc} {cells slots : Nat} {Q : State → Prop} {ls : Array Slot} {G : va_G} {A : Nat → Prop} {sa sv : Nat → Nat} {cI cS cJ : ClassId} {b L : Nat} {xs : Nat → Int32} {ad am ao i : Nat} {ws : va_W} {J : va_W → Prop} (C : LC p s m c A sa sv G cI cS cJ b L xs) (hi : i + 4 ≤ L) (hl : lv_has ls 9 [(0, .ref b), (1, .ref ad), (2, .ref am), (3, .ref ao), (4, .int (nI i))]) (hP : va_P G vwCl ws H) (hD : va_D A ws) (hS : va_S A s.heap H locs) (hroom : cells + 16 ≤ 601024 ∧ slots + 480 ≤ 7293034) (h : LwS l sa sv G (tyw cI cS cJ) yL_undo wsL_undo [.ref ad, .ref ao] ws (fun k ws1 => LwV l G [(cI, .int)] yX9_undo wsX9_undo ({ frames := 1, cells := 0, slots := 0, locals := 21 } : Room) am [] ws1 (fun bv ws2 => LwV l G [(cI, .int)] yX9_thrown wsX9_thrown ({ frames := 0, cells := 0, slots := 0, locals := 0 } : Room) am [] ws2 (fun t ws3 => t = k ∧ (k = 0 → ∃ (q0 : Nat) (g : Nat → Int64), ws3[q0]? = some (ouW cJ ao g) ∧ g 0 = bv.toInt64) ∧ J ws3)))) (kk : ∀ (ws3 : va_W) (H : Heap) (locs : List Loc) (ls : Array Slot), J ws3 → va_P G vwCl ws3 H → va_D A ws3 → va_S A s.heap H locs → lv_has ls 9 [(0, .ref b), (1, .ref ad), (2, .ref am), (3, .ref ao), (4, .int (nI i))] → W p l e room_1 s m #[.ref b] below meth c H locs (cells + 16) (slots + 480) Q (F0 m 1376 ls [])) : W p l e room_1 s m #[.ref b] below meth c H locs cells slots Q (F0 m 662 ls []) := by
  have C0 := C
  obtain ⟨hx, hb, hml, hown, hts, hX, hbl, hbA, hK, hE, hA, hL⟩ := C
  refine lv_aload_n hx hb dL_law_662 rfl (lv_at hl 1 rfl) ?_
  refine lv_aload_n hx hb dL_law_663 rfl (lv_at hl 3 rfl) ?_
  refine h.call 2 hE ⟨hx, hb, hml, hown, hts⟩ gL_law_L_undo rfl (by decide) (by decide +kernel) hP hD hS hA hK rfl hl.1 rfl (lv_room (Nat.le_of_ble_eq_true rfl)) dL_law_664 hroom (fun k ws1 H locs h1 hP hD hS => ?_)
  refine lv_istore hx hb dL_law_667 hl (by decide) rfl (fun ls hl => ?_)
  have hl : lv_has ls 9 [(5, .int k), (0, .ref b), (1, .ref ad), (2, .ref am), (3, .ref ao), (4, .int (nI i))] := hl
  refine lv_aload_n hx hb dL_law_669 rfl (lv_at hl 3 rfl) ?_
  refine h1.call ⟨hx, hb, hml, hown, hts⟩ (cwV 0 hts gL_law_X9_undo rfl rfl rfl (by decide +kernel) ⟨Nat.le_of_ble_eq_true rfl, Nat.le_of_ble_eq_true rfl⟩) rfl hP hD hS hA (hK.sub [0] rfl) rfl hl.1 rfl (lv_room (Nat.le_of_ble_eq_true rfl)) dL_law_670 hroom (fun bv ws2 H locs h2 hP hD hS => ?_)
  refine lv_istore hx hb dL_law_673 hl (by decide) rfl (fun ls hl => ?_)
  have hl : lv_has ls 9 [(6, .int bv), (5, .int k), (0, .ref b), (1, .ref ad), (2, .ref am), (3, .ref ao), (4, .int (nI i))] := hl
  refine lv_aload_n hx hb dL_law_675 rfl (lv_at hl 4 rfl) ?_
  refine h2.call ⟨hx, hb, hml, hown, hts⟩ (cwV 0 hts gL_law_X9_thrown rfl rfl rfl (by decide +kernel) ⟨Nat.le_of_ble_eq_true rfl, Nat.le_of_ble_eq_true rfl⟩) rfl hP hD hS hA (hK.sub [0] rfl) rfl hl.1 rfl (lv_room (Nat.le_of_ble_eq_true rfl)) dL_law_676 hroom (fun t ws3 H locs h3 hP hD hS => ?_)
  obtain ⟨ht, hz, hJ⟩ := h3
  refine lv_iload hx hb dL_law_679 (lv_at hl 1 rfl) ?_
  refine lv_icmp_eq (tgt := 686) hx hb dL_law_681 (by decide) (fun _ => ?_) (fun q => absurd ht q)
  refine lv_iload hx hb dL_law_686 (lv_at hl 1 rfl) ?_
  have hl5 : lv_has ls 9 [(0, .ref b), (1, .ref ad), (2, .ref am), (3, .ref ao), (4, .int (nI i))] := lv_sub hl [2, 3, 4, 5, 6] rfl
  refine lv_if_ne (tgt := 703) hx hb dL_law_688 (by decide) (fun _ => ?_) (fun q => ?_)
  · exact lv_goto (tgt := 1376) hx hb dL_law_703 (by decide) (kk _ _ _ _ hJ hP hD hS hl5)
  · obtain ⟨q0, g, e0, e1⟩ := hz q
    refine lv_aload_n hx hb dL_law_691 rfl (lv_at hl 5 rfl) ?_
    refine lv_iconst (v := 0) hx hb dL_law_692 (by decide) ?_
    refine va_lald hx hb hK hP q0 2 e0 rfl (vp_lit (by decide +kernel)) dL_law_693 ?_
    refine lv_iload hx hb dL_law_694 (lv_at hl 0 rfl) ?_
    refine lv_i2l (v := bv.toInt64) hx hb dL_law_696 rfl ?_
    rw [show g (0 : Int32).toNatClampNeg = bv.toInt64 from e1]
    refine lw_lcmp hx hb dL_law_697 ?_
    refine lv_if_eq (tgt := 703) hx hb dL_law_698 (by decide) (fun _ => ?_) (fun q => absurd rfl q)
    exact lv_goto (tgt := 1376) hx hb dL_law_703 (by decide) (kk _ _ _ _ hJ hP hD hS hl5)
set_option maxHeartbeats 4000000 in
set_option maxRecDepth 100000 in
theorem cs_keep {p : Program} {l : Launch} {e : Env} {s : State} {m : MethodId} {below : List Frame} {meth : Method} {c : Code} {H : Heap} {locs : List Loc} {cells slots : Nat} {Q : State → Prop} {ls : Array Slot} {G : va_G} {A : Nat → Prop} {sa sv : Nat → Nat} {cI cS cJ : ClassId} {b L : Nat} {xs : Nat → Int32} {ad am ao i : Nat} {ws : va_W} {J : va_W → Prop} (C : LC p s m c A sa sv G cI cS cJ b L xs) (hi : i + 4 ≤ L) (hl : lv_has ls 9 [(0, .ref b), (1, .ref ad), (2, .ref am), (3, .ref ao), (4, .int (nI i))]) (hP : va_P G vwCl ws H) (hD : va_D A ws) (hS : va_S A s.heap H locs) (hroom : cells + 16 ≤ 601024 ∧ slots + 480 ≤ 7293034) (h : LwX l sa sv G [(cI, .int)] yX8_keep wsX8_keep ({ frames := 3, cells := 16, slots := 480, locals := 90 } : Room) ad [] ws (fun a ws1 => LwV l G [(cI, .int)] yX9_keep wsX9_keep ({ frames := 0, cells := 0, slots := 0, locals := 0 } : Room) am [] ws1 (fun bv ws2 => a = bv ∧ J ws2))) (kk : ∀ (ws3 : va_W) (H : Heap) (locs : List Loc) (ls : Array Slot), J ws3 → va_P G vwCl ws3 H → va_D A ws3 → va_S A s.heap H locs → lv_has ls 9 [(0, .ref b), (1, .ref ad), (2, .ref am), (3, .ref ao), (4, .int (nI i))] → W p l e room_1 s m #[.ref b] below meth c H locs (cells + 16) (slots + 480) Q (F0 m 1376 ls [])) : W p l e room_1 s m #[.ref b] below meth c H locs cells slots Q (F0 m 706 ls []) := by
  have C0 := C
  obtain ⟨hx, hb, hml, hown, hts, hX, hbl, hbA, hK, hE, hA, hL⟩ := C
  refine lv_aload_n hx hb dL_law_706 rfl (lv_at hl 1 rfl) ?_
  refine h.call hE ⟨hx, hb, hml, hown, hts⟩ (cwV 0 hts gL_law_X8_keep rfl rfl rfl (by decide +kernel) ⟨Nat.le_of_ble_eq_true rfl, Nat.le_of_ble_eq_true rfl⟩) rfl (Nat.le_of_ble_eq_true rfl) (Nat.le_of_ble_eq_true rfl) hP hD hS hA (hK.sub [0] rfl) rfl hl.1 rfl (lv_room (Nat.le_of_ble_eq_true rfl)) dL_law_707 hroom (fun a ws1 H locs h1 hP hD hS => ?_)
  refine lv_aload_n hx hb dL_law_710 rfl (lv_at hl 2 rfl) ?_
  refine h1.call ⟨hx, hb, hml, hown, hts⟩ (cwV 0 hts gL_law_X9_keep rfl rfl rfl (by decide +kernel) ⟨Nat.le_of_ble_eq_true rfl, Nat.le_of_ble_eq_true rfl⟩) rfl hP hD hS hA (hK.sub [0] rfl) rfl hl.1 rfl (lv_room (Nat.le_of_ble_eq_true rfl)) dL_law_711 hroom (fun bv ws2 H locs h2 hP hD hS => ?_)
  exact lv_icmp_eq (tgt := 1376) hx hb dL_law_714 (by decide) (fun _ => kk _ _ _ _ h2.2 hP hD hS hl) (fun q => absurd h2.1 q)
set_option maxHeartbeats 4000000 in
set_option maxRecDepth 100000 in
theorem cs_restore {p : Program} {l : Launch} {e : Env} {s : State} {m : MethodId} {below : List Frame} {meth : Method} {c : Code} {H : Heap} {locs : List Loc} {cells slots : Nat} {Q : State → Prop} {ls : Array Slot} {G : va_G} {A : Nat → Prop} {sa sv : Nat → Nat} {cI cS cJ : ClassId} {b L : Nat} {xs : Nat → Int32} {ad am ao i : Nat} {ws : va_W} {J : va_W → Prop} (C : LC p s m c A sa sv G cI cS cJ b L xs) (hi : i + 4 ≤ L) (hl : lv_has ls 9 [(0, .ref b), (1, .ref ad), (2, .ref am), (3, .ref ao), (4, .int (nI i))]) (hP : va_P G vwCl ws H) (hD : va_D A ws) (hS : va_S A s.heap H locs) (hroom : cells + 16 ≤ 601024 ∧ slots + 480 ≤ 7293034) (h : LwS l sa sv G (tyw cI cS cJ) yL_restore wsL_restore [.ref ad, .ref ao] ws (fun k ws1 => LwV l G [(cI, .int)] yX9_restore wsX9_restore ({ frames := 1, cells := 0, slots := 0, locals := 21 } : Room) am [] ws1 (fun bv ws2 => LwV l G [(cI, .int)] yX9_thrown wsX9_thrown ({ frames := 0, cells := 0, slots := 0, locals := 0 } : Room) am [] ws2 (fun t ws3 => t = k ∧ (k = 0 → ∃ (q0 : Nat) (g : Nat → Int64), ws3[q0]? = some (ouW cJ ao g) ∧ g 0 = bv.toInt64) ∧ J ws3)))) (kk : ∀ (ws3 : va_W) (H : Heap) (locs : List Loc) (ls : Array Slot), J ws3 → va_P G vwCl ws3 H → va_D A ws3 → va_S A s.heap H locs → lv_has ls 9 [(0, .ref b), (1, .ref ad), (2, .ref am), (3, .ref ao), (4, .int (nI i))] → W p l e room_1 s m #[.ref b] below meth c H locs (cells + 16) (slots + 480) Q (F0 m 1376 ls [])) : W p l e room_1 s m #[.ref b] below meth c H locs cells slots Q (F0 m 719 ls []) := by
  have C0 := C
  obtain ⟨hx, hb, hml, hown, hts, hX, hbl, hbA, hK, hE, hA, hL⟩ := C
  refine lv_aload_n hx hb dL_law_719 rfl (lv_at hl 1 rfl) ?_
  refine lv_aload_n hx hb dL_law_720 rfl (lv_at hl 3 rfl) ?_
  refine h.call 2 hE ⟨hx, hb, hml, hown, hts⟩ gL_law_L_restore rfl (by decide) (by decide +kernel) hP hD hS hA hK rfl hl.1 rfl (lv_room (Nat.le_of_ble_eq_true rfl)) dL_law_721 hroom (fun k ws1 H locs h1 hP hD hS => ?_)
  refine lv_istore hx hb dL_law_724 hl (by decide) rfl (fun ls hl => ?_)
  have hl : lv_has ls 9 [(5, .int k), (0, .ref b), (1, .ref ad), (2, .ref am), (3, .ref ao), (4, .int (nI i))] := hl
  refine lv_aload_n hx hb dL_law_726 rfl (lv_at hl 3 rfl) ?_
  refine h1.call ⟨hx, hb, hml, hown, hts⟩ (cwV 0 hts gL_law_X9_restore rfl rfl rfl (by decide +kernel) ⟨Nat.le_of_ble_eq_true rfl, Nat.le_of_ble_eq_true rfl⟩) rfl hP hD hS hA (hK.sub [0] rfl) rfl hl.1 rfl (lv_room (Nat.le_of_ble_eq_true rfl)) dL_law_727 hroom (fun bv ws2 H locs h2 hP hD hS => ?_)
  refine lv_istore hx hb dL_law_730 hl (by decide) rfl (fun ls hl => ?_)
  have hl : lv_has ls 9 [(6, .int bv), (5, .int k), (0, .ref b), (1, .ref ad), (2, .ref am), (3, .ref ao), (4, .int (nI i))] := hl
  refine lv_aload_n hx hb dL_law_732 rfl (lv_at hl 4 rfl) ?_
  refine h2.call ⟨hx, hb, hml, hown, hts⟩ (cwV 0 hts gL_law_X9_thrown rfl rfl rfl (by decide +kernel) ⟨Nat.le_of_ble_eq_true rfl, Nat.le_of_ble_eq_true rfl⟩) rfl hP hD hS hA (hK.sub [0] rfl) rfl hl.1 rfl (lv_room (Nat.le_of_ble_eq_true rfl)) dL_law_733 hroom (fun t ws3 H locs h3 hP hD hS => ?_)
  obtain ⟨ht, hz, hJ⟩ := h3
  refine lv_iload hx hb dL_law_736 (lv_at hl 1 rfl) ?_
  refine lv_icmp_eq (tgt := 743) hx hb dL_law_738 (by decide) (fun _ => ?_) (fun q => absurd ht q)
  refine lv_iload hx hb dL_law_743 (lv_at hl 1 rfl) ?_
  have hl5 : lv_has ls 9 [(0, .ref b), (1, .ref ad), (2, .ref am), (3, .ref ao), (4, .int (nI i))] := lv_sub hl [2, 3, 4, 5, 6] rfl
  refine lv_if_ne (tgt := 760) hx hb dL_law_745 (by decide) (fun _ => ?_) (fun q => ?_)
  · exact lv_goto (tgt := 1376) hx hb dL_law_760 (by decide) (kk _ _ _ _ hJ hP hD hS hl5)
  · obtain ⟨q0, g, e0, e1⟩ := hz q
    refine lv_aload_n hx hb dL_law_748 rfl (lv_at hl 5 rfl) ?_
    refine lv_iconst (v := 0) hx hb dL_law_749 (by decide) ?_
    refine va_lald hx hb hK hP q0 2 e0 rfl (vp_lit (by decide +kernel)) dL_law_750 ?_
    refine lv_iload hx hb dL_law_751 (lv_at hl 0 rfl) ?_
    refine lv_i2l (v := bv.toInt64) hx hb dL_law_753 rfl ?_
    rw [show g (0 : Int32).toNatClampNeg = bv.toInt64 from e1]
    refine lw_lcmp hx hb dL_law_754 ?_
    refine lv_if_eq (tgt := 760) hx hb dL_law_755 (by decide) (fun _ => ?_) (fun q => absurd rfl q)
    exact lv_goto (tgt := 1376) hx hb dL_law_760 (by decide) (kk _ _ _ _ hJ hP hD hS hl5)
set_option maxHeartbeats 4000000 in
set_option maxRecDepth 100000 in
theorem cs_meaning {p : Program} {l : Launch} {e : Env} {s : State} {m : MethodId} {below : List Frame} {meth : Method} {c : Code} {H : Heap} {locs : List Loc} {cells slots : Nat} {Q : State → Prop} {ls : Array Slot} {G : va_G} {A : Nat → Prop} {sa sv : Nat → Nat} {cI cS cJ : ClassId} {b L : Nat} {xs : Nat → Int32} {ad am ao i : Nat} {ws : va_W} {J : va_W → Prop} (C : LC p s m c A sa sv G cI cS cJ b L xs) (hi : i + 4 ≤ L) (hl : lv_has ls 9 [(0, .ref b), (1, .ref ad), (2, .ref am), (3, .ref ao), (4, .int (nI i))]) (hP : va_P G vwCl ws H) (hD : va_D A ws) (hS : va_S A s.heap H locs) (hroom : cells + 16 ≤ 601024 ∧ slots + 480 ≤ 7293034) (h : LwS l sa sv G (tyw cI cS cJ) yL_meaning wsL_meaning [.ref ad, .int (xs (i + 1)), .int (xs (i + 2)), .int (xs (i + 3)), .ref ao] ws (fun k ws1 => LwV l G [(cI, .int)] yX9_meaning wsX9_meaning ({ frames := 3, cells := 0, slots := 0, locals := 69 } : Room) am [.int (xs (i + 1)), .int (xs (i + 2)), .int (xs (i + 3))] ws1 (fun bv ws2 => LwV l G [(cI, .int)] yX9_thrown wsX9_thrown ({ frames := 0, cells := 0, slots := 0, locals := 0 } : Room) am [] ws2 (fun t ws3 => t = k ∧ (k = 0 → ∃ (q0 : Nat) (g : Nat → Int64), ws3[q0]? = some (ouW cJ ao g) ∧ g 0 = bv.toInt64) ∧ J ws3)))) (kk : ∀ (ws3 : va_W) (H : Heap) (locs : List Loc) (ls : Array Slot), J ws3 → va_P G vwCl ws3 H → va_D A ws3 → va_S A s.heap H locs → lv_has ls 9 [(0, .ref b), (1, .ref ad), (2, .ref am), (3, .ref ao), (4, .int (nI i))] → W p l e room_1 s m #[.ref b] below meth c H locs (cells + 16) (slots + 480) Q (F0 m 1376 ls [])) : W p l e room_1 s m #[.ref b] below meth c H locs cells slots Q (F0 m 763 ls []) := by
  have C0 := C
  obtain ⟨hx, hb, hml, hown, hts, hX, hbl, hbA, hK, hE, hA, hL⟩ := C
  refine lv_aload_n hx hb dL_law_763 rfl (lv_at hl 1 rfl) ?_
  refine lw_ld C0 (lv_at hl 0 rfl) (lv_at hl 4 rfl) hS 1 (by decide) (by omega) dL_law_764 dL_law_765 dL_law_767 dL_law_768 dL_law_769 ?_
  refine lw_ld C0 (lv_at hl 0 rfl) (lv_at hl 4 rfl) hS 2 (by decide) (by omega) dL_law_770 dL_law_771 dL_law_773 dL_law_774 dL_law_775 ?_
  refine lw_ld C0 (lv_at hl 0 rfl) (lv_at hl 4 rfl) hS 3 (by decide) (by omega) dL_law_776 dL_law_777 dL_law_779 dL_law_780 dL_law_781 ?_
  refine lv_aload_n hx hb dL_law_782 rfl (lv_at hl 3 rfl) ?_
  refine h.call 5 hE ⟨hx, hb, hml, hown, hts⟩ gL_law_L_meaning rfl (by decide) (by decide +kernel) hP hD hS hA hK rfl hl.1 rfl (lv_room (Nat.le_of_ble_eq_true rfl)) dL_law_783 hroom (fun k ws1 H locs h1 hP hD hS => ?_)
  refine lv_istore hx hb dL_law_786 hl (by decide) rfl (fun ls hl => ?_)
  have hl : lv_has ls 9 [(5, .int k), (0, .ref b), (1, .ref ad), (2, .ref am), (3, .ref ao), (4, .int (nI i))] := hl
  refine lv_aload_n hx hb dL_law_788 rfl (lv_at hl 3 rfl) ?_
  refine lw_ld C0 (lv_at hl 1 rfl) (lv_at hl 5 rfl) hS 1 (by decide) (by omega) dL_law_789 dL_law_790 dL_law_792 dL_law_793 dL_law_794 ?_
  refine lw_ld C0 (lv_at hl 1 rfl) (lv_at hl 5 rfl) hS 2 (by decide) (by omega) dL_law_795 dL_law_796 dL_law_798 dL_law_799 dL_law_800 ?_
  refine lw_ld C0 (lv_at hl 1 rfl) (lv_at hl 5 rfl) hS 3 (by decide) (by omega) dL_law_801 dL_law_802 dL_law_804 dL_law_805 dL_law_806 ?_
  refine h1.call ⟨hx, hb, hml, hown, hts⟩ (cwV 3 hts gL_law_X9_meaning rfl rfl rfl (by decide +kernel) ⟨Nat.le_of_ble_eq_true rfl, Nat.le_of_ble_eq_true rfl⟩) rfl hP hD hS hA (hK.sub [0] rfl) rfl hl.1 rfl (lv_room (Nat.le_of_ble_eq_true rfl)) dL_law_807 hroom (fun bv ws2 H locs h2 hP hD hS => ?_)
  refine lv_istore hx hb dL_law_810 hl (by decide) rfl (fun ls hl => ?_)
  have hl : lv_has ls 9 [(6, .int bv), (5, .int k), (0, .ref b), (1, .ref ad), (2, .ref am), (3, .ref ao), (4, .int (nI i))] := hl
  refine lv_aload_n hx hb dL_law_812 rfl (lv_at hl 4 rfl) ?_
  refine h2.call ⟨hx, hb, hml, hown, hts⟩ (cwV 0 hts gL_law_X9_thrown rfl rfl rfl (by decide +kernel) ⟨Nat.le_of_ble_eq_true rfl, Nat.le_of_ble_eq_true rfl⟩) rfl hP hD hS hA (hK.sub [0] rfl) rfl hl.1 rfl (lv_room (Nat.le_of_ble_eq_true rfl)) dL_law_813 hroom (fun t ws3 H locs h3 hP hD hS => ?_)
  obtain ⟨ht, hz, hJ⟩ := h3
  refine lv_iload hx hb dL_law_816 (lv_at hl 1 rfl) ?_
  refine lv_icmp_eq (tgt := 823) hx hb dL_law_818 (by decide) (fun _ => ?_) (fun q => absurd ht q)
  refine lv_iload hx hb dL_law_823 (lv_at hl 1 rfl) ?_
  have hl5 : lv_has ls 9 [(0, .ref b), (1, .ref ad), (2, .ref am), (3, .ref ao), (4, .int (nI i))] := lv_sub hl [2, 3, 4, 5, 6] rfl
  refine lv_if_ne (tgt := 840) hx hb dL_law_825 (by decide) (fun _ => ?_) (fun q => ?_)
  · exact lv_goto (tgt := 1376) hx hb dL_law_840 (by decide) (kk _ _ _ _ hJ hP hD hS hl5)
  · obtain ⟨q0, g, e0, e1⟩ := hz q
    refine lv_aload_n hx hb dL_law_828 rfl (lv_at hl 5 rfl) ?_
    refine lv_iconst (v := 0) hx hb dL_law_829 (by decide) ?_
    refine va_lald hx hb hK hP q0 2 e0 rfl (vp_lit (by decide +kernel)) dL_law_830 ?_
    refine lv_iload hx hb dL_law_831 (lv_at hl 0 rfl) ?_
    refine lv_i2l (v := bv.toInt64) hx hb dL_law_833 rfl ?_
    rw [show g (0 : Int32).toNatClampNeg = bv.toInt64 from e1]
    refine lw_lcmp hx hb dL_law_834 ?_
    refine lv_if_eq (tgt := 840) hx hb dL_law_835 (by decide) (fun _ => ?_) (fun q => absurd rfl q)
    exact lv_goto (tgt := 1376) hx hb dL_law_840 (by decide) (kk _ _ _ _ hJ hP hD hS hl5)
set_option maxHeartbeats 4000000 in
set_option maxRecDepth 100000 in
theorem cs_link {p : Program} {l : Launch} {e : Env} {s : State} {m : MethodId} {below : List Frame} {meth : Method} {c : Code} {H : Heap} {locs : List Loc} {cells slots : Nat} {Q : State → Prop} {ls : Array Slot} {G : va_G} {A : Nat → Prop} {sa sv : Nat → Nat} {cI cS cJ : ClassId} {b L : Nat} {xs : Nat → Int32} {ad am ao i : Nat} {ws : va_W} {J : va_W → Prop} (C : LC p s m c A sa sv G cI cS cJ b L xs) (hi : i + 4 ≤ L) (hl : lv_has ls 9 [(0, .ref b), (1, .ref ad), (2, .ref am), (3, .ref ao), (4, .int (nI i))]) (hP : va_P G vwCl ws H) (hD : va_D A ws) (hS : va_S A s.heap H locs) (hroom : cells + 16 ≤ 601024 ∧ slots + 480 ≤ 7293034) (h : LwS l sa sv G (tyw cI cS cJ) yL_link wsL_link [.ref ad, .int (xs (i + 1)), .int (xs (i + 2)), .ref ao] ws (fun k ws1 => LwV l G [(cI, .int)] yX9_link wsX9_link ({ frames := 4, cells := 0, slots := 0, locals := 90 } : Room) am [.int (xs (i + 1)), .int (xs (i + 2))] ws1 (fun bv ws2 => LwV l G [(cI, .int)] yX9_thrown wsX9_thrown ({ frames := 0, cells := 0, slots := 0, locals := 0 } : Room) am [] ws2 (fun t ws3 => t = k ∧ (k = 0 → ∃ (q0 : Nat) (g : Nat → Int64), ws3[q0]? = some (ouW cJ ao g) ∧ g 0 = bv.toInt64) ∧ J ws3)))) (kk : ∀ (ws3 : va_W) (H : Heap) (locs : List Loc) (ls : Array Slot), J ws3 → va_P G vwCl ws3 H → va_D A ws3 → va_S A s.heap H locs → lv_has ls 9 [(0, .ref b), (1, .ref ad), (2, .ref am), (3, .ref ao), (4, .int (nI i))] → W p l e room_1 s m #[.ref b] below meth c H locs (cells + 16) (slots + 480) Q (F0 m 1376 ls [])) : W p l e room_1 s m #[.ref b] below meth c H locs cells slots Q (F0 m 843 ls []) := by
  have C0 := C
  obtain ⟨hx, hb, hml, hown, hts, hX, hbl, hbA, hK, hE, hA, hL⟩ := C
  refine lv_aload_n hx hb dL_law_843 rfl (lv_at hl 1 rfl) ?_
  refine lw_ld C0 (lv_at hl 0 rfl) (lv_at hl 4 rfl) hS 1 (by decide) (by omega) dL_law_844 dL_law_845 dL_law_847 dL_law_848 dL_law_849 ?_
  refine lw_ld C0 (lv_at hl 0 rfl) (lv_at hl 4 rfl) hS 2 (by decide) (by omega) dL_law_850 dL_law_851 dL_law_853 dL_law_854 dL_law_855 ?_
  refine lv_aload_n hx hb dL_law_856 rfl (lv_at hl 3 rfl) ?_
  refine h.call 4 hE ⟨hx, hb, hml, hown, hts⟩ gL_law_L_link rfl (by decide) (by decide +kernel) hP hD hS hA hK rfl hl.1 rfl (lv_room (Nat.le_of_ble_eq_true rfl)) dL_law_857 hroom (fun k ws1 H locs h1 hP hD hS => ?_)
  refine lv_istore hx hb dL_law_860 hl (by decide) rfl (fun ls hl => ?_)
  have hl : lv_has ls 9 [(5, .int k), (0, .ref b), (1, .ref ad), (2, .ref am), (3, .ref ao), (4, .int (nI i))] := hl
  refine lv_aload_n hx hb dL_law_862 rfl (lv_at hl 3 rfl) ?_
  refine lw_ld C0 (lv_at hl 1 rfl) (lv_at hl 5 rfl) hS 1 (by decide) (by omega) dL_law_863 dL_law_864 dL_law_866 dL_law_867 dL_law_868 ?_
  refine lw_ld C0 (lv_at hl 1 rfl) (lv_at hl 5 rfl) hS 2 (by decide) (by omega) dL_law_869 dL_law_870 dL_law_872 dL_law_873 dL_law_874 ?_
  refine h1.call ⟨hx, hb, hml, hown, hts⟩ (cwV 2 hts gL_law_X9_link rfl rfl rfl (by decide +kernel) ⟨Nat.le_of_ble_eq_true rfl, Nat.le_of_ble_eq_true rfl⟩) rfl hP hD hS hA (hK.sub [0] rfl) rfl hl.1 rfl (lv_room (Nat.le_of_ble_eq_true rfl)) dL_law_875 hroom (fun bv ws2 H locs h2 hP hD hS => ?_)
  refine lv_istore hx hb dL_law_878 hl (by decide) rfl (fun ls hl => ?_)
  have hl : lv_has ls 9 [(6, .int bv), (5, .int k), (0, .ref b), (1, .ref ad), (2, .ref am), (3, .ref ao), (4, .int (nI i))] := hl
  refine lv_aload_n hx hb dL_law_880 rfl (lv_at hl 4 rfl) ?_
  refine h2.call ⟨hx, hb, hml, hown, hts⟩ (cwV 0 hts gL_law_X9_thrown rfl rfl rfl (by decide +kernel) ⟨Nat.le_of_ble_eq_true rfl, Nat.le_of_ble_eq_true rfl⟩) rfl hP hD hS hA (hK.sub [0] rfl) rfl hl.1 rfl (lv_room (Nat.le_of_ble_eq_true rfl)) dL_law_881 hroom (fun t ws3 H locs h3 hP hD hS => ?_)
  obtain ⟨ht, hz, hJ⟩ := h3
  refine lv_iload hx hb dL_law_884 (lv_at hl 1 rfl) ?_
  refine lv_icmp_eq (tgt := 891) hx hb dL_law_886 (by decide) (fun _ => ?_) (fun q => absurd ht q)
  refine lv_iload hx hb dL_law_891 (lv_at hl 1 rfl) ?_
  have hl5 : lv_has ls 9 [(0, .ref b), (1, .ref ad), (2, .ref am), (3, .ref ao), (4, .int (nI i))] := lv_sub hl [2, 3, 4, 5, 6] rfl
  refine lv_if_ne (tgt := 908) hx hb dL_law_893 (by decide) (fun _ => ?_) (fun q => ?_)
  · exact lv_goto (tgt := 1376) hx hb dL_law_908 (by decide) (kk _ _ _ _ hJ hP hD hS hl5)
  · obtain ⟨q0, g, e0, e1⟩ := hz q
    refine lv_aload_n hx hb dL_law_896 rfl (lv_at hl 5 rfl) ?_
    refine lv_iconst (v := 0) hx hb dL_law_897 (by decide) ?_
    refine va_lald hx hb hK hP q0 2 e0 rfl (vp_lit (by decide +kernel)) dL_law_898 ?_
    refine lv_iload hx hb dL_law_899 (lv_at hl 0 rfl) ?_
    refine lv_i2l (v := bv.toInt64) hx hb dL_law_901 rfl ?_
    rw [show g (0 : Int32).toNatClampNeg = bv.toInt64 from e1]
    refine lw_lcmp hx hb dL_law_902 ?_
    refine lv_if_eq (tgt := 908) hx hb dL_law_903 (by decide) (fun _ => ?_) (fun q => absurd rfl q)
    exact lv_goto (tgt := 1376) hx hb dL_law_908 (by decide) (kk _ _ _ _ hJ hP hD hS hl5)
set_option maxHeartbeats 4000000 in
set_option maxRecDepth 100000 in
theorem cs_waits {p : Program} {l : Launch} {e : Env} {s : State} {m : MethodId} {below : List Frame} {meth : Method} {c : Code} {H : Heap} {locs : List Loc} {cells slots : Nat} {Q : State → Prop} {ls : Array Slot} {G : va_G} {A : Nat → Prop} {sa sv : Nat → Nat} {cI cS cJ : ClassId} {b L : Nat} {xs : Nat → Int32} {ad am ao i : Nat} {ws : va_W} {J : va_W → Prop} (C : LC p s m c A sa sv G cI cS cJ b L xs) (hi : i + 4 ≤ L) (hl : lv_has ls 9 [(0, .ref b), (1, .ref ad), (2, .ref am), (3, .ref ao), (4, .int (nI i))]) (hP : va_P G vwCl ws H) (hD : va_D A ws) (hS : va_S A s.heap H locs) (hroom : cells + 16 ≤ 601024 ∧ slots + 480 ≤ 7293034) (h : LwS l sa sv G (tyw cI cS cJ) yL_waits wsL_waits [.ref ad, .int (xs (i + 1)), .int (xs (i + 2)), .ref ao] ws (fun k ws1 => LwV l G [(cI, .int)] yX9_waits wsX9_waits ({ frames := 2, cells := 0, slots := 0, locals := 48 } : Room) am [.int (xs (i + 1)), .int (xs (i + 2))] ws1 (fun bv ws2 => LwV l G [(cI, .int)] yX9_thrown wsX9_thrown ({ frames := 0, cells := 0, slots := 0, locals := 0 } : Room) am [] ws2 (fun t ws3 => t = k ∧ (k = 0 → ∃ (q0 : Nat) (g : Nat → Int64), ws3[q0]? = some (ouW cJ ao g) ∧ g 0 = bv.toInt64) ∧ J ws3)))) (kk : ∀ (ws3 : va_W) (H : Heap) (locs : List Loc) (ls : Array Slot), J ws3 → va_P G vwCl ws3 H → va_D A ws3 → va_S A s.heap H locs → lv_has ls 9 [(0, .ref b), (1, .ref ad), (2, .ref am), (3, .ref ao), (4, .int (nI i))] → W p l e room_1 s m #[.ref b] below meth c H locs (cells + 16) (slots + 480) Q (F0 m 1376 ls [])) : W p l e room_1 s m #[.ref b] below meth c H locs cells slots Q (F0 m 911 ls []) := by
  have C0 := C
  obtain ⟨hx, hb, hml, hown, hts, hX, hbl, hbA, hK, hE, hA, hL⟩ := C
  refine lv_aload_n hx hb dL_law_911 rfl (lv_at hl 1 rfl) ?_
  refine lw_ld C0 (lv_at hl 0 rfl) (lv_at hl 4 rfl) hS 1 (by decide) (by omega) dL_law_912 dL_law_913 dL_law_915 dL_law_916 dL_law_917 ?_
  refine lw_ld C0 (lv_at hl 0 rfl) (lv_at hl 4 rfl) hS 2 (by decide) (by omega) dL_law_918 dL_law_919 dL_law_921 dL_law_922 dL_law_923 ?_
  refine lv_aload_n hx hb dL_law_924 rfl (lv_at hl 3 rfl) ?_
  refine h.call 4 hE ⟨hx, hb, hml, hown, hts⟩ gL_law_L_waits rfl (by decide) (by decide +kernel) hP hD hS hA hK rfl hl.1 rfl (lv_room (Nat.le_of_ble_eq_true rfl)) dL_law_925 hroom (fun k ws1 H locs h1 hP hD hS => ?_)
  refine lv_istore hx hb dL_law_928 hl (by decide) rfl (fun ls hl => ?_)
  have hl : lv_has ls 9 [(5, .int k), (0, .ref b), (1, .ref ad), (2, .ref am), (3, .ref ao), (4, .int (nI i))] := hl
  refine lv_aload_n hx hb dL_law_930 rfl (lv_at hl 3 rfl) ?_
  refine lw_ld C0 (lv_at hl 1 rfl) (lv_at hl 5 rfl) hS 1 (by decide) (by omega) dL_law_931 dL_law_932 dL_law_934 dL_law_935 dL_law_936 ?_
  refine lw_ld C0 (lv_at hl 1 rfl) (lv_at hl 5 rfl) hS 2 (by decide) (by omega) dL_law_937 dL_law_938 dL_law_940 dL_law_941 dL_law_942 ?_
  refine h1.call ⟨hx, hb, hml, hown, hts⟩ (cwV 2 hts gL_law_X9_waits rfl rfl rfl (by decide +kernel) ⟨Nat.le_of_ble_eq_true rfl, Nat.le_of_ble_eq_true rfl⟩) rfl hP hD hS hA (hK.sub [0] rfl) rfl hl.1 rfl (lv_room (Nat.le_of_ble_eq_true rfl)) dL_law_943 hroom (fun bv ws2 H locs h2 hP hD hS => ?_)
  refine lv_istore hx hb dL_law_946 hl (by decide) rfl (fun ls hl => ?_)
  have hl : lv_has ls 9 [(6, .int bv), (5, .int k), (0, .ref b), (1, .ref ad), (2, .ref am), (3, .ref ao), (4, .int (nI i))] := hl
  refine lv_aload_n hx hb dL_law_948 rfl (lv_at hl 4 rfl) ?_
  refine h2.call ⟨hx, hb, hml, hown, hts⟩ (cwV 0 hts gL_law_X9_thrown rfl rfl rfl (by decide +kernel) ⟨Nat.le_of_ble_eq_true rfl, Nat.le_of_ble_eq_true rfl⟩) rfl hP hD hS hA (hK.sub [0] rfl) rfl hl.1 rfl (lv_room (Nat.le_of_ble_eq_true rfl)) dL_law_949 hroom (fun t ws3 H locs h3 hP hD hS => ?_)
  obtain ⟨ht, hz, hJ⟩ := h3
  refine lv_iload hx hb dL_law_952 (lv_at hl 1 rfl) ?_
  refine lv_icmp_eq (tgt := 959) hx hb dL_law_954 (by decide) (fun _ => ?_) (fun q => absurd ht q)
  refine lv_iload hx hb dL_law_959 (lv_at hl 1 rfl) ?_
  have hl5 : lv_has ls 9 [(0, .ref b), (1, .ref ad), (2, .ref am), (3, .ref ao), (4, .int (nI i))] := lv_sub hl [2, 3, 4, 5, 6] rfl
  refine lv_if_ne (tgt := 976) hx hb dL_law_961 (by decide) (fun _ => ?_) (fun q => ?_)
  · exact lv_goto (tgt := 1376) hx hb dL_law_976 (by decide) (kk _ _ _ _ hJ hP hD hS hl5)
  · obtain ⟨q0, g, e0, e1⟩ := hz q
    refine lv_aload_n hx hb dL_law_964 rfl (lv_at hl 5 rfl) ?_
    refine lv_iconst (v := 0) hx hb dL_law_965 (by decide) ?_
    refine va_lald hx hb hK hP q0 2 e0 rfl (vp_lit (by decide +kernel)) dL_law_966 ?_
    refine lv_iload hx hb dL_law_967 (lv_at hl 0 rfl) ?_
    refine lv_i2l (v := bv.toInt64) hx hb dL_law_969 rfl ?_
    rw [show g (0 : Int32).toNatClampNeg = bv.toInt64 from e1]
    refine lw_lcmp hx hb dL_law_970 ?_
    refine lv_if_eq (tgt := 976) hx hb dL_law_971 (by decide) (fun _ => ?_) (fun q => absurd rfl q)
    exact lv_goto (tgt := 1376) hx hb dL_law_976 (by decide) (kk _ _ _ _ hJ hP hD hS hl5)
set_option maxHeartbeats 4000000 in
set_option maxRecDepth 100000 in
theorem cs_arrival {p : Program} {l : Launch} {e : Env} {s : State} {m : MethodId} {below : List Frame} {meth : Method} {c : Code} {H : Heap} {locs : List Loc} {cells slots : Nat} {Q : State → Prop} {ls : Array Slot} {G : va_G} {A : Nat → Prop} {sa sv : Nat → Nat} {cI cS cJ : ClassId} {b L : Nat} {xs : Nat → Int32} {ad am ao i : Nat} {ws : va_W} {J : va_W → Prop} (C : LC p s m c A sa sv G cI cS cJ b L xs) (hi : i + 4 ≤ L) (hl : lv_has ls 9 [(0, .ref b), (1, .ref ad), (2, .ref am), (3, .ref ao), (4, .int (nI i))]) (hP : va_P G vwCl ws H) (hD : va_D A ws) (hS : va_S A s.heap H locs) (hroom : cells + 16 ≤ 601024 ∧ slots + 480 ≤ 7293034) (h : LwS l sa sv G (tyw cI cS cJ) yL_arrival wsL_arrival [.ref ad, .int (xs (i + 1)), .int (xs (i + 2)), .ref ao] ws (fun k ws1 => LwV l G [(cI, .int)] yX9_arrival wsX9_arrival ({ frames := 2, cells := 0, slots := 0, locals := 46 } : Room) am [.int (xs (i + 1)), .int (xs (i + 2))] ws1 (fun bv ws2 => LwV l G [(cI, .int)] yX9_thrown wsX9_thrown ({ frames := 0, cells := 0, slots := 0, locals := 0 } : Room) am [] ws2 (fun t ws3 => t = k ∧ (k = 0 → ∃ (q0 : Nat) (g : Nat → Int64), ws3[q0]? = some (ouW cJ ao g) ∧ g 0 = bv.toInt64) ∧ J ws3)))) (kk : ∀ (ws3 : va_W) (H : Heap) (locs : List Loc) (ls : Array Slot), J ws3 → va_P G vwCl ws3 H → va_D A ws3 → va_S A s.heap H locs → lv_has ls 9 [(0, .ref b), (1, .ref ad), (2, .ref am), (3, .ref ao), (4, .int (nI i))] → W p l e room_1 s m #[.ref b] below meth c H locs (cells + 16) (slots + 480) Q (F0 m 1376 ls [])) : W p l e room_1 s m #[.ref b] below meth c H locs cells slots Q (F0 m 979 ls []) := by
  have C0 := C
  obtain ⟨hx, hb, hml, hown, hts, hX, hbl, hbA, hK, hE, hA, hL⟩ := C
  refine lv_aload_n hx hb dL_law_979 rfl (lv_at hl 1 rfl) ?_
  refine lw_ld C0 (lv_at hl 0 rfl) (lv_at hl 4 rfl) hS 1 (by decide) (by omega) dL_law_980 dL_law_981 dL_law_983 dL_law_984 dL_law_985 ?_
  refine lw_ld C0 (lv_at hl 0 rfl) (lv_at hl 4 rfl) hS 2 (by decide) (by omega) dL_law_986 dL_law_987 dL_law_989 dL_law_990 dL_law_991 ?_
  refine lv_aload_n hx hb dL_law_992 rfl (lv_at hl 3 rfl) ?_
  refine h.call 4 hE ⟨hx, hb, hml, hown, hts⟩ gL_law_L_arrival rfl (by decide) (by decide +kernel) hP hD hS hA hK rfl hl.1 rfl (lv_room (Nat.le_of_ble_eq_true rfl)) dL_law_993 hroom (fun k ws1 H locs h1 hP hD hS => ?_)
  refine lv_istore hx hb dL_law_996 hl (by decide) rfl (fun ls hl => ?_)
  have hl : lv_has ls 9 [(5, .int k), (0, .ref b), (1, .ref ad), (2, .ref am), (3, .ref ao), (4, .int (nI i))] := hl
  refine lv_aload_n hx hb dL_law_998 rfl (lv_at hl 3 rfl) ?_
  refine lw_ld C0 (lv_at hl 1 rfl) (lv_at hl 5 rfl) hS 1 (by decide) (by omega) dL_law_999 dL_law_1000 dL_law_1002 dL_law_1003 dL_law_1004 ?_
  refine lw_ld C0 (lv_at hl 1 rfl) (lv_at hl 5 rfl) hS 2 (by decide) (by omega) dL_law_1005 dL_law_1006 dL_law_1008 dL_law_1009 dL_law_1010 ?_
  refine h1.call ⟨hx, hb, hml, hown, hts⟩ (cwV 2 hts gL_law_X9_arrival rfl rfl rfl (by decide +kernel) ⟨Nat.le_of_ble_eq_true rfl, Nat.le_of_ble_eq_true rfl⟩) rfl hP hD hS hA (hK.sub [0] rfl) rfl hl.1 rfl (lv_room (Nat.le_of_ble_eq_true rfl)) dL_law_1011 hroom (fun bv ws2 H locs h2 hP hD hS => ?_)
  refine lv_istore hx hb dL_law_1014 hl (by decide) rfl (fun ls hl => ?_)
  have hl : lv_has ls 9 [(6, .int bv), (5, .int k), (0, .ref b), (1, .ref ad), (2, .ref am), (3, .ref ao), (4, .int (nI i))] := hl
  refine lv_aload_n hx hb dL_law_1016 rfl (lv_at hl 4 rfl) ?_
  refine h2.call ⟨hx, hb, hml, hown, hts⟩ (cwV 0 hts gL_law_X9_thrown rfl rfl rfl (by decide +kernel) ⟨Nat.le_of_ble_eq_true rfl, Nat.le_of_ble_eq_true rfl⟩) rfl hP hD hS hA (hK.sub [0] rfl) rfl hl.1 rfl (lv_room (Nat.le_of_ble_eq_true rfl)) dL_law_1017 hroom (fun t ws3 H locs h3 hP hD hS => ?_)
  obtain ⟨ht, hz, hJ⟩ := h3
  refine lv_iload hx hb dL_law_1020 (lv_at hl 1 rfl) ?_
  refine lv_icmp_eq (tgt := 1027) hx hb dL_law_1022 (by decide) (fun _ => ?_) (fun q => absurd ht q)
  refine lv_iload hx hb dL_law_1027 (lv_at hl 1 rfl) ?_
  have hl5 : lv_has ls 9 [(0, .ref b), (1, .ref ad), (2, .ref am), (3, .ref ao), (4, .int (nI i))] := lv_sub hl [2, 3, 4, 5, 6] rfl
  refine lv_if_ne (tgt := 1044) hx hb dL_law_1029 (by decide) (fun _ => ?_) (fun q => ?_)
  · exact lv_goto (tgt := 1376) hx hb dL_law_1044 (by decide) (kk _ _ _ _ hJ hP hD hS hl5)
  · obtain ⟨q0, g, e0, e1⟩ := hz q
    refine lv_aload_n hx hb dL_law_1032 rfl (lv_at hl 5 rfl) ?_
    refine lv_iconst (v := 0) hx hb dL_law_1033 (by decide) ?_
    refine va_lald hx hb hK hP q0 2 e0 rfl (vp_lit (by decide +kernel)) dL_law_1034 ?_
    refine lv_iload hx hb dL_law_1035 (lv_at hl 0 rfl) ?_
    refine lv_i2l (v := bv.toInt64) hx hb dL_law_1037 rfl ?_
    rw [show g (0 : Int32).toNatClampNeg = bv.toInt64 from e1]
    refine lw_lcmp hx hb dL_law_1038 ?_
    refine lv_if_eq (tgt := 1044) hx hb dL_law_1039 (by decide) (fun _ => ?_) (fun q => absurd rfl q)
    exact lv_goto (tgt := 1376) hx hb dL_law_1044 (by decide) (kk _ _ _ _ hJ hP hD hS hl5)
set_option maxHeartbeats 4000000 in
set_option maxRecDepth 100000 in
theorem cs_count {p : Program} {l : Launch} {e : Env} {s : State} {m : MethodId} {below : List Frame} {meth : Method} {c : Code} {H : Heap} {locs : List Loc} {cells slots : Nat} {Q : State → Prop} {ls : Array Slot} {G : va_G} {A : Nat → Prop} {sa sv : Nat → Nat} {cI cS cJ : ClassId} {b L : Nat} {xs : Nat → Int32} {ad am ao i : Nat} {ws : va_W} {J : va_W → Prop} (C : LC p s m c A sa sv G cI cS cJ b L xs) (hi : i + 4 ≤ L) (hl : lv_has ls 9 [(0, .ref b), (1, .ref ad), (2, .ref am), (3, .ref ao), (4, .int (nI i))]) (hP : va_P G vwCl ws H) (hD : va_D A ws) (hS : va_S A s.heap H locs) (hroom : cells + 16 ≤ 601024 ∧ slots + 480 ≤ 7293034) (h : LwS l sa sv G (tyw cI cS cJ) yL_count wsL_count [.ref ad, .int (xs (i + 1)), .ref ao] ws (fun k ws1 => LwV l G [(cI, .int)] yX9_count wsX9_count ({ frames := 2, cells := 0, slots := 0, locals := 44 } : Room) am [.int (xs (i + 1))] ws1 (fun bv ws2 => LwV l G [(cI, .int)] yX9_thrown wsX9_thrown ({ frames := 0, cells := 0, slots := 0, locals := 0 } : Room) am [] ws2 (fun t ws3 => t = k ∧ (k = 0 → ∃ (q0 : Nat) (g : Nat → Int64), ws3[q0]? = some (ouW cJ ao g) ∧ g 0 = bv.toInt64) ∧ J ws3)))) (kk : ∀ (ws3 : va_W) (H : Heap) (locs : List Loc) (ls : Array Slot), J ws3 → va_P G vwCl ws3 H → va_D A ws3 → va_S A s.heap H locs → lv_has ls 9 [(0, .ref b), (1, .ref ad), (2, .ref am), (3, .ref ao), (4, .int (nI i))] → W p l e room_1 s m #[.ref b] below meth c H locs (cells + 16) (slots + 480) Q (F0 m 1376 ls [])) : W p l e room_1 s m #[.ref b] below meth c H locs cells slots Q (F0 m 1047 ls []) := by
  have C0 := C
  obtain ⟨hx, hb, hml, hown, hts, hX, hbl, hbA, hK, hE, hA, hL⟩ := C
  refine lv_aload_n hx hb dL_law_1047 rfl (lv_at hl 1 rfl) ?_
  refine lw_ld C0 (lv_at hl 0 rfl) (lv_at hl 4 rfl) hS 1 (by decide) (by omega) dL_law_1048 dL_law_1049 dL_law_1051 dL_law_1052 dL_law_1053 ?_
  refine lv_aload_n hx hb dL_law_1054 rfl (lv_at hl 3 rfl) ?_
  refine h.call 3 hE ⟨hx, hb, hml, hown, hts⟩ gL_law_L_count rfl (by decide) (by decide +kernel) hP hD hS hA hK rfl hl.1 rfl (lv_room (Nat.le_of_ble_eq_true rfl)) dL_law_1055 hroom (fun k ws1 H locs h1 hP hD hS => ?_)
  refine lv_istore hx hb dL_law_1058 hl (by decide) rfl (fun ls hl => ?_)
  have hl : lv_has ls 9 [(5, .int k), (0, .ref b), (1, .ref ad), (2, .ref am), (3, .ref ao), (4, .int (nI i))] := hl
  refine lv_aload_n hx hb dL_law_1060 rfl (lv_at hl 3 rfl) ?_
  refine lw_ld C0 (lv_at hl 1 rfl) (lv_at hl 5 rfl) hS 1 (by decide) (by omega) dL_law_1061 dL_law_1062 dL_law_1064 dL_law_1065 dL_law_1066 ?_
  refine h1.call ⟨hx, hb, hml, hown, hts⟩ (cwV 1 hts gL_law_X9_count rfl rfl rfl (by decide +kernel) ⟨Nat.le_of_ble_eq_true rfl, Nat.le_of_ble_eq_true rfl⟩) rfl hP hD hS hA (hK.sub [0] rfl) rfl hl.1 rfl (lv_room (Nat.le_of_ble_eq_true rfl)) dL_law_1067 hroom (fun bv ws2 H locs h2 hP hD hS => ?_)
  refine lv_istore hx hb dL_law_1070 hl (by decide) rfl (fun ls hl => ?_)
  have hl : lv_has ls 9 [(6, .int bv), (5, .int k), (0, .ref b), (1, .ref ad), (2, .ref am), (3, .ref ao), (4, .int (nI i))] := hl
  refine lv_aload_n hx hb dL_law_1072 rfl (lv_at hl 4 rfl) ?_
  refine h2.call ⟨hx, hb, hml, hown, hts⟩ (cwV 0 hts gL_law_X9_thrown rfl rfl rfl (by decide +kernel) ⟨Nat.le_of_ble_eq_true rfl, Nat.le_of_ble_eq_true rfl⟩) rfl hP hD hS hA (hK.sub [0] rfl) rfl hl.1 rfl (lv_room (Nat.le_of_ble_eq_true rfl)) dL_law_1073 hroom (fun t ws3 H locs h3 hP hD hS => ?_)
  obtain ⟨ht, hz, hJ⟩ := h3
  refine lv_iload hx hb dL_law_1076 (lv_at hl 1 rfl) ?_
  refine lv_icmp_eq (tgt := 1083) hx hb dL_law_1078 (by decide) (fun _ => ?_) (fun q => absurd ht q)
  refine lv_iload hx hb dL_law_1083 (lv_at hl 1 rfl) ?_
  have hl5 : lv_has ls 9 [(0, .ref b), (1, .ref ad), (2, .ref am), (3, .ref ao), (4, .int (nI i))] := lv_sub hl [2, 3, 4, 5, 6] rfl
  refine lv_if_ne (tgt := 1100) hx hb dL_law_1085 (by decide) (fun _ => ?_) (fun q => ?_)
  · exact lv_goto (tgt := 1376) hx hb dL_law_1100 (by decide) (kk _ _ _ _ hJ hP hD hS hl5)
  · obtain ⟨q0, g, e0, e1⟩ := hz q
    refine lv_aload_n hx hb dL_law_1088 rfl (lv_at hl 5 rfl) ?_
    refine lv_iconst (v := 0) hx hb dL_law_1089 (by decide) ?_
    refine va_lald hx hb hK hP q0 2 e0 rfl (vp_lit (by decide +kernel)) dL_law_1090 ?_
    refine lv_iload hx hb dL_law_1091 (lv_at hl 0 rfl) ?_
    refine lv_i2l (v := bv.toInt64) hx hb dL_law_1093 rfl ?_
    rw [show g (0 : Int32).toNatClampNeg = bv.toInt64 from e1]
    refine lw_lcmp hx hb dL_law_1094 ?_
    refine lv_if_eq (tgt := 1100) hx hb dL_law_1095 (by decide) (fun _ => ?_) (fun q => absurd rfl q)
    exact lv_goto (tgt := 1376) hx hb dL_law_1100 (by decide) (kk _ _ _ _ hJ hP hD hS hl5)
set_option maxHeartbeats 4000000 in
set_option maxRecDepth 100000 in
theorem cs_lost {p : Program} {l : Launch} {e : Env} {s : State} {m : MethodId} {below : List Frame} {meth : Method} {c : Code} {H : Heap} {locs : List Loc} {cells slots : Nat} {Q : State → Prop} {ls : Array Slot} {G : va_G} {A : Nat → Prop} {sa sv : Nat → Nat} {cI cS cJ : ClassId} {b L : Nat} {xs : Nat → Int32} {ad am ao i : Nat} {ws : va_W} {J : va_W → Prop} (C : LC p s m c A sa sv G cI cS cJ b L xs) (hi : i + 4 ≤ L) (hl : lv_has ls 9 [(0, .ref b), (1, .ref ad), (2, .ref am), (3, .ref ao), (4, .int (nI i))]) (hP : va_P G vwCl ws H) (hD : va_D A ws) (hS : va_S A s.heap H locs) (hroom : cells + 16 ≤ 601024 ∧ slots + 480 ≤ 7293034) (h : LwS l sa sv G (tyw cI cS cJ) yL_lost wsL_lost [.ref ad, .int (xs (i + 1)), .int (xs (i + 2)), .ref ao] ws (fun k ws1 => LwV l G [(cI, .int)] yX9_lost wsX9_lost ({ frames := 1, cells := 0, slots := 0, locals := 25 } : Room) am [.int (xs (i + 1)), .int (xs (i + 2))] ws1 (fun bv ws2 => LwV l G [(cI, .int)] yX9_thrown wsX9_thrown ({ frames := 0, cells := 0, slots := 0, locals := 0 } : Room) am [] ws2 (fun t ws3 => t = k ∧ (k = 0 → ∃ (q0 : Nat) (g : Nat → Int64), ws3[q0]? = some (ouW cJ ao g) ∧ g 0 = bv.toInt64) ∧ J ws3)))) (kk : ∀ (ws3 : va_W) (H : Heap) (locs : List Loc) (ls : Array Slot), J ws3 → va_P G vwCl ws3 H → va_D A ws3 → va_S A s.heap H locs → lv_has ls 9 [(0, .ref b), (1, .ref ad), (2, .ref am), (3, .ref ao), (4, .int (nI i))] → W p l e room_1 s m #[.ref b] below meth c H locs (cells + 16) (slots + 480) Q (F0 m 1376 ls [])) : W p l e room_1 s m #[.ref b] below meth c H locs cells slots Q (F0 m 1103 ls []) := by
  have C0 := C
  obtain ⟨hx, hb, hml, hown, hts, hX, hbl, hbA, hK, hE, hA, hL⟩ := C
  refine lv_aload_n hx hb dL_law_1103 rfl (lv_at hl 1 rfl) ?_
  refine lw_ld C0 (lv_at hl 0 rfl) (lv_at hl 4 rfl) hS 1 (by decide) (by omega) dL_law_1104 dL_law_1105 dL_law_1107 dL_law_1108 dL_law_1109 ?_
  refine lw_ld C0 (lv_at hl 0 rfl) (lv_at hl 4 rfl) hS 2 (by decide) (by omega) dL_law_1110 dL_law_1111 dL_law_1113 dL_law_1114 dL_law_1115 ?_
  refine lv_aload_n hx hb dL_law_1116 rfl (lv_at hl 3 rfl) ?_
  refine h.call 4 hE ⟨hx, hb, hml, hown, hts⟩ gL_law_L_lost rfl (by decide) (by decide +kernel) hP hD hS hA hK rfl hl.1 rfl (lv_room (Nat.le_of_ble_eq_true rfl)) dL_law_1117 hroom (fun k ws1 H locs h1 hP hD hS => ?_)
  refine lv_istore hx hb dL_law_1120 hl (by decide) rfl (fun ls hl => ?_)
  have hl : lv_has ls 9 [(5, .int k), (0, .ref b), (1, .ref ad), (2, .ref am), (3, .ref ao), (4, .int (nI i))] := hl
  refine lv_aload_n hx hb dL_law_1122 rfl (lv_at hl 3 rfl) ?_
  refine lw_ld C0 (lv_at hl 1 rfl) (lv_at hl 5 rfl) hS 1 (by decide) (by omega) dL_law_1123 dL_law_1124 dL_law_1126 dL_law_1127 dL_law_1128 ?_
  refine lw_ld C0 (lv_at hl 1 rfl) (lv_at hl 5 rfl) hS 2 (by decide) (by omega) dL_law_1129 dL_law_1130 dL_law_1132 dL_law_1133 dL_law_1134 ?_
  refine h1.call ⟨hx, hb, hml, hown, hts⟩ (cwV 2 hts gL_law_X9_lost rfl rfl rfl (by decide +kernel) ⟨Nat.le_of_ble_eq_true rfl, Nat.le_of_ble_eq_true rfl⟩) rfl hP hD hS hA (hK.sub [0] rfl) rfl hl.1 rfl (lv_room (Nat.le_of_ble_eq_true rfl)) dL_law_1135 hroom (fun bv ws2 H locs h2 hP hD hS => ?_)
  refine lv_istore hx hb dL_law_1138 hl (by decide) rfl (fun ls hl => ?_)
  have hl : lv_has ls 9 [(6, .int bv), (5, .int k), (0, .ref b), (1, .ref ad), (2, .ref am), (3, .ref ao), (4, .int (nI i))] := hl
  refine lv_aload_n hx hb dL_law_1140 rfl (lv_at hl 4 rfl) ?_
  refine h2.call ⟨hx, hb, hml, hown, hts⟩ (cwV 0 hts gL_law_X9_thrown rfl rfl rfl (by decide +kernel) ⟨Nat.le_of_ble_eq_true rfl, Nat.le_of_ble_eq_true rfl⟩) rfl hP hD hS hA (hK.sub [0] rfl) rfl hl.1 rfl (lv_room (Nat.le_of_ble_eq_true rfl)) dL_law_1141 hroom (fun t ws3 H locs h3 hP hD hS => ?_)
  obtain ⟨ht, hz, hJ⟩ := h3
  refine lv_iload hx hb dL_law_1144 (lv_at hl 1 rfl) ?_
  refine lv_icmp_eq (tgt := 1151) hx hb dL_law_1146 (by decide) (fun _ => ?_) (fun q => absurd ht q)
  refine lv_iload hx hb dL_law_1151 (lv_at hl 1 rfl) ?_
  have hl5 : lv_has ls 9 [(0, .ref b), (1, .ref ad), (2, .ref am), (3, .ref ao), (4, .int (nI i))] := lv_sub hl [2, 3, 4, 5, 6] rfl
  refine lv_if_ne (tgt := 1168) hx hb dL_law_1153 (by decide) (fun _ => ?_) (fun q => ?_)
  · exact lv_goto (tgt := 1376) hx hb dL_law_1168 (by decide) (kk _ _ _ _ hJ hP hD hS hl5)
  · obtain ⟨q0, g, e0, e1⟩ := hz q
    refine lv_aload_n hx hb dL_law_1156 rfl (lv_at hl 5 rfl) ?_
    refine lv_iconst (v := 0) hx hb dL_law_1157 (by decide) ?_
    refine va_lald hx hb hK hP q0 2 e0 rfl (vp_lit (by decide +kernel)) dL_law_1158 ?_
    refine lv_iload hx hb dL_law_1159 (lv_at hl 0 rfl) ?_
    refine lv_i2l (v := bv.toInt64) hx hb dL_law_1161 rfl ?_
    rw [show g (0 : Int32).toNatClampNeg = bv.toInt64 from e1]
    refine lw_lcmp hx hb dL_law_1162 ?_
    refine lv_if_eq (tgt := 1168) hx hb dL_law_1163 (by decide) (fun _ => ?_) (fun q => absurd rfl q)
    exact lv_goto (tgt := 1376) hx hb dL_law_1168 (by decide) (kk _ _ _ _ hJ hP hD hS hl5)
set_option maxHeartbeats 4000000 in
set_option maxRecDepth 100000 in
theorem cs_ifGone {p : Program} {l : Launch} {e : Env} {s : State} {m : MethodId} {below : List Frame} {meth : Method} {c : Code} {H : Heap} {locs : List Loc} {cells slots : Nat} {Q : State → Prop} {ls : Array Slot} {G : va_G} {A : Nat → Prop} {sa sv : Nat → Nat} {cI cS cJ : ClassId} {b L : Nat} {xs : Nat → Int32} {ad am ao i : Nat} {ws : va_W} {J : va_W → Prop} (C : LC p s m c A sa sv G cI cS cJ b L xs) (hi : i + 4 ≤ L) (hl : lv_has ls 9 [(0, .ref b), (1, .ref ad), (2, .ref am), (3, .ref ao), (4, .int (nI i))]) (hP : va_P G vwCl ws H) (hD : va_D A ws) (hS : va_S A s.heap H locs) (hroom : cells + 16 ≤ 601024 ∧ slots + 480 ≤ 7293034) (h : LwS l sa sv G (tyw cI cS cJ) yL_ifGone wsL_ifGone [.ref ad, .int (xs (i + 1)), .int (xs (i + 2)), .ref ao] ws (fun k ws1 => LwV l G [(cI, .int)] yX9_ifGone wsX9_ifGone ({ frames := 4, cells := 0, slots := 0, locals := 94 } : Room) am [.int (xs (i + 1)), .int (xs (i + 2))] ws1 (fun bv ws2 => LwV l G [(cI, .int)] yX9_thrown wsX9_thrown ({ frames := 0, cells := 0, slots := 0, locals := 0 } : Room) am [] ws2 (fun t ws3 => t = k ∧ (k = 0 → ∃ (q0 : Nat) (g : Nat → Int64), ws3[q0]? = some (ouW cJ ao g) ∧ g 0 = bv.toInt64) ∧ J ws3)))) (kk : ∀ (ws3 : va_W) (H : Heap) (locs : List Loc) (ls : Array Slot), J ws3 → va_P G vwCl ws3 H → va_D A ws3 → va_S A s.heap H locs → lv_has ls 9 [(0, .ref b), (1, .ref ad), (2, .ref am), (3, .ref ao), (4, .int (nI i))] → W p l e room_1 s m #[.ref b] below meth c H locs (cells + 16) (slots + 480) Q (F0 m 1376 ls [])) : W p l e room_1 s m #[.ref b] below meth c H locs cells slots Q (F0 m 1171 ls []) := by
  have C0 := C
  obtain ⟨hx, hb, hml, hown, hts, hX, hbl, hbA, hK, hE, hA, hL⟩ := C
  refine lv_aload_n hx hb dL_law_1171 rfl (lv_at hl 1 rfl) ?_
  refine lw_ld C0 (lv_at hl 0 rfl) (lv_at hl 4 rfl) hS 1 (by decide) (by omega) dL_law_1172 dL_law_1173 dL_law_1175 dL_law_1176 dL_law_1177 ?_
  refine lw_ld C0 (lv_at hl 0 rfl) (lv_at hl 4 rfl) hS 2 (by decide) (by omega) dL_law_1178 dL_law_1179 dL_law_1181 dL_law_1182 dL_law_1183 ?_
  refine lv_aload_n hx hb dL_law_1184 rfl (lv_at hl 3 rfl) ?_
  refine h.call 4 hE ⟨hx, hb, hml, hown, hts⟩ gL_law_L_ifGone rfl (by decide) (by decide +kernel) hP hD hS hA hK rfl hl.1 rfl (lv_room (Nat.le_of_ble_eq_true rfl)) dL_law_1185 hroom (fun k ws1 H locs h1 hP hD hS => ?_)
  refine lv_istore hx hb dL_law_1188 hl (by decide) rfl (fun ls hl => ?_)
  have hl : lv_has ls 9 [(5, .int k), (0, .ref b), (1, .ref ad), (2, .ref am), (3, .ref ao), (4, .int (nI i))] := hl
  refine lv_aload_n hx hb dL_law_1190 rfl (lv_at hl 3 rfl) ?_
  refine lw_ld C0 (lv_at hl 1 rfl) (lv_at hl 5 rfl) hS 1 (by decide) (by omega) dL_law_1191 dL_law_1192 dL_law_1194 dL_law_1195 dL_law_1196 ?_
  refine lw_ld C0 (lv_at hl 1 rfl) (lv_at hl 5 rfl) hS 2 (by decide) (by omega) dL_law_1197 dL_law_1198 dL_law_1200 dL_law_1201 dL_law_1202 ?_
  refine h1.call ⟨hx, hb, hml, hown, hts⟩ (cwV 2 hts gL_law_X9_ifGone rfl rfl rfl (by decide +kernel) ⟨Nat.le_of_ble_eq_true rfl, Nat.le_of_ble_eq_true rfl⟩) rfl hP hD hS hA (hK.sub [0] rfl) rfl hl.1 rfl (lv_room (Nat.le_of_ble_eq_true rfl)) dL_law_1203 hroom (fun bv ws2 H locs h2 hP hD hS => ?_)
  refine lv_istore hx hb dL_law_1206 hl (by decide) rfl (fun ls hl => ?_)
  have hl : lv_has ls 9 [(6, .int bv), (5, .int k), (0, .ref b), (1, .ref ad), (2, .ref am), (3, .ref ao), (4, .int (nI i))] := hl
  refine lv_aload_n hx hb dL_law_1208 rfl (lv_at hl 4 rfl) ?_
  refine h2.call ⟨hx, hb, hml, hown, hts⟩ (cwV 0 hts gL_law_X9_thrown rfl rfl rfl (by decide +kernel) ⟨Nat.le_of_ble_eq_true rfl, Nat.le_of_ble_eq_true rfl⟩) rfl hP hD hS hA (hK.sub [0] rfl) rfl hl.1 rfl (lv_room (Nat.le_of_ble_eq_true rfl)) dL_law_1209 hroom (fun t ws3 H locs h3 hP hD hS => ?_)
  obtain ⟨ht, hz, hJ⟩ := h3
  refine lv_iload hx hb dL_law_1212 (lv_at hl 1 rfl) ?_
  refine lv_icmp_eq (tgt := 1219) hx hb dL_law_1214 (by decide) (fun _ => ?_) (fun q => absurd ht q)
  refine lv_iload hx hb dL_law_1219 (lv_at hl 1 rfl) ?_
  have hl5 : lv_has ls 9 [(0, .ref b), (1, .ref ad), (2, .ref am), (3, .ref ao), (4, .int (nI i))] := lv_sub hl [2, 3, 4, 5, 6] rfl
  refine lv_if_ne (tgt := 1236) hx hb dL_law_1221 (by decide) (fun _ => ?_) (fun q => ?_)
  · exact lv_goto (tgt := 1376) hx hb dL_law_1236 (by decide) (kk _ _ _ _ hJ hP hD hS hl5)
  · obtain ⟨q0, g, e0, e1⟩ := hz q
    refine lv_aload_n hx hb dL_law_1224 rfl (lv_at hl 5 rfl) ?_
    refine lv_iconst (v := 0) hx hb dL_law_1225 (by decide) ?_
    refine va_lald hx hb hK hP q0 2 e0 rfl (vp_lit (by decide +kernel)) dL_law_1226 ?_
    refine lv_iload hx hb dL_law_1227 (lv_at hl 0 rfl) ?_
    refine lv_i2l (v := bv.toInt64) hx hb dL_law_1229 rfl ?_
    rw [show g (0 : Int32).toNatClampNeg = bv.toInt64 from e1]
    refine lw_lcmp hx hb dL_law_1230 ?_
    refine lv_if_eq (tgt := 1236) hx hb dL_law_1231 (by decide) (fun _ => ?_) (fun q => absurd rfl q)
    exact lv_goto (tgt := 1376) hx hb dL_law_1236 (by decide) (kk _ _ _ _ hJ hP hD hS hl5)
set_option maxHeartbeats 4000000 in
set_option maxRecDepth 100000 in
theorem cs_lostAt {p : Program} {l : Launch} {e : Env} {s : State} {m : MethodId} {below : List Frame} {meth : Method} {c : Code} {H : Heap} {locs : List Loc} {cells slots : Nat} {Q : State → Prop} {ls : Array Slot} {G : va_G} {A : Nat → Prop} {sa sv : Nat → Nat} {cI cS cJ : ClassId} {b L : Nat} {xs : Nat → Int32} {ad am ao i : Nat} {ws : va_W} {J : va_W → Prop} (C : LC p s m c A sa sv G cI cS cJ b L xs) (hi : i + 4 ≤ L) (hl : lv_has ls 9 [(0, .ref b), (1, .ref ad), (2, .ref am), (3, .ref ao), (4, .int (nI i))]) (hP : va_P G vwCl ws H) (hD : va_D A ws) (hS : va_S A s.heap H locs) (hroom : cells + 16 ≤ 601024 ∧ slots + 480 ≤ 7293034) (h : LwS l sa sv G (tyw cI cS cJ) yL_lostAt wsL_lostAt [.ref ad, .int (xs (i + 1)), .ref ao] ws (fun k ws1 => LwV l G [(cI, .int)] yX9_lostAt wsX9_lostAt ({ frames := 4, cells := 0, slots := 0, locals := 93 } : Room) am [.int (xs (i + 1))] ws1 (fun bv ws2 => LwV l G [(cI, .int)] yX9_thrown wsX9_thrown ({ frames := 0, cells := 0, slots := 0, locals := 0 } : Room) am [] ws2 (fun t ws3 => t = k ∧ (k = 0 → ∃ (q0 : Nat) (g : Nat → Int64), ws3[q0]? = some (ouW cJ ao g) ∧ g 0 = bv.toInt64) ∧ J ws3)))) (kk : ∀ (ws3 : va_W) (H : Heap) (locs : List Loc) (ls : Array Slot), J ws3 → va_P G vwCl ws3 H → va_D A ws3 → va_S A s.heap H locs → lv_has ls 9 [(0, .ref b), (1, .ref ad), (2, .ref am), (3, .ref ao), (4, .int (nI i))] → W p l e room_1 s m #[.ref b] below meth c H locs (cells + 16) (slots + 480) Q (F0 m 1376 ls [])) : W p l e room_1 s m #[.ref b] below meth c H locs cells slots Q (F0 m 1239 ls []) := by
  have C0 := C
  obtain ⟨hx, hb, hml, hown, hts, hX, hbl, hbA, hK, hE, hA, hL⟩ := C
  refine lv_aload_n hx hb dL_law_1239 rfl (lv_at hl 1 rfl) ?_
  refine lw_ld C0 (lv_at hl 0 rfl) (lv_at hl 4 rfl) hS 1 (by decide) (by omega) dL_law_1240 dL_law_1241 dL_law_1243 dL_law_1244 dL_law_1245 ?_
  refine lv_aload_n hx hb dL_law_1246 rfl (lv_at hl 3 rfl) ?_
  refine h.call 3 hE ⟨hx, hb, hml, hown, hts⟩ gL_law_L_lostAt rfl (by decide) (by decide +kernel) hP hD hS hA hK rfl hl.1 rfl (lv_room (Nat.le_of_ble_eq_true rfl)) dL_law_1247 hroom (fun k ws1 H locs h1 hP hD hS => ?_)
  refine lv_istore hx hb dL_law_1250 hl (by decide) rfl (fun ls hl => ?_)
  have hl : lv_has ls 9 [(5, .int k), (0, .ref b), (1, .ref ad), (2, .ref am), (3, .ref ao), (4, .int (nI i))] := hl
  refine lv_aload_n hx hb dL_law_1252 rfl (lv_at hl 3 rfl) ?_
  refine lw_ld C0 (lv_at hl 1 rfl) (lv_at hl 5 rfl) hS 1 (by decide) (by omega) dL_law_1253 dL_law_1254 dL_law_1256 dL_law_1257 dL_law_1258 ?_
  refine h1.call ⟨hx, hb, hml, hown, hts⟩ (cwV 1 hts gL_law_X9_lostAt rfl rfl rfl (by decide +kernel) ⟨Nat.le_of_ble_eq_true rfl, Nat.le_of_ble_eq_true rfl⟩) rfl hP hD hS hA (hK.sub [0] rfl) rfl hl.1 rfl (lv_room (Nat.le_of_ble_eq_true rfl)) dL_law_1259 hroom (fun bv ws2 H locs h2 hP hD hS => ?_)
  refine lv_istore hx hb dL_law_1262 hl (by decide) rfl (fun ls hl => ?_)
  have hl : lv_has ls 9 [(6, .int bv), (5, .int k), (0, .ref b), (1, .ref ad), (2, .ref am), (3, .ref ao), (4, .int (nI i))] := hl
  refine lv_aload_n hx hb dL_law_1264 rfl (lv_at hl 4 rfl) ?_
  refine h2.call ⟨hx, hb, hml, hown, hts⟩ (cwV 0 hts gL_law_X9_thrown rfl rfl rfl (by decide +kernel) ⟨Nat.le_of_ble_eq_true rfl, Nat.le_of_ble_eq_true rfl⟩) rfl hP hD hS hA (hK.sub [0] rfl) rfl hl.1 rfl (lv_room (Nat.le_of_ble_eq_true rfl)) dL_law_1265 hroom (fun t ws3 H locs h3 hP hD hS => ?_)
  obtain ⟨ht, hz, hJ⟩ := h3
  refine lv_iload hx hb dL_law_1268 (lv_at hl 1 rfl) ?_
  refine lv_icmp_eq (tgt := 1275) hx hb dL_law_1270 (by decide) (fun _ => ?_) (fun q => absurd ht q)
  refine lv_iload hx hb dL_law_1275 (lv_at hl 1 rfl) ?_
  have hl5 : lv_has ls 9 [(0, .ref b), (1, .ref ad), (2, .ref am), (3, .ref ao), (4, .int (nI i))] := lv_sub hl [2, 3, 4, 5, 6] rfl
  refine lv_if_ne (tgt := 1292) hx hb dL_law_1277 (by decide) (fun _ => ?_) (fun q => ?_)
  · exact lv_goto (tgt := 1376) hx hb dL_law_1292 (by decide) (kk _ _ _ _ hJ hP hD hS hl5)
  · obtain ⟨q0, g, e0, e1⟩ := hz q
    refine lv_aload_n hx hb dL_law_1280 rfl (lv_at hl 5 rfl) ?_
    refine lv_iconst (v := 0) hx hb dL_law_1281 (by decide) ?_
    refine va_lald hx hb hK hP q0 2 e0 rfl (vp_lit (by decide +kernel)) dL_law_1282 ?_
    refine lv_iload hx hb dL_law_1283 (lv_at hl 0 rfl) ?_
    refine lv_i2l (v := bv.toInt64) hx hb dL_law_1285 rfl ?_
    rw [show g (0 : Int32).toNatClampNeg = bv.toInt64 from e1]
    refine lw_lcmp hx hb dL_law_1286 ?_
    refine lv_if_eq (tgt := 1292) hx hb dL_law_1287 (by decide) (fun _ => ?_) (fun q => absurd rfl q)
    exact lv_goto (tgt := 1376) hx hb dL_law_1292 (by decide) (kk _ _ _ _ hJ hP hD hS hl5)
set_option maxHeartbeats 4000000 in
set_option maxRecDepth 100000 in
theorem cs_worstEar {p : Program} {l : Launch} {e : Env} {s : State} {m : MethodId} {below : List Frame} {meth : Method} {c : Code} {H : Heap} {locs : List Loc} {cells slots : Nat} {Q : State → Prop} {ls : Array Slot} {G : va_G} {A : Nat → Prop} {sa sv : Nat → Nat} {cI cS cJ : ClassId} {b L : Nat} {xs : Nat → Int32} {ad am ao i : Nat} {ws : va_W} {J : va_W → Prop} (C : LC p s m c A sa sv G cI cS cJ b L xs) (hi : i + 4 ≤ L) (hl : lv_has ls 9 [(0, .ref b), (1, .ref ad), (2, .ref am), (3, .ref ao), (4, .int (nI i))]) (hP : va_P G vwCl ws H) (hD : va_D A ws) (hS : va_S A s.heap H locs) (hroom : cells + 16 ≤ 601024 ∧ slots + 480 ≤ 7293034) (h : LwX l sa sv G [(cI, .int)] yX8_worstEar wsX8_worstEar ({ frames := 4, cells := 0, slots := 0, locals := 99 } : Room) ad [] ws (fun a ws1 => LwV l G [(cI, .int)] yX9_worstEar wsX9_worstEar ({ frames := 5, cells := 0, slots := 0, locals := 120 } : Room) am [] ws1 (fun bv ws2 => a = bv ∧ J ws2))) (kk : ∀ (ws3 : va_W) (H : Heap) (locs : List Loc) (ls : Array Slot), J ws3 → va_P G vwCl ws3 H → va_D A ws3 → va_S A s.heap H locs → lv_has ls 9 [(0, .ref b), (1, .ref ad), (2, .ref am), (3, .ref ao), (4, .int (nI i))] → W p l e room_1 s m #[.ref b] below meth c H locs (cells + 16) (slots + 480) Q (F0 m 1376 ls [])) : W p l e room_1 s m #[.ref b] below meth c H locs cells slots Q (F0 m 1295 ls []) := by
  have C0 := C
  obtain ⟨hx, hb, hml, hown, hts, hX, hbl, hbA, hK, hE, hA, hL⟩ := C
  refine lv_aload_n hx hb dL_law_1295 rfl (lv_at hl 1 rfl) ?_
  refine h.call hE ⟨hx, hb, hml, hown, hts⟩ (cwV 0 hts gL_law_X8_worstEar rfl rfl rfl (by decide +kernel) ⟨Nat.le_of_ble_eq_true rfl, Nat.le_of_ble_eq_true rfl⟩) rfl (Nat.le_of_ble_eq_true rfl) (Nat.le_of_ble_eq_true rfl) hP hD hS hA (hK.sub [0] rfl) rfl hl.1 rfl (lv_room (Nat.le_of_ble_eq_true rfl)) dL_law_1296 hroom (fun a ws1 H locs h1 hP hD hS => ?_)
  refine lv_aload_n hx hb dL_law_1299 rfl (lv_at hl 2 rfl) ?_
  refine h1.call ⟨hx, hb, hml, hown, hts⟩ (cwV 0 hts gL_law_X9_worstEar rfl rfl rfl (by decide +kernel) ⟨Nat.le_of_ble_eq_true rfl, Nat.le_of_ble_eq_true rfl⟩) rfl hP hD hS hA (hK.sub [0] rfl) rfl hl.1 rfl (lv_room (Nat.le_of_ble_eq_true rfl)) dL_law_1300 hroom (fun bv ws2 H locs h2 hP hD hS => ?_)
  exact lv_icmp_eq (tgt := 1376) hx hb dL_law_1303 (by decide) (fun _ => kk _ _ _ _ h2.2 hP hD hS hl) (fun q => absurd h2.1 q)
set_option maxHeartbeats 4000000 in
set_option maxRecDepth 100000 in
theorem cs_costs {p : Program} {l : Launch} {e : Env} {s : State} {m : MethodId} {below : List Frame} {meth : Method} {c : Code} {H : Heap} {locs : List Loc} {cells slots : Nat} {Q : State → Prop} {ls : Array Slot} {G : va_G} {A : Nat → Prop} {sa sv : Nat → Nat} {cI cS cJ : ClassId} {b L : Nat} {xs : Nat → Int32} {ad am ao i : Nat} {ws : va_W} {J : va_W → Prop} (C : LC p s m c A sa sv G cI cS cJ b L xs) (hi : i + 4 ≤ L) (hl : lv_has ls 9 [(0, .ref b), (1, .ref ad), (2, .ref am), (3, .ref ao), (4, .int (nI i))]) (hP : va_P G vwCl ws H) (hD : va_D A ws) (hS : va_S A s.heap H locs) (hroom : cells + 16 ≤ 601024 ∧ slots + 480 ≤ 7293034) (h : LwX l sa sv G [(cI, .int)] yX8_costs wsX8_costs ({ frames := 4, cells := 0, slots := 0, locals := 99 } : Room) ad [] ws (fun a ws1 => LwV l G [(cI, .int)] yX9_costs wsX9_costs ({ frames := 5, cells := 0, slots := 0, locals := 118 } : Room) am [] ws1 (fun bv ws2 => a = bv ∧ J ws2))) (kk : ∀ (ws3 : va_W) (H : Heap) (locs : List Loc) (ls : Array Slot), J ws3 → va_P G vwCl ws3 H → va_D A ws3 → va_S A s.heap H locs → lv_has ls 9 [(0, .ref b), (1, .ref ad), (2, .ref am), (3, .ref ao), (4, .int (nI i))] → W p l e room_1 s m #[.ref b] below meth c H locs (cells + 16) (slots + 480) Q (F0 m 1376 ls [])) : W p l e room_1 s m #[.ref b] below meth c H locs cells slots Q (F0 m 1308 ls []) := by
  have C0 := C
  obtain ⟨hx, hb, hml, hown, hts, hX, hbl, hbA, hK, hE, hA, hL⟩ := C
  refine lv_aload_n hx hb dL_law_1308 rfl (lv_at hl 1 rfl) ?_
  refine h.call hE ⟨hx, hb, hml, hown, hts⟩ (cwV 0 hts gL_law_X8_costs rfl rfl rfl (by decide +kernel) ⟨Nat.le_of_ble_eq_true rfl, Nat.le_of_ble_eq_true rfl⟩) rfl (Nat.le_of_ble_eq_true rfl) (Nat.le_of_ble_eq_true rfl) hP hD hS hA (hK.sub [0] rfl) rfl hl.1 rfl (lv_room (Nat.le_of_ble_eq_true rfl)) dL_law_1309 hroom (fun a ws1 H locs h1 hP hD hS => ?_)
  refine lv_aload_n hx hb dL_law_1312 rfl (lv_at hl 2 rfl) ?_
  refine h1.call ⟨hx, hb, hml, hown, hts⟩ (cwV 0 hts gL_law_X9_costs rfl rfl rfl (by decide +kernel) ⟨Nat.le_of_ble_eq_true rfl, Nat.le_of_ble_eq_true rfl⟩) rfl hP hD hS hA (hK.sub [0] rfl) rfl hl.1 rfl (lv_room (Nat.le_of_ble_eq_true rfl)) dL_law_1313 hroom (fun bv ws2 H locs h2 hP hD hS => ?_)
  exact lv_icmp_eq (tgt := 1376) hx hb dL_law_1316 (by decide) (fun _ => kk _ _ _ _ h2.2 hP hD hS hl) (fun q => absurd h2.1 q)
set_option maxHeartbeats 4000000 in
set_option maxRecDepth 100000 in
theorem cs_throughShare {p : Program} {l : Launch} {e : Env} {s : State} {m : MethodId} {below : List Frame} {meth : Method} {c : Code} {H : Heap} {locs : List Loc} {cells slots : Nat} {Q : State → Prop} {ls : Array Slot} {G : va_G} {A : Nat → Prop} {sa sv : Nat → Nat} {cI cS cJ : ClassId} {b L : Nat} {xs : Nat → Int32} {ad am ao i : Nat} {ws : va_W} {J : va_W → Prop} (C : LC p s m c A sa sv G cI cS cJ b L xs) (hi : i + 4 ≤ L) (hl : lv_has ls 9 [(0, .ref b), (1, .ref ad), (2, .ref am), (3, .ref ao), (4, .int (nI i))]) (hP : va_P G vwCl ws H) (hD : va_D A ws) (hS : va_S A s.heap H locs) (hroom : cells + 16 ≤ 601024 ∧ slots + 480 ≤ 7293034) (h : LwXd l sa sv G [(cI, .int)] yX8_throughShare wsX8_throughShare ({ frames := 1, cells := 0, slots := 0, locals := 25 } : Room) ad [] ws (fun a ws1 => LwVd l G [(cI, .int)] yX9_throughShare wsX9_throughShare ({ frames := 1, cells := 0, slots := 0, locals := 20 } : Room) am [] ws1 (fun bv ws2 => a = bv ∧ Op.cmpValue (FP.dcmp a a) .l = 0 ∧ J ws2))) (kk : ∀ (ws3 : va_W) (H : Heap) (locs : List Loc) (ls : Array Slot), J ws3 → va_P G vwCl ws3 H → va_D A ws3 → va_S A s.heap H locs → lv_has ls 9 [(0, .ref b), (1, .ref ad), (2, .ref am), (3, .ref ao), (4, .int (nI i))] → W p l e room_1 s m #[.ref b] below meth c H locs (cells + 16) (slots + 480) Q (F0 m 1376 ls [])) : W p l e room_1 s m #[.ref b] below meth c H locs cells slots Q (F0 m 1321 ls []) := by
  have C0 := C
  obtain ⟨hx, hb, hml, hown, hts, hX, hbl, hbA, hK, hE, hA, hL⟩ := C
  refine lv_aload_n hx hb dL_law_1321 rfl (lv_at hl 1 rfl) ?_
  refine h.call hE ⟨hx, hb, hml, hown, hts⟩ (cwV 0 hts gL_law_X8_throughShare rfl rfl rfl (by decide +kernel) ⟨Nat.le_of_ble_eq_true rfl, Nat.le_of_ble_eq_true rfl⟩) rfl (Nat.le_of_ble_eq_true rfl) (Nat.le_of_ble_eq_true rfl) hP hD hS hA (hK.sub [0] rfl) rfl hl.1 rfl (lv_room (Nat.le_of_ble_eq_true rfl)) dL_law_1322 hroom (fun a ws1 H locs h1 hP hD hS => ?_)
  refine lv_dstore hx hb dL_law_1325 hl (by decide) rfl (fun ls hl => ?_)
  have hl : lv_has ls 9 [(5, .double a), (0, .ref b), (1, .ref ad), (2, .ref am), (3, .ref ao), (4, .int (nI i))] := hl
  refine lv_aload_n hx hb dL_law_1327 rfl (lv_at hl 3 rfl) ?_
  refine h1.call ⟨hx, hb, hml, hown, hts⟩ (cwV 0 hts gL_law_X9_throughShare rfl rfl rfl (by decide +kernel) ⟨Nat.le_of_ble_eq_true rfl, Nat.le_of_ble_eq_true rfl⟩) rfl hP hD hS hA (hK.sub [0] rfl) rfl hl.1 rfl (lv_room (Nat.le_of_ble_eq_true rfl)) dL_law_1328 hroom (fun bv ws2 H locs h2 hP hD hS => ?_)
  refine lv_dstore hx hb dL_law_1331 hl (by decide) rfl (fun ls hl => ?_)
  have hl : lv_has ls 9 [(7, .double bv), (5, .double a), (0, .ref b), (1, .ref ad), (2, .ref am), (3, .ref ao), (4, .int (nI i))] := hl
  obtain ⟨rfl, hn, hJ⟩ := h2
  refine lv_dload hx hb dL_law_1333 (lv_at hl 1 rfl) ?_
  refine lv_dload hx hb dL_law_1335 (lv_at hl 0 rfl) ?_
  refine lv_dcmp hx hb dL_law_1337 ?_
  rw [hn]
  refine lv_if_eq (tgt := 1359) hx hb dL_law_1338 (by decide) (fun _ => ?_) (fun q => absurd rfl q)
  exact lv_goto (tgt := 1376) hx hb dL_law_1359 (by decide) (kk _ _ _ _ hJ hP hD hS (lv_sub hl [2, 3, 4, 5, 6] rfl))
set_option maxHeartbeats 4000000 in
set_option maxRecDepth 100000 in
theorem cs_digest {p : Program} {l : Launch} {e : Env} {s : State} {m : MethodId} {below : List Frame} {meth : Method} {c : Code} {H : Heap} {locs : List Loc} {cells slots : Nat} {Q : State → Prop} {ls : Array Slot} {G : va_G} {A : Nat → Prop} {sa sv : Nat → Nat} {cI cS cJ : ClassId} {b L : Nat} {xs : Nat → Int32} {ad am ao i : Nat} {ws : va_W} {J : va_W → Prop} (C : LC p s m c A sa sv G cI cS cJ b L xs) (hi : i + 4 ≤ L) (hl : lv_has ls 9 [(0, .ref b), (1, .ref ad), (2, .ref am), (3, .ref ao), (4, .int (nI i))]) (hP : va_P G vwCl ws H) (hD : va_D A ws) (hS : va_S A s.heap H locs) (hroom : cells + 16 ≤ 601024 ∧ slots + 480 ≤ 7293034) (h : LwXl l sa sv G [(cI, .int)] yX8_digest wsX8_digest ({ frames := 6, cells := 0, slots := 0, locals := 148 } : Room) ad [] ws (fun a ws1 => LwVl l G [(cI, .int)] yX9_digest wsX9_digest ({ frames := 5, cells := 0, slots := 0, locals := 120 } : Room) am [] ws1 (fun bv ws2 => a = bv ∧ J ws2))) (kk : ∀ (ws3 : va_W) (H : Heap) (locs : List Loc) (ls : Array Slot), J ws3 → va_P G vwCl ws3 H → va_D A ws3 → va_S A s.heap H locs → lv_has ls 9 [(0, .ref b), (1, .ref ad), (2, .ref am), (3, .ref ao), (4, .int (nI i))] → W p l e room_1 s m #[.ref b] below meth c H locs (cells + 16) (slots + 480) Q (F0 m 1376 ls [])) : W p l e room_1 s m #[.ref b] below meth c H locs cells slots Q (F0 m 1362 ls []) := by
  have C0 := C
  obtain ⟨hx, hb, hml, hown, hts, hX, hbl, hbA, hK, hE, hA, hL⟩ := C
  refine lv_aload_n hx hb dL_law_1362 rfl (lv_at hl 1 rfl) ?_
  refine h.call hE ⟨hx, hb, hml, hown, hts⟩ (cwV 0 hts gL_law_X8_digest rfl rfl rfl (by decide +kernel) ⟨Nat.le_of_ble_eq_true rfl, Nat.le_of_ble_eq_true rfl⟩) rfl (Nat.le_of_ble_eq_true rfl) (Nat.le_of_ble_eq_true rfl) hP hD hS hA (hK.sub [0] rfl) rfl hl.1 rfl (lv_room (Nat.le_of_ble_eq_true rfl)) dL_law_1363 hroom (fun a ws1 H locs h1 hP hD hS => ?_)
  refine lv_aload_n hx hb dL_law_1366 rfl (lv_at hl 2 rfl) ?_
  refine h1.call ⟨hx, hb, hml, hown, hts⟩ (cwV 0 hts gL_law_X9_digest rfl rfl rfl (by decide +kernel) ⟨Nat.le_of_ble_eq_true rfl, Nat.le_of_ble_eq_true rfl⟩) rfl hP hD hS hA (hK.sub [0] rfl) rfl hl.1 rfl (lv_room (Nat.le_of_ble_eq_true rfl)) dL_law_1367 hroom (fun bv ws2 H locs h2 hP hD hS => ?_)
  obtain ⟨rfl, hJ⟩ := h2
  refine lw_lcmp hx hb dL_law_1370 ?_
  exact lv_if_eq (tgt := 1376) hx hb dL_law_1371 (by decide) (fun _ => kk _ _ _ _ hJ hP hD hS hl) (fun q => absurd rfl q)

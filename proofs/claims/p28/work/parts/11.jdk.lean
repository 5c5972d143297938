-- the JDK's methods on the literals that the class loads
section ML
variable {p : Program} {l : Launch} {e : Env} {R : Room} {s : State} {m : MethodId} {args : Array Value} {below : List Frame} {meth : Method} {c : Code} {H : Heap} {locs : List Loc} {cells slots : Nat} {Q : State → Prop}
variable {cc : ByteArray} {pc : Nat} {ls : Array Slot} {rest st0 : List Value} {G : va_G} {A : Nat → Prop} {tys tyc : List (ClassId × FieldType)} {ws wc : va_W} {mc ms : Nat} {S : Type}
variable {y : MethodName} {bytes : ByteArray} {maxL nL n index : Nat} {ret : Option FieldType} {wy : List Cond} {rm : Room} {Ts : List Cond} {own C : String} {b : Nat} {As : List Value}
variable {sa sv : Nat → Nat}
theorem mCallXL_i {r : S → Int32} {w1 : S → va_W} (hE : EnvP sa sv A s s.heap) (CF : CallFix p m c cc nL s args Ts own) (hM : Met l y wy rm (mPcX sa sv G tyc (.ref b :: As) H.size wc) (mQi G tyc (va_A wc H.size) r w1) mc ms (va_A wc H.size)) (cw : CallW R s args own C index y bytes maxL ret wy rm mc ms n) (hP : va_P G vwCl ws H) (hD : va_D A ws) (hS : va_S A s.heap H locs) (hA : ∀ q : Nat, s.heap.size ≤ q → A q) (hKc : va_K G vwCl tyc s)
    (isC : List Nat) (hC : isC.map (fun i => ws[i]?) = wc.map some) (hn : va_nd isC = true) (hrv : ∃ cell : Cell, H[b]? = some cell ∧ cell.vm.isStatics = false ∧ s.vm.findClass C = some cell.cls) (adC : List Nat) (hfst : ∀ u, (w1 u).map Prod.fst = adC) (hfc : wc.map Prod.fst = adC) (ws1 : S → va_W) (ad : List Nat) (hf1 : ∀ u, (ws1 u).map Prod.fst = ad) (hf0 : ws.map Prod.fst = ad) (hC1 : ∀ u, isC.map (fun i => (ws1 u)[i]?) = (w1 u).map some) (isR : List Nat) (wr : va_W) (hR1 : ∀ u, isR.map (fun i => (ws1 u)[i]?) = wr.map some) (hR0 : isR.map (fun i => ws[i]?) = wr.map some) (N : Nat) (hN : ws.length = N) (hcov : (List.range N).all (fun i => isC.contains i || isR.contains i) = true)
    (hlen : As.length = n) (hsize : ls.size = nL) (hstack : st0 = As.reverse ++ .ref b :: rest) (hW : 2 * (F0 m pc ls st0).monitorRoom + (rest.map fun v => v.category).sum ≤ 8) (hdg : decode cc pc = .ok (.invokevirtual index, 3)) (hroom : cells + mc ≤ R.cells ∧ slots + ms ≤ R.slots)
    (kk : ∀ (u : S) (H1 : Heap) (locs1 : List Loc), va_P G vwCl (ws1 u) H1 → va_D A (ws1 u) → va_S A s.heap H1 locs1 → W p l e R s m args below meth c H1 locs1 (cells + mc) (slots + ms) Q (F0 m (pc + 3) ls (.int (r u) :: rest))) : W p l e R s m args below meth c H locs cells slots Q (F0 m pc ls st0) := by
  have hpre := mPreX (av := .ref b :: As) hE hS hA hP hD hKc hC hn
  refine va_calli (va_runV CF hM cw ⟨hpre.1, hrv, hpre.2⟩ rfl hlen hsize hstack hW hdg hroom) hS (fun q _ h => mFree hD hS hA hC q h) (mFree hD hS hA hC) (fun x u t H1 locs1 ht hvm hw hB hz1 hk1 hS1 => ?_)
  obtain ⟨hP1, -, -⟩ := hB
  rw [ht] at hP1
  obtain ⟨hP2, hD2⟩ := mPut isR N hP hD hC ((hfst u).trans hfc.symm) ((hf1 u).trans hf0.symm) (hC1 u) ((hR1 u).trans hR0.symm) hN hcov hk1 hP1
  rw [hw]
  exact kk u H1 locs1 hP2 hD2 hS1
end ML
set_option maxHeartbeats 4000000 in
set_option maxRecDepth 100000 in
theorem mJ3_checkIndex_8e157 (l : Launch) (G : va_G) (cI : ClassId) (sz : Nat) (v : Value) (hv : v = .null ∨ ∃ t : Nat, v = .ref t) (i n : Nat) (hi : i < n) (hn : n < 2 ^ 31) : Met l yJ3_checkIndex_8e157 wsJ3_checkIndex_8e157 ({ frames := 0, cells := 0, slots := 0, locals := 0 }) (mPc G [(cI, .int)] [.int (nI i), .int (nI n), v] sz []) (mQi G [(cI, .int)] (va_A [] sz) (fun _ : Unit => nI i) (fun _ => [])) 0 0 (va_A [] sz) := by
  rcases hv with rfl | ⟨t9, rfl⟩
  · refine mStart (cc := cJ3_checkIndex_8e157) (maxL := 3) (ret := (some .int)) (by decide) rfl (Nat.le_of_ble_eq_true rfl) ?_
    intro p e s m below meth c A ls hx hb hml hr hts hown hlocks hnm hA hsz hAe hP hK hD hS hl
    rw [hAe]
    have hl : lv_has ls 3 [(0, .int (nI i)), (1, .int (nI n)), (2, .null)] := hl
    refine lv_iload_n hx hb dJ3_checkIndex_8e157_0 rfl (lv_at hl 0 rfl) ?_
    refine lv_if_lt (tgt := 9) hx hb dJ3_checkIndex_8e157_1 (by decide) (fun c1 => absurd c1 (nI_pos (by omega))) (fun c1 => ?_)
    refine lv_iload_n hx hb dJ3_checkIndex_8e157_4 rfl (lv_at hl 0 rfl) ?_
    refine lv_iload_n hx hb dJ3_checkIndex_8e157_5 rfl (lv_at hl 1 rfl) ?_
    refine lv_icmp_lt (tgt := 16) hx hb dJ3_checkIndex_8e157_6 (by decide) (fun c2 => ?_) (fun c2 => absurd (nI_lt hi hn) c2)
    refine lv_iload_n hx hb dJ3_checkIndex_8e157_16 rfl (lv_at hl 0 rfl) ?_
    exact mEnd_i () hx hb hr hlocks hP hK hD hS rfl rfl (Nat.le_refl _) (Nat.le_refl _) dJ3_checkIndex_8e157_17
  · refine mStart (cc := cJ3_checkIndex_8e157) (maxL := 3) (ret := (some .int)) (by decide) rfl (Nat.le_of_ble_eq_true rfl) ?_
    intro p e s m below meth c A ls hx hb hml hr hts hown hlocks hnm hA hsz hAe hP hK hD hS hl
    rw [hAe]
    have hl : lv_has ls 3 [(0, .int (nI i)), (1, .int (nI n)), (2, .ref t9)] := hl
    refine lv_iload_n hx hb dJ3_checkIndex_8e157_0 rfl (lv_at hl 0 rfl) ?_
    refine lv_if_lt (tgt := 9) hx hb dJ3_checkIndex_8e157_1 (by decide) (fun c1 => absurd c1 (nI_pos (by omega))) (fun c1 => ?_)
    refine lv_iload_n hx hb dJ3_checkIndex_8e157_4 rfl (lv_at hl 0 rfl) ?_
    refine lv_iload_n hx hb dJ3_checkIndex_8e157_5 rfl (lv_at hl 1 rfl) ?_
    refine lv_icmp_lt (tgt := 16) hx hb dJ3_checkIndex_8e157_6 (by decide) (fun c2 => ?_) (fun c2 => absurd (nI_lt hi hn) c2)
    refine lv_iload_n hx hb dJ3_checkIndex_8e157_16 rfl (lv_at hl 0 rfl) ?_
    exact mEnd_i () hx hb hr hlocks hP hK hD hS rfl rfl (Nat.le_refl _) (Nat.le_refl _) dJ3_checkIndex_8e157_17
set_option maxHeartbeats 4000000 in
set_option maxRecDepth 100000 in
theorem mJ0_checkIndex_df160 (l : Launch) (sa sv : Nat → Nat) (G : va_G) (cI : ClassId) (sz : Nat) (i n : Nat) (hi : i < n) (hn : n < 2 ^ 31) : Met l yJ0_checkIndex_df160 wsJ0_checkIndex_df160 ({ frames := 1, cells := 0, slots := 0, locals := 22 }) (mPcX sa sv G [(cI, .int)] [.int (nI i), .int (nI n)] sz []) (mQv G [(cI, .int)] (va_A [] sz) (fun _ : Unit => [])) 0 0 (va_A [] sz) := by
  refine mStartX (cc := cJ0_checkIndex_df160) (maxL := 2) (ret := none) (by decide) rfl (Nat.le_of_ble_eq_true rfl) ?_
  intro p e s m below meth c A ls hx hb hml hr hts hown hlocks hnm hA hsz hAe hP hK hD hE hS hl
  rw [hAe]
  have hl : lv_has ls 2 [(0, .int (nI i)), (1, .int (nI n))] := hl
  have k1 := hts (.fieldLink RJ0 1053 "jdk/internal/util/Preconditions" "SIOOBE_FORMATTER" "Ljava/util/function/BiFunction;") (by decide +kernel)
  refine lv_iload_n hx hb dJ0_checkIndex_df160_0 rfl (lv_at hl 0 rfl) ?_
  refine lv_iload_n hx hb dJ0_checkIndex_df160_1 rfl (lv_at hl 1 rfl) ?_
  obtain ⟨v, hv, hz⟩ : ∃ v : Value, (v = .null ∨ ∃ t : Nat, v = .ref t) ∧ va_Z "jdk/internal/util/Preconditions" "SIOOBE_FORMATTER" "Ljava/util/function/BiFunction;" v A s s.heap := by
    rcases hE.2.2.2.2.1 with h | ⟨t, h⟩
    · exact ⟨.null, Or.inl rfl, h⟩
    · exact ⟨.ref t, Or.inr ⟨t, rfl⟩, h⟩
  refine va_gets hx hb hz hS hown k1 (fun _ h9 => h9) dJ0_checkIndex_df160_2 ?_
  refine mCallS_i (As := [.int (nI i), .int (nI n), v]) (rest := []) ⟨hx, hb, hml, hown, hts⟩ (mJ3_checkIndex_8e157 l G cI s.heap.size v hv i n hi hn) (va_cwS 3 hts gJ0_checkIndex_df160_J3_checkIndex_8e157 rfl rfl rfl (by decide +kernel) ⟨Nat.le_of_ble_eq_true rfl, Nat.le_of_ble_eq_true rfl⟩) hP hD hS hA hK [] rfl (by decide) [] (fun _ => rfl) rfl (fun _ => []) [] (fun _ => rfl) rfl (fun _ => rfl) [] [] (fun _ => rfl) rfl 0 rfl rfl rfl hl.1 rfl (lv_room (Nat.le_of_ble_eq_true rfl)) dJ0_checkIndex_df160_5 ⟨Nat.zero_le _, Nat.zero_le _⟩ (fun _ H locs hP hD hS => ?_)
  refine lv_pop hx hb dJ0_checkIndex_df160_8 rfl ?_
  exact mEnd_v () hx hb hr hlocks hP hK hD hS rfl (Nat.le_of_ble_eq_true rfl) (Nat.le_of_ble_eq_true rfl) dJ0_checkIndex_df160_9
/-- a literal's character -/
def litCh (i k : Nat) : Int32 := (litByt.getD i []).getD k 0 &&& 255
theorem litLen_ok : ∀ i, i < 5 → litLen.getD i 0 < 2 ^ 31 := by decide
set_option maxHeartbeats 4000000 in
set_option maxRecDepth 100000 in
theorem mJ1_charAt_3b067 (l : Launch) (sa sv : Nat → Nat) (G : va_G) (cI : ClassId) (sz : Nat) (i k : Nat) (hi : i < 5) (hk : k < litLen.getD i 0) : Met l yJ1_charAt_3b067 wsJ1_charAt_3b067 ({ frames := 2, cells := 0, slots := 0, locals := 43 }) (mPcX sa sv G [(cI, .int)] [.ref (sv i), .int (nI k)] sz []) (mQi G [(cI, .int)] (va_A [] sz) (fun _ : Unit => litCh i k) (fun _ => [])) 0 0 (va_A [] sz) := by
  refine mStartX (cc := cJ1_charAt_3b067) (maxL := 2) (ret := (some .char)) (by decide) rfl (Nat.le_of_ble_eq_true rfl) ?_
  intro p e s m below meth c A ls hx hb hml hr hts hown hlocks hnm hA hsz hAe hP hK hD hE hS hl
  rw [hAe]
  have hl : lv_has ls 2 [(0, .ref (sv i)), (1, .int (nI k))] := hl
  have hT := (hE.2.2.1.1 i hi).2.2.2
  have hn := litLen_ok i hi
  refine lv_iload_n hx hb dJ1_charAt_3b067_0 rfl (lv_at hl 1 rfl) ?_
  refine lv_aload_n hx hb dJ1_charAt_3b067_1 rfl (lv_at hl 0 rfl) ?_
  refine va_tlen hx hb hT hS (v := nI (litLen.getD i 0)) rfl dJ1_charAt_3b067_2 ?_
  refine va_callv (va_runS (As := [.int (nI k), .int (nI (litLen.getD i 0))]) (rest := []) ⟨hx, hb, hml, hown, hts⟩ (mJ0_checkIndex_df160 l sa sv G cI s.heap.size k (litLen.getD i 0) hk hn) (va_cwS 2 hts gJ1_charAt_3b067_J0_checkIndex_df160 rfl rfl rfl (by decide +kernel) ⟨Nat.le_of_ble_eq_true rfl, Nat.le_of_ble_eq_true rfl⟩) (mPreX (isC := []) hE hS hA hP hD hK rfl (by decide)) rfl rfl hl.1 rfl (lv_room (Nat.le_of_ble_eq_true rfl)) dJ1_charAt_3b067_3 ⟨Nat.zero_le _, Nat.zero_le _⟩) hS (fun q _ h => mFree (isC := []) hD hS hA rfl q h) (mFree (isC := []) hD hS hA rfl) (fun u t H1 locs1 ht hvm hw hB hz1 hk1 hS => ?_)
  have hP : va_P G vwCl [] H1 := fun k q h => by cases h
  refine lv_aload_n hx hb dJ1_charAt_3b067_6 rfl (lv_at hl 0 rfl) ?_
  refine lv_iload_n hx hb dJ1_charAt_3b067_7 rfl (lv_at hl 1 rfl) ?_
  refine va_tb hx hb hT hS (vp_in_nI hk hn) (v := .int ((litByt.getD i []).getD k 0)) (by rw [nI_clamp (by omega)]) dJ1_charAt_3b067_8 ?_
  refine lv_sipush (v := 255) hx hb dJ1_charAt_3b067_9 (by decide) ?_
  refine lv_iand hx hb dJ1_charAt_3b067_12 ?_
  refine lv_i2c (v := litCh i k) hx hb dJ1_charAt_3b067_13 (sc_c2 _) ?_
  exact mEnd_z () hx hb hr (sc_nar _) hlocks hP hK hD hS rfl rfl (Nat.le_of_ble_eq_true rfl) (Nat.le_of_ble_eq_true rfl) dJ1_charAt_3b067_14
set_option maxHeartbeats 4000000 in
set_option maxRecDepth 100000 in
theorem mJ0_coder_7d493 (l : Launch) (sa sv : Nat → Nat) (G : va_G) (cI : ClassId) (sz : Nat) (i : Nat) (hi : i < 5) : Met l yJ0_coder_7d493 wsJ0_coder_7d493 ({ frames := 0, cells := 0, slots := 0, locals := 0 }) (mPcX sa sv G [(cI, .int)] [.ref (sa i)] sz []) (mQi G [(cI, .int)] (va_A [] sz) (fun _ : Unit => (0 : Int32)) (fun _ => [])) 0 0 (va_A [] sz) := by
  refine mStartX (cc := cJ0_coder_7d493) (maxL := 1) (ret := (some .byte)) (by decide) rfl (Nat.le_of_ble_eq_true rfl) ?_
  intro p e s m below meth c A ls hx hb hml hr hts hown hlocks hnm hA hsz hAe hP hK hD hE hS hl
  rw [hAe]
  have hl : lv_has ls 1 [(0, .ref (sa i))] := hl
  have k1 := hts (.fieldLink RJ0 38 "java/lang/String" "COMPACT_STRINGS" "Z") (by decide +kernel)
  have k2 := hts (.fieldLink RJ0 15 "java/lang/String" "coder" "B") (by decide +kernel)
  refine va_gets hx hb hE.2.2.2.1 hS hown k1 (fun _ h9 => h9) dJ0_coder_7d493_0 ?_
  refine lv_if_eq (tgt := 13) hx hb dJ0_coder_7d493_3 (by decide) (fun c1 => absurd c1 (by decide)) (fun c1 => ?_)
  refine lv_aload_n hx hb dJ0_coder_7d493_6 rfl (lv_at hl 0 rfl) ?_
  refine vk_getf hx hb (hE.2.2.1.1 i hi).2.1 hS hown k2 (fun _ h9 => h9) dJ0_coder_7d493_7 ?_
  refine lv_goto (tgt := 14) hx hb dJ0_coder_7d493_10 (by decide) ?_
  exact mEnd_z () hx hb hr rfl hlocks hP hK hD hS rfl rfl (Nat.le_of_ble_eq_true rfl) (Nat.le_of_ble_eq_true rfl) dJ0_coder_7d493_14
set_option maxHeartbeats 4000000 in
set_option maxRecDepth 100000 in
theorem mJ0_isLatin1_aae02 (l : Launch) (sa sv : Nat → Nat) (G : va_G) (cI : ClassId) (sz : Nat) (i : Nat) (hi : i < 5) : Met l yJ0_isLatin1_aae02 wsJ0_isLatin1_aae02 ({ frames := 0, cells := 0, slots := 0, locals := 0 }) (mPcX sa sv G [(cI, .int)] [.ref (sa i)] sz []) (mQi G [(cI, .int)] (va_A [] sz) (fun _ : Unit => (1 : Int32)) (fun _ => [])) 0 0 (va_A [] sz) := by
  refine mStartX (cc := cJ0_isLatin1_aae02) (maxL := 1) (ret := (some .boolean)) (by decide) rfl (Nat.le_of_ble_eq_true rfl) ?_
  intro p e s m below meth c A ls hx hb hml hr hts hown hlocks hnm hA hsz hAe hP hK hD hE hS hl
  rw [hAe]
  have hl : lv_has ls 1 [(0, .ref (sa i))] := hl
  have k1 := hts (.fieldLink RJ0 38 "java/lang/String" "COMPACT_STRINGS" "Z") (by decide +kernel)
  have k2 := hts (.fieldLink RJ0 15 "java/lang/String" "coder" "B") (by decide +kernel)
  refine va_gets hx hb hE.2.2.2.1 hS hown k1 (fun _ h9 => h9) dJ0_isLatin1_aae02_0 ?_
  refine lv_if_eq (tgt := 17) hx hb dJ0_isLatin1_aae02_3 (by decide) (fun c1 => absurd c1 (by decide)) (fun c1 => ?_)
  refine lv_aload_n hx hb dJ0_isLatin1_aae02_6 rfl (lv_at hl 0 rfl) ?_
  refine vk_getf hx hb (hE.2.2.1.1 i hi).2.1 hS hown k2 (fun _ h9 => h9) dJ0_isLatin1_aae02_7 ?_
  refine lv_if_ne (tgt := 17) hx hb dJ0_isLatin1_aae02_10 (by decide) (fun c2 => absurd rfl c2) (fun c2 => ?_)
  refine lv_iconst (v := 1) hx hb dJ0_isLatin1_aae02_13 (by decide) ?_
  refine lv_goto (tgt := 18) hx hb dJ0_isLatin1_aae02_14 (by decide) ?_
  exact mEnd_z () hx hb hr rfl hlocks hP hK hD hS rfl rfl (Nat.le_of_ble_eq_true rfl) (Nat.le_of_ble_eq_true rfl) dJ0_isLatin1_aae02_18
set_option maxHeartbeats 4000000 in
set_option maxRecDepth 100000 in
theorem mJ0_length_8abf5 (l : Launch) (sa sv : Nat → Nat) (G : va_G) (cI : ClassId) (sz : Nat) (i : Nat) (hi : i < 5) : Met l yJ0_length_8abf5 wsJ0_length_8abf5 ({ frames := 1, cells := 0, slots := 0, locals := 20 }) (mPcX sa sv G [(cI, .int)] [.ref (sa i)] sz []) (mQi G [(cI, .int)] (va_A [] sz) (fun _ : Unit => nI (litLen.getD i 0)) (fun _ => [])) 0 0 (va_A [] sz) := by
  refine mStartX (cc := cJ0_length_8abf5) (maxL := 1) (ret := (some .int)) (by decide) rfl (Nat.le_of_ble_eq_true rfl) ?_
  intro p e s m below meth c A ls hx hb hml hr hts hown hlocks hnm hA hsz hAe hP hK hD hE hS hl
  rw [hAe]
  have hl : lv_has ls 1 [(0, .ref (sa i))] := hl
  have k1 := hts (.fieldLink RJ0 9 "java/lang/String" "value" "[B") (by decide +kernel)
  have hT := (hE.2.2.1.1 i hi).2.2.2
  refine lv_aload_n hx hb dJ0_length_8abf5_0 rfl (lv_at hl 0 rfl) ?_
  refine vk_getf hx hb (hE.2.2.1.1 i hi).2.2.1 hS hown k1 (fun _ h9 => h9) dJ0_length_8abf5_1 ?_
  refine va_tlen hx hb hT hS (v := nI (litLen.getD i 0)) rfl dJ0_length_8abf5_4 ?_
  refine lv_aload_n hx hb dJ0_length_8abf5_5 rfl (lv_at hl 0 rfl) ?_
  refine mCallXL_i (As := []) hE ⟨hx, hb, hml, hown, hts⟩ (mJ0_coder_7d493 l sa sv G cI s.heap.size i hi) (cwV 0 hts gJ0_length_8abf5_J0_coder_7d493 rfl rfl rfl (by decide +kernel) ⟨Nat.le_of_ble_eq_true rfl, Nat.le_of_ble_eq_true rfl⟩) hP hD hS hA hK [] rfl (by decide) (vk_recv hE.2.2.1 hi hS) [] (fun _ => rfl) rfl (fun _ => []) [] (fun _ => rfl) rfl (fun _ => rfl) [] [] (fun _ => rfl) rfl 0 rfl rfl rfl hl.1 rfl (lv_room (Nat.le_of_ble_eq_true rfl)) dJ0_length_8abf5_6 ⟨Nat.zero_le _, Nat.zero_le _⟩ (fun _ H locs hP hD hS => ?_)
  refine lv_ishr hx hb dJ0_length_8abf5_9 ?_
  exact mEnd_i () hx hb hr hlocks hP hK hD hS (sc_shr0 (litLen_ok i hi)) rfl (Nat.le_of_ble_eq_true rfl) (Nat.le_of_ble_eq_true rfl) dJ0_length_8abf5_10
set_option maxHeartbeats 4000000 in
set_option maxRecDepth 100000 in
theorem mJ0_charAt_5068e (l : Launch) (sa sv : Nat → Nat) (G : va_G) (cI : ClassId) (sz : Nat) (i k : Nat) (hi : i < 5) (hk : k < litLen.getD i 0) : Met l yJ0_charAt_5068e wsJ0_charAt_5068e ({ frames := 3, cells := 0, slots := 0, locals := 64 }) (mPcX sa sv G [(cI, .int)] [.ref (sa i), .int (nI k)] sz []) (mQi G [(cI, .int)] (va_A [] sz) (fun _ : Unit => litCh i k) (fun _ => [])) 0 0 (va_A [] sz) := by
  refine mStartX (cc := cJ0_charAt_5068e) (maxL := 2) (ret := (some .char)) (by decide) rfl (Nat.le_of_ble_eq_true rfl) ?_
  intro p e s m below meth c A ls hx hb hml hr hts hown hlocks hnm hA hsz hAe hP hK hD hE hS hl
  rw [hAe]
  have hl : lv_has ls 2 [(0, .ref (sa i)), (1, .int (nI k))] := hl
  have k1 := hts (.fieldLink RJ0 9 "java/lang/String" "value" "[B") (by decide +kernel)
  refine lv_aload_n hx hb dJ0_charAt_5068e_0 rfl (lv_at hl 0 rfl) ?_
  refine mCallXL_i (As := []) hE ⟨hx, hb, hml, hown, hts⟩ (mJ0_isLatin1_aae02 l sa sv G cI s.heap.size i hi) (cwV 0 hts gJ0_charAt_5068e_J0_isLatin1_aae02 rfl rfl rfl (by decide +kernel) ⟨Nat.le_of_ble_eq_true rfl, Nat.le_of_ble_eq_true rfl⟩) hP hD hS hA hK [] rfl (by decide) (vk_recv hE.2.2.1 hi hS) [] (fun _ => rfl) rfl (fun _ => []) [] (fun _ => rfl) rfl (fun _ => rfl) [] [] (fun _ => rfl) rfl 0 rfl rfl rfl hl.1 rfl (lv_room (Nat.le_of_ble_eq_true rfl)) dJ0_charAt_5068e_1 ⟨Nat.zero_le _, Nat.zero_le _⟩ (fun _ H locs hP hD hS => ?_)
  refine lv_if_eq (tgt := 16) hx hb dJ0_charAt_5068e_4 (by decide) (fun c1 => absurd c1 (by decide)) (fun c1 => ?_)
  refine lv_aload_n hx hb dJ0_charAt_5068e_7 rfl (lv_at hl 0 rfl) ?_
  refine vk_getf hx hb (hE.2.2.1.1 i hi).2.2.1 hS hown k1 (fun _ h9 => h9) dJ0_charAt_5068e_8 ?_
  refine lv_iload_n hx hb dJ0_charAt_5068e_11 rfl (lv_at hl 1 rfl) ?_
  refine mCallXS_i (As := [.ref (sv i), .int (nI k)]) hE ⟨hx, hb, hml, hown, hts⟩ (mJ1_charAt_3b067 l sa sv G cI H.size i k hi hk) (va_cwS 2 hts gJ0_charAt_5068e_J1_charAt_3b067 rfl rfl rfl (by decide +kernel) ⟨Nat.le_of_ble_eq_true rfl, Nat.le_of_ble_eq_true rfl⟩) hP hD hS hA hK [] rfl (by decide) [] (fun _ => rfl) rfl (fun _ => []) [] (fun _ => rfl) rfl (fun _ => rfl) [] [] (fun _ => rfl) rfl 0 rfl rfl rfl hl.1 rfl (lv_room (Nat.le_of_ble_eq_true rfl)) dJ0_charAt_5068e_12 ⟨Nat.zero_le _, Nat.zero_le _⟩ (fun _ H locs hP hD hS => ?_)
  exact mEnd_z () hx hb hr (sc_nar _) hlocks hP hK hD hS rfl rfl (Nat.le_of_ble_eq_true rfl) (Nat.le_of_ble_eq_true rfl) dJ0_charAt_5068e_15

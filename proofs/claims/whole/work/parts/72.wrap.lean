set_option maxHeartbeats 4000000 in
set_option maxRecDepth 100000 in
theorem wL_teach (l : Launch) (sa sv : Nat → Nat) (G : va_G) (cI cS cJ : ClassId) {tyc : List (ClassId × FieldType)} (hty : ∀ s : State, va_K G vwCl (tyw cI cS cJ) s → va_K G vwCl tyc s) (ao : Nat) (g : Nat → Int64) (b : Nat) (p1 : Int32) (p2 : Int32) (p3 : Int32) (sz : Nat) (wc : va_W) {fs : List Value} (he : wc[0]? = some (b, .inr (8, fs))) {S : Type} {post : Int32 → S → Prop} {w1 : S → va_W} {rf mc ms rl : Nat} (hM : Met l yX8_teach wsX8_teach ({ frames := rf, cells := mc, slots := ms, locals := rl }) (mPcX sa sv G tyc [.ref b, .int p1, .int p2, .int p3] sz wc) (va_Qi (S := S) post (mB G tyc (va_A wc sz) w1) (va_A wc sz)) mc ms (va_A wc sz)) : vx_Met l yL_teach wsL_teach ({ frames := rf + 1, cells := mc, slots := ms, locals := rl + 60 }) (mPcX sa sv G (tyw cI cS cJ) [.ref b, .int p1, .int p2, .int p3, .ref ao] sz (ouW cJ ao g :: wc)) (va_Qi (S := Int32 × S) (fun k u => k = 0 ∧ post u.1 u.2) (mB G (tyw cI cS cJ) (va_A (ouW cJ ao g :: wc) sz) (fun u => ouW cJ ao (vp_updL g 0 u.1.toInt64) :: w1 u.2)) (va_A (ouW cJ ao g :: wc) sz)) noX mc ms (va_A (ouW cJ ao g :: wc) sz) := by
  refine mStartW (cc := cL_teach) (maxL := 6) (ret := (some .int)) (hh := [(0, 12, 15, 13), (0, 12, 19, 15)]) (by decide) rfl (Nat.le_of_ble_eq_true rfl) ?_
  intro p e s m below meth c A ls hx hb hml hr hts hown hlocks hA hsz hAe hP hK hD hE htab hS hl
  subst hsz
  subst hAe
  have hl : lv_has ls 6 [(0, .ref b), (1, .int p1), (2, .int p2), (3, .int p3), (4, .ref ao)] := hl
  refine lv_aload hx hb dL_teach_0 (lv_at hl 4 rfl) ?_
  refine lv_iconst (v := 0) hx hb dL_teach_2 (by decide) ?_
  refine lv_aload_n hx hb dL_teach_3 rfl (lv_at hl 0 rfl) ?_
  refine lv_iload_n hx hb dL_teach_4 rfl (lv_at hl 1 rfl) ?_
  refine lv_iload_n hx hb dL_teach_5 rfl (lv_at hl 2 rfl) ?_
  refine lv_iload_n hx hb dL_teach_6 rfl (lv_at hl 3 rfl) ?_
  refine mCallPXV_i (As := [.int p1, .int p2, .int p3]) (rest := [.int 0, .ref ao]) (wr := [ouW cJ ao g]) hE ⟨hx, hb, hml, hown, hts⟩ hM (cwV 3 hts gL_teach_X8_teach rfl rfl rfl (by decide +kernel) ⟨Nat.le_refl _, by dsimp only; omega⟩) hP hD hS hA (hty s hK) (List.perm_append_singleton _ wc).symm 0 8 rfl he rfl rfl hl.1 rfl (lv_room (Nat.le_of_ble_eq_true rfl)) dL_teach_7 ⟨Nat.le_of_eq (Nat.zero_add _), Nat.le_of_eq (Nat.zero_add _)⟩ (fun x u H locs hpo hP hD hS => ?_)
  have hP := hP.perm (List.perm_append_singleton (ouW cJ ao g) (w1 u))
  have hD := hD.perm (List.perm_append_singleton (ouW cJ ao g) (w1 u))
  refine lv_i2l (v := x.toInt64) hx hb dL_teach_10 rfl ?_
  refine va_last hx hb hK hP hD hS 0 2 rfl rfl (vp_lit (by decide +kernel)) dL_teach_11 (fun H locs hP hD hS => ?_)
  refine lv_goto (tgt := 23) hx hb dL_teach_12 (by decide) ?_
  refine lv_iconst (v := 0) hx hb dL_teach_23 (by decide) ?_
  exact vx_ret (mEndQ_i (S := Int32 × S) (x, u) hx hb hr hlocks hP hK hD hS ⟨rfl, hpo⟩ rfl (Nat.le_of_eq (Nat.zero_add _)) (Nat.le_of_eq (Nat.zero_add _)) dL_teach_24)
set_option maxHeartbeats 4000000 in
set_option maxRecDepth 100000 in
theorem vL_teach_1 (l : Launch) (sa sv : Nat → Nat) (G : va_G) (cI cS cJ : ClassId) {tyc : List (ClassId × FieldType)} (hty : ∀ s : State, va_K G vwCl (tyw cI cS cJ) s → va_K G vwCl tyc s) (ao : Nat) (g : Nat → Int64) (b : Nat) (p1 : Int32) (p2 : Int32) (p3 : Int32) (sz : Nat) (wc : va_W) {fs : List Value} (he : wc[0]? = some (b, .inr (8, fs))) {w1 : va_W} {rf mc ms rl : Nat} (hM : vx_Met l yX8_teach wsX8_teach ({ frames := rf, cells := mc, slots := ms, locals := rl }) (mPcX sa sv G tyc [.ref b, .int p1, .int p2, .int p3] sz wc) noQ (mXC G tyc (va_A wc sz) 0 w1) mc ms (va_A wc sz)) : vx_Met l yL_teach wsL_teach ({ frames := rf + 1, cells := mc, slots := ms, locals := rl + 60 }) (mPcX sa sv G (tyw cI cS cJ) [.ref b, .int p1, .int p2, .int p3, .ref ao] sz (ouW cJ ao g :: wc)) (va_Qi (S := Unit) (fun k _ => k = 1) (mB G (tyw cI cS cJ) (va_A (ouW cJ ao g :: wc) sz) (fun _ => ouW cJ ao g :: w1)) (va_A (ouW cJ ao g :: wc) sz)) noX mc ms (va_A (ouW cJ ao g :: wc) sz) := by
  refine mStartW (cc := cL_teach) (maxL := 6) (ret := (some .int)) (hh := [(0, 12, 15, 13), (0, 12, 19, 15)]) (by decide) rfl (Nat.le_of_ble_eq_true rfl) ?_
  intro p e s m below meth c A ls hx hb hml hr hts hown hlocks hA hsz hAe hP hK hD hE htab hS hl
  subst hsz
  subst hAe
  have hl : lv_has ls 6 [(0, .ref b), (1, .int p1), (2, .int p2), (3, .int p3), (4, .ref ao)] := hl
  refine lv_aload hx hb dL_teach_0 (lv_at hl 4 rfl) ?_
  refine lv_iconst (v := 0) hx hb dL_teach_2 (by decide) ?_
  refine lv_aload_n hx hb dL_teach_3 rfl (lv_at hl 0 rfl) ?_
  refine lv_iload_n hx hb dL_teach_4 rfl (lv_at hl 1 rfl) ?_
  refine lv_iload_n hx hb dL_teach_5 rfl (lv_at hl 2 rfl) ?_
  refine lv_iload_n hx hb dL_teach_6 rfl (lv_at hl 3 rfl) ?_
  refine mThrPV (E0 := 0) (As := [.int p1, .int p2, .int p3]) (rest := [.int 0, .ref ao]) (wr := [ouW cJ ao g]) hE ⟨hx, hb, hml, hown, hts⟩ hM (cwV 3 hts gL_teach_X8_teach rfl rfl rfl (by decide +kernel) ⟨Nat.le_refl _, by dsimp only; omega⟩) hP hD hS hA (hty s hK) (List.perm_append_singleton _ wc).symm 0 8 rfl he rfl rfl hl.1 rfl (lv_room (Nat.le_of_ble_eq_true rfl)) dL_teach_7 ⟨Nat.le_of_eq (Nat.zero_add _), Nat.le_of_eq (Nat.zero_add _)⟩ (fun ce q9 H locs hP hD hS hce hcv hcl => ?_)
  have hP := hP.perm (List.perm_append_singleton (ouW cJ ao g) w1)
  have hD := hD.perm (List.perm_append_singleton (ouW cJ ao g) w1)
  refine vx_catch (own := RL) (name := exN 0) (E := exN 0) hown [] (⟨0, 12, 15, 13⟩ : ExceptionTableEntry) [(⟨0, 12, 19, 15⟩ : ExceptionTableEntry)] htab (fun z hz => absurd hz List.not_mem_nil) rfl (by decide) (hts (.classLink RL 13 "java/lang/IndexOutOfBoundsException") (by decide +kernel)) (hE.cast (by decide)) hce hcv hcl ?_
  refine lv_astore hx hb dL_teach_15 hl (by decide) rfl (fun ls hl => ?_)
  refine lv_iconst (v := 1) hx hb dL_teach_17 (by decide) ?_
  exact vx_ret (mEndQ_i (S := Unit) () hx hb hr hlocks hP hK hD hS rfl rfl (Nat.le_of_eq (Nat.zero_add _)) (Nat.le_of_eq (Nat.zero_add _)) dL_teach_18)
set_option maxHeartbeats 4000000 in
set_option maxRecDepth 100000 in
theorem vL_teach_2 (l : Launch) (sa sv : Nat → Nat) (G : va_G) (cI cS cJ : ClassId) {tyc : List (ClassId × FieldType)} (hty : ∀ s : State, va_K G vwCl (tyw cI cS cJ) s → va_K G vwCl tyc s) (ao : Nat) (g : Nat → Int64) (b : Nat) (p1 : Int32) (p2 : Int32) (p3 : Int32) (sz : Nat) (wc : va_W) {fs : List Value} (he : wc[0]? = some (b, .inr (8, fs))) {w1 : va_W} {rf mc ms rl : Nat} (hM : vx_Met l yX8_teach wsX8_teach ({ frames := rf, cells := mc, slots := ms, locals := rl }) (mPcX sa sv G tyc [.ref b, .int p1, .int p2, .int p3] sz wc) noQ (mXC G tyc (va_A wc sz) 1 w1) mc ms (va_A wc sz)) : vx_Met l yL_teach wsL_teach ({ frames := rf + 1, cells := mc, slots := ms, locals := rl + 60 }) (mPcX sa sv G (tyw cI cS cJ) [.ref b, .int p1, .int p2, .int p3, .ref ao] sz (ouW cJ ao g :: wc)) (va_Qi (S := Unit) (fun k _ => k = 2) (mB G (tyw cI cS cJ) (va_A (ouW cJ ao g :: wc) sz) (fun _ => ouW cJ ao g :: w1)) (va_A (ouW cJ ao g :: wc) sz)) noX mc ms (va_A (ouW cJ ao g :: wc) sz) := by
  refine mStartW (cc := cL_teach) (maxL := 6) (ret := (some .int)) (hh := [(0, 12, 15, 13), (0, 12, 19, 15)]) (by decide) rfl (Nat.le_of_ble_eq_true rfl) ?_
  intro p e s m below meth c A ls hx hb hml hr hts hown hlocks hA hsz hAe hP hK hD hE htab hS hl
  subst hsz
  subst hAe
  have hl : lv_has ls 6 [(0, .ref b), (1, .int p1), (2, .int p2), (3, .int p3), (4, .ref ao)] := hl
  refine lv_aload hx hb dL_teach_0 (lv_at hl 4 rfl) ?_
  refine lv_iconst (v := 0) hx hb dL_teach_2 (by decide) ?_
  refine lv_aload_n hx hb dL_teach_3 rfl (lv_at hl 0 rfl) ?_
  refine lv_iload_n hx hb dL_teach_4 rfl (lv_at hl 1 rfl) ?_
  refine lv_iload_n hx hb dL_teach_5 rfl (lv_at hl 2 rfl) ?_
  refine lv_iload_n hx hb dL_teach_6 rfl (lv_at hl 3 rfl) ?_
  refine mThrPV (E0 := 1) (As := [.int p1, .int p2, .int p3]) (rest := [.int 0, .ref ao]) (wr := [ouW cJ ao g]) hE ⟨hx, hb, hml, hown, hts⟩ hM (cwV 3 hts gL_teach_X8_teach rfl rfl rfl (by decide +kernel) ⟨Nat.le_refl _, by dsimp only; omega⟩) hP hD hS hA (hty s hK) (List.perm_append_singleton _ wc).symm 0 8 rfl he rfl rfl hl.1 rfl (lv_room (Nat.le_of_ble_eq_true rfl)) dL_teach_7 ⟨Nat.le_of_eq (Nat.zero_add _), Nat.le_of_eq (Nat.zero_add _)⟩ (fun ce q9 H locs hP hD hS hce hcv hcl => ?_)
  have hP := hP.perm (List.perm_append_singleton (ouW cJ ao g) w1)
  have hD := hD.perm (List.perm_append_singleton (ouW cJ ao g) w1)
  refine vx_catch (own := RL) (name := exN 1) (E := exN 1) hown [(⟨0, 12, 15, 13⟩ : ExceptionTableEntry)] (⟨0, 12, 19, 15⟩ : ExceptionTableEntry) [] htab (fun z hz => by obtain rfl := List.mem_singleton.mp hz; exact Or.inr ⟨by decide, "java/lang/IndexOutOfBoundsException", hts (.classLink RL 13 "java/lang/IndexOutOfBoundsException") (by decide +kernel), hE.nc10⟩) rfl (by decide) (hts (.classLink RL 15 "java/lang/IllegalArgumentException") (by decide +kernel)) (hE.cast (by decide)) hce hcv hcl ?_
  refine lv_astore hx hb dL_teach_19 hl (by decide) rfl (fun ls hl => ?_)
  refine lv_iconst (v := 2) hx hb dL_teach_21 (by decide) ?_
  exact vx_ret (mEndQ_i (S := Unit) () hx hb hr hlocks hP hK hD hS rfl rfl (Nat.le_of_eq (Nat.zero_add _)) (Nat.le_of_eq (Nat.zero_add _)) dL_teach_22)
set_option maxHeartbeats 4000000 in
set_option maxRecDepth 100000 in
theorem wL_ear (l : Launch) (sa sv : Nat → Nat) (G : va_G) (cI cS cJ : ClassId) {tyc : List (ClassId × FieldType)} (hty : ∀ s : State, va_K G vwCl (tyw cI cS cJ) s → va_K G vwCl tyc s) (ao : Nat) (g : Nat → Int64) (b : Nat) (p1 : Int32) (p2 : Int32) (sz : Nat) (wc : va_W) {fs : List Value} (he : wc[0]? = some (b, .inr (8, fs))) {S : Type} {post : Int32 → S → Prop} {w1 : S → va_W} {rf mc ms rl : Nat} (hM : Met l yX8_ear wsX8_ear ({ frames := rf, cells := mc, slots := ms, locals := rl }) (mPcX sa sv G tyc [.ref b, .int p1, .int p2] sz wc) (va_Qi (S := S) post (mB G tyc (va_A wc sz) w1) (va_A wc sz)) mc ms (va_A wc sz)) : vx_Met l yL_ear wsL_ear ({ frames := rf + 1, cells := mc, slots := ms, locals := rl + 60 }) (mPcX sa sv G (tyw cI cS cJ) [.ref b, .int p1, .int p2, .ref ao] sz (ouW cJ ao g :: wc)) (va_Qi (S := Int32 × S) (fun k u => k = 0 ∧ post u.1 u.2) (mB G (tyw cI cS cJ) (va_A (ouW cJ ao g :: wc) sz) (fun u => ouW cJ ao (vp_updL g 0 u.1.toInt64) :: w1 u.2)) (va_A (ouW cJ ao g :: wc) sz)) noX mc ms (va_A (ouW cJ ao g :: wc) sz) := by
  refine mStartW (cc := cL_ear) (maxL := 5) (ret := (some .int)) (hh := [(0, 10, 13, 13), (0, 10, 17, 15)]) (by decide) rfl (Nat.le_of_ble_eq_true rfl) ?_
  intro p e s m below meth c A ls hx hb hml hr hts hown hlocks hA hsz hAe hP hK hD hE htab hS hl
  subst hsz
  subst hAe
  have hl : lv_has ls 5 [(0, .ref b), (1, .int p1), (2, .int p2), (3, .ref ao)] := hl
  refine lv_aload_n hx hb dL_ear_0 rfl (lv_at hl 3 rfl) ?_
  refine lv_iconst (v := 0) hx hb dL_ear_1 (by decide) ?_
  refine lv_aload_n hx hb dL_ear_2 rfl (lv_at hl 0 rfl) ?_
  refine lv_iload_n hx hb dL_ear_3 rfl (lv_at hl 1 rfl) ?_
  refine lv_iload_n hx hb dL_ear_4 rfl (lv_at hl 2 rfl) ?_
  refine mCallPXV_i (As := [.int p1, .int p2]) (rest := [.int 0, .ref ao]) (wr := [ouW cJ ao g]) hE ⟨hx, hb, hml, hown, hts⟩ hM (cwV 2 hts gL_ear_X8_ear rfl rfl rfl (by decide +kernel) ⟨Nat.le_refl _, by dsimp only; omega⟩) hP hD hS hA (hty s hK) (List.perm_append_singleton _ wc).symm 0 8 rfl he rfl rfl hl.1 rfl (lv_room (Nat.le_of_ble_eq_true rfl)) dL_ear_5 ⟨Nat.le_of_eq (Nat.zero_add _), Nat.le_of_eq (Nat.zero_add _)⟩ (fun x u H locs hpo hP hD hS => ?_)
  have hP := hP.perm (List.perm_append_singleton (ouW cJ ao g) (w1 u))
  have hD := hD.perm (List.perm_append_singleton (ouW cJ ao g) (w1 u))
  refine lv_i2l (v := x.toInt64) hx hb dL_ear_8 rfl ?_
  refine va_last hx hb hK hP hD hS 0 2 rfl rfl (vp_lit (by decide +kernel)) dL_ear_9 (fun H locs hP hD hS => ?_)
  refine lv_goto (tgt := 21) hx hb dL_ear_10 (by decide) ?_
  refine lv_iconst (v := 0) hx hb dL_ear_21 (by decide) ?_
  exact vx_ret (mEndQ_i (S := Int32 × S) (x, u) hx hb hr hlocks hP hK hD hS ⟨rfl, hpo⟩ rfl (Nat.le_of_eq (Nat.zero_add _)) (Nat.le_of_eq (Nat.zero_add _)) dL_ear_22)
set_option maxHeartbeats 4000000 in
set_option maxRecDepth 100000 in
theorem vL_ear_1 (l : Launch) (sa sv : Nat → Nat) (G : va_G) (cI cS cJ : ClassId) {tyc : List (ClassId × FieldType)} (hty : ∀ s : State, va_K G vwCl (tyw cI cS cJ) s → va_K G vwCl tyc s) (ao : Nat) (g : Nat → Int64) (b : Nat) (p1 : Int32) (p2 : Int32) (sz : Nat) (wc : va_W) {fs : List Value} (he : wc[0]? = some (b, .inr (8, fs))) {w1 : va_W} {rf mc ms rl : Nat} (hM : vx_Met l yX8_ear wsX8_ear ({ frames := rf, cells := mc, slots := ms, locals := rl }) (mPcX sa sv G tyc [.ref b, .int p1, .int p2] sz wc) noQ (mXC G tyc (va_A wc sz) 0 w1) mc ms (va_A wc sz)) : vx_Met l yL_ear wsL_ear ({ frames := rf + 1, cells := mc, slots := ms, locals := rl + 60 }) (mPcX sa sv G (tyw cI cS cJ) [.ref b, .int p1, .int p2, .ref ao] sz (ouW cJ ao g :: wc)) (va_Qi (S := Unit) (fun k _ => k = 1) (mB G (tyw cI cS cJ) (va_A (ouW cJ ao g :: wc) sz) (fun _ => ouW cJ ao g :: w1)) (va_A (ouW cJ ao g :: wc) sz)) noX mc ms (va_A (ouW cJ ao g :: wc) sz) := by
  refine mStartW (cc := cL_ear) (maxL := 5) (ret := (some .int)) (hh := [(0, 10, 13, 13), (0, 10, 17, 15)]) (by decide) rfl (Nat.le_of_ble_eq_true rfl) ?_
  intro p e s m below meth c A ls hx hb hml hr hts hown hlocks hA hsz hAe hP hK hD hE htab hS hl
  subst hsz
  subst hAe
  have hl : lv_has ls 5 [(0, .ref b), (1, .int p1), (2, .int p2), (3, .ref ao)] := hl
  refine lv_aload_n hx hb dL_ear_0 rfl (lv_at hl 3 rfl) ?_
  refine lv_iconst (v := 0) hx hb dL_ear_1 (by decide) ?_
  refine lv_aload_n hx hb dL_ear_2 rfl (lv_at hl 0 rfl) ?_
  refine lv_iload_n hx hb dL_ear_3 rfl (lv_at hl 1 rfl) ?_
  refine lv_iload_n hx hb dL_ear_4 rfl (lv_at hl 2 rfl) ?_
  refine mThrPV (E0 := 0) (As := [.int p1, .int p2]) (rest := [.int 0, .ref ao]) (wr := [ouW cJ ao g]) hE ⟨hx, hb, hml, hown, hts⟩ hM (cwV 2 hts gL_ear_X8_ear rfl rfl rfl (by decide +kernel) ⟨Nat.le_refl _, by dsimp only; omega⟩) hP hD hS hA (hty s hK) (List.perm_append_singleton _ wc).symm 0 8 rfl he rfl rfl hl.1 rfl (lv_room (Nat.le_of_ble_eq_true rfl)) dL_ear_5 ⟨Nat.le_of_eq (Nat.zero_add _), Nat.le_of_eq (Nat.zero_add _)⟩ (fun ce q9 H locs hP hD hS hce hcv hcl => ?_)
  have hP := hP.perm (List.perm_append_singleton (ouW cJ ao g) w1)
  have hD := hD.perm (List.perm_append_singleton (ouW cJ ao g) w1)
  refine vx_catch (own := RL) (name := exN 0) (E := exN 0) hown [] (⟨0, 10, 13, 13⟩ : ExceptionTableEntry) [(⟨0, 10, 17, 15⟩ : ExceptionTableEntry)] htab (fun z hz => absurd hz List.not_mem_nil) rfl (by decide) (hts (.classLink RL 13 "java/lang/IndexOutOfBoundsException") (by decide +kernel)) (hE.cast (by decide)) hce hcv hcl ?_
  refine lv_astore hx hb dL_ear_13 hl (by decide) rfl (fun ls hl => ?_)
  refine lv_iconst (v := 1) hx hb dL_ear_15 (by decide) ?_
  exact vx_ret (mEndQ_i (S := Unit) () hx hb hr hlocks hP hK hD hS rfl rfl (Nat.le_of_eq (Nat.zero_add _)) (Nat.le_of_eq (Nat.zero_add _)) dL_ear_16)
set_option maxHeartbeats 4000000 in
set_option maxRecDepth 100000 in
theorem vL_ear_2 (l : Launch) (sa sv : Nat → Nat) (G : va_G) (cI cS cJ : ClassId) {tyc : List (ClassId × FieldType)} (hty : ∀ s : State, va_K G vwCl (tyw cI cS cJ) s → va_K G vwCl tyc s) (ao : Nat) (g : Nat → Int64) (b : Nat) (p1 : Int32) (p2 : Int32) (sz : Nat) (wc : va_W) {fs : List Value} (he : wc[0]? = some (b, .inr (8, fs))) {w1 : va_W} {rf mc ms rl : Nat} (hM : vx_Met l yX8_ear wsX8_ear ({ frames := rf, cells := mc, slots := ms, locals := rl }) (mPcX sa sv G tyc [.ref b, .int p1, .int p2] sz wc) noQ (mXC G tyc (va_A wc sz) 1 w1) mc ms (va_A wc sz)) : vx_Met l yL_ear wsL_ear ({ frames := rf + 1, cells := mc, slots := ms, locals := rl + 60 }) (mPcX sa sv G (tyw cI cS cJ) [.ref b, .int p1, .int p2, .ref ao] sz (ouW cJ ao g :: wc)) (va_Qi (S := Unit) (fun k _ => k = 2) (mB G (tyw cI cS cJ) (va_A (ouW cJ ao g :: wc) sz) (fun _ => ouW cJ ao g :: w1)) (va_A (ouW cJ ao g :: wc) sz)) noX mc ms (va_A (ouW cJ ao g :: wc) sz) := by
  refine mStartW (cc := cL_ear) (maxL := 5) (ret := (some .int)) (hh := [(0, 10, 13, 13), (0, 10, 17, 15)]) (by decide) rfl (Nat.le_of_ble_eq_true rfl) ?_
  intro p e s m below meth c A ls hx hb hml hr hts hown hlocks hA hsz hAe hP hK hD hE htab hS hl
  subst hsz
  subst hAe
  have hl : lv_has ls 5 [(0, .ref b), (1, .int p1), (2, .int p2), (3, .ref ao)] := hl
  refine lv_aload_n hx hb dL_ear_0 rfl (lv_at hl 3 rfl) ?_
  refine lv_iconst (v := 0) hx hb dL_ear_1 (by decide) ?_
  refine lv_aload_n hx hb dL_ear_2 rfl (lv_at hl 0 rfl) ?_
  refine lv_iload_n hx hb dL_ear_3 rfl (lv_at hl 1 rfl) ?_
  refine lv_iload_n hx hb dL_ear_4 rfl (lv_at hl 2 rfl) ?_
  refine mThrPV (E0 := 1) (As := [.int p1, .int p2]) (rest := [.int 0, .ref ao]) (wr := [ouW cJ ao g]) hE ⟨hx, hb, hml, hown, hts⟩ hM (cwV 2 hts gL_ear_X8_ear rfl rfl rfl (by decide +kernel) ⟨Nat.le_refl _, by dsimp only; omega⟩) hP hD hS hA (hty s hK) (List.perm_append_singleton _ wc).symm 0 8 rfl he rfl rfl hl.1 rfl (lv_room (Nat.le_of_ble_eq_true rfl)) dL_ear_5 ⟨Nat.le_of_eq (Nat.zero_add _), Nat.le_of_eq (Nat.zero_add _)⟩ (fun ce q9 H locs hP hD hS hce hcv hcl => ?_)
  have hP := hP.perm (List.perm_append_singleton (ouW cJ ao g) w1)
  have hD := hD.perm (List.perm_append_singleton (ouW cJ ao g) w1)
  refine vx_catch (own := RL) (name := exN 1) (E := exN 1) hown [(⟨0, 10, 13, 13⟩ : ExceptionTableEntry)] (⟨0, 10, 17, 15⟩ : ExceptionTableEntry) [] htab (fun z hz => by obtain rfl := List.mem_singleton.mp hz; exact Or.inr ⟨by decide, "java/lang/IndexOutOfBoundsException", hts (.classLink RL 13 "java/lang/IndexOutOfBoundsException") (by decide +kernel), hE.nc10⟩) rfl (by decide) (hts (.classLink RL 15 "java/lang/IllegalArgumentException") (by decide +kernel)) (hE.cast (by decide)) hce hcv hcl ?_
  refine lv_astore hx hb dL_ear_17 hl (by decide) rfl (fun ls hl => ?_)
  refine lv_iconst (v := 2) hx hb dL_ear_19 (by decide) ?_
  exact vx_ret (mEndQ_i (S := Unit) () hx hb hr hlocks hP hK hD hS rfl rfl (Nat.le_of_eq (Nat.zero_add _)) (Nat.le_of_eq (Nat.zero_add _)) dL_ear_20)
set_option maxHeartbeats 4000000 in
set_option maxRecDepth 100000 in
theorem wL_fee (l : Launch) (sa sv : Nat → Nat) (G : va_G) (cI cS cJ : ClassId) {tyc : List (ClassId × FieldType)} (hty : ∀ s : State, va_K G vwCl (tyw cI cS cJ) s → va_K G vwCl tyc s) (ao : Nat) (g : Nat → Int64) (b : Nat) (p1 : Int32) (p2 : Int32) (sz : Nat) (wc : va_W) {fs : List Value} (he : wc[0]? = some (b, .inr (8, fs))) {S : Type} {post : Int32 → S → Prop} {w1 : S → va_W} {rf mc ms rl : Nat} (hM : Met l yX8_fee wsX8_fee ({ frames := rf, cells := mc, slots := ms, locals := rl }) (mPcX sa sv G tyc [.ref b, .int p1, .int p2] sz wc) (va_Qi (S := S) post (mB G tyc (va_A wc sz) w1) (va_A wc sz)) mc ms (va_A wc sz)) : vx_Met l yL_fee wsL_fee ({ frames := rf + 1, cells := mc, slots := ms, locals := rl + 60 }) (mPcX sa sv G (tyw cI cS cJ) [.ref b, .int p1, .int p2, .ref ao] sz (ouW cJ ao g :: wc)) (va_Qi (S := Int32 × S) (fun k u => k = 0 ∧ post u.1 u.2) (mB G (tyw cI cS cJ) (va_A (ouW cJ ao g :: wc) sz) (fun u => ouW cJ ao (vp_updL g 0 u.1.toInt64) :: w1 u.2)) (va_A (ouW cJ ao g :: wc) sz)) noX mc ms (va_A (ouW cJ ao g :: wc) sz) := by
  refine mStartW (cc := cL_fee) (maxL := 5) (ret := (some .int)) (hh := [(0, 10, 13, 13), (0, 10, 17, 15)]) (by decide) rfl (Nat.le_of_ble_eq_true rfl) ?_
  intro p e s m below meth c A ls hx hb hml hr hts hown hlocks hA hsz hAe hP hK hD hE htab hS hl
  subst hsz
  subst hAe
  have hl : lv_has ls 5 [(0, .ref b), (1, .int p1), (2, .int p2), (3, .ref ao)] := hl
  refine lv_aload_n hx hb dL_fee_0 rfl (lv_at hl 3 rfl) ?_
  refine lv_iconst (v := 0) hx hb dL_fee_1 (by decide) ?_
  refine lv_aload_n hx hb dL_fee_2 rfl (lv_at hl 0 rfl) ?_
  refine lv_iload_n hx hb dL_fee_3 rfl (lv_at hl 1 rfl) ?_
  refine lv_iload_n hx hb dL_fee_4 rfl (lv_at hl 2 rfl) ?_
  refine mCallPXV_i (As := [.int p1, .int p2]) (rest := [.int 0, .ref ao]) (wr := [ouW cJ ao g]) hE ⟨hx, hb, hml, hown, hts⟩ hM (cwV 2 hts gL_fee_X8_fee rfl rfl rfl (by decide +kernel) ⟨Nat.le_refl _, by dsimp only; omega⟩) hP hD hS hA (hty s hK) (List.perm_append_singleton _ wc).symm 0 8 rfl he rfl rfl hl.1 rfl (lv_room (Nat.le_of_ble_eq_true rfl)) dL_fee_5 ⟨Nat.le_of_eq (Nat.zero_add _), Nat.le_of_eq (Nat.zero_add _)⟩ (fun x u H locs hpo hP hD hS => ?_)
  have hP := hP.perm (List.perm_append_singleton (ouW cJ ao g) (w1 u))
  have hD := hD.perm (List.perm_append_singleton (ouW cJ ao g) (w1 u))
  refine lv_i2l (v := x.toInt64) hx hb dL_fee_8 rfl ?_
  refine va_last hx hb hK hP hD hS 0 2 rfl rfl (vp_lit (by decide +kernel)) dL_fee_9 (fun H locs hP hD hS => ?_)
  refine lv_goto (tgt := 21) hx hb dL_fee_10 (by decide) ?_
  refine lv_iconst (v := 0) hx hb dL_fee_21 (by decide) ?_
  exact vx_ret (mEndQ_i (S := Int32 × S) (x, u) hx hb hr hlocks hP hK hD hS ⟨rfl, hpo⟩ rfl (Nat.le_of_eq (Nat.zero_add _)) (Nat.le_of_eq (Nat.zero_add _)) dL_fee_22)
set_option maxHeartbeats 4000000 in
set_option maxRecDepth 100000 in
theorem vL_fee_1 (l : Launch) (sa sv : Nat → Nat) (G : va_G) (cI cS cJ : ClassId) {tyc : List (ClassId × FieldType)} (hty : ∀ s : State, va_K G vwCl (tyw cI cS cJ) s → va_K G vwCl tyc s) (ao : Nat) (g : Nat → Int64) (b : Nat) (p1 : Int32) (p2 : Int32) (sz : Nat) (wc : va_W) {fs : List Value} (he : wc[0]? = some (b, .inr (8, fs))) {w1 : va_W} {rf mc ms rl : Nat} (hM : vx_Met l yX8_fee wsX8_fee ({ frames := rf, cells := mc, slots := ms, locals := rl }) (mPcX sa sv G tyc [.ref b, .int p1, .int p2] sz wc) noQ (mXC G tyc (va_A wc sz) 0 w1) mc ms (va_A wc sz)) : vx_Met l yL_fee wsL_fee ({ frames := rf + 1, cells := mc, slots := ms, locals := rl + 60 }) (mPcX sa sv G (tyw cI cS cJ) [.ref b, .int p1, .int p2, .ref ao] sz (ouW cJ ao g :: wc)) (va_Qi (S := Unit) (fun k _ => k = 1) (mB G (tyw cI cS cJ) (va_A (ouW cJ ao g :: wc) sz) (fun _ => ouW cJ ao g :: w1)) (va_A (ouW cJ ao g :: wc) sz)) noX mc ms (va_A (ouW cJ ao g :: wc) sz) := by
  refine mStartW (cc := cL_fee) (maxL := 5) (ret := (some .int)) (hh := [(0, 10, 13, 13), (0, 10, 17, 15)]) (by decide) rfl (Nat.le_of_ble_eq_true rfl) ?_
  intro p e s m below meth c A ls hx hb hml hr hts hown hlocks hA hsz hAe hP hK hD hE htab hS hl
  subst hsz
  subst hAe
  have hl : lv_has ls 5 [(0, .ref b), (1, .int p1), (2, .int p2), (3, .ref ao)] := hl
  refine lv_aload_n hx hb dL_fee_0 rfl (lv_at hl 3 rfl) ?_
  refine lv_iconst (v := 0) hx hb dL_fee_1 (by decide) ?_
  refine lv_aload_n hx hb dL_fee_2 rfl (lv_at hl 0 rfl) ?_
  refine lv_iload_n hx hb dL_fee_3 rfl (lv_at hl 1 rfl) ?_
  refine lv_iload_n hx hb dL_fee_4 rfl (lv_at hl 2 rfl) ?_
  refine mThrPV (E0 := 0) (As := [.int p1, .int p2]) (rest := [.int 0, .ref ao]) (wr := [ouW cJ ao g]) hE ⟨hx, hb, hml, hown, hts⟩ hM (cwV 2 hts gL_fee_X8_fee rfl rfl rfl (by decide +kernel) ⟨Nat.le_refl _, by dsimp only; omega⟩) hP hD hS hA (hty s hK) (List.perm_append_singleton _ wc).symm 0 8 rfl he rfl rfl hl.1 rfl (lv_room (Nat.le_of_ble_eq_true rfl)) dL_fee_5 ⟨Nat.le_of_eq (Nat.zero_add _), Nat.le_of_eq (Nat.zero_add _)⟩ (fun ce q9 H locs hP hD hS hce hcv hcl => ?_)
  have hP := hP.perm (List.perm_append_singleton (ouW cJ ao g) w1)
  have hD := hD.perm (List.perm_append_singleton (ouW cJ ao g) w1)
  refine vx_catch (own := RL) (name := exN 0) (E := exN 0) hown [] (⟨0, 10, 13, 13⟩ : ExceptionTableEntry) [(⟨0, 10, 17, 15⟩ : ExceptionTableEntry)] htab (fun z hz => absurd hz List.not_mem_nil) rfl (by decide) (hts (.classLink RL 13 "java/lang/IndexOutOfBoundsException") (by decide +kernel)) (hE.cast (by decide)) hce hcv hcl ?_
  refine lv_astore hx hb dL_fee_13 hl (by decide) rfl (fun ls hl => ?_)
  refine lv_iconst (v := 1) hx hb dL_fee_15 (by decide) ?_
  exact vx_ret (mEndQ_i (S := Unit) () hx hb hr hlocks hP hK hD hS rfl rfl (Nat.le_of_eq (Nat.zero_add _)) (Nat.le_of_eq (Nat.zero_add _)) dL_fee_16)
set_option maxHeartbeats 4000000 in
set_option maxRecDepth 100000 in
theorem vL_fee_2 (l : Launch) (sa sv : Nat → Nat) (G : va_G) (cI cS cJ : ClassId) {tyc : List (ClassId × FieldType)} (hty : ∀ s : State, va_K G vwCl (tyw cI cS cJ) s → va_K G vwCl tyc s) (ao : Nat) (g : Nat → Int64) (b : Nat) (p1 : Int32) (p2 : Int32) (sz : Nat) (wc : va_W) {fs : List Value} (he : wc[0]? = some (b, .inr (8, fs))) {w1 : va_W} {rf mc ms rl : Nat} (hM : vx_Met l yX8_fee wsX8_fee ({ frames := rf, cells := mc, slots := ms, locals := rl }) (mPcX sa sv G tyc [.ref b, .int p1, .int p2] sz wc) noQ (mXC G tyc (va_A wc sz) 1 w1) mc ms (va_A wc sz)) : vx_Met l yL_fee wsL_fee ({ frames := rf + 1, cells := mc, slots := ms, locals := rl + 60 }) (mPcX sa sv G (tyw cI cS cJ) [.ref b, .int p1, .int p2, .ref ao] sz (ouW cJ ao g :: wc)) (va_Qi (S := Unit) (fun k _ => k = 2) (mB G (tyw cI cS cJ) (va_A (ouW cJ ao g :: wc) sz) (fun _ => ouW cJ ao g :: w1)) (va_A (ouW cJ ao g :: wc) sz)) noX mc ms (va_A (ouW cJ ao g :: wc) sz) := by
  refine mStartW (cc := cL_fee) (maxL := 5) (ret := (some .int)) (hh := [(0, 10, 13, 13), (0, 10, 17, 15)]) (by decide) rfl (Nat.le_of_ble_eq_true rfl) ?_
  intro p e s m below meth c A ls hx hb hml hr hts hown hlocks hA hsz hAe hP hK hD hE htab hS hl
  subst hsz
  subst hAe
  have hl : lv_has ls 5 [(0, .ref b), (1, .int p1), (2, .int p2), (3, .ref ao)] := hl
  refine lv_aload_n hx hb dL_fee_0 rfl (lv_at hl 3 rfl) ?_
  refine lv_iconst (v := 0) hx hb dL_fee_1 (by decide) ?_
  refine lv_aload_n hx hb dL_fee_2 rfl (lv_at hl 0 rfl) ?_
  refine lv_iload_n hx hb dL_fee_3 rfl (lv_at hl 1 rfl) ?_
  refine lv_iload_n hx hb dL_fee_4 rfl (lv_at hl 2 rfl) ?_
  refine mThrPV (E0 := 1) (As := [.int p1, .int p2]) (rest := [.int 0, .ref ao]) (wr := [ouW cJ ao g]) hE ⟨hx, hb, hml, hown, hts⟩ hM (cwV 2 hts gL_fee_X8_fee rfl rfl rfl (by decide +kernel) ⟨Nat.le_refl _, by dsimp only; omega⟩) hP hD hS hA (hty s hK) (List.perm_append_singleton _ wc).symm 0 8 rfl he rfl rfl hl.1 rfl (lv_room (Nat.le_of_ble_eq_true rfl)) dL_fee_5 ⟨Nat.le_of_eq (Nat.zero_add _), Nat.le_of_eq (Nat.zero_add _)⟩ (fun ce q9 H locs hP hD hS hce hcv hcl => ?_)
  have hP := hP.perm (List.perm_append_singleton (ouW cJ ao g) w1)
  have hD := hD.perm (List.perm_append_singleton (ouW cJ ao g) w1)
  refine vx_catch (own := RL) (name := exN 1) (E := exN 1) hown [(⟨0, 10, 13, 13⟩ : ExceptionTableEntry)] (⟨0, 10, 17, 15⟩ : ExceptionTableEntry) [] htab (fun z hz => by obtain rfl := List.mem_singleton.mp hz; exact Or.inr ⟨by decide, "java/lang/IndexOutOfBoundsException", hts (.classLink RL 13 "java/lang/IndexOutOfBoundsException") (by decide +kernel), hE.nc10⟩) rfl (by decide) (hts (.classLink RL 15 "java/lang/IllegalArgumentException") (by decide +kernel)) (hE.cast (by decide)) hce hcv hcl ?_
  refine lv_astore hx hb dL_fee_17 hl (by decide) rfl (fun ls hl => ?_)
  refine lv_iconst (v := 2) hx hb dL_fee_19 (by decide) ?_
  exact vx_ret (mEndQ_i (S := Unit) () hx hb hr hlocks hP hK hD hS rfl rfl (Nat.le_of_eq (Nat.zero_add _)) (Nat.le_of_eq (Nat.zero_add _)) dL_fee_20)
set_option maxHeartbeats 4000000 in
set_option maxRecDepth 100000 in
theorem wL_go (l : Launch) (sa sv : Nat → Nat) (G : va_G) (cI cS cJ : ClassId) {tyc : List (ClassId × FieldType)} (hty : ∀ s : State, va_K G vwCl (tyw cI cS cJ) s → va_K G vwCl tyc s) (ao : Nat) (g : Nat → Int64) (b : Nat) (sz : Nat) (wc : va_W) {fs : List Value} (he : wc[0]? = some (b, .inr (8, fs))) {S : Type} {post : Int32 → S → Prop} {w1 : S → va_W} {rf mc ms rl : Nat} (hM : Met l yX8_go wsX8_go ({ frames := rf, cells := mc, slots := ms, locals := rl }) (mPcX sa sv G tyc [.ref b] sz wc) (va_Qi (S := S) post (mB G tyc (va_A wc sz) w1) (va_A wc sz)) mc ms (va_A wc sz)) : vx_Met l yL_go wsL_go ({ frames := rf + 1, cells := mc, slots := ms, locals := rl + 60 }) (mPcX sa sv G (tyw cI cS cJ) [.ref b, .ref ao] sz (ouW cJ ao g :: wc)) (va_Qi (S := Int32 × S) (fun k u => k = 0 ∧ post u.1 u.2) (mB G (tyw cI cS cJ) (va_A (ouW cJ ao g :: wc) sz) (fun u => ouW cJ ao (vp_updL g 0 u.1.toInt64) :: w1 u.2)) (va_A (ouW cJ ao g :: wc) sz)) noX mc ms (va_A (ouW cJ ao g :: wc) sz) := by
  refine mStartW (cc := cL_go) (maxL := 3) (ret := (some .int)) (hh := [(0, 8, 11, 28)]) (by decide) rfl (Nat.le_of_ble_eq_true rfl) ?_
  intro p e s m below meth c A ls hx hb hml hr hts hown hlocks hA hsz hAe hP hK hD hE htab hS hl
  subst hsz
  subst hAe
  have hl : lv_has ls 3 [(0, .ref b), (1, .ref ao)] := hl
  refine lv_aload_n hx hb dL_go_0 rfl (lv_at hl 1 rfl) ?_
  refine lv_iconst (v := 0) hx hb dL_go_1 (by decide) ?_
  refine lv_aload_n hx hb dL_go_2 rfl (lv_at hl 0 rfl) ?_
  refine mCallPXV_i (As := []) (rest := [.int 0, .ref ao]) (wr := [ouW cJ ao g]) hE ⟨hx, hb, hml, hown, hts⟩ hM (cwV 0 hts gL_go_X8_go rfl rfl rfl (by decide +kernel) ⟨Nat.le_refl _, by dsimp only; omega⟩) hP hD hS hA (hty s hK) (List.perm_append_singleton _ wc).symm 0 8 rfl he rfl rfl hl.1 rfl (lv_room (Nat.le_of_ble_eq_true rfl)) dL_go_3 ⟨Nat.le_of_eq (Nat.zero_add _), Nat.le_of_eq (Nat.zero_add _)⟩ (fun x u H locs hpo hP hD hS => ?_)
  have hP := hP.perm (List.perm_append_singleton (ouW cJ ao g) (w1 u))
  have hD := hD.perm (List.perm_append_singleton (ouW cJ ao g) (w1 u))
  refine lv_i2l (v := x.toInt64) hx hb dL_go_6 rfl ?_
  refine va_last hx hb hK hP hD hS 0 2 rfl rfl (vp_lit (by decide +kernel)) dL_go_7 (fun H locs hP hD hS => ?_)
  refine lv_goto (tgt := 14) hx hb dL_go_8 (by decide) ?_
  refine lv_iconst (v := 0) hx hb dL_go_14 (by decide) ?_
  exact vx_ret (mEndQ_i (S := Int32 × S) (x, u) hx hb hr hlocks hP hK hD hS ⟨rfl, hpo⟩ rfl (Nat.le_of_eq (Nat.zero_add _)) (Nat.le_of_eq (Nat.zero_add _)) dL_go_15)
set_option maxHeartbeats 4000000 in
set_option maxRecDepth 100000 in
theorem vL_go_1 (l : Launch) (sa sv : Nat → Nat) (G : va_G) (cI cS cJ : ClassId) {tyc : List (ClassId × FieldType)} (hty : ∀ s : State, va_K G vwCl (tyw cI cS cJ) s → va_K G vwCl tyc s) (ao : Nat) (g : Nat → Int64) (b : Nat) (sz : Nat) (wc : va_W) {fs : List Value} (he : wc[0]? = some (b, .inr (8, fs))) {w1 : va_W} {rf mc ms rl : Nat} (hM : vx_Met l yX8_go wsX8_go ({ frames := rf, cells := mc, slots := ms, locals := rl }) (mPcX sa sv G tyc [.ref b] sz wc) noQ (mXC G tyc (va_A wc sz) 2 w1) mc ms (va_A wc sz)) : vx_Met l yL_go wsL_go ({ frames := rf + 1, cells := mc, slots := ms, locals := rl + 60 }) (mPcX sa sv G (tyw cI cS cJ) [.ref b, .ref ao] sz (ouW cJ ao g :: wc)) (va_Qi (S := Unit) (fun k _ => k = 1) (mB G (tyw cI cS cJ) (va_A (ouW cJ ao g :: wc) sz) (fun _ => ouW cJ ao g :: w1)) (va_A (ouW cJ ao g :: wc) sz)) noX mc ms (va_A (ouW cJ ao g :: wc) sz) := by
  refine mStartW (cc := cL_go) (maxL := 3) (ret := (some .int)) (hh := [(0, 8, 11, 28)]) (by decide) rfl (Nat.le_of_ble_eq_true rfl) ?_
  intro p e s m below meth c A ls hx hb hml hr hts hown hlocks hA hsz hAe hP hK hD hE htab hS hl
  subst hsz
  subst hAe
  have hl : lv_has ls 3 [(0, .ref b), (1, .ref ao)] := hl
  refine lv_aload_n hx hb dL_go_0 rfl (lv_at hl 1 rfl) ?_
  refine lv_iconst (v := 0) hx hb dL_go_1 (by decide) ?_
  refine lv_aload_n hx hb dL_go_2 rfl (lv_at hl 0 rfl) ?_
  refine mThrPV (E0 := 2) (As := []) (rest := [.int 0, .ref ao]) (wr := [ouW cJ ao g]) hE ⟨hx, hb, hml, hown, hts⟩ hM (cwV 0 hts gL_go_X8_go rfl rfl rfl (by decide +kernel) ⟨Nat.le_refl _, by dsimp only; omega⟩) hP hD hS hA (hty s hK) (List.perm_append_singleton _ wc).symm 0 8 rfl he rfl rfl hl.1 rfl (lv_room (Nat.le_of_ble_eq_true rfl)) dL_go_3 ⟨Nat.le_of_eq (Nat.zero_add _), Nat.le_of_eq (Nat.zero_add _)⟩ (fun ce q9 H locs hP hD hS hce hcv hcl => ?_)
  have hP := hP.perm (List.perm_append_singleton (ouW cJ ao g) w1)
  have hD := hD.perm (List.perm_append_singleton (ouW cJ ao g) w1)
  refine vx_catch (own := RL) (name := exN 2) (E := exN 2) hown [] (⟨0, 8, 11, 28⟩ : ExceptionTableEntry) [] htab (fun z hz => absurd hz List.not_mem_nil) rfl (by decide) (hts (.classLink RL 28 "java/lang/IllegalStateException") (by decide +kernel)) (hE.cast (by decide)) hce hcv hcl ?_
  refine lv_astore_n hx hb dL_go_11 rfl hl (by decide) rfl (fun ls hl => ?_)
  refine lv_iconst (v := 1) hx hb dL_go_12 (by decide) ?_
  exact vx_ret (mEndQ_i (S := Unit) () hx hb hr hlocks hP hK hD hS rfl rfl (Nat.le_of_eq (Nat.zero_add _)) (Nat.le_of_eq (Nat.zero_add _)) dL_go_13)
set_option maxHeartbeats 4000000 in
set_option maxRecDepth 100000 in
theorem wL_append (l : Launch) (sa sv : Nat → Nat) (G : va_G) (cI cS cJ : ClassId) {tyc : List (ClassId × FieldType)} (hty : ∀ s : State, va_K G vwCl (tyw cI cS cJ) s → va_K G vwCl tyc s) (ao : Nat) (g : Nat → Int64) (b : Nat) (p1 : Int32) (sz : Nat) (wc : va_W) {fs : List Value} (he : wc[0]? = some (b, .inr (8, fs))) {S : Type} {post : Int32 → S → Prop} {w1 : S → va_W} {rf mc ms rl : Nat} (hM : Met l yX8_append wsX8_append ({ frames := rf, cells := mc, slots := ms, locals := rl }) (mPcX sa sv G tyc [.ref b, .int p1] sz wc) (va_Qi (S := S) post (mB G tyc (va_A wc sz) w1) (va_A wc sz)) mc ms (va_A wc sz)) : vx_Met l yL_append wsL_append ({ frames := rf + 1, cells := mc, slots := ms, locals := rl + 60 }) (mPcX sa sv G (tyw cI cS cJ) [.ref b, .int p1, .ref ao] sz (ouW cJ ao g :: wc)) (va_Qi (S := Int32 × S) (fun k u => k = 0 ∧ post u.1 u.2) (mB G (tyw cI cS cJ) (va_A (ouW cJ ao g :: wc) sz) (fun u => ouW cJ ao (vp_updL g 0 u.1.toInt64) :: w1 u.2)) (va_A (ouW cJ ao g :: wc) sz)) noX mc ms (va_A (ouW cJ ao g :: wc) sz) := by
  refine mStartW (cc := cL_append) (maxL := 4) (ret := (some .int)) (hh := [(0, 9, 12, 15), (0, 9, 15, 28)]) (by decide) rfl (Nat.le_of_ble_eq_true rfl) ?_
  intro p e s m below meth c A ls hx hb hml hr hts hown hlocks hA hsz hAe hP hK hD hE htab hS hl
  subst hsz
  subst hAe
  have hl : lv_has ls 4 [(0, .ref b), (1, .int p1), (2, .ref ao)] := hl
  refine lv_aload_n hx hb dL_append_0 rfl (lv_at hl 2 rfl) ?_
  refine lv_iconst (v := 0) hx hb dL_append_1 (by decide) ?_
  refine lv_aload_n hx hb dL_append_2 rfl (lv_at hl 0 rfl) ?_
  refine lv_iload_n hx hb dL_append_3 rfl (lv_at hl 1 rfl) ?_
  refine mCallPXV_i (As := [.int p1]) (rest := [.int 0, .ref ao]) (wr := [ouW cJ ao g]) hE ⟨hx, hb, hml, hown, hts⟩ hM (cwV 1 hts gL_append_X8_append rfl rfl rfl (by decide +kernel) ⟨Nat.le_refl _, by dsimp only; omega⟩) hP hD hS hA (hty s hK) (List.perm_append_singleton _ wc).symm 0 8 rfl he rfl rfl hl.1 rfl (lv_room (Nat.le_of_ble_eq_true rfl)) dL_append_4 ⟨Nat.le_of_eq (Nat.zero_add _), Nat.le_of_eq (Nat.zero_add _)⟩ (fun x u H locs hpo hP hD hS => ?_)
  have hP := hP.perm (List.perm_append_singleton (ouW cJ ao g) (w1 u))
  have hD := hD.perm (List.perm_append_singleton (ouW cJ ao g) (w1 u))
  refine lv_i2l (v := x.toInt64) hx hb dL_append_7 rfl ?_
  refine va_last hx hb hK hP hD hS 0 2 rfl rfl (vp_lit (by decide +kernel)) dL_append_8 (fun H locs hP hD hS => ?_)
  refine lv_goto (tgt := 18) hx hb dL_append_9 (by decide) ?_
  refine lv_iconst (v := 0) hx hb dL_append_18 (by decide) ?_
  exact vx_ret (mEndQ_i (S := Int32 × S) (x, u) hx hb hr hlocks hP hK hD hS ⟨rfl, hpo⟩ rfl (Nat.le_of_eq (Nat.zero_add _)) (Nat.le_of_eq (Nat.zero_add _)) dL_append_19)
set_option maxHeartbeats 4000000 in
set_option maxRecDepth 100000 in
theorem vL_append_1 (l : Launch) (sa sv : Nat → Nat) (G : va_G) (cI cS cJ : ClassId) {tyc : List (ClassId × FieldType)} (hty : ∀ s : State, va_K G vwCl (tyw cI cS cJ) s → va_K G vwCl tyc s) (ao : Nat) (g : Nat → Int64) (b : Nat) (p1 : Int32) (sz : Nat) (wc : va_W) {fs : List Value} (he : wc[0]? = some (b, .inr (8, fs))) {w1 : va_W} {rf mc ms rl : Nat} (hM : vx_Met l yX8_append wsX8_append ({ frames := rf, cells := mc, slots := ms, locals := rl }) (mPcX sa sv G tyc [.ref b, .int p1] sz wc) noQ (mXC G tyc (va_A wc sz) 1 w1) mc ms (va_A wc sz)) : vx_Met l yL_append wsL_append ({ frames := rf + 1, cells := mc, slots := ms, locals := rl + 60 }) (mPcX sa sv G (tyw cI cS cJ) [.ref b, .int p1, .ref ao] sz (ouW cJ ao g :: wc)) (va_Qi (S := Unit) (fun k _ => k = 1) (mB G (tyw cI cS cJ) (va_A (ouW cJ ao g :: wc) sz) (fun _ => ouW cJ ao g :: w1)) (va_A (ouW cJ ao g :: wc) sz)) noX mc ms (va_A (ouW cJ ao g :: wc) sz) := by
  refine mStartW (cc := cL_append) (maxL := 4) (ret := (some .int)) (hh := [(0, 9, 12, 15), (0, 9, 15, 28)]) (by decide) rfl (Nat.le_of_ble_eq_true rfl) ?_
  intro p e s m below meth c A ls hx hb hml hr hts hown hlocks hA hsz hAe hP hK hD hE htab hS hl
  subst hsz
  subst hAe
  have hl : lv_has ls 4 [(0, .ref b), (1, .int p1), (2, .ref ao)] := hl
  refine lv_aload_n hx hb dL_append_0 rfl (lv_at hl 2 rfl) ?_
  refine lv_iconst (v := 0) hx hb dL_append_1 (by decide) ?_
  refine lv_aload_n hx hb dL_append_2 rfl (lv_at hl 0 rfl) ?_
  refine lv_iload_n hx hb dL_append_3 rfl (lv_at hl 1 rfl) ?_
  refine mThrPV (E0 := 1) (As := [.int p1]) (rest := [.int 0, .ref ao]) (wr := [ouW cJ ao g]) hE ⟨hx, hb, hml, hown, hts⟩ hM (cwV 1 hts gL_append_X8_append rfl rfl rfl (by decide +kernel) ⟨Nat.le_refl _, by dsimp only; omega⟩) hP hD hS hA (hty s hK) (List.perm_append_singleton _ wc).symm 0 8 rfl he rfl rfl hl.1 rfl (lv_room (Nat.le_of_ble_eq_true rfl)) dL_append_4 ⟨Nat.le_of_eq (Nat.zero_add _), Nat.le_of_eq (Nat.zero_add _)⟩ (fun ce q9 H locs hP hD hS hce hcv hcl => ?_)
  have hP := hP.perm (List.perm_append_singleton (ouW cJ ao g) w1)
  have hD := hD.perm (List.perm_append_singleton (ouW cJ ao g) w1)
  refine vx_catch (own := RL) (name := exN 1) (E := exN 1) hown [] (⟨0, 9, 12, 15⟩ : ExceptionTableEntry) [(⟨0, 9, 15, 28⟩ : ExceptionTableEntry)] htab (fun z hz => absurd hz List.not_mem_nil) rfl (by decide) (hts (.classLink RL 15 "java/lang/IllegalArgumentException") (by decide +kernel)) (hE.cast (by decide)) hce hcv hcl ?_
  refine lv_astore_n hx hb dL_append_12 rfl hl (by decide) rfl (fun ls hl => ?_)
  refine lv_iconst (v := 1) hx hb dL_append_13 (by decide) ?_
  exact vx_ret (mEndQ_i (S := Unit) () hx hb hr hlocks hP hK hD hS rfl rfl (Nat.le_of_eq (Nat.zero_add _)) (Nat.le_of_eq (Nat.zero_add _)) dL_append_14)
set_option maxHeartbeats 4000000 in
set_option maxRecDepth 100000 in
theorem vL_append_2 (l : Launch) (sa sv : Nat → Nat) (G : va_G) (cI cS cJ : ClassId) {tyc : List (ClassId × FieldType)} (hty : ∀ s : State, va_K G vwCl (tyw cI cS cJ) s → va_K G vwCl tyc s) (ao : Nat) (g : Nat → Int64) (b : Nat) (p1 : Int32) (sz : Nat) (wc : va_W) {fs : List Value} (he : wc[0]? = some (b, .inr (8, fs))) {w1 : va_W} {rf mc ms rl : Nat} (hM : vx_Met l yX8_append wsX8_append ({ frames := rf, cells := mc, slots := ms, locals := rl }) (mPcX sa sv G tyc [.ref b, .int p1] sz wc) noQ (mXC G tyc (va_A wc sz) 2 w1) mc ms (va_A wc sz)) : vx_Met l yL_append wsL_append ({ frames := rf + 1, cells := mc, slots := ms, locals := rl + 60 }) (mPcX sa sv G (tyw cI cS cJ) [.ref b, .int p1, .ref ao] sz (ouW cJ ao g :: wc)) (va_Qi (S := Unit) (fun k _ => k = 2) (mB G (tyw cI cS cJ) (va_A (ouW cJ ao g :: wc) sz) (fun _ => ouW cJ ao g :: w1)) (va_A (ouW cJ ao g :: wc) sz)) noX mc ms (va_A (ouW cJ ao g :: wc) sz) := by
  refine mStartW (cc := cL_append) (maxL := 4) (ret := (some .int)) (hh := [(0, 9, 12, 15), (0, 9, 15, 28)]) (by decide) rfl (Nat.le_of_ble_eq_true rfl) ?_
  intro p e s m below meth c A ls hx hb hml hr hts hown hlocks hA hsz hAe hP hK hD hE htab hS hl
  subst hsz
  subst hAe
  have hl : lv_has ls 4 [(0, .ref b), (1, .int p1), (2, .ref ao)] := hl
  refine lv_aload_n hx hb dL_append_0 rfl (lv_at hl 2 rfl) ?_
  refine lv_iconst (v := 0) hx hb dL_append_1 (by decide) ?_
  refine lv_aload_n hx hb dL_append_2 rfl (lv_at hl 0 rfl) ?_
  refine lv_iload_n hx hb dL_append_3 rfl (lv_at hl 1 rfl) ?_
  refine mThrPV (E0 := 2) (As := [.int p1]) (rest := [.int 0, .ref ao]) (wr := [ouW cJ ao g]) hE ⟨hx, hb, hml, hown, hts⟩ hM (cwV 1 hts gL_append_X8_append rfl rfl rfl (by decide +kernel) ⟨Nat.le_refl _, by dsimp only; omega⟩) hP hD hS hA (hty s hK) (List.perm_append_singleton _ wc).symm 0 8 rfl he rfl rfl hl.1 rfl (lv_room (Nat.le_of_ble_eq_true rfl)) dL_append_4 ⟨Nat.le_of_eq (Nat.zero_add _), Nat.le_of_eq (Nat.zero_add _)⟩ (fun ce q9 H locs hP hD hS hce hcv hcl => ?_)
  have hP := hP.perm (List.perm_append_singleton (ouW cJ ao g) w1)
  have hD := hD.perm (List.perm_append_singleton (ouW cJ ao g) w1)
  refine vx_catch (own := RL) (name := exN 2) (E := exN 2) hown [(⟨0, 9, 12, 15⟩ : ExceptionTableEntry)] (⟨0, 9, 15, 28⟩ : ExceptionTableEntry) [] htab (fun z hz => by obtain rfl := List.mem_singleton.mp hz; exact Or.inr ⟨by decide, "java/lang/IllegalArgumentException", hts (.classLink RL 15 "java/lang/IllegalArgumentException") (by decide +kernel), hE.nc21⟩) rfl (by decide) (hts (.classLink RL 28 "java/lang/IllegalStateException") (by decide +kernel)) (hE.cast (by decide)) hce hcv hcl ?_
  refine lv_astore_n hx hb dL_append_15 rfl hl (by decide) rfl (fun ls hl => ?_)
  refine lv_iconst (v := 2) hx hb dL_append_16 (by decide) ?_
  exact vx_ret (mEndQ_i (S := Unit) () hx hb hr hlocks hP hK hD hS rfl rfl (Nat.le_of_eq (Nat.zero_add _)) (Nat.le_of_eq (Nat.zero_add _)) dL_append_17)
set_option maxHeartbeats 4000000 in
set_option maxRecDepth 100000 in
theorem wL_obey (l : Launch) (sa sv : Nat → Nat) (G : va_G) (cI cS cJ : ClassId) {tyc : List (ClassId × FieldType)} (hty : ∀ s : State, va_K G vwCl (tyw cI cS cJ) s → va_K G vwCl tyc s) (ao : Nat) (g : Nat → Int64) (b : Nat) (sz : Nat) (wc : va_W) {fs : List Value} (he : wc[0]? = some (b, .inr (8, fs))) {S : Type} {post : Int32 → S → Prop} {w1 : S → va_W} {rf mc ms rl : Nat} (hM : Met l yX8_obey wsX8_obey ({ frames := rf, cells := mc, slots := ms, locals := rl }) (mPcX sa sv G tyc [.ref b] sz wc) (va_Qi (S := S) post (mB G tyc (va_A wc sz) w1) (va_A wc sz)) mc ms (va_A wc sz)) : vx_Met l yL_obey wsL_obey ({ frames := rf + 1, cells := mc, slots := ms, locals := rl + 60 }) (mPcX sa sv G (tyw cI cS cJ) [.ref b, .ref ao] sz (ouW cJ ao g :: wc)) (va_Qi (S := Int32 × S) (fun k u => k = 0 ∧ post u.1 u.2) (mB G (tyw cI cS cJ) (va_A (ouW cJ ao g :: wc) sz) (fun u => ouW cJ ao (vp_updL g 0 u.1.toInt64) :: w1 u.2)) (va_A (ouW cJ ao g :: wc) sz)) noX mc ms (va_A (ouW cJ ao g :: wc) sz) := by
  refine mStartW (cc := cL_obey) (maxL := 3) (ret := (some .int)) (hh := [(0, 8, 11, 15)]) (by decide) rfl (Nat.le_of_ble_eq_true rfl) ?_
  intro p e s m below meth c A ls hx hb hml hr hts hown hlocks hA hsz hAe hP hK hD hE htab hS hl
  subst hsz
  subst hAe
  have hl : lv_has ls 3 [(0, .ref b), (1, .ref ao)] := hl
  refine lv_aload_n hx hb dL_obey_0 rfl (lv_at hl 1 rfl) ?_
  refine lv_iconst (v := 0) hx hb dL_obey_1 (by decide) ?_
  refine lv_aload_n hx hb dL_obey_2 rfl (lv_at hl 0 rfl) ?_
  refine mCallPXV_i (As := []) (rest := [.int 0, .ref ao]) (wr := [ouW cJ ao g]) hE ⟨hx, hb, hml, hown, hts⟩ hM (cwV 0 hts gL_obey_X8_obey rfl rfl rfl (by decide +kernel) ⟨Nat.le_refl _, by dsimp only; omega⟩) hP hD hS hA (hty s hK) (List.perm_append_singleton _ wc).symm 0 8 rfl he rfl rfl hl.1 rfl (lv_room (Nat.le_of_ble_eq_true rfl)) dL_obey_3 ⟨Nat.le_of_eq (Nat.zero_add _), Nat.le_of_eq (Nat.zero_add _)⟩ (fun x u H locs hpo hP hD hS => ?_)
  have hP := hP.perm (List.perm_append_singleton (ouW cJ ao g) (w1 u))
  have hD := hD.perm (List.perm_append_singleton (ouW cJ ao g) (w1 u))
  refine lv_i2l (v := x.toInt64) hx hb dL_obey_6 rfl ?_
  refine va_last hx hb hK hP hD hS 0 2 rfl rfl (vp_lit (by decide +kernel)) dL_obey_7 (fun H locs hP hD hS => ?_)
  refine lv_goto (tgt := 14) hx hb dL_obey_8 (by decide) ?_
  refine lv_iconst (v := 0) hx hb dL_obey_14 (by decide) ?_
  exact vx_ret (mEndQ_i (S := Int32 × S) (x, u) hx hb hr hlocks hP hK hD hS ⟨rfl, hpo⟩ rfl (Nat.le_of_eq (Nat.zero_add _)) (Nat.le_of_eq (Nat.zero_add _)) dL_obey_15)
set_option maxHeartbeats 4000000 in
set_option maxRecDepth 100000 in
theorem vL_obey_1 (l : Launch) (sa sv : Nat → Nat) (G : va_G) (cI cS cJ : ClassId) {tyc : List (ClassId × FieldType)} (hty : ∀ s : State, va_K G vwCl (tyw cI cS cJ) s → va_K G vwCl tyc s) (ao : Nat) (g : Nat → Int64) (b : Nat) (sz : Nat) (wc : va_W) {fs : List Value} (he : wc[0]? = some (b, .inr (8, fs))) {w1 : va_W} {rf mc ms rl : Nat} (hM : vx_Met l yX8_obey wsX8_obey ({ frames := rf, cells := mc, slots := ms, locals := rl }) (mPcX sa sv G tyc [.ref b] sz wc) noQ (mXC G tyc (va_A wc sz) 1 w1) mc ms (va_A wc sz)) : vx_Met l yL_obey wsL_obey ({ frames := rf + 1, cells := mc, slots := ms, locals := rl + 60 }) (mPcX sa sv G (tyw cI cS cJ) [.ref b, .ref ao] sz (ouW cJ ao g :: wc)) (va_Qi (S := Unit) (fun k _ => k = 1) (mB G (tyw cI cS cJ) (va_A (ouW cJ ao g :: wc) sz) (fun _ => ouW cJ ao g :: w1)) (va_A (ouW cJ ao g :: wc) sz)) noX mc ms (va_A (ouW cJ ao g :: wc) sz) := by
  refine mStartW (cc := cL_obey) (maxL := 3) (ret := (some .int)) (hh := [(0, 8, 11, 15)]) (by decide) rfl (Nat.le_of_ble_eq_true rfl) ?_
  intro p e s m below meth c A ls hx hb hml hr hts hown hlocks hA hsz hAe hP hK hD hE htab hS hl
  subst hsz
  subst hAe
  have hl : lv_has ls 3 [(0, .ref b), (1, .ref ao)] := hl
  refine lv_aload_n hx hb dL_obey_0 rfl (lv_at hl 1 rfl) ?_
  refine lv_iconst (v := 0) hx hb dL_obey_1 (by decide) ?_
  refine lv_aload_n hx hb dL_obey_2 rfl (lv_at hl 0 rfl) ?_
  refine mThrPV (E0 := 1) (As := []) (rest := [.int 0, .ref ao]) (wr := [ouW cJ ao g]) hE ⟨hx, hb, hml, hown, hts⟩ hM (cwV 0 hts gL_obey_X8_obey rfl rfl rfl (by decide +kernel) ⟨Nat.le_refl _, by dsimp only; omega⟩) hP hD hS hA (hty s hK) (List.perm_append_singleton _ wc).symm 0 8 rfl he rfl rfl hl.1 rfl (lv_room (Nat.le_of_ble_eq_true rfl)) dL_obey_3 ⟨Nat.le_of_eq (Nat.zero_add _), Nat.le_of_eq (Nat.zero_add _)⟩ (fun ce q9 H locs hP hD hS hce hcv hcl => ?_)
  have hP := hP.perm (List.perm_append_singleton (ouW cJ ao g) w1)
  have hD := hD.perm (List.perm_append_singleton (ouW cJ ao g) w1)
  refine vx_catch (own := RL) (name := exN 1) (E := exN 1) hown [] (⟨0, 8, 11, 15⟩ : ExceptionTableEntry) [] htab (fun z hz => absurd hz List.not_mem_nil) rfl (by decide) (hts (.classLink RL 15 "java/lang/IllegalArgumentException") (by decide +kernel)) (hE.cast (by decide)) hce hcv hcl ?_
  refine lv_astore_n hx hb dL_obey_11 rfl hl (by decide) rfl (fun ls hl => ?_)
  refine lv_iconst (v := 1) hx hb dL_obey_12 (by decide) ?_
  exact vx_ret (mEndQ_i (S := Unit) () hx hb hr hlocks hP hK hD hS rfl rfl (Nat.le_of_eq (Nat.zero_add _)) (Nat.le_of_eq (Nat.zero_add _)) dL_obey_13)
set_option maxHeartbeats 4000000 in
set_option maxRecDepth 100000 in
theorem wL_stopped (l : Launch) (sa sv : Nat → Nat) (G : va_G) (cI cS cJ : ClassId) {tyc : List (ClassId × FieldType)} (hty : ∀ s : State, va_K G vwCl (tyw cI cS cJ) s → va_K G vwCl tyc s) (ao : Nat) (g : Nat → Int64) (b : Nat) (p1 : Int32) (sz : Nat) (wc : va_W) {fs : List Value} (he : wc[0]? = some (b, .inr (8, fs))) {S : Type} {post : Int32 → S → Prop} {w1 : S → va_W} {rf mc ms rl : Nat} (hM : Met l yX8_stopped wsX8_stopped ({ frames := rf, cells := mc, slots := ms, locals := rl }) (mPcX sa sv G tyc [.ref b, .int p1] sz wc) (va_Qi (S := S) post (mB G tyc (va_A wc sz) w1) (va_A wc sz)) mc ms (va_A wc sz)) : vx_Met l yL_stopped wsL_stopped ({ frames := rf + 1, cells := mc, slots := ms, locals := rl + 60 }) (mPcX sa sv G (tyw cI cS cJ) [.ref b, .int p1, .ref ao] sz (ouW cJ ao g :: wc)) (va_Qi (S := Int32 × S) (fun k u => k = 0 ∧ post u.1 u.2) (mB G (tyw cI cS cJ) (va_A (ouW cJ ao g :: wc) sz) (fun u => ouW cJ ao (vp_updL g 0 u.1.toInt64) :: w1 u.2)) (va_A (ouW cJ ao g :: wc) sz)) noX mc ms (va_A (ouW cJ ao g :: wc) sz) := by
  refine mStartW (cc := cL_stopped) (maxL := 4) (ret := (some .int)) (hh := [(0, 9, 12, 15)]) (by decide) rfl (Nat.le_of_ble_eq_true rfl) ?_
  intro p e s m below meth c A ls hx hb hml hr hts hown hlocks hA hsz hAe hP hK hD hE htab hS hl
  subst hsz
  subst hAe
  have hl : lv_has ls 4 [(0, .ref b), (1, .int p1), (2, .ref ao)] := hl
  refine lv_aload_n hx hb dL_stopped_0 rfl (lv_at hl 2 rfl) ?_
  refine lv_iconst (v := 0) hx hb dL_stopped_1 (by decide) ?_
  refine lv_aload_n hx hb dL_stopped_2 rfl (lv_at hl 0 rfl) ?_
  refine lv_iload_n hx hb dL_stopped_3 rfl (lv_at hl 1 rfl) ?_
  refine mCallPXV_i (As := [.int p1]) (rest := [.int 0, .ref ao]) (wr := [ouW cJ ao g]) hE ⟨hx, hb, hml, hown, hts⟩ hM (cwV 1 hts gL_stopped_X8_stopped rfl rfl rfl (by decide +kernel) ⟨Nat.le_refl _, by dsimp only; omega⟩) hP hD hS hA (hty s hK) (List.perm_append_singleton _ wc).symm 0 8 rfl he rfl rfl hl.1 rfl (lv_room (Nat.le_of_ble_eq_true rfl)) dL_stopped_4 ⟨Nat.le_of_eq (Nat.zero_add _), Nat.le_of_eq (Nat.zero_add _)⟩ (fun x u H locs hpo hP hD hS => ?_)
  have hP := hP.perm (List.perm_append_singleton (ouW cJ ao g) (w1 u))
  have hD := hD.perm (List.perm_append_singleton (ouW cJ ao g) (w1 u))
  refine lv_i2l (v := x.toInt64) hx hb dL_stopped_7 rfl ?_
  refine va_last hx hb hK hP hD hS 0 2 rfl rfl (vp_lit (by decide +kernel)) dL_stopped_8 (fun H locs hP hD hS => ?_)
  refine lv_goto (tgt := 15) hx hb dL_stopped_9 (by decide) ?_
  refine lv_iconst (v := 0) hx hb dL_stopped_15 (by decide) ?_
  exact vx_ret (mEndQ_i (S := Int32 × S) (x, u) hx hb hr hlocks hP hK hD hS ⟨rfl, hpo⟩ rfl (Nat.le_of_eq (Nat.zero_add _)) (Nat.le_of_eq (Nat.zero_add _)) dL_stopped_16)
set_option maxHeartbeats 4000000 in
set_option maxRecDepth 100000 in
theorem vL_stopped_1 (l : Launch) (sa sv : Nat → Nat) (G : va_G) (cI cS cJ : ClassId) {tyc : List (ClassId × FieldType)} (hty : ∀ s : State, va_K G vwCl (tyw cI cS cJ) s → va_K G vwCl tyc s) (ao : Nat) (g : Nat → Int64) (b : Nat) (p1 : Int32) (sz : Nat) (wc : va_W) {fs : List Value} (he : wc[0]? = some (b, .inr (8, fs))) {w1 : va_W} {rf mc ms rl : Nat} (hM : vx_Met l yX8_stopped wsX8_stopped ({ frames := rf, cells := mc, slots := ms, locals := rl }) (mPcX sa sv G tyc [.ref b, .int p1] sz wc) noQ (mXC G tyc (va_A wc sz) 1 w1) mc ms (va_A wc sz)) : vx_Met l yL_stopped wsL_stopped ({ frames := rf + 1, cells := mc, slots := ms, locals := rl + 60 }) (mPcX sa sv G (tyw cI cS cJ) [.ref b, .int p1, .ref ao] sz (ouW cJ ao g :: wc)) (va_Qi (S := Unit) (fun k _ => k = 1) (mB G (tyw cI cS cJ) (va_A (ouW cJ ao g :: wc) sz) (fun _ => ouW cJ ao g :: w1)) (va_A (ouW cJ ao g :: wc) sz)) noX mc ms (va_A (ouW cJ ao g :: wc) sz) := by
  refine mStartW (cc := cL_stopped) (maxL := 4) (ret := (some .int)) (hh := [(0, 9, 12, 15)]) (by decide) rfl (Nat.le_of_ble_eq_true rfl) ?_
  intro p e s m below meth c A ls hx hb hml hr hts hown hlocks hA hsz hAe hP hK hD hE htab hS hl
  subst hsz
  subst hAe
  have hl : lv_has ls 4 [(0, .ref b), (1, .int p1), (2, .ref ao)] := hl
  refine lv_aload_n hx hb dL_stopped_0 rfl (lv_at hl 2 rfl) ?_
  refine lv_iconst (v := 0) hx hb dL_stopped_1 (by decide) ?_
  refine lv_aload_n hx hb dL_stopped_2 rfl (lv_at hl 0 rfl) ?_
  refine lv_iload_n hx hb dL_stopped_3 rfl (lv_at hl 1 rfl) ?_
  refine mThrPV (E0 := 1) (As := [.int p1]) (rest := [.int 0, .ref ao]) (wr := [ouW cJ ao g]) hE ⟨hx, hb, hml, hown, hts⟩ hM (cwV 1 hts gL_stopped_X8_stopped rfl rfl rfl (by decide +kernel) ⟨Nat.le_refl _, by dsimp only; omega⟩) hP hD hS hA (hty s hK) (List.perm_append_singleton _ wc).symm 0 8 rfl he rfl rfl hl.1 rfl (lv_room (Nat.le_of_ble_eq_true rfl)) dL_stopped_4 ⟨Nat.le_of_eq (Nat.zero_add _), Nat.le_of_eq (Nat.zero_add _)⟩ (fun ce q9 H locs hP hD hS hce hcv hcl => ?_)
  have hP := hP.perm (List.perm_append_singleton (ouW cJ ao g) w1)
  have hD := hD.perm (List.perm_append_singleton (ouW cJ ao g) w1)
  refine vx_catch (own := RL) (name := exN 1) (E := exN 1) hown [] (⟨0, 9, 12, 15⟩ : ExceptionTableEntry) [] htab (fun z hz => absurd hz List.not_mem_nil) rfl (by decide) (hts (.classLink RL 15 "java/lang/IllegalArgumentException") (by decide +kernel)) (hE.cast (by decide)) hce hcv hcl ?_
  refine lv_astore_n hx hb dL_stopped_12 rfl hl (by decide) rfl (fun ls hl => ?_)
  refine lv_iconst (v := 1) hx hb dL_stopped_13 (by decide) ?_
  exact vx_ret (mEndQ_i (S := Unit) () hx hb hr hlocks hP hK hD hS rfl rfl (Nat.le_of_eq (Nat.zero_add _)) (Nat.le_of_eq (Nat.zero_add _)) dL_stopped_14)
set_option maxHeartbeats 4000000 in
set_option maxRecDepth 100000 in
theorem wL_told (l : Launch) (sa sv : Nat → Nat) (G : va_G) (cI cS cJ : ClassId) {tyc : List (ClassId × FieldType)} (hty : ∀ s : State, va_K G vwCl (tyw cI cS cJ) s → va_K G vwCl tyc s) (ao : Nat) (g : Nat → Int64) (b : Nat) (p1 : Int32) (p2 : Int32) (sz : Nat) (wc : va_W) {fs : List Value} (he : wc[0]? = some (b, .inr (8, fs))) {S : Type} {post : Int32 → S → Prop} {w1 : S → va_W} {rf mc ms rl : Nat} (hM : Met l yX8_told wsX8_told ({ frames := rf, cells := mc, slots := ms, locals := rl }) (mPcX sa sv G tyc [.ref b, .int p1, .int p2] sz wc) (va_Qi (S := S) post (mB G tyc (va_A wc sz) w1) (va_A wc sz)) mc ms (va_A wc sz)) : vx_Met l yL_told wsL_told ({ frames := rf + 1, cells := mc, slots := ms, locals := rl + 60 }) (mPcX sa sv G (tyw cI cS cJ) [.ref b, .int p1, .int p2, .ref ao] sz (ouW cJ ao g :: wc)) (va_Qi (S := Int32 × S) (fun k u => k = 0 ∧ post u.1 u.2) (mB G (tyw cI cS cJ) (va_A (ouW cJ ao g :: wc) sz) (fun u => ouW cJ ao (vp_updL g 0 u.1.toInt64) :: w1 u.2)) (va_A (ouW cJ ao g :: wc) sz)) noX mc ms (va_A (ouW cJ ao g :: wc) sz) := by
  refine mStartW (cc := cL_told) (maxL := 5) (ret := (some .int)) (hh := [(0, 10, 13, 15)]) (by decide) rfl (Nat.le_of_ble_eq_true rfl) ?_
  intro p e s m below meth c A ls hx hb hml hr hts hown hlocks hA hsz hAe hP hK hD hE htab hS hl
  subst hsz
  subst hAe
  have hl : lv_has ls 5 [(0, .ref b), (1, .int p1), (2, .int p2), (3, .ref ao)] := hl
  refine lv_aload_n hx hb dL_told_0 rfl (lv_at hl 3 rfl) ?_
  refine lv_iconst (v := 0) hx hb dL_told_1 (by decide) ?_
  refine lv_aload_n hx hb dL_told_2 rfl (lv_at hl 0 rfl) ?_
  refine lv_iload_n hx hb dL_told_3 rfl (lv_at hl 1 rfl) ?_
  refine lv_iload_n hx hb dL_told_4 rfl (lv_at hl 2 rfl) ?_
  refine mCallPXV_i (As := [.int p1, .int p2]) (rest := [.int 0, .ref ao]) (wr := [ouW cJ ao g]) hE ⟨hx, hb, hml, hown, hts⟩ hM (cwV 2 hts gL_told_X8_told rfl rfl rfl (by decide +kernel) ⟨Nat.le_refl _, by dsimp only; omega⟩) hP hD hS hA (hty s hK) (List.perm_append_singleton _ wc).symm 0 8 rfl he rfl rfl hl.1 rfl (lv_room (Nat.le_of_ble_eq_true rfl)) dL_told_5 ⟨Nat.le_of_eq (Nat.zero_add _), Nat.le_of_eq (Nat.zero_add _)⟩ (fun x u H locs hpo hP hD hS => ?_)
  have hP := hP.perm (List.perm_append_singleton (ouW cJ ao g) (w1 u))
  have hD := hD.perm (List.perm_append_singleton (ouW cJ ao g) (w1 u))
  refine lv_i2l (v := x.toInt64) hx hb dL_told_8 rfl ?_
  refine va_last hx hb hK hP hD hS 0 2 rfl rfl (vp_lit (by decide +kernel)) dL_told_9 (fun H locs hP hD hS => ?_)
  refine lv_goto (tgt := 17) hx hb dL_told_10 (by decide) ?_
  refine lv_iconst (v := 0) hx hb dL_told_17 (by decide) ?_
  exact vx_ret (mEndQ_i (S := Int32 × S) (x, u) hx hb hr hlocks hP hK hD hS ⟨rfl, hpo⟩ rfl (Nat.le_of_eq (Nat.zero_add _)) (Nat.le_of_eq (Nat.zero_add _)) dL_told_18)
set_option maxHeartbeats 4000000 in
set_option maxRecDepth 100000 in
theorem vL_told_1 (l : Launch) (sa sv : Nat → Nat) (G : va_G) (cI cS cJ : ClassId) {tyc : List (ClassId × FieldType)} (hty : ∀ s : State, va_K G vwCl (tyw cI cS cJ) s → va_K G vwCl tyc s) (ao : Nat) (g : Nat → Int64) (b : Nat) (p1 : Int32) (p2 : Int32) (sz : Nat) (wc : va_W) {fs : List Value} (he : wc[0]? = some (b, .inr (8, fs))) {w1 : va_W} {rf mc ms rl : Nat} (hM : vx_Met l yX8_told wsX8_told ({ frames := rf, cells := mc, slots := ms, locals := rl }) (mPcX sa sv G tyc [.ref b, .int p1, .int p2] sz wc) noQ (mXC G tyc (va_A wc sz) 1 w1) mc ms (va_A wc sz)) : vx_Met l yL_told wsL_told ({ frames := rf + 1, cells := mc, slots := ms, locals := rl + 60 }) (mPcX sa sv G (tyw cI cS cJ) [.ref b, .int p1, .int p2, .ref ao] sz (ouW cJ ao g :: wc)) (va_Qi (S := Unit) (fun k _ => k = 1) (mB G (tyw cI cS cJ) (va_A (ouW cJ ao g :: wc) sz) (fun _ => ouW cJ ao g :: w1)) (va_A (ouW cJ ao g :: wc) sz)) noX mc ms (va_A (ouW cJ ao g :: wc) sz) := by
  refine mStartW (cc := cL_told) (maxL := 5) (ret := (some .int)) (hh := [(0, 10, 13, 15)]) (by decide) rfl (Nat.le_of_ble_eq_true rfl) ?_
  intro p e s m below meth c A ls hx hb hml hr hts hown hlocks hA hsz hAe hP hK hD hE htab hS hl
  subst hsz
  subst hAe
  have hl : lv_has ls 5 [(0, .ref b), (1, .int p1), (2, .int p2), (3, .ref ao)] := hl
  refine lv_aload_n hx hb dL_told_0 rfl (lv_at hl 3 rfl) ?_
  refine lv_iconst (v := 0) hx hb dL_told_1 (by decide) ?_
  refine lv_aload_n hx hb dL_told_2 rfl (lv_at hl 0 rfl) ?_
  refine lv_iload_n hx hb dL_told_3 rfl (lv_at hl 1 rfl) ?_
  refine lv_iload_n hx hb dL_told_4 rfl (lv_at hl 2 rfl) ?_
  refine mThrPV (E0 := 1) (As := [.int p1, .int p2]) (rest := [.int 0, .ref ao]) (wr := [ouW cJ ao g]) hE ⟨hx, hb, hml, hown, hts⟩ hM (cwV 2 hts gL_told_X8_told rfl rfl rfl (by decide +kernel) ⟨Nat.le_refl _, by dsimp only; omega⟩) hP hD hS hA (hty s hK) (List.perm_append_singleton _ wc).symm 0 8 rfl he rfl rfl hl.1 rfl (lv_room (Nat.le_of_ble_eq_true rfl)) dL_told_5 ⟨Nat.le_of_eq (Nat.zero_add _), Nat.le_of_eq (Nat.zero_add _)⟩ (fun ce q9 H locs hP hD hS hce hcv hcl => ?_)
  have hP := hP.perm (List.perm_append_singleton (ouW cJ ao g) w1)
  have hD := hD.perm (List.perm_append_singleton (ouW cJ ao g) w1)
  refine vx_catch (own := RL) (name := exN 1) (E := exN 1) hown [] (⟨0, 10, 13, 15⟩ : ExceptionTableEntry) [] htab (fun z hz => absurd hz List.not_mem_nil) rfl (by decide) (hts (.classLink RL 15 "java/lang/IllegalArgumentException") (by decide +kernel)) (hE.cast (by decide)) hce hcv hcl ?_
  refine lv_astore hx hb dL_told_13 hl (by decide) rfl (fun ls hl => ?_)
  refine lv_iconst (v := 1) hx hb dL_told_15 (by decide) ?_
  exact vx_ret (mEndQ_i (S := Unit) () hx hb hr hlocks hP hK hD hS rfl rfl (Nat.le_of_eq (Nat.zero_add _)) (Nat.le_of_eq (Nat.zero_add _)) dL_told_16)
set_option maxHeartbeats 4000000 in
set_option maxRecDepth 100000 in
theorem wL_undo (l : Launch) (sa sv : Nat → Nat) (G : va_G) (cI cS cJ : ClassId) {tyc : List (ClassId × FieldType)} (hty : ∀ s : State, va_K G vwCl (tyw cI cS cJ) s → va_K G vwCl tyc s) (ao : Nat) (g : Nat → Int64) (b : Nat) (sz : Nat) (wc : va_W) {fs : List Value} (he : wc[0]? = some (b, .inr (8, fs))) {S : Type} {post : Int32 → S → Prop} {w1 : S → va_W} {rf mc ms rl : Nat} (hM : Met l yX8_undo wsX8_undo ({ frames := rf, cells := mc, slots := ms, locals := rl }) (mPcX sa sv G tyc [.ref b] sz wc) (va_Qi (S := S) post (mB G tyc (va_A wc sz) w1) (va_A wc sz)) mc ms (va_A wc sz)) : vx_Met l yL_undo wsL_undo ({ frames := rf + 1, cells := mc, slots := ms, locals := rl + 60 }) (mPcX sa sv G (tyw cI cS cJ) [.ref b, .ref ao] sz (ouW cJ ao g :: wc)) (va_Qi (S := Int32 × S) (fun k u => k = 0 ∧ post u.1 u.2) (mB G (tyw cI cS cJ) (va_A (ouW cJ ao g :: wc) sz) (fun u => ouW cJ ao (vp_updL g 0 u.1.toInt64) :: w1 u.2)) (va_A (ouW cJ ao g :: wc) sz)) noX mc ms (va_A (ouW cJ ao g :: wc) sz) := by
  refine mStartW (cc := cL_undo) (maxL := 3) (ret := (some .int)) (hh := [(0, 8, 11, 28)]) (by decide) rfl (Nat.le_of_ble_eq_true rfl) ?_
  intro p e s m below meth c A ls hx hb hml hr hts hown hlocks hA hsz hAe hP hK hD hE htab hS hl
  subst hsz
  subst hAe
  have hl : lv_has ls 3 [(0, .ref b), (1, .ref ao)] := hl
  refine lv_aload_n hx hb dL_undo_0 rfl (lv_at hl 1 rfl) ?_
  refine lv_iconst (v := 0) hx hb dL_undo_1 (by decide) ?_
  refine lv_aload_n hx hb dL_undo_2 rfl (lv_at hl 0 rfl) ?_
  refine mCallPXV_i (As := []) (rest := [.int 0, .ref ao]) (wr := [ouW cJ ao g]) hE ⟨hx, hb, hml, hown, hts⟩ hM (cwV 0 hts gL_undo_X8_undo rfl rfl rfl (by decide +kernel) ⟨Nat.le_refl _, by dsimp only; omega⟩) hP hD hS hA (hty s hK) (List.perm_append_singleton _ wc).symm 0 8 rfl he rfl rfl hl.1 rfl (lv_room (Nat.le_of_ble_eq_true rfl)) dL_undo_3 ⟨Nat.le_of_eq (Nat.zero_add _), Nat.le_of_eq (Nat.zero_add _)⟩ (fun x u H locs hpo hP hD hS => ?_)
  have hP := hP.perm (List.perm_append_singleton (ouW cJ ao g) (w1 u))
  have hD := hD.perm (List.perm_append_singleton (ouW cJ ao g) (w1 u))
  refine lv_i2l (v := x.toInt64) hx hb dL_undo_6 rfl ?_
  refine va_last hx hb hK hP hD hS 0 2 rfl rfl (vp_lit (by decide +kernel)) dL_undo_7 (fun H locs hP hD hS => ?_)
  refine lv_goto (tgt := 14) hx hb dL_undo_8 (by decide) ?_
  refine lv_iconst (v := 0) hx hb dL_undo_14 (by decide) ?_
  exact vx_ret (mEndQ_i (S := Int32 × S) (x, u) hx hb hr hlocks hP hK hD hS ⟨rfl, hpo⟩ rfl (Nat.le_of_eq (Nat.zero_add _)) (Nat.le_of_eq (Nat.zero_add _)) dL_undo_15)
set_option maxHeartbeats 4000000 in
set_option maxRecDepth 100000 in
theorem vL_undo_1 (l : Launch) (sa sv : Nat → Nat) (G : va_G) (cI cS cJ : ClassId) {tyc : List (ClassId × FieldType)} (hty : ∀ s : State, va_K G vwCl (tyw cI cS cJ) s → va_K G vwCl tyc s) (ao : Nat) (g : Nat → Int64) (b : Nat) (sz : Nat) (wc : va_W) {fs : List Value} (he : wc[0]? = some (b, .inr (8, fs))) {w1 : va_W} {rf mc ms rl : Nat} (hM : vx_Met l yX8_undo wsX8_undo ({ frames := rf, cells := mc, slots := ms, locals := rl }) (mPcX sa sv G tyc [.ref b] sz wc) noQ (mXC G tyc (va_A wc sz) 2 w1) mc ms (va_A wc sz)) : vx_Met l yL_undo wsL_undo ({ frames := rf + 1, cells := mc, slots := ms, locals := rl + 60 }) (mPcX sa sv G (tyw cI cS cJ) [.ref b, .ref ao] sz (ouW cJ ao g :: wc)) (va_Qi (S := Unit) (fun k _ => k = 1) (mB G (tyw cI cS cJ) (va_A (ouW cJ ao g :: wc) sz) (fun _ => ouW cJ ao g :: w1)) (va_A (ouW cJ ao g :: wc) sz)) noX mc ms (va_A (ouW cJ ao g :: wc) sz) := by
  refine mStartW (cc := cL_undo) (maxL := 3) (ret := (some .int)) (hh := [(0, 8, 11, 28)]) (by decide) rfl (Nat.le_of_ble_eq_true rfl) ?_
  intro p e s m below meth c A ls hx hb hml hr hts hown hlocks hA hsz hAe hP hK hD hE htab hS hl
  subst hsz
  subst hAe
  have hl : lv_has ls 3 [(0, .ref b), (1, .ref ao)] := hl
  refine lv_aload_n hx hb dL_undo_0 rfl (lv_at hl 1 rfl) ?_
  refine lv_iconst (v := 0) hx hb dL_undo_1 (by decide) ?_
  refine lv_aload_n hx hb dL_undo_2 rfl (lv_at hl 0 rfl) ?_
  refine mThrPV (E0 := 2) (As := []) (rest := [.int 0, .ref ao]) (wr := [ouW cJ ao g]) hE ⟨hx, hb, hml, hown, hts⟩ hM (cwV 0 hts gL_undo_X8_undo rfl rfl rfl (by decide +kernel) ⟨Nat.le_refl _, by dsimp only; omega⟩) hP hD hS hA (hty s hK) (List.perm_append_singleton _ wc).symm 0 8 rfl he rfl rfl hl.1 rfl (lv_room (Nat.le_of_ble_eq_true rfl)) dL_undo_3 ⟨Nat.le_of_eq (Nat.zero_add _), Nat.le_of_eq (Nat.zero_add _)⟩ (fun ce q9 H locs hP hD hS hce hcv hcl => ?_)
  have hP := hP.perm (List.perm_append_singleton (ouW cJ ao g) w1)
  have hD := hD.perm (List.perm_append_singleton (ouW cJ ao g) w1)
  refine vx_catch (own := RL) (name := exN 2) (E := exN 2) hown [] (⟨0, 8, 11, 28⟩ : ExceptionTableEntry) [] htab (fun z hz => absurd hz List.not_mem_nil) rfl (by decide) (hts (.classLink RL 28 "java/lang/IllegalStateException") (by decide +kernel)) (hE.cast (by decide)) hce hcv hcl ?_
  refine lv_astore_n hx hb dL_undo_11 rfl hl (by decide) rfl (fun ls hl => ?_)
  refine lv_iconst (v := 1) hx hb dL_undo_12 (by decide) ?_
  exact vx_ret (mEndQ_i (S := Unit) () hx hb hr hlocks hP hK hD hS rfl rfl (Nat.le_of_eq (Nat.zero_add _)) (Nat.le_of_eq (Nat.zero_add _)) dL_undo_13)
set_option maxHeartbeats 4000000 in
set_option maxRecDepth 100000 in
theorem wL_restore (l : Launch) (sa sv : Nat → Nat) (G : va_G) (cI cS cJ : ClassId) {tyc : List (ClassId × FieldType)} (hty : ∀ s : State, va_K G vwCl (tyw cI cS cJ) s → va_K G vwCl tyc s) (ao : Nat) (g : Nat → Int64) (b : Nat) (sz : Nat) (wc : va_W) {fs : List Value} (he : wc[0]? = some (b, .inr (8, fs))) {S : Type} {post : Int32 → S → Prop} {w1 : S → va_W} {rf mc ms rl : Nat} (hM : Met l yX8_restore wsX8_restore ({ frames := rf, cells := mc, slots := ms, locals := rl }) (mPcX sa sv G tyc [.ref b] sz wc) (va_Qi (S := S) post (mB G tyc (va_A wc sz) w1) (va_A wc sz)) mc ms (va_A wc sz)) : vx_Met l yL_restore wsL_restore ({ frames := rf + 1, cells := mc, slots := ms, locals := rl + 60 }) (mPcX sa sv G (tyw cI cS cJ) [.ref b, .ref ao] sz (ouW cJ ao g :: wc)) (va_Qi (S := Int32 × S) (fun k u => k = 0 ∧ post u.1 u.2) (mB G (tyw cI cS cJ) (va_A (ouW cJ ao g :: wc) sz) (fun u => ouW cJ ao (vp_updL g 0 u.1.toInt64) :: w1 u.2)) (va_A (ouW cJ ao g :: wc) sz)) noX mc ms (va_A (ouW cJ ao g :: wc) sz) := by
  refine mStartW (cc := cL_restore) (maxL := 3) (ret := (some .int)) (hh := [(0, 8, 11, 28)]) (by decide) rfl (Nat.le_of_ble_eq_true rfl) ?_
  intro p e s m below meth c A ls hx hb hml hr hts hown hlocks hA hsz hAe hP hK hD hE htab hS hl
  subst hsz
  subst hAe
  have hl : lv_has ls 3 [(0, .ref b), (1, .ref ao)] := hl
  refine lv_aload_n hx hb dL_restore_0 rfl (lv_at hl 1 rfl) ?_
  refine lv_iconst (v := 0) hx hb dL_restore_1 (by decide) ?_
  refine lv_aload_n hx hb dL_restore_2 rfl (lv_at hl 0 rfl) ?_
  refine mCallPXV_i (As := []) (rest := [.int 0, .ref ao]) (wr := [ouW cJ ao g]) hE ⟨hx, hb, hml, hown, hts⟩ hM (cwV 0 hts gL_restore_X8_restore rfl rfl rfl (by decide +kernel) ⟨Nat.le_refl _, by dsimp only; omega⟩) hP hD hS hA (hty s hK) (List.perm_append_singleton _ wc).symm 0 8 rfl he rfl rfl hl.1 rfl (lv_room (Nat.le_of_ble_eq_true rfl)) dL_restore_3 ⟨Nat.le_of_eq (Nat.zero_add _), Nat.le_of_eq (Nat.zero_add _)⟩ (fun x u H locs hpo hP hD hS => ?_)
  have hP := hP.perm (List.perm_append_singleton (ouW cJ ao g) (w1 u))
  have hD := hD.perm (List.perm_append_singleton (ouW cJ ao g) (w1 u))
  refine lv_i2l (v := x.toInt64) hx hb dL_restore_6 rfl ?_
  refine va_last hx hb hK hP hD hS 0 2 rfl rfl (vp_lit (by decide +kernel)) dL_restore_7 (fun H locs hP hD hS => ?_)
  refine lv_goto (tgt := 14) hx hb dL_restore_8 (by decide) ?_
  refine lv_iconst (v := 0) hx hb dL_restore_14 (by decide) ?_
  exact vx_ret (mEndQ_i (S := Int32 × S) (x, u) hx hb hr hlocks hP hK hD hS ⟨rfl, hpo⟩ rfl (Nat.le_of_eq (Nat.zero_add _)) (Nat.le_of_eq (Nat.zero_add _)) dL_restore_15)
set_option maxHeartbeats 4000000 in
set_option maxRecDepth 100000 in
theorem vL_restore_1 (l : Launch) (sa sv : Nat → Nat) (G : va_G) (cI cS cJ : ClassId) {tyc : List (ClassId × FieldType)} (hty : ∀ s : State, va_K G vwCl (tyw cI cS cJ) s → va_K G vwCl tyc s) (ao : Nat) (g : Nat → Int64) (b : Nat) (sz : Nat) (wc : va_W) {fs : List Value} (he : wc[0]? = some (b, .inr (8, fs))) {w1 : va_W} {rf mc ms rl : Nat} (hM : vx_Met l yX8_restore wsX8_restore ({ frames := rf, cells := mc, slots := ms, locals := rl }) (mPcX sa sv G tyc [.ref b] sz wc) noQ (mXC G tyc (va_A wc sz) 2 w1) mc ms (va_A wc sz)) : vx_Met l yL_restore wsL_restore ({ frames := rf + 1, cells := mc, slots := ms, locals := rl + 60 }) (mPcX sa sv G (tyw cI cS cJ) [.ref b, .ref ao] sz (ouW cJ ao g :: wc)) (va_Qi (S := Unit) (fun k _ => k = 1) (mB G (tyw cI cS cJ) (va_A (ouW cJ ao g :: wc) sz) (fun _ => ouW cJ ao g :: w1)) (va_A (ouW cJ ao g :: wc) sz)) noX mc ms (va_A (ouW cJ ao g :: wc) sz) := by
  refine mStartW (cc := cL_restore) (maxL := 3) (ret := (some .int)) (hh := [(0, 8, 11, 28)]) (by decide) rfl (Nat.le_of_ble_eq_true rfl) ?_
  intro p e s m below meth c A ls hx hb hml hr hts hown hlocks hA hsz hAe hP hK hD hE htab hS hl
  subst hsz
  subst hAe
  have hl : lv_has ls 3 [(0, .ref b), (1, .ref ao)] := hl
  refine lv_aload_n hx hb dL_restore_0 rfl (lv_at hl 1 rfl) ?_
  refine lv_iconst (v := 0) hx hb dL_restore_1 (by decide) ?_
  refine lv_aload_n hx hb dL_restore_2 rfl (lv_at hl 0 rfl) ?_
  refine mThrPV (E0 := 2) (As := []) (rest := [.int 0, .ref ao]) (wr := [ouW cJ ao g]) hE ⟨hx, hb, hml, hown, hts⟩ hM (cwV 0 hts gL_restore_X8_restore rfl rfl rfl (by decide +kernel) ⟨Nat.le_refl _, by dsimp only; omega⟩) hP hD hS hA (hty s hK) (List.perm_append_singleton _ wc).symm 0 8 rfl he rfl rfl hl.1 rfl (lv_room (Nat.le_of_ble_eq_true rfl)) dL_restore_3 ⟨Nat.le_of_eq (Nat.zero_add _), Nat.le_of_eq (Nat.zero_add _)⟩ (fun ce q9 H locs hP hD hS hce hcv hcl => ?_)
  have hP := hP.perm (List.perm_append_singleton (ouW cJ ao g) w1)
  have hD := hD.perm (List.perm_append_singleton (ouW cJ ao g) w1)
  refine vx_catch (own := RL) (name := exN 2) (E := exN 2) hown [] (⟨0, 8, 11, 28⟩ : ExceptionTableEntry) [] htab (fun z hz => absurd hz List.not_mem_nil) rfl (by decide) (hts (.classLink RL 28 "java/lang/IllegalStateException") (by decide +kernel)) (hE.cast (by decide)) hce hcv hcl ?_
  refine lv_astore_n hx hb dL_restore_11 rfl hl (by decide) rfl (fun ls hl => ?_)
  refine lv_iconst (v := 1) hx hb dL_restore_12 (by decide) ?_
  exact vx_ret (mEndQ_i (S := Unit) () hx hb hr hlocks hP hK hD hS rfl rfl (Nat.le_of_eq (Nat.zero_add _)) (Nat.le_of_eq (Nat.zero_add _)) dL_restore_13)
set_option maxHeartbeats 4000000 in
set_option maxRecDepth 100000 in
theorem wL_meaning (l : Launch) (sa sv : Nat → Nat) (G : va_G) (cI cS cJ : ClassId) {tyc : List (ClassId × FieldType)} (hty : ∀ s : State, va_K G vwCl (tyw cI cS cJ) s → va_K G vwCl tyc s) (ao : Nat) (g : Nat → Int64) (b : Nat) (p1 : Int32) (p2 : Int32) (p3 : Int32) (sz : Nat) (wc : va_W) {fs : List Value} (he : wc[0]? = some (b, .inr (8, fs))) {S : Type} {post : Int32 → S → Prop} {w1 : S → va_W} {rf mc ms rl : Nat} (hM : Met l yX8_meaning wsX8_meaning ({ frames := rf, cells := mc, slots := ms, locals := rl }) (mPcX sa sv G tyc [.ref b, .int p1, .int p2, .int p3] sz wc) (va_Qi (S := S) post (mB G tyc (va_A wc sz) w1) (va_A wc sz)) mc ms (va_A wc sz)) : vx_Met l yL_meaning wsL_meaning ({ frames := rf + 1, cells := mc, slots := ms, locals := rl + 60 }) (mPcX sa sv G (tyw cI cS cJ) [.ref b, .int p1, .int p2, .int p3, .ref ao] sz (ouW cJ ao g :: wc)) (va_Qi (S := Int32 × S) (fun k u => k = 0 ∧ post u.1 u.2) (mB G (tyw cI cS cJ) (va_A (ouW cJ ao g :: wc) sz) (fun u => ouW cJ ao (vp_updL g 0 u.1.toInt64) :: w1 u.2)) (va_A (ouW cJ ao g :: wc) sz)) noX mc ms (va_A (ouW cJ ao g :: wc) sz) := by
  refine mStartW (cc := cL_meaning) (maxL := 6) (ret := (some .int)) (hh := [(0, 12, 15, 13), (0, 12, 19, 15)]) (by decide) rfl (Nat.le_of_ble_eq_true rfl) ?_
  intro p e s m below meth c A ls hx hb hml hr hts hown hlocks hA hsz hAe hP hK hD hE htab hS hl
  subst hsz
  subst hAe
  have hl : lv_has ls 6 [(0, .ref b), (1, .int p1), (2, .int p2), (3, .int p3), (4, .ref ao)] := hl
  refine lv_aload hx hb dL_meaning_0 (lv_at hl 4 rfl) ?_
  refine lv_iconst (v := 0) hx hb dL_meaning_2 (by decide) ?_
  refine lv_aload_n hx hb dL_meaning_3 rfl (lv_at hl 0 rfl) ?_
  refine lv_iload_n hx hb dL_meaning_4 rfl (lv_at hl 1 rfl) ?_
  refine lv_iload_n hx hb dL_meaning_5 rfl (lv_at hl 2 rfl) ?_
  refine lv_iload_n hx hb dL_meaning_6 rfl (lv_at hl 3 rfl) ?_
  refine mCallPXV_i (As := [.int p1, .int p2, .int p3]) (rest := [.int 0, .ref ao]) (wr := [ouW cJ ao g]) hE ⟨hx, hb, hml, hown, hts⟩ hM (cwV 3 hts gL_meaning_X8_meaning rfl rfl rfl (by decide +kernel) ⟨Nat.le_refl _, by dsimp only; omega⟩) hP hD hS hA (hty s hK) (List.perm_append_singleton _ wc).symm 0 8 rfl he rfl rfl hl.1 rfl (lv_room (Nat.le_of_ble_eq_true rfl)) dL_meaning_7 ⟨Nat.le_of_eq (Nat.zero_add _), Nat.le_of_eq (Nat.zero_add _)⟩ (fun x u H locs hpo hP hD hS => ?_)
  have hP := hP.perm (List.perm_append_singleton (ouW cJ ao g) (w1 u))
  have hD := hD.perm (List.perm_append_singleton (ouW cJ ao g) (w1 u))
  refine lv_i2l (v := x.toInt64) hx hb dL_meaning_10 rfl ?_
  refine va_last hx hb hK hP hD hS 0 2 rfl rfl (vp_lit (by decide +kernel)) dL_meaning_11 (fun H locs hP hD hS => ?_)
  refine lv_goto (tgt := 23) hx hb dL_meaning_12 (by decide) ?_
  refine lv_iconst (v := 0) hx hb dL_meaning_23 (by decide) ?_
  exact vx_ret (mEndQ_i (S := Int32 × S) (x, u) hx hb hr hlocks hP hK hD hS ⟨rfl, hpo⟩ rfl (Nat.le_of_eq (Nat.zero_add _)) (Nat.le_of_eq (Nat.zero_add _)) dL_meaning_24)
set_option maxHeartbeats 4000000 in
set_option maxRecDepth 100000 in
theorem vL_meaning_1 (l : Launch) (sa sv : Nat → Nat) (G : va_G) (cI cS cJ : ClassId) {tyc : List (ClassId × FieldType)} (hty : ∀ s : State, va_K G vwCl (tyw cI cS cJ) s → va_K G vwCl tyc s) (ao : Nat) (g : Nat → Int64) (b : Nat) (p1 : Int32) (p2 : Int32) (p3 : Int32) (sz : Nat) (wc : va_W) {fs : List Value} (he : wc[0]? = some (b, .inr (8, fs))) {w1 : va_W} {rf mc ms rl : Nat} (hM : vx_Met l yX8_meaning wsX8_meaning ({ frames := rf, cells := mc, slots := ms, locals := rl }) (mPcX sa sv G tyc [.ref b, .int p1, .int p2, .int p3] sz wc) noQ (mXC G tyc (va_A wc sz) 0 w1) mc ms (va_A wc sz)) : vx_Met l yL_meaning wsL_meaning ({ frames := rf + 1, cells := mc, slots := ms, locals := rl + 60 }) (mPcX sa sv G (tyw cI cS cJ) [.ref b, .int p1, .int p2, .int p3, .ref ao] sz (ouW cJ ao g :: wc)) (va_Qi (S := Unit) (fun k _ => k = 1) (mB G (tyw cI cS cJ) (va_A (ouW cJ ao g :: wc) sz) (fun _ => ouW cJ ao g :: w1)) (va_A (ouW cJ ao g :: wc) sz)) noX mc ms (va_A (ouW cJ ao g :: wc) sz) := by
  refine mStartW (cc := cL_meaning) (maxL := 6) (ret := (some .int)) (hh := [(0, 12, 15, 13), (0, 12, 19, 15)]) (by decide) rfl (Nat.le_of_ble_eq_true rfl) ?_
  intro p e s m below meth c A ls hx hb hml hr hts hown hlocks hA hsz hAe hP hK hD hE htab hS hl
  subst hsz
  subst hAe
  have hl : lv_has ls 6 [(0, .ref b), (1, .int p1), (2, .int p2), (3, .int p3), (4, .ref ao)] := hl
  refine lv_aload hx hb dL_meaning_0 (lv_at hl 4 rfl) ?_
  refine lv_iconst (v := 0) hx hb dL_meaning_2 (by decide) ?_
  refine lv_aload_n hx hb dL_meaning_3 rfl (lv_at hl 0 rfl) ?_
  refine lv_iload_n hx hb dL_meaning_4 rfl (lv_at hl 1 rfl) ?_
  refine lv_iload_n hx hb dL_meaning_5 rfl (lv_at hl 2 rfl) ?_
  refine lv_iload_n hx hb dL_meaning_6 rfl (lv_at hl 3 rfl) ?_
  refine mThrPV (E0 := 0) (As := [.int p1, .int p2, .int p3]) (rest := [.int 0, .ref ao]) (wr := [ouW cJ ao g]) hE ⟨hx, hb, hml, hown, hts⟩ hM (cwV 3 hts gL_meaning_X8_meaning rfl rfl rfl (by decide +kernel) ⟨Nat.le_refl _, by dsimp only; omega⟩) hP hD hS hA (hty s hK) (List.perm_append_singleton _ wc).symm 0 8 rfl he rfl rfl hl.1 rfl (lv_room (Nat.le_of_ble_eq_true rfl)) dL_meaning_7 ⟨Nat.le_of_eq (Nat.zero_add _), Nat.le_of_eq (Nat.zero_add _)⟩ (fun ce q9 H locs hP hD hS hce hcv hcl => ?_)
  have hP := hP.perm (List.perm_append_singleton (ouW cJ ao g) w1)
  have hD := hD.perm (List.perm_append_singleton (ouW cJ ao g) w1)
  refine vx_catch (own := RL) (name := exN 0) (E := exN 0) hown [] (⟨0, 12, 15, 13⟩ : ExceptionTableEntry) [(⟨0, 12, 19, 15⟩ : ExceptionTableEntry)] htab (fun z hz => absurd hz List.not_mem_nil) rfl (by decide) (hts (.classLink RL 13 "java/lang/IndexOutOfBoundsException") (by decide +kernel)) (hE.cast (by decide)) hce hcv hcl ?_
  refine lv_astore hx hb dL_meaning_15 hl (by decide) rfl (fun ls hl => ?_)
  refine lv_iconst (v := 1) hx hb dL_meaning_17 (by decide) ?_
  exact vx_ret (mEndQ_i (S := Unit) () hx hb hr hlocks hP hK hD hS rfl rfl (Nat.le_of_eq (Nat.zero_add _)) (Nat.le_of_eq (Nat.zero_add _)) dL_meaning_18)
set_option maxHeartbeats 4000000 in
set_option maxRecDepth 100000 in
theorem vL_meaning_2 (l : Launch) (sa sv : Nat → Nat) (G : va_G) (cI cS cJ : ClassId) {tyc : List (ClassId × FieldType)} (hty : ∀ s : State, va_K G vwCl (tyw cI cS cJ) s → va_K G vwCl tyc s) (ao : Nat) (g : Nat → Int64) (b : Nat) (p1 : Int32) (p2 : Int32) (p3 : Int32) (sz : Nat) (wc : va_W) {fs : List Value} (he : wc[0]? = some (b, .inr (8, fs))) {w1 : va_W} {rf mc ms rl : Nat} (hM : vx_Met l yX8_meaning wsX8_meaning ({ frames := rf, cells := mc, slots := ms, locals := rl }) (mPcX sa sv G tyc [.ref b, .int p1, .int p2, .int p3] sz wc) noQ (mXC G tyc (va_A wc sz) 1 w1) mc ms (va_A wc sz)) : vx_Met l yL_meaning wsL_meaning ({ frames := rf + 1, cells := mc, slots := ms, locals := rl + 60 }) (mPcX sa sv G (tyw cI cS cJ) [.ref b, .int p1, .int p2, .int p3, .ref ao] sz (ouW cJ ao g :: wc)) (va_Qi (S := Unit) (fun k _ => k = 2) (mB G (tyw cI cS cJ) (va_A (ouW cJ ao g :: wc) sz) (fun _ => ouW cJ ao g :: w1)) (va_A (ouW cJ ao g :: wc) sz)) noX mc ms (va_A (ouW cJ ao g :: wc) sz) := by
  refine mStartW (cc := cL_meaning) (maxL := 6) (ret := (some .int)) (hh := [(0, 12, 15, 13), (0, 12, 19, 15)]) (by decide) rfl (Nat.le_of_ble_eq_true rfl) ?_
  intro p e s m below meth c A ls hx hb hml hr hts hown hlocks hA hsz hAe hP hK hD hE htab hS hl
  subst hsz
  subst hAe
  have hl : lv_has ls 6 [(0, .ref b), (1, .int p1), (2, .int p2), (3, .int p3), (4, .ref ao)] := hl
  refine lv_aload hx hb dL_meaning_0 (lv_at hl 4 rfl) ?_
  refine lv_iconst (v := 0) hx hb dL_meaning_2 (by decide) ?_
  refine lv_aload_n hx hb dL_meaning_3 rfl (lv_at hl 0 rfl) ?_
  refine lv_iload_n hx hb dL_meaning_4 rfl (lv_at hl 1 rfl) ?_
  refine lv_iload_n hx hb dL_meaning_5 rfl (lv_at hl 2 rfl) ?_
  refine lv_iload_n hx hb dL_meaning_6 rfl (lv_at hl 3 rfl) ?_
  refine mThrPV (E0 := 1) (As := [.int p1, .int p2, .int p3]) (rest := [.int 0, .ref ao]) (wr := [ouW cJ ao g]) hE ⟨hx, hb, hml, hown, hts⟩ hM (cwV 3 hts gL_meaning_X8_meaning rfl rfl rfl (by decide +kernel) ⟨Nat.le_refl _, by dsimp only; omega⟩) hP hD hS hA (hty s hK) (List.perm_append_singleton _ wc).symm 0 8 rfl he rfl rfl hl.1 rfl (lv_room (Nat.le_of_ble_eq_true rfl)) dL_meaning_7 ⟨Nat.le_of_eq (Nat.zero_add _), Nat.le_of_eq (Nat.zero_add _)⟩ (fun ce q9 H locs hP hD hS hce hcv hcl => ?_)
  have hP := hP.perm (List.perm_append_singleton (ouW cJ ao g) w1)
  have hD := hD.perm (List.perm_append_singleton (ouW cJ ao g) w1)
  refine vx_catch (own := RL) (name := exN 1) (E := exN 1) hown [(⟨0, 12, 15, 13⟩ : ExceptionTableEntry)] (⟨0, 12, 19, 15⟩ : ExceptionTableEntry) [] htab (fun z hz => by obtain rfl := List.mem_singleton.mp hz; exact Or.inr ⟨by decide, "java/lang/IndexOutOfBoundsException", hts (.classLink RL 13 "java/lang/IndexOutOfBoundsException") (by decide +kernel), hE.nc10⟩) rfl (by decide) (hts (.classLink RL 15 "java/lang/IllegalArgumentException") (by decide +kernel)) (hE.cast (by decide)) hce hcv hcl ?_
  refine lv_astore hx hb dL_meaning_19 hl (by decide) rfl (fun ls hl => ?_)
  refine lv_iconst (v := 2) hx hb dL_meaning_21 (by decide) ?_
  exact vx_ret (mEndQ_i (S := Unit) () hx hb hr hlocks hP hK hD hS rfl rfl (Nat.le_of_eq (Nat.zero_add _)) (Nat.le_of_eq (Nat.zero_add _)) dL_meaning_22)
set_option maxHeartbeats 4000000 in
set_option maxRecDepth 100000 in
theorem wL_link (l : Launch) (sa sv : Nat → Nat) (G : va_G) (cI cS cJ : ClassId) {tyc : List (ClassId × FieldType)} (hty : ∀ s : State, va_K G vwCl (tyw cI cS cJ) s → va_K G vwCl tyc s) (ao : Nat) (g : Nat → Int64) (b : Nat) (p1 : Int32) (p2 : Int32) (sz : Nat) (wc : va_W) {fs : List Value} (he : wc[0]? = some (b, .inr (8, fs))) {S : Type} {post : Int32 → S → Prop} {w1 : S → va_W} {rf mc ms rl : Nat} (hM : Met l yX8_link wsX8_link ({ frames := rf, cells := mc, slots := ms, locals := rl }) (mPcX sa sv G tyc [.ref b, .int p1, .int p2] sz wc) (va_Qi (S := S) post (mB G tyc (va_A wc sz) w1) (va_A wc sz)) mc ms (va_A wc sz)) : vx_Met l yL_link wsL_link ({ frames := rf + 1, cells := mc, slots := ms, locals := rl + 60 }) (mPcX sa sv G (tyw cI cS cJ) [.ref b, .int p1, .int p2, .ref ao] sz (ouW cJ ao g :: wc)) (va_Qi (S := Int32 × S) (fun k u => k = 0 ∧ post u.1 u.2) (mB G (tyw cI cS cJ) (va_A (ouW cJ ao g :: wc) sz) (fun u => ouW cJ ao (vp_updL g 0 u.1.toInt64) :: w1 u.2)) (va_A (ouW cJ ao g :: wc) sz)) noX mc ms (va_A (ouW cJ ao g :: wc) sz) := by
  refine mStartW (cc := cL_link) (maxL := 5) (ret := (some .int)) (hh := [(0, 10, 13, 13), (0, 10, 17, 15)]) (by decide) rfl (Nat.le_of_ble_eq_true rfl) ?_
  intro p e s m below meth c A ls hx hb hml hr hts hown hlocks hA hsz hAe hP hK hD hE htab hS hl
  subst hsz
  subst hAe
  have hl : lv_has ls 5 [(0, .ref b), (1, .int p1), (2, .int p2), (3, .ref ao)] := hl
  refine lv_aload_n hx hb dL_link_0 rfl (lv_at hl 3 rfl) ?_
  refine lv_iconst (v := 0) hx hb dL_link_1 (by decide) ?_
  refine lv_aload_n hx hb dL_link_2 rfl (lv_at hl 0 rfl) ?_
  refine lv_iload_n hx hb dL_link_3 rfl (lv_at hl 1 rfl) ?_
  refine lv_iload_n hx hb dL_link_4 rfl (lv_at hl 2 rfl) ?_
  refine mCallPXV_i (As := [.int p1, .int p2]) (rest := [.int 0, .ref ao]) (wr := [ouW cJ ao g]) hE ⟨hx, hb, hml, hown, hts⟩ hM (cwV 2 hts gL_link_X8_link rfl rfl rfl (by decide +kernel) ⟨Nat.le_refl _, by dsimp only; omega⟩) hP hD hS hA (hty s hK) (List.perm_append_singleton _ wc).symm 0 8 rfl he rfl rfl hl.1 rfl (lv_room (Nat.le_of_ble_eq_true rfl)) dL_link_5 ⟨Nat.le_of_eq (Nat.zero_add _), Nat.le_of_eq (Nat.zero_add _)⟩ (fun x u H locs hpo hP hD hS => ?_)
  have hP := hP.perm (List.perm_append_singleton (ouW cJ ao g) (w1 u))
  have hD := hD.perm (List.perm_append_singleton (ouW cJ ao g) (w1 u))
  refine lv_i2l (v := x.toInt64) hx hb dL_link_8 rfl ?_
  refine va_last hx hb hK hP hD hS 0 2 rfl rfl (vp_lit (by decide +kernel)) dL_link_9 (fun H locs hP hD hS => ?_)
  refine lv_goto (tgt := 21) hx hb dL_link_10 (by decide) ?_
  refine lv_iconst (v := 0) hx hb dL_link_21 (by decide) ?_
  exact vx_ret (mEndQ_i (S := Int32 × S) (x, u) hx hb hr hlocks hP hK hD hS ⟨rfl, hpo⟩ rfl (Nat.le_of_eq (Nat.zero_add _)) (Nat.le_of_eq (Nat.zero_add _)) dL_link_22)
set_option maxHeartbeats 4000000 in
set_option maxRecDepth 100000 in
theorem vL_link_1 (l : Launch) (sa sv : Nat → Nat) (G : va_G) (cI cS cJ : ClassId) {tyc : List (ClassId × FieldType)} (hty : ∀ s : State, va_K G vwCl (tyw cI cS cJ) s → va_K G vwCl tyc s) (ao : Nat) (g : Nat → Int64) (b : Nat) (p1 : Int32) (p2 : Int32) (sz : Nat) (wc : va_W) {fs : List Value} (he : wc[0]? = some (b, .inr (8, fs))) {w1 : va_W} {rf mc ms rl : Nat} (hM : vx_Met l yX8_link wsX8_link ({ frames := rf, cells := mc, slots := ms, locals := rl }) (mPcX sa sv G tyc [.ref b, .int p1, .int p2] sz wc) noQ (mXC G tyc (va_A wc sz) 0 w1) mc ms (va_A wc sz)) : vx_Met l yL_link wsL_link ({ frames := rf + 1, cells := mc, slots := ms, locals := rl + 60 }) (mPcX sa sv G (tyw cI cS cJ) [.ref b, .int p1, .int p2, .ref ao] sz (ouW cJ ao g :: wc)) (va_Qi (S := Unit) (fun k _ => k = 1) (mB G (tyw cI cS cJ) (va_A (ouW cJ ao g :: wc) sz) (fun _ => ouW cJ ao g :: w1)) (va_A (ouW cJ ao g :: wc) sz)) noX mc ms (va_A (ouW cJ ao g :: wc) sz) := by
  refine mStartW (cc := cL_link) (maxL := 5) (ret := (some .int)) (hh := [(0, 10, 13, 13), (0, 10, 17, 15)]) (by decide) rfl (Nat.le_of_ble_eq_true rfl) ?_
  intro p e s m below meth c A ls hx hb hml hr hts hown hlocks hA hsz hAe hP hK hD hE htab hS hl
  subst hsz
  subst hAe
  have hl : lv_has ls 5 [(0, .ref b), (1, .int p1), (2, .int p2), (3, .ref ao)] := hl
  refine lv_aload_n hx hb dL_link_0 rfl (lv_at hl 3 rfl) ?_
  refine lv_iconst (v := 0) hx hb dL_link_1 (by decide) ?_
  refine lv_aload_n hx hb dL_link_2 rfl (lv_at hl 0 rfl) ?_
  refine lv_iload_n hx hb dL_link_3 rfl (lv_at hl 1 rfl) ?_
  refine lv_iload_n hx hb dL_link_4 rfl (lv_at hl 2 rfl) ?_
  refine mThrPV (E0 := 0) (As := [.int p1, .int p2]) (rest := [.int 0, .ref ao]) (wr := [ouW cJ ao g]) hE ⟨hx, hb, hml, hown, hts⟩ hM (cwV 2 hts gL_link_X8_link rfl rfl rfl (by decide +kernel) ⟨Nat.le_refl _, by dsimp only; omega⟩) hP hD hS hA (hty s hK) (List.perm_append_singleton _ wc).symm 0 8 rfl he rfl rfl hl.1 rfl (lv_room (Nat.le_of_ble_eq_true rfl)) dL_link_5 ⟨Nat.le_of_eq (Nat.zero_add _), Nat.le_of_eq (Nat.zero_add _)⟩ (fun ce q9 H locs hP hD hS hce hcv hcl => ?_)
  have hP := hP.perm (List.perm_append_singleton (ouW cJ ao g) w1)
  have hD := hD.perm (List.perm_append_singleton (ouW cJ ao g) w1)
  refine vx_catch (own := RL) (name := exN 0) (E := exN 0) hown [] (⟨0, 10, 13, 13⟩ : ExceptionTableEntry) [(⟨0, 10, 17, 15⟩ : ExceptionTableEntry)] htab (fun z hz => absurd hz List.not_mem_nil) rfl (by decide) (hts (.classLink RL 13 "java/lang/IndexOutOfBoundsException") (by decide +kernel)) (hE.cast (by decide)) hce hcv hcl ?_
  refine lv_astore hx hb dL_link_13 hl (by decide) rfl (fun ls hl => ?_)
  refine lv_iconst (v := 1) hx hb dL_link_15 (by decide) ?_
  exact vx_ret (mEndQ_i (S := Unit) () hx hb hr hlocks hP hK hD hS rfl rfl (Nat.le_of_eq (Nat.zero_add _)) (Nat.le_of_eq (Nat.zero_add _)) dL_link_16)
set_option maxHeartbeats 4000000 in
set_option maxRecDepth 100000 in
theorem vL_link_2 (l : Launch) (sa sv : Nat → Nat) (G : va_G) (cI cS cJ : ClassId) {tyc : List (ClassId × FieldType)} (hty : ∀ s : State, va_K G vwCl (tyw cI cS cJ) s → va_K G vwCl tyc s) (ao : Nat) (g : Nat → Int64) (b : Nat) (p1 : Int32) (p2 : Int32) (sz : Nat) (wc : va_W) {fs : List Value} (he : wc[0]? = some (b, .inr (8, fs))) {w1 : va_W} {rf mc ms rl : Nat} (hM : vx_Met l yX8_link wsX8_link ({ frames := rf, cells := mc, slots := ms, locals := rl }) (mPcX sa sv G tyc [.ref b, .int p1, .int p2] sz wc) noQ (mXC G tyc (va_A wc sz) 1 w1) mc ms (va_A wc sz)) : vx_Met l yL_link wsL_link ({ frames := rf + 1, cells := mc, slots := ms, locals := rl + 60 }) (mPcX sa sv G (tyw cI cS cJ) [.ref b, .int p1, .int p2, .ref ao] sz (ouW cJ ao g :: wc)) (va_Qi (S := Unit) (fun k _ => k = 2) (mB G (tyw cI cS cJ) (va_A (ouW cJ ao g :: wc) sz) (fun _ => ouW cJ ao g :: w1)) (va_A (ouW cJ ao g :: wc) sz)) noX mc ms (va_A (ouW cJ ao g :: wc) sz) := by
  refine mStartW (cc := cL_link) (maxL := 5) (ret := (some .int)) (hh := [(0, 10, 13, 13), (0, 10, 17, 15)]) (by decide) rfl (Nat.le_of_ble_eq_true rfl) ?_
  intro p e s m below meth c A ls hx hb hml hr hts hown hlocks hA hsz hAe hP hK hD hE htab hS hl
  subst hsz
  subst hAe
  have hl : lv_has ls 5 [(0, .ref b), (1, .int p1), (2, .int p2), (3, .ref ao)] := hl
  refine lv_aload_n hx hb dL_link_0 rfl (lv_at hl 3 rfl) ?_
  refine lv_iconst (v := 0) hx hb dL_link_1 (by decide) ?_
  refine lv_aload_n hx hb dL_link_2 rfl (lv_at hl 0 rfl) ?_
  refine lv_iload_n hx hb dL_link_3 rfl (lv_at hl 1 rfl) ?_
  refine lv_iload_n hx hb dL_link_4 rfl (lv_at hl 2 rfl) ?_
  refine mThrPV (E0 := 1) (As := [.int p1, .int p2]) (rest := [.int 0, .ref ao]) (wr := [ouW cJ ao g]) hE ⟨hx, hb, hml, hown, hts⟩ hM (cwV 2 hts gL_link_X8_link rfl rfl rfl (by decide +kernel) ⟨Nat.le_refl _, by dsimp only; omega⟩) hP hD hS hA (hty s hK) (List.perm_append_singleton _ wc).symm 0 8 rfl he rfl rfl hl.1 rfl (lv_room (Nat.le_of_ble_eq_true rfl)) dL_link_5 ⟨Nat.le_of_eq (Nat.zero_add _), Nat.le_of_eq (Nat.zero_add _)⟩ (fun ce q9 H locs hP hD hS hce hcv hcl => ?_)
  have hP := hP.perm (List.perm_append_singleton (ouW cJ ao g) w1)
  have hD := hD.perm (List.perm_append_singleton (ouW cJ ao g) w1)
  refine vx_catch (own := RL) (name := exN 1) (E := exN 1) hown [(⟨0, 10, 13, 13⟩ : ExceptionTableEntry)] (⟨0, 10, 17, 15⟩ : ExceptionTableEntry) [] htab (fun z hz => by obtain rfl := List.mem_singleton.mp hz; exact Or.inr ⟨by decide, "java/lang/IndexOutOfBoundsException", hts (.classLink RL 13 "java/lang/IndexOutOfBoundsException") (by decide +kernel), hE.nc10⟩) rfl (by decide) (hts (.classLink RL 15 "java/lang/IllegalArgumentException") (by decide +kernel)) (hE.cast (by decide)) hce hcv hcl ?_
  refine lv_astore hx hb dL_link_17 hl (by decide) rfl (fun ls hl => ?_)
  refine lv_iconst (v := 2) hx hb dL_link_19 (by decide) ?_
  exact vx_ret (mEndQ_i (S := Unit) () hx hb hr hlocks hP hK hD hS rfl rfl (Nat.le_of_eq (Nat.zero_add _)) (Nat.le_of_eq (Nat.zero_add _)) dL_link_20)
set_option maxHeartbeats 4000000 in
set_option maxRecDepth 100000 in
theorem wL_waits (l : Launch) (sa sv : Nat → Nat) (G : va_G) (cI cS cJ : ClassId) {tyc : List (ClassId × FieldType)} (hty : ∀ s : State, va_K G vwCl (tyw cI cS cJ) s → va_K G vwCl tyc s) (ao : Nat) (g : Nat → Int64) (b : Nat) (p1 : Int32) (p2 : Int32) (sz : Nat) (wc : va_W) {fs : List Value} (he : wc[0]? = some (b, .inr (8, fs))) {S : Type} {post : Int32 → S → Prop} {w1 : S → va_W} {rf mc ms rl : Nat} (hM : Met l yX8_waits wsX8_waits ({ frames := rf, cells := mc, slots := ms, locals := rl }) (mPcX sa sv G tyc [.ref b, .int p1, .int p2] sz wc) (va_Qi (S := S) post (mB G tyc (va_A wc sz) w1) (va_A wc sz)) mc ms (va_A wc sz)) : vx_Met l yL_waits wsL_waits ({ frames := rf + 1, cells := mc, slots := ms, locals := rl + 60 }) (mPcX sa sv G (tyw cI cS cJ) [.ref b, .int p1, .int p2, .ref ao] sz (ouW cJ ao g :: wc)) (va_Qi (S := Int32 × S) (fun k u => k = 0 ∧ post u.1 u.2) (mB G (tyw cI cS cJ) (va_A (ouW cJ ao g :: wc) sz) (fun u => ouW cJ ao (vp_updL g 0 u.1.toInt64) :: w1 u.2)) (va_A (ouW cJ ao g :: wc) sz)) noX mc ms (va_A (ouW cJ ao g :: wc) sz) := by
  refine mStartW (cc := cL_waits) (maxL := 5) (ret := (some .int)) (hh := [(0, 10, 13, 15)]) (by decide) rfl (Nat.le_of_ble_eq_true rfl) ?_
  intro p e s m below meth c A ls hx hb hml hr hts hown hlocks hA hsz hAe hP hK hD hE htab hS hl
  subst hsz
  subst hAe
  have hl : lv_has ls 5 [(0, .ref b), (1, .int p1), (2, .int p2), (3, .ref ao)] := hl
  refine lv_aload_n hx hb dL_waits_0 rfl (lv_at hl 3 rfl) ?_
  refine lv_iconst (v := 0) hx hb dL_waits_1 (by decide) ?_
  refine lv_aload_n hx hb dL_waits_2 rfl (lv_at hl 0 rfl) ?_
  refine lv_iload_n hx hb dL_waits_3 rfl (lv_at hl 1 rfl) ?_
  refine lv_iload_n hx hb dL_waits_4 rfl (lv_at hl 2 rfl) ?_
  refine mCallPXV_i (As := [.int p1, .int p2]) (rest := [.int 0, .ref ao]) (wr := [ouW cJ ao g]) hE ⟨hx, hb, hml, hown, hts⟩ hM (cwV 2 hts gL_waits_X8_waits rfl rfl rfl (by decide +kernel) ⟨Nat.le_refl _, by dsimp only; omega⟩) hP hD hS hA (hty s hK) (List.perm_append_singleton _ wc).symm 0 8 rfl he rfl rfl hl.1 rfl (lv_room (Nat.le_of_ble_eq_true rfl)) dL_waits_5 ⟨Nat.le_of_eq (Nat.zero_add _), Nat.le_of_eq (Nat.zero_add _)⟩ (fun x u H locs hpo hP hD hS => ?_)
  have hP := hP.perm (List.perm_append_singleton (ouW cJ ao g) (w1 u))
  have hD := hD.perm (List.perm_append_singleton (ouW cJ ao g) (w1 u))
  refine lv_i2l (v := x.toInt64) hx hb dL_waits_8 rfl ?_
  refine va_last hx hb hK hP hD hS 0 2 rfl rfl (vp_lit (by decide +kernel)) dL_waits_9 (fun H locs hP hD hS => ?_)
  refine lv_goto (tgt := 17) hx hb dL_waits_10 (by decide) ?_
  refine lv_iconst (v := 0) hx hb dL_waits_17 (by decide) ?_
  exact vx_ret (mEndQ_i (S := Int32 × S) (x, u) hx hb hr hlocks hP hK hD hS ⟨rfl, hpo⟩ rfl (Nat.le_of_eq (Nat.zero_add _)) (Nat.le_of_eq (Nat.zero_add _)) dL_waits_18)
set_option maxHeartbeats 4000000 in
set_option maxRecDepth 100000 in
theorem vL_waits_1 (l : Launch) (sa sv : Nat → Nat) (G : va_G) (cI cS cJ : ClassId) {tyc : List (ClassId × FieldType)} (hty : ∀ s : State, va_K G vwCl (tyw cI cS cJ) s → va_K G vwCl tyc s) (ao : Nat) (g : Nat → Int64) (b : Nat) (p1 : Int32) (p2 : Int32) (sz : Nat) (wc : va_W) {fs : List Value} (he : wc[0]? = some (b, .inr (8, fs))) {w1 : va_W} {rf mc ms rl : Nat} (hM : vx_Met l yX8_waits wsX8_waits ({ frames := rf, cells := mc, slots := ms, locals := rl }) (mPcX sa sv G tyc [.ref b, .int p1, .int p2] sz wc) noQ (mXC G tyc (va_A wc sz) 1 w1) mc ms (va_A wc sz)) : vx_Met l yL_waits wsL_waits ({ frames := rf + 1, cells := mc, slots := ms, locals := rl + 60 }) (mPcX sa sv G (tyw cI cS cJ) [.ref b, .int p1, .int p2, .ref ao] sz (ouW cJ ao g :: wc)) (va_Qi (S := Unit) (fun k _ => k = 1) (mB G (tyw cI cS cJ) (va_A (ouW cJ ao g :: wc) sz) (fun _ => ouW cJ ao g :: w1)) (va_A (ouW cJ ao g :: wc) sz)) noX mc ms (va_A (ouW cJ ao g :: wc) sz) := by
  refine mStartW (cc := cL_waits) (maxL := 5) (ret := (some .int)) (hh := [(0, 10, 13, 15)]) (by decide) rfl (Nat.le_of_ble_eq_true rfl) ?_
  intro p e s m below meth c A ls hx hb hml hr hts hown hlocks hA hsz hAe hP hK hD hE htab hS hl
  subst hsz
  subst hAe
  have hl : lv_has ls 5 [(0, .ref b), (1, .int p1), (2, .int p2), (3, .ref ao)] := hl
  refine lv_aload_n hx hb dL_waits_0 rfl (lv_at hl 3 rfl) ?_
  refine lv_iconst (v := 0) hx hb dL_waits_1 (by decide) ?_
  refine lv_aload_n hx hb dL_waits_2 rfl (lv_at hl 0 rfl) ?_
  refine lv_iload_n hx hb dL_waits_3 rfl (lv_at hl 1 rfl) ?_
  refine lv_iload_n hx hb dL_waits_4 rfl (lv_at hl 2 rfl) ?_
  refine mThrPV (E0 := 1) (As := [.int p1, .int p2]) (rest := [.int 0, .ref ao]) (wr := [ouW cJ ao g]) hE ⟨hx, hb, hml, hown, hts⟩ hM (cwV 2 hts gL_waits_X8_waits rfl rfl rfl (by decide +kernel) ⟨Nat.le_refl _, by dsimp only; omega⟩) hP hD hS hA (hty s hK) (List.perm_append_singleton _ wc).symm 0 8 rfl he rfl rfl hl.1 rfl (lv_room (Nat.le_of_ble_eq_true rfl)) dL_waits_5 ⟨Nat.le_of_eq (Nat.zero_add _), Nat.le_of_eq (Nat.zero_add _)⟩ (fun ce q9 H locs hP hD hS hce hcv hcl => ?_)
  have hP := hP.perm (List.perm_append_singleton (ouW cJ ao g) w1)
  have hD := hD.perm (List.perm_append_singleton (ouW cJ ao g) w1)
  refine vx_catch (own := RL) (name := exN 1) (E := exN 1) hown [] (⟨0, 10, 13, 15⟩ : ExceptionTableEntry) [] htab (fun z hz => absurd hz List.not_mem_nil) rfl (by decide) (hts (.classLink RL 15 "java/lang/IllegalArgumentException") (by decide +kernel)) (hE.cast (by decide)) hce hcv hcl ?_
  refine lv_astore hx hb dL_waits_13 hl (by decide) rfl (fun ls hl => ?_)
  refine lv_iconst (v := 1) hx hb dL_waits_15 (by decide) ?_
  exact vx_ret (mEndQ_i (S := Unit) () hx hb hr hlocks hP hK hD hS rfl rfl (Nat.le_of_eq (Nat.zero_add _)) (Nat.le_of_eq (Nat.zero_add _)) dL_waits_16)
set_option maxHeartbeats 4000000 in
set_option maxRecDepth 100000 in
theorem wL_arrival (l : Launch) (sa sv : Nat → Nat) (G : va_G) (cI cS cJ : ClassId) {tyc : List (ClassId × FieldType)} (hty : ∀ s : State, va_K G vwCl (tyw cI cS cJ) s → va_K G vwCl tyc s) (ao : Nat) (g : Nat → Int64) (b : Nat) (p1 : Int32) (p2 : Int32) (sz : Nat) (wc : va_W) {fs : List Value} (he : wc[0]? = some (b, .inr (8, fs))) {S : Type} {post : Int32 → S → Prop} {w1 : S → va_W} {rf mc ms rl : Nat} (hM : Met l yX8_arrival wsX8_arrival ({ frames := rf, cells := mc, slots := ms, locals := rl }) (mPcX sa sv G tyc [.ref b, .int p1, .int p2] sz wc) (va_Qi (S := S) post (mB G tyc (va_A wc sz) w1) (va_A wc sz)) mc ms (va_A wc sz)) : vx_Met l yL_arrival wsL_arrival ({ frames := rf + 1, cells := mc, slots := ms, locals := rl + 60 }) (mPcX sa sv G (tyw cI cS cJ) [.ref b, .int p1, .int p2, .ref ao] sz (ouW cJ ao g :: wc)) (va_Qi (S := Int32 × S) (fun k u => k = 0 ∧ post u.1 u.2) (mB G (tyw cI cS cJ) (va_A (ouW cJ ao g :: wc) sz) (fun u => ouW cJ ao (vp_updL g 0 u.1.toInt64) :: w1 u.2)) (va_A (ouW cJ ao g :: wc) sz)) noX mc ms (va_A (ouW cJ ao g :: wc) sz) := by
  refine mStartW (cc := cL_arrival) (maxL := 5) (ret := (some .int)) (hh := [(0, 10, 13, 15)]) (by decide) rfl (Nat.le_of_ble_eq_true rfl) ?_
  intro p e s m below meth c A ls hx hb hml hr hts hown hlocks hA hsz hAe hP hK hD hE htab hS hl
  subst hsz
  subst hAe
  have hl : lv_has ls 5 [(0, .ref b), (1, .int p1), (2, .int p2), (3, .ref ao)] := hl
  refine lv_aload_n hx hb dL_arrival_0 rfl (lv_at hl 3 rfl) ?_
  refine lv_iconst (v := 0) hx hb dL_arrival_1 (by decide) ?_
  refine lv_aload_n hx hb dL_arrival_2 rfl (lv_at hl 0 rfl) ?_
  refine lv_iload_n hx hb dL_arrival_3 rfl (lv_at hl 1 rfl) ?_
  refine lv_iload_n hx hb dL_arrival_4 rfl (lv_at hl 2 rfl) ?_
  refine mCallPXV_i (As := [.int p1, .int p2]) (rest := [.int 0, .ref ao]) (wr := [ouW cJ ao g]) hE ⟨hx, hb, hml, hown, hts⟩ hM (cwV 2 hts gL_arrival_X8_arrival rfl rfl rfl (by decide +kernel) ⟨Nat.le_refl _, by dsimp only; omega⟩) hP hD hS hA (hty s hK) (List.perm_append_singleton _ wc).symm 0 8 rfl he rfl rfl hl.1 rfl (lv_room (Nat.le_of_ble_eq_true rfl)) dL_arrival_5 ⟨Nat.le_of_eq (Nat.zero_add _), Nat.le_of_eq (Nat.zero_add _)⟩ (fun x u H locs hpo hP hD hS => ?_)
  have hP := hP.perm (List.perm_append_singleton (ouW cJ ao g) (w1 u))
  have hD := hD.perm (List.perm_append_singleton (ouW cJ ao g) (w1 u))
  refine lv_i2l (v := x.toInt64) hx hb dL_arrival_8 rfl ?_
  refine va_last hx hb hK hP hD hS 0 2 rfl rfl (vp_lit (by decide +kernel)) dL_arrival_9 (fun H locs hP hD hS => ?_)
  refine lv_goto (tgt := 17) hx hb dL_arrival_10 (by decide) ?_
  refine lv_iconst (v := 0) hx hb dL_arrival_17 (by decide) ?_
  exact vx_ret (mEndQ_i (S := Int32 × S) (x, u) hx hb hr hlocks hP hK hD hS ⟨rfl, hpo⟩ rfl (Nat.le_of_eq (Nat.zero_add _)) (Nat.le_of_eq (Nat.zero_add _)) dL_arrival_18)
set_option maxHeartbeats 4000000 in
set_option maxRecDepth 100000 in
theorem vL_arrival_1 (l : Launch) (sa sv : Nat → Nat) (G : va_G) (cI cS cJ : ClassId) {tyc : List (ClassId × FieldType)} (hty : ∀ s : State, va_K G vwCl (tyw cI cS cJ) s → va_K G vwCl tyc s) (ao : Nat) (g : Nat → Int64) (b : Nat) (p1 : Int32) (p2 : Int32) (sz : Nat) (wc : va_W) {fs : List Value} (he : wc[0]? = some (b, .inr (8, fs))) {w1 : va_W} {rf mc ms rl : Nat} (hM : vx_Met l yX8_arrival wsX8_arrival ({ frames := rf, cells := mc, slots := ms, locals := rl }) (mPcX sa sv G tyc [.ref b, .int p1, .int p2] sz wc) noQ (mXC G tyc (va_A wc sz) 1 w1) mc ms (va_A wc sz)) : vx_Met l yL_arrival wsL_arrival ({ frames := rf + 1, cells := mc, slots := ms, locals := rl + 60 }) (mPcX sa sv G (tyw cI cS cJ) [.ref b, .int p1, .int p2, .ref ao] sz (ouW cJ ao g :: wc)) (va_Qi (S := Unit) (fun k _ => k = 1) (mB G (tyw cI cS cJ) (va_A (ouW cJ ao g :: wc) sz) (fun _ => ouW cJ ao g :: w1)) (va_A (ouW cJ ao g :: wc) sz)) noX mc ms (va_A (ouW cJ ao g :: wc) sz) := by
  refine mStartW (cc := cL_arrival) (maxL := 5) (ret := (some .int)) (hh := [(0, 10, 13, 15)]) (by decide) rfl (Nat.le_of_ble_eq_true rfl) ?_
  intro p e s m below meth c A ls hx hb hml hr hts hown hlocks hA hsz hAe hP hK hD hE htab hS hl
  subst hsz
  subst hAe
  have hl : lv_has ls 5 [(0, .ref b), (1, .int p1), (2, .int p2), (3, .ref ao)] := hl
  refine lv_aload_n hx hb dL_arrival_0 rfl (lv_at hl 3 rfl) ?_
  refine lv_iconst (v := 0) hx hb dL_arrival_1 (by decide) ?_
  refine lv_aload_n hx hb dL_arrival_2 rfl (lv_at hl 0 rfl) ?_
  refine lv_iload_n hx hb dL_arrival_3 rfl (lv_at hl 1 rfl) ?_
  refine lv_iload_n hx hb dL_arrival_4 rfl (lv_at hl 2 rfl) ?_
  refine mThrPV (E0 := 1) (As := [.int p1, .int p2]) (rest := [.int 0, .ref ao]) (wr := [ouW cJ ao g]) hE ⟨hx, hb, hml, hown, hts⟩ hM (cwV 2 hts gL_arrival_X8_arrival rfl rfl rfl (by decide +kernel) ⟨Nat.le_refl _, by dsimp only; omega⟩) hP hD hS hA (hty s hK) (List.perm_append_singleton _ wc).symm 0 8 rfl he rfl rfl hl.1 rfl (lv_room (Nat.le_of_ble_eq_true rfl)) dL_arrival_5 ⟨Nat.le_of_eq (Nat.zero_add _), Nat.le_of_eq (Nat.zero_add _)⟩ (fun ce q9 H locs hP hD hS hce hcv hcl => ?_)
  have hP := hP.perm (List.perm_append_singleton (ouW cJ ao g) w1)
  have hD := hD.perm (List.perm_append_singleton (ouW cJ ao g) w1)
  refine vx_catch (own := RL) (name := exN 1) (E := exN 1) hown [] (⟨0, 10, 13, 15⟩ : ExceptionTableEntry) [] htab (fun z hz => absurd hz List.not_mem_nil) rfl (by decide) (hts (.classLink RL 15 "java/lang/IllegalArgumentException") (by decide +kernel)) (hE.cast (by decide)) hce hcv hcl ?_
  refine lv_astore hx hb dL_arrival_13 hl (by decide) rfl (fun ls hl => ?_)
  refine lv_iconst (v := 1) hx hb dL_arrival_15 (by decide) ?_
  exact vx_ret (mEndQ_i (S := Unit) () hx hb hr hlocks hP hK hD hS rfl rfl (Nat.le_of_eq (Nat.zero_add _)) (Nat.le_of_eq (Nat.zero_add _)) dL_arrival_16)
set_option maxHeartbeats 4000000 in
set_option maxRecDepth 100000 in
theorem wL_count (l : Launch) (sa sv : Nat → Nat) (G : va_G) (cI cS cJ : ClassId) {tyc : List (ClassId × FieldType)} (hty : ∀ s : State, va_K G vwCl (tyw cI cS cJ) s → va_K G vwCl tyc s) (ao : Nat) (g : Nat → Int64) (b : Nat) (p1 : Int32) (sz : Nat) (wc : va_W) {fs : List Value} (he : wc[0]? = some (b, .inr (8, fs))) {S : Type} {post : Int32 → S → Prop} {w1 : S → va_W} {rf mc ms rl : Nat} (hM : Met l yX8_count wsX8_count ({ frames := rf, cells := mc, slots := ms, locals := rl }) (mPcX sa sv G tyc [.ref b, .int p1] sz wc) (va_Qi (S := S) post (mB G tyc (va_A wc sz) w1) (va_A wc sz)) mc ms (va_A wc sz)) : vx_Met l yL_count wsL_count ({ frames := rf + 1, cells := mc, slots := ms, locals := rl + 60 }) (mPcX sa sv G (tyw cI cS cJ) [.ref b, .int p1, .ref ao] sz (ouW cJ ao g :: wc)) (va_Qi (S := Int32 × S) (fun k u => k = 0 ∧ post u.1 u.2) (mB G (tyw cI cS cJ) (va_A (ouW cJ ao g :: wc) sz) (fun u => ouW cJ ao (vp_updL g 0 u.1.toInt64) :: w1 u.2)) (va_A (ouW cJ ao g :: wc) sz)) noX mc ms (va_A (ouW cJ ao g :: wc) sz) := by
  refine mStartW (cc := cL_count) (maxL := 4) (ret := (some .int)) (hh := [(0, 9, 12, 15)]) (by decide) rfl (Nat.le_of_ble_eq_true rfl) ?_
  intro p e s m below meth c A ls hx hb hml hr hts hown hlocks hA hsz hAe hP hK hD hE htab hS hl
  subst hsz
  subst hAe
  have hl : lv_has ls 4 [(0, .ref b), (1, .int p1), (2, .ref ao)] := hl
  refine lv_aload_n hx hb dL_count_0 rfl (lv_at hl 2 rfl) ?_
  refine lv_iconst (v := 0) hx hb dL_count_1 (by decide) ?_
  refine lv_aload_n hx hb dL_count_2 rfl (lv_at hl 0 rfl) ?_
  refine lv_iload_n hx hb dL_count_3 rfl (lv_at hl 1 rfl) ?_
  refine mCallPXV_i (As := [.int p1]) (rest := [.int 0, .ref ao]) (wr := [ouW cJ ao g]) hE ⟨hx, hb, hml, hown, hts⟩ hM (cwV 1 hts gL_count_X8_count rfl rfl rfl (by decide +kernel) ⟨Nat.le_refl _, by dsimp only; omega⟩) hP hD hS hA (hty s hK) (List.perm_append_singleton _ wc).symm 0 8 rfl he rfl rfl hl.1 rfl (lv_room (Nat.le_of_ble_eq_true rfl)) dL_count_4 ⟨Nat.le_of_eq (Nat.zero_add _), Nat.le_of_eq (Nat.zero_add _)⟩ (fun x u H locs hpo hP hD hS => ?_)
  have hP := hP.perm (List.perm_append_singleton (ouW cJ ao g) (w1 u))
  have hD := hD.perm (List.perm_append_singleton (ouW cJ ao g) (w1 u))
  refine lv_i2l (v := x.toInt64) hx hb dL_count_7 rfl ?_
  refine va_last hx hb hK hP hD hS 0 2 rfl rfl (vp_lit (by decide +kernel)) dL_count_8 (fun H locs hP hD hS => ?_)
  refine lv_goto (tgt := 15) hx hb dL_count_9 (by decide) ?_
  refine lv_iconst (v := 0) hx hb dL_count_15 (by decide) ?_
  exact vx_ret (mEndQ_i (S := Int32 × S) (x, u) hx hb hr hlocks hP hK hD hS ⟨rfl, hpo⟩ rfl (Nat.le_of_eq (Nat.zero_add _)) (Nat.le_of_eq (Nat.zero_add _)) dL_count_16)
set_option maxHeartbeats 4000000 in
set_option maxRecDepth 100000 in
theorem vL_count_1 (l : Launch) (sa sv : Nat → Nat) (G : va_G) (cI cS cJ : ClassId) {tyc : List (ClassId × FieldType)} (hty : ∀ s : State, va_K G vwCl (tyw cI cS cJ) s → va_K G vwCl tyc s) (ao : Nat) (g : Nat → Int64) (b : Nat) (p1 : Int32) (sz : Nat) (wc : va_W) {fs : List Value} (he : wc[0]? = some (b, .inr (8, fs))) {w1 : va_W} {rf mc ms rl : Nat} (hM : vx_Met l yX8_count wsX8_count ({ frames := rf, cells := mc, slots := ms, locals := rl }) (mPcX sa sv G tyc [.ref b, .int p1] sz wc) noQ (mXC G tyc (va_A wc sz) 1 w1) mc ms (va_A wc sz)) : vx_Met l yL_count wsL_count ({ frames := rf + 1, cells := mc, slots := ms, locals := rl + 60 }) (mPcX sa sv G (tyw cI cS cJ) [.ref b, .int p1, .ref ao] sz (ouW cJ ao g :: wc)) (va_Qi (S := Unit) (fun k _ => k = 1) (mB G (tyw cI cS cJ) (va_A (ouW cJ ao g :: wc) sz) (fun _ => ouW cJ ao g :: w1)) (va_A (ouW cJ ao g :: wc) sz)) noX mc ms (va_A (ouW cJ ao g :: wc) sz) := by
  refine mStartW (cc := cL_count) (maxL := 4) (ret := (some .int)) (hh := [(0, 9, 12, 15)]) (by decide) rfl (Nat.le_of_ble_eq_true rfl) ?_
  intro p e s m below meth c A ls hx hb hml hr hts hown hlocks hA hsz hAe hP hK hD hE htab hS hl
  subst hsz
  subst hAe
  have hl : lv_has ls 4 [(0, .ref b), (1, .int p1), (2, .ref ao)] := hl
  refine lv_aload_n hx hb dL_count_0 rfl (lv_at hl 2 rfl) ?_
  refine lv_iconst (v := 0) hx hb dL_count_1 (by decide) ?_
  refine lv_aload_n hx hb dL_count_2 rfl (lv_at hl 0 rfl) ?_
  refine lv_iload_n hx hb dL_count_3 rfl (lv_at hl 1 rfl) ?_
  refine mThrPV (E0 := 1) (As := [.int p1]) (rest := [.int 0, .ref ao]) (wr := [ouW cJ ao g]) hE ⟨hx, hb, hml, hown, hts⟩ hM (cwV 1 hts gL_count_X8_count rfl rfl rfl (by decide +kernel) ⟨Nat.le_refl _, by dsimp only; omega⟩) hP hD hS hA (hty s hK) (List.perm_append_singleton _ wc).symm 0 8 rfl he rfl rfl hl.1 rfl (lv_room (Nat.le_of_ble_eq_true rfl)) dL_count_4 ⟨Nat.le_of_eq (Nat.zero_add _), Nat.le_of_eq (Nat.zero_add _)⟩ (fun ce q9 H locs hP hD hS hce hcv hcl => ?_)
  have hP := hP.perm (List.perm_append_singleton (ouW cJ ao g) w1)
  have hD := hD.perm (List.perm_append_singleton (ouW cJ ao g) w1)
  refine vx_catch (own := RL) (name := exN 1) (E := exN 1) hown [] (⟨0, 9, 12, 15⟩ : ExceptionTableEntry) [] htab (fun z hz => absurd hz List.not_mem_nil) rfl (by decide) (hts (.classLink RL 15 "java/lang/IllegalArgumentException") (by decide +kernel)) (hE.cast (by decide)) hce hcv hcl ?_
  refine lv_astore_n hx hb dL_count_12 rfl hl (by decide) rfl (fun ls hl => ?_)
  refine lv_iconst (v := 1) hx hb dL_count_13 (by decide) ?_
  exact vx_ret (mEndQ_i (S := Unit) () hx hb hr hlocks hP hK hD hS rfl rfl (Nat.le_of_eq (Nat.zero_add _)) (Nat.le_of_eq (Nat.zero_add _)) dL_count_14)
set_option maxHeartbeats 4000000 in
set_option maxRecDepth 100000 in
theorem wL_lost (l : Launch) (sa sv : Nat → Nat) (G : va_G) (cI cS cJ : ClassId) {tyc : List (ClassId × FieldType)} (hty : ∀ s : State, va_K G vwCl (tyw cI cS cJ) s → va_K G vwCl tyc s) (ao : Nat) (g : Nat → Int64) (b : Nat) (p1 : Int32) (p2 : Int32) (sz : Nat) (wc : va_W) {fs : List Value} (he : wc[0]? = some (b, .inr (8, fs))) {S : Type} {post : Int32 → S → Prop} {w1 : S → va_W} {rf mc ms rl : Nat} (hM : Met l yX8_lost wsX8_lost ({ frames := rf, cells := mc, slots := ms, locals := rl }) (mPcX sa sv G tyc [.ref b, .int p1, .int p2] sz wc) (va_Qi (S := S) post (mB G tyc (va_A wc sz) w1) (va_A wc sz)) mc ms (va_A wc sz)) : vx_Met l yL_lost wsL_lost ({ frames := rf + 1, cells := mc, slots := ms, locals := rl + 60 }) (mPcX sa sv G (tyw cI cS cJ) [.ref b, .int p1, .int p2, .ref ao] sz (ouW cJ ao g :: wc)) (va_Qi (S := Int32 × S) (fun k u => k = 0 ∧ post u.1 u.2) (mB G (tyw cI cS cJ) (va_A (ouW cJ ao g :: wc) sz) (fun u => ouW cJ ao (vp_updL g 0 u.1.toInt64) :: w1 u.2)) (va_A (ouW cJ ao g :: wc) sz)) noX mc ms (va_A (ouW cJ ao g :: wc) sz) := by
  refine mStartW (cc := cL_lost) (maxL := 5) (ret := (some .int)) (hh := [(0, 10, 13, 15)]) (by decide) rfl (Nat.le_of_ble_eq_true rfl) ?_
  intro p e s m below meth c A ls hx hb hml hr hts hown hlocks hA hsz hAe hP hK hD hE htab hS hl
  subst hsz
  subst hAe
  have hl : lv_has ls 5 [(0, .ref b), (1, .int p1), (2, .int p2), (3, .ref ao)] := hl
  refine lv_aload_n hx hb dL_lost_0 rfl (lv_at hl 3 rfl) ?_
  refine lv_iconst (v := 0) hx hb dL_lost_1 (by decide) ?_
  refine lv_aload_n hx hb dL_lost_2 rfl (lv_at hl 0 rfl) ?_
  refine lv_iload_n hx hb dL_lost_3 rfl (lv_at hl 1 rfl) ?_
  refine lv_iload_n hx hb dL_lost_4 rfl (lv_at hl 2 rfl) ?_
  refine mCallPXV_i (As := [.int p1, .int p2]) (rest := [.int 0, .ref ao]) (wr := [ouW cJ ao g]) hE ⟨hx, hb, hml, hown, hts⟩ hM (cwV 2 hts gL_lost_X8_lost rfl rfl rfl (by decide +kernel) ⟨Nat.le_refl _, by dsimp only; omega⟩) hP hD hS hA (hty s hK) (List.perm_append_singleton _ wc).symm 0 8 rfl he rfl rfl hl.1 rfl (lv_room (Nat.le_of_ble_eq_true rfl)) dL_lost_5 ⟨Nat.le_of_eq (Nat.zero_add _), Nat.le_of_eq (Nat.zero_add _)⟩ (fun x u H locs hpo hP hD hS => ?_)
  have hP := hP.perm (List.perm_append_singleton (ouW cJ ao g) (w1 u))
  have hD := hD.perm (List.perm_append_singleton (ouW cJ ao g) (w1 u))
  refine lv_i2l (v := x.toInt64) hx hb dL_lost_8 rfl ?_
  refine va_last hx hb hK hP hD hS 0 2 rfl rfl (vp_lit (by decide +kernel)) dL_lost_9 (fun H locs hP hD hS => ?_)
  refine lv_goto (tgt := 17) hx hb dL_lost_10 (by decide) ?_
  refine lv_iconst (v := 0) hx hb dL_lost_17 (by decide) ?_
  exact vx_ret (mEndQ_i (S := Int32 × S) (x, u) hx hb hr hlocks hP hK hD hS ⟨rfl, hpo⟩ rfl (Nat.le_of_eq (Nat.zero_add _)) (Nat.le_of_eq (Nat.zero_add _)) dL_lost_18)
set_option maxHeartbeats 4000000 in
set_option maxRecDepth 100000 in
theorem vL_lost_1 (l : Launch) (sa sv : Nat → Nat) (G : va_G) (cI cS cJ : ClassId) {tyc : List (ClassId × FieldType)} (hty : ∀ s : State, va_K G vwCl (tyw cI cS cJ) s → va_K G vwCl tyc s) (ao : Nat) (g : Nat → Int64) (b : Nat) (p1 : Int32) (p2 : Int32) (sz : Nat) (wc : va_W) {fs : List Value} (he : wc[0]? = some (b, .inr (8, fs))) {w1 : va_W} {rf mc ms rl : Nat} (hM : vx_Met l yX8_lost wsX8_lost ({ frames := rf, cells := mc, slots := ms, locals := rl }) (mPcX sa sv G tyc [.ref b, .int p1, .int p2] sz wc) noQ (mXC G tyc (va_A wc sz) 1 w1) mc ms (va_A wc sz)) : vx_Met l yL_lost wsL_lost ({ frames := rf + 1, cells := mc, slots := ms, locals := rl + 60 }) (mPcX sa sv G (tyw cI cS cJ) [.ref b, .int p1, .int p2, .ref ao] sz (ouW cJ ao g :: wc)) (va_Qi (S := Unit) (fun k _ => k = 1) (mB G (tyw cI cS cJ) (va_A (ouW cJ ao g :: wc) sz) (fun _ => ouW cJ ao g :: w1)) (va_A (ouW cJ ao g :: wc) sz)) noX mc ms (va_A (ouW cJ ao g :: wc) sz) := by
  refine mStartW (cc := cL_lost) (maxL := 5) (ret := (some .int)) (hh := [(0, 10, 13, 15)]) (by decide) rfl (Nat.le_of_ble_eq_true rfl) ?_
  intro p e s m below meth c A ls hx hb hml hr hts hown hlocks hA hsz hAe hP hK hD hE htab hS hl
  subst hsz
  subst hAe
  have hl : lv_has ls 5 [(0, .ref b), (1, .int p1), (2, .int p2), (3, .ref ao)] := hl
  refine lv_aload_n hx hb dL_lost_0 rfl (lv_at hl 3 rfl) ?_
  refine lv_iconst (v := 0) hx hb dL_lost_1 (by decide) ?_
  refine lv_aload_n hx hb dL_lost_2 rfl (lv_at hl 0 rfl) ?_
  refine lv_iload_n hx hb dL_lost_3 rfl (lv_at hl 1 rfl) ?_
  refine lv_iload_n hx hb dL_lost_4 rfl (lv_at hl 2 rfl) ?_
  refine mThrPV (E0 := 1) (As := [.int p1, .int p2]) (rest := [.int 0, .ref ao]) (wr := [ouW cJ ao g]) hE ⟨hx, hb, hml, hown, hts⟩ hM (cwV 2 hts gL_lost_X8_lost rfl rfl rfl (by decide +kernel) ⟨Nat.le_refl _, by dsimp only; omega⟩) hP hD hS hA (hty s hK) (List.perm_append_singleton _ wc).symm 0 8 rfl he rfl rfl hl.1 rfl (lv_room (Nat.le_of_ble_eq_true rfl)) dL_lost_5 ⟨Nat.le_of_eq (Nat.zero_add _), Nat.le_of_eq (Nat.zero_add _)⟩ (fun ce q9 H locs hP hD hS hce hcv hcl => ?_)
  have hP := hP.perm (List.perm_append_singleton (ouW cJ ao g) w1)
  have hD := hD.perm (List.perm_append_singleton (ouW cJ ao g) w1)
  refine vx_catch (own := RL) (name := exN 1) (E := exN 1) hown [] (⟨0, 10, 13, 15⟩ : ExceptionTableEntry) [] htab (fun z hz => absurd hz List.not_mem_nil) rfl (by decide) (hts (.classLink RL 15 "java/lang/IllegalArgumentException") (by decide +kernel)) (hE.cast (by decide)) hce hcv hcl ?_
  refine lv_astore hx hb dL_lost_13 hl (by decide) rfl (fun ls hl => ?_)
  refine lv_iconst (v := 1) hx hb dL_lost_15 (by decide) ?_
  exact vx_ret (mEndQ_i (S := Unit) () hx hb hr hlocks hP hK hD hS rfl rfl (Nat.le_of_eq (Nat.zero_add _)) (Nat.le_of_eq (Nat.zero_add _)) dL_lost_16)
set_option maxHeartbeats 4000000 in
set_option maxRecDepth 100000 in
theorem wL_ifGone (l : Launch) (sa sv : Nat → Nat) (G : va_G) (cI cS cJ : ClassId) {tyc : List (ClassId × FieldType)} (hty : ∀ s : State, va_K G vwCl (tyw cI cS cJ) s → va_K G vwCl tyc s) (ao : Nat) (g : Nat → Int64) (b : Nat) (p1 : Int32) (p2 : Int32) (sz : Nat) (wc : va_W) {fs : List Value} (he : wc[0]? = some (b, .inr (8, fs))) {S : Type} {post : Int32 → S → Prop} {w1 : S → va_W} {rf mc ms rl : Nat} (hM : Met l yX8_ifGone wsX8_ifGone ({ frames := rf, cells := mc, slots := ms, locals := rl }) (mPcX sa sv G tyc [.ref b, .int p1, .int p2] sz wc) (va_Qi (S := S) post (mB G tyc (va_A wc sz) w1) (va_A wc sz)) mc ms (va_A wc sz)) : vx_Met l yL_ifGone wsL_ifGone ({ frames := rf + 1, cells := mc, slots := ms, locals := rl + 60 }) (mPcX sa sv G (tyw cI cS cJ) [.ref b, .int p1, .int p2, .ref ao] sz (ouW cJ ao g :: wc)) (va_Qi (S := Int32 × S) (fun k u => k = 0 ∧ post u.1 u.2) (mB G (tyw cI cS cJ) (va_A (ouW cJ ao g :: wc) sz) (fun u => ouW cJ ao (vp_updL g 0 u.1.toInt64) :: w1 u.2)) (va_A (ouW cJ ao g :: wc) sz)) noX mc ms (va_A (ouW cJ ao g :: wc) sz) := by
  refine mStartW (cc := cL_ifGone) (maxL := 5) (ret := (some .int)) (hh := [(0, 10, 13, 13), (0, 10, 17, 15)]) (by decide) rfl (Nat.le_of_ble_eq_true rfl) ?_
  intro p e s m below meth c A ls hx hb hml hr hts hown hlocks hA hsz hAe hP hK hD hE htab hS hl
  subst hsz
  subst hAe
  have hl : lv_has ls 5 [(0, .ref b), (1, .int p1), (2, .int p2), (3, .ref ao)] := hl
  refine lv_aload_n hx hb dL_ifGone_0 rfl (lv_at hl 3 rfl) ?_
  refine lv_iconst (v := 0) hx hb dL_ifGone_1 (by decide) ?_
  refine lv_aload_n hx hb dL_ifGone_2 rfl (lv_at hl 0 rfl) ?_
  refine lv_iload_n hx hb dL_ifGone_3 rfl (lv_at hl 1 rfl) ?_
  refine lv_iload_n hx hb dL_ifGone_4 rfl (lv_at hl 2 rfl) ?_
  refine mCallPXV_i (As := [.int p1, .int p2]) (rest := [.int 0, .ref ao]) (wr := [ouW cJ ao g]) hE ⟨hx, hb, hml, hown, hts⟩ hM (cwV 2 hts gL_ifGone_X8_ifGone rfl rfl rfl (by decide +kernel) ⟨Nat.le_refl _, by dsimp only; omega⟩) hP hD hS hA (hty s hK) (List.perm_append_singleton _ wc).symm 0 8 rfl he rfl rfl hl.1 rfl (lv_room (Nat.le_of_ble_eq_true rfl)) dL_ifGone_5 ⟨Nat.le_of_eq (Nat.zero_add _), Nat.le_of_eq (Nat.zero_add _)⟩ (fun x u H locs hpo hP hD hS => ?_)
  have hP := hP.perm (List.perm_append_singleton (ouW cJ ao g) (w1 u))
  have hD := hD.perm (List.perm_append_singleton (ouW cJ ao g) (w1 u))
  refine lv_i2l (v := x.toInt64) hx hb dL_ifGone_8 rfl ?_
  refine va_last hx hb hK hP hD hS 0 2 rfl rfl (vp_lit (by decide +kernel)) dL_ifGone_9 (fun H locs hP hD hS => ?_)
  refine lv_goto (tgt := 21) hx hb dL_ifGone_10 (by decide) ?_
  refine lv_iconst (v := 0) hx hb dL_ifGone_21 (by decide) ?_
  exact vx_ret (mEndQ_i (S := Int32 × S) (x, u) hx hb hr hlocks hP hK hD hS ⟨rfl, hpo⟩ rfl (Nat.le_of_eq (Nat.zero_add _)) (Nat.le_of_eq (Nat.zero_add _)) dL_ifGone_22)
set_option maxHeartbeats 4000000 in
set_option maxRecDepth 100000 in
theorem vL_ifGone_1 (l : Launch) (sa sv : Nat → Nat) (G : va_G) (cI cS cJ : ClassId) {tyc : List (ClassId × FieldType)} (hty : ∀ s : State, va_K G vwCl (tyw cI cS cJ) s → va_K G vwCl tyc s) (ao : Nat) (g : Nat → Int64) (b : Nat) (p1 : Int32) (p2 : Int32) (sz : Nat) (wc : va_W) {fs : List Value} (he : wc[0]? = some (b, .inr (8, fs))) {w1 : va_W} {rf mc ms rl : Nat} (hM : vx_Met l yX8_ifGone wsX8_ifGone ({ frames := rf, cells := mc, slots := ms, locals := rl }) (mPcX sa sv G tyc [.ref b, .int p1, .int p2] sz wc) noQ (mXC G tyc (va_A wc sz) 0 w1) mc ms (va_A wc sz)) : vx_Met l yL_ifGone wsL_ifGone ({ frames := rf + 1, cells := mc, slots := ms, locals := rl + 60 }) (mPcX sa sv G (tyw cI cS cJ) [.ref b, .int p1, .int p2, .ref ao] sz (ouW cJ ao g :: wc)) (va_Qi (S := Unit) (fun k _ => k = 1) (mB G (tyw cI cS cJ) (va_A (ouW cJ ao g :: wc) sz) (fun _ => ouW cJ ao g :: w1)) (va_A (ouW cJ ao g :: wc) sz)) noX mc ms (va_A (ouW cJ ao g :: wc) sz) := by
  refine mStartW (cc := cL_ifGone) (maxL := 5) (ret := (some .int)) (hh := [(0, 10, 13, 13), (0, 10, 17, 15)]) (by decide) rfl (Nat.le_of_ble_eq_true rfl) ?_
  intro p e s m below meth c A ls hx hb hml hr hts hown hlocks hA hsz hAe hP hK hD hE htab hS hl
  subst hsz
  subst hAe
  have hl : lv_has ls 5 [(0, .ref b), (1, .int p1), (2, .int p2), (3, .ref ao)] := hl
  refine lv_aload_n hx hb dL_ifGone_0 rfl (lv_at hl 3 rfl) ?_
  refine lv_iconst (v := 0) hx hb dL_ifGone_1 (by decide) ?_
  refine lv_aload_n hx hb dL_ifGone_2 rfl (lv_at hl 0 rfl) ?_
  refine lv_iload_n hx hb dL_ifGone_3 rfl (lv_at hl 1 rfl) ?_
  refine lv_iload_n hx hb dL_ifGone_4 rfl (lv_at hl 2 rfl) ?_
  refine mThrPV (E0 := 0) (As := [.int p1, .int p2]) (rest := [.int 0, .ref ao]) (wr := [ouW cJ ao g]) hE ⟨hx, hb, hml, hown, hts⟩ hM (cwV 2 hts gL_ifGone_X8_ifGone rfl rfl rfl (by decide +kernel) ⟨Nat.le_refl _, by dsimp only; omega⟩) hP hD hS hA (hty s hK) (List.perm_append_singleton _ wc).symm 0 8 rfl he rfl rfl hl.1 rfl (lv_room (Nat.le_of_ble_eq_true rfl)) dL_ifGone_5 ⟨Nat.le_of_eq (Nat.zero_add _), Nat.le_of_eq (Nat.zero_add _)⟩ (fun ce q9 H locs hP hD hS hce hcv hcl => ?_)
  have hP := hP.perm (List.perm_append_singleton (ouW cJ ao g) w1)
  have hD := hD.perm (List.perm_append_singleton (ouW cJ ao g) w1)
  refine vx_catch (own := RL) (name := exN 0) (E := exN 0) hown [] (⟨0, 10, 13, 13⟩ : ExceptionTableEntry) [(⟨0, 10, 17, 15⟩ : ExceptionTableEntry)] htab (fun z hz => absurd hz List.not_mem_nil) rfl (by decide) (hts (.classLink RL 13 "java/lang/IndexOutOfBoundsException") (by decide +kernel)) (hE.cast (by decide)) hce hcv hcl ?_
  refine lv_astore hx hb dL_ifGone_13 hl (by decide) rfl (fun ls hl => ?_)
  refine lv_iconst (v := 1) hx hb dL_ifGone_15 (by decide) ?_
  exact vx_ret (mEndQ_i (S := Unit) () hx hb hr hlocks hP hK hD hS rfl rfl (Nat.le_of_eq (Nat.zero_add _)) (Nat.le_of_eq (Nat.zero_add _)) dL_ifGone_16)
set_option maxHeartbeats 4000000 in
set_option maxRecDepth 100000 in
theorem vL_ifGone_2 (l : Launch) (sa sv : Nat → Nat) (G : va_G) (cI cS cJ : ClassId) {tyc : List (ClassId × FieldType)} (hty : ∀ s : State, va_K G vwCl (tyw cI cS cJ) s → va_K G vwCl tyc s) (ao : Nat) (g : Nat → Int64) (b : Nat) (p1 : Int32) (p2 : Int32) (sz : Nat) (wc : va_W) {fs : List Value} (he : wc[0]? = some (b, .inr (8, fs))) {w1 : va_W} {rf mc ms rl : Nat} (hM : vx_Met l yX8_ifGone wsX8_ifGone ({ frames := rf, cells := mc, slots := ms, locals := rl }) (mPcX sa sv G tyc [.ref b, .int p1, .int p2] sz wc) noQ (mXC G tyc (va_A wc sz) 1 w1) mc ms (va_A wc sz)) : vx_Met l yL_ifGone wsL_ifGone ({ frames := rf + 1, cells := mc, slots := ms, locals := rl + 60 }) (mPcX sa sv G (tyw cI cS cJ) [.ref b, .int p1, .int p2, .ref ao] sz (ouW cJ ao g :: wc)) (va_Qi (S := Unit) (fun k _ => k = 2) (mB G (tyw cI cS cJ) (va_A (ouW cJ ao g :: wc) sz) (fun _ => ouW cJ ao g :: w1)) (va_A (ouW cJ ao g :: wc) sz)) noX mc ms (va_A (ouW cJ ao g :: wc) sz) := by
  refine mStartW (cc := cL_ifGone) (maxL := 5) (ret := (some .int)) (hh := [(0, 10, 13, 13), (0, 10, 17, 15)]) (by decide) rfl (Nat.le_of_ble_eq_true rfl) ?_
  intro p e s m below meth c A ls hx hb hml hr hts hown hlocks hA hsz hAe hP hK hD hE htab hS hl
  subst hsz
  subst hAe
  have hl : lv_has ls 5 [(0, .ref b), (1, .int p1), (2, .int p2), (3, .ref ao)] := hl
  refine lv_aload_n hx hb dL_ifGone_0 rfl (lv_at hl 3 rfl) ?_
  refine lv_iconst (v := 0) hx hb dL_ifGone_1 (by decide) ?_
  refine lv_aload_n hx hb dL_ifGone_2 rfl (lv_at hl 0 rfl) ?_
  refine lv_iload_n hx hb dL_ifGone_3 rfl (lv_at hl 1 rfl) ?_
  refine lv_iload_n hx hb dL_ifGone_4 rfl (lv_at hl 2 rfl) ?_
  refine mThrPV (E0 := 1) (As := [.int p1, .int p2]) (rest := [.int 0, .ref ao]) (wr := [ouW cJ ao g]) hE ⟨hx, hb, hml, hown, hts⟩ hM (cwV 2 hts gL_ifGone_X8_ifGone rfl rfl rfl (by decide +kernel) ⟨Nat.le_refl _, by dsimp only; omega⟩) hP hD hS hA (hty s hK) (List.perm_append_singleton _ wc).symm 0 8 rfl he rfl rfl hl.1 rfl (lv_room (Nat.le_of_ble_eq_true rfl)) dL_ifGone_5 ⟨Nat.le_of_eq (Nat.zero_add _), Nat.le_of_eq (Nat.zero_add _)⟩ (fun ce q9 H locs hP hD hS hce hcv hcl => ?_)
  have hP := hP.perm (List.perm_append_singleton (ouW cJ ao g) w1)
  have hD := hD.perm (List.perm_append_singleton (ouW cJ ao g) w1)
  refine vx_catch (own := RL) (name := exN 1) (E := exN 1) hown [(⟨0, 10, 13, 13⟩ : ExceptionTableEntry)] (⟨0, 10, 17, 15⟩ : ExceptionTableEntry) [] htab (fun z hz => by obtain rfl := List.mem_singleton.mp hz; exact Or.inr ⟨by decide, "java/lang/IndexOutOfBoundsException", hts (.classLink RL 13 "java/lang/IndexOutOfBoundsException") (by decide +kernel), hE.nc10⟩) rfl (by decide) (hts (.classLink RL 15 "java/lang/IllegalArgumentException") (by decide +kernel)) (hE.cast (by decide)) hce hcv hcl ?_
  refine lv_astore hx hb dL_ifGone_17 hl (by decide) rfl (fun ls hl => ?_)
  refine lv_iconst (v := 2) hx hb dL_ifGone_19 (by decide) ?_
  exact vx_ret (mEndQ_i (S := Unit) () hx hb hr hlocks hP hK hD hS rfl rfl (Nat.le_of_eq (Nat.zero_add _)) (Nat.le_of_eq (Nat.zero_add _)) dL_ifGone_20)
set_option maxHeartbeats 4000000 in
set_option maxRecDepth 100000 in
theorem wL_lostAt (l : Launch) (sa sv : Nat → Nat) (G : va_G) (cI cS cJ : ClassId) {tyc : List (ClassId × FieldType)} (hty : ∀ s : State, va_K G vwCl (tyw cI cS cJ) s → va_K G vwCl tyc s) (ao : Nat) (g : Nat → Int64) (b : Nat) (p1 : Int32) (sz : Nat) (wc : va_W) {fs : List Value} (he : wc[0]? = some (b, .inr (8, fs))) {S : Type} {post : Int32 → S → Prop} {w1 : S → va_W} {rf mc ms rl : Nat} (hM : Met l yX8_lostAt wsX8_lostAt ({ frames := rf, cells := mc, slots := ms, locals := rl }) (mPcX sa sv G tyc [.ref b, .int p1] sz wc) (va_Qi (S := S) post (mB G tyc (va_A wc sz) w1) (va_A wc sz)) mc ms (va_A wc sz)) : vx_Met l yL_lostAt wsL_lostAt ({ frames := rf + 1, cells := mc, slots := ms, locals := rl + 60 }) (mPcX sa sv G (tyw cI cS cJ) [.ref b, .int p1, .ref ao] sz (ouW cJ ao g :: wc)) (va_Qi (S := Int32 × S) (fun k u => k = 0 ∧ post u.1 u.2) (mB G (tyw cI cS cJ) (va_A (ouW cJ ao g :: wc) sz) (fun u => ouW cJ ao (vp_updL g 0 u.1.toInt64) :: w1 u.2)) (va_A (ouW cJ ao g :: wc) sz)) noX mc ms (va_A (ouW cJ ao g :: wc) sz) := by
  refine mStartW (cc := cL_lostAt) (maxL := 4) (ret := (some .int)) (hh := [(0, 9, 12, 15)]) (by decide) rfl (Nat.le_of_ble_eq_true rfl) ?_
  intro p e s m below meth c A ls hx hb hml hr hts hown hlocks hA hsz hAe hP hK hD hE htab hS hl
  subst hsz
  subst hAe
  have hl : lv_has ls 4 [(0, .ref b), (1, .int p1), (2, .ref ao)] := hl
  refine lv_aload_n hx hb dL_lostAt_0 rfl (lv_at hl 2 rfl) ?_
  refine lv_iconst (v := 0) hx hb dL_lostAt_1 (by decide) ?_
  refine lv_aload_n hx hb dL_lostAt_2 rfl (lv_at hl 0 rfl) ?_
  refine lv_iload_n hx hb dL_lostAt_3 rfl (lv_at hl 1 rfl) ?_
  refine mCallPXV_i (As := [.int p1]) (rest := [.int 0, .ref ao]) (wr := [ouW cJ ao g]) hE ⟨hx, hb, hml, hown, hts⟩ hM (cwV 1 hts gL_lostAt_X8_lostAt rfl rfl rfl (by decide +kernel) ⟨Nat.le_refl _, by dsimp only; omega⟩) hP hD hS hA (hty s hK) (List.perm_append_singleton _ wc).symm 0 8 rfl he rfl rfl hl.1 rfl (lv_room (Nat.le_of_ble_eq_true rfl)) dL_lostAt_4 ⟨Nat.le_of_eq (Nat.zero_add _), Nat.le_of_eq (Nat.zero_add _)⟩ (fun x u H locs hpo hP hD hS => ?_)
  have hP := hP.perm (List.perm_append_singleton (ouW cJ ao g) (w1 u))
  have hD := hD.perm (List.perm_append_singleton (ouW cJ ao g) (w1 u))
  refine lv_i2l (v := x.toInt64) hx hb dL_lostAt_7 rfl ?_
  refine va_last hx hb hK hP hD hS 0 2 rfl rfl (vp_lit (by decide +kernel)) dL_lostAt_8 (fun H locs hP hD hS => ?_)
  refine lv_goto (tgt := 15) hx hb dL_lostAt_9 (by decide) ?_
  refine lv_iconst (v := 0) hx hb dL_lostAt_15 (by decide) ?_
  exact vx_ret (mEndQ_i (S := Int32 × S) (x, u) hx hb hr hlocks hP hK hD hS ⟨rfl, hpo⟩ rfl (Nat.le_of_eq (Nat.zero_add _)) (Nat.le_of_eq (Nat.zero_add _)) dL_lostAt_16)
set_option maxHeartbeats 4000000 in
set_option maxRecDepth 100000 in
theorem vL_lostAt_1 (l : Launch) (sa sv : Nat → Nat) (G : va_G) (cI cS cJ : ClassId) {tyc : List (ClassId × FieldType)} (hty : ∀ s : State, va_K G vwCl (tyw cI cS cJ) s → va_K G vwCl tyc s) (ao : Nat) (g : Nat → Int64) (b : Nat) (p1 : Int32) (sz : Nat) (wc : va_W) {fs : List Value} (he : wc[0]? = some (b, .inr (8, fs))) {w1 : va_W} {rf mc ms rl : Nat} (hM : vx_Met l yX8_lostAt wsX8_lostAt ({ frames := rf, cells := mc, slots := ms, locals := rl }) (mPcX sa sv G tyc [.ref b, .int p1] sz wc) noQ (mXC G tyc (va_A wc sz) 1 w1) mc ms (va_A wc sz)) : vx_Met l yL_lostAt wsL_lostAt ({ frames := rf + 1, cells := mc, slots := ms, locals := rl + 60 }) (mPcX sa sv G (tyw cI cS cJ) [.ref b, .int p1, .ref ao] sz (ouW cJ ao g :: wc)) (va_Qi (S := Unit) (fun k _ => k = 1) (mB G (tyw cI cS cJ) (va_A (ouW cJ ao g :: wc) sz) (fun _ => ouW cJ ao g :: w1)) (va_A (ouW cJ ao g :: wc) sz)) noX mc ms (va_A (ouW cJ ao g :: wc) sz) := by
  refine mStartW (cc := cL_lostAt) (maxL := 4) (ret := (some .int)) (hh := [(0, 9, 12, 15)]) (by decide) rfl (Nat.le_of_ble_eq_true rfl) ?_
  intro p e s m below meth c A ls hx hb hml hr hts hown hlocks hA hsz hAe hP hK hD hE htab hS hl
  subst hsz
  subst hAe
  have hl : lv_has ls 4 [(0, .ref b), (1, .int p1), (2, .ref ao)] := hl
  refine lv_aload_n hx hb dL_lostAt_0 rfl (lv_at hl 2 rfl) ?_
  refine lv_iconst (v := 0) hx hb dL_lostAt_1 (by decide) ?_
  refine lv_aload_n hx hb dL_lostAt_2 rfl (lv_at hl 0 rfl) ?_
  refine lv_iload_n hx hb dL_lostAt_3 rfl (lv_at hl 1 rfl) ?_
  refine mThrPV (E0 := 1) (As := [.int p1]) (rest := [.int 0, .ref ao]) (wr := [ouW cJ ao g]) hE ⟨hx, hb, hml, hown, hts⟩ hM (cwV 1 hts gL_lostAt_X8_lostAt rfl rfl rfl (by decide +kernel) ⟨Nat.le_refl _, by dsimp only; omega⟩) hP hD hS hA (hty s hK) (List.perm_append_singleton _ wc).symm 0 8 rfl he rfl rfl hl.1 rfl (lv_room (Nat.le_of_ble_eq_true rfl)) dL_lostAt_4 ⟨Nat.le_of_eq (Nat.zero_add _), Nat.le_of_eq (Nat.zero_add _)⟩ (fun ce q9 H locs hP hD hS hce hcv hcl => ?_)
  have hP := hP.perm (List.perm_append_singleton (ouW cJ ao g) w1)
  have hD := hD.perm (List.perm_append_singleton (ouW cJ ao g) w1)
  refine vx_catch (own := RL) (name := exN 1) (E := exN 1) hown [] (⟨0, 9, 12, 15⟩ : ExceptionTableEntry) [] htab (fun z hz => absurd hz List.not_mem_nil) rfl (by decide) (hts (.classLink RL 15 "java/lang/IllegalArgumentException") (by decide +kernel)) (hE.cast (by decide)) hce hcv hcl ?_
  refine lv_astore_n hx hb dL_lostAt_12 rfl hl (by decide) rfl (fun ls hl => ?_)
  refine lv_iconst (v := 1) hx hb dL_lostAt_13 (by decide) ?_
  exact vx_ret (mEndQ_i (S := Unit) () hx hb hr hlocks hP hK hD hS rfl rfl (Nat.le_of_eq (Nat.zero_add _)) (Nat.le_of_eq (Nat.zero_add _)) dL_lostAt_14)

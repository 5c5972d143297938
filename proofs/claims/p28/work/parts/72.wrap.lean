-- the wrappers of the law
set_option maxHeartbeats 4000000 in
set_option maxRecDepth 100000 in
theorem wL_teach (l : Launch) (sa sv : Nat → Nat) (G : va_G) (cI cS : ClassId) {tyc : List (ClassId × FieldType)} (hty : ∀ s : State, va_K G vwCl (tyH cI cS) s → va_K G vwCl tyc s) (b : Nat) (p1 : Int32) (p2 : Int32) (p3 : Int32) (sz : Nat) (wc : va_W) {fs : List Value} (he : wc[0]? = some (b, .inr (8, fs))) {S : Type} {post : Int32 → S → Prop} {w1 : S → va_W} {rf mc ms rl : Nat} (hM : Met l yX8_teach wsX8_teach ({ frames := rf, cells := mc, slots := ms, locals := rl }) (mPcX sa sv G tyc [.ref b, .int p1, .int p2, .int p3] sz wc) (va_Qi (S := S) post (mB G tyc (va_A wc sz) w1) (va_A wc sz)) mc ms (va_A wc sz)) : vx_Met l yL_teach wsL_teach ({ frames := rf + 1, cells := mc, slots := ms, locals := rl + 60 }) (mPcX sa sv G (tyH cI cS) [.ref b, .int p1, .int p2, .int p3] sz wc) (va_Qi (S := S) post (mB G (tyH cI cS) (va_A wc sz) w1) (va_A wc sz)) noX mc ms (va_A wc sz) := by
  refine mStartW (cc := cL_teach) (maxL := 5) (ret := (some .int)) (hh := [(0, 7, 8, 15), (0, 7, 13, 17)]) (by decide) rfl (Nat.le_of_ble_eq_true rfl) ?_
  intro p e s m below meth c A ls hx hb hml hr hts hown hlocks hA hsz hAe hP hK hD hE htab hS hl
  subst hsz
  subst hAe
  have hl : lv_has ls 5 [(0, .ref b), (1, .int p1), (2, .int p2), (3, .int p3)] := hl
  refine lv_aload_n hx hb dL_teach_0 rfl (lv_at hl 0 rfl) ?_
  refine lv_iload_n hx hb dL_teach_1 rfl (lv_at hl 1 rfl) ?_
  refine lv_iload_n hx hb dL_teach_2 rfl (lv_at hl 2 rfl) ?_
  refine lv_iload_n hx hb dL_teach_3 rfl (lv_at hl 3 rfl) ?_
  refine mCallPXV_i (As := [.int p1, .int p2, .int p3]) (rest := []) (wr := []) hE ⟨hx, hb, hml, hown, hts⟩ hM (cwV 3 hts gL_teach_X8_teach rfl rfl rfl (by decide +kernel) ⟨Nat.le_refl _, by dsimp only; omega⟩) hP hD hS hA (hty s hK) (List.Perm.of_eq (List.append_nil wc).symm) 0 8 rfl he rfl rfl hl.1 rfl (lv_room (Nat.le_of_ble_eq_true rfl)) dL_teach_4 ⟨Nat.le_of_eq (Nat.zero_add _), Nat.le_of_eq (Nat.zero_add _)⟩ (fun x u H locs hpo hP hD hS => ?_)
  rw [List.append_nil] at hP hD
  exact vx_ret (mEndQ_i (S := S) u hx hb hr hlocks hP hK hD hS hpo rfl (Nat.le_of_eq (Nat.zero_add _)) (Nat.le_of_eq (Nat.zero_add _)) dL_teach_7)
set_option maxHeartbeats 4000000 in
set_option maxRecDepth 100000 in
theorem vL_teach_1 (l : Launch) (sa sv : Nat → Nat) (G : va_G) (cI cS : ClassId) {tyc : List (ClassId × FieldType)} (hty : ∀ s : State, va_K G vwCl (tyH cI cS) s → va_K G vwCl tyc s) (b : Nat) (p1 : Int32) (p2 : Int32) (p3 : Int32) (sz : Nat) (wc : va_W) {fs : List Value} (he : wc[0]? = some (b, .inr (8, fs))) {w1 : va_W} {rf mc ms rl : Nat} (hM : vx_Met l yX8_teach wsX8_teach ({ frames := rf, cells := mc, slots := ms, locals := rl }) (mPcX sa sv G tyc [.ref b, .int p1, .int p2, .int p3] sz wc) noQ (mXC G tyc (va_A wc sz) 0 w1) mc ms (va_A wc sz)) : vx_Met l yL_teach wsL_teach ({ frames := rf + 1, cells := mc, slots := ms, locals := rl + 60 }) (mPcX sa sv G (tyH cI cS) [.ref b, .int p1, .int p2, .int p3] sz wc) (va_Qi (S := Unit) (fun k _ => k = (-3)) (mB G (tyH cI cS) (va_A wc sz) (fun _ => w1)) (va_A wc sz)) noX mc ms (va_A wc sz) := by
  refine mStartW (cc := cL_teach) (maxL := 5) (ret := (some .int)) (hh := [(0, 7, 8, 15), (0, 7, 13, 17)]) (by decide) rfl (Nat.le_of_ble_eq_true rfl) ?_
  intro p e s m below meth c A ls hx hb hml hr hts hown hlocks hA hsz hAe hP hK hD hE htab hS hl
  subst hsz
  subst hAe
  have hl : lv_has ls 5 [(0, .ref b), (1, .int p1), (2, .int p2), (3, .int p3)] := hl
  refine lv_aload_n hx hb dL_teach_0 rfl (lv_at hl 0 rfl) ?_
  refine lv_iload_n hx hb dL_teach_1 rfl (lv_at hl 1 rfl) ?_
  refine lv_iload_n hx hb dL_teach_2 rfl (lv_at hl 2 rfl) ?_
  refine lv_iload_n hx hb dL_teach_3 rfl (lv_at hl 3 rfl) ?_
  refine mThrPV (E0 := 0) (As := [.int p1, .int p2, .int p3]) (rest := []) (wr := []) hE ⟨hx, hb, hml, hown, hts⟩ hM (cwV 3 hts gL_teach_X8_teach rfl rfl rfl (by decide +kernel) ⟨Nat.le_refl _, by dsimp only; omega⟩) hP hD hS hA (hty s hK) (List.Perm.of_eq (List.append_nil wc).symm) 0 8 rfl he rfl rfl hl.1 rfl (lv_room (Nat.le_of_ble_eq_true rfl)) dL_teach_4 ⟨Nat.le_of_eq (Nat.zero_add _), Nat.le_of_eq (Nat.zero_add _)⟩ (fun ce q9 H locs hP hD hS hce hcv hcl => ?_)
  rw [List.append_nil] at hP hD
  refine vx_catch (own := RL) (name := exN 0) (E := exN 0) hown [] (⟨0, 7, 8, 15⟩ : ExceptionTableEntry) [(⟨0, 7, 13, 17⟩ : ExceptionTableEntry)] htab (fun z hz => absurd hz List.not_mem_nil) rfl (by decide) (hts (.classLink RL 15 "java/lang/IndexOutOfBoundsException") (by decide +kernel)) (hE.cast (by decide)) hce hcv hcl ?_
  refine lv_astore hx hb dL_teach_8 hl (by decide) rfl (fun ls hl => ?_)
  refine lv_bipush (v := (-3)) hx hb dL_teach_10 (by decide) ?_
  exact vx_ret (mEndQ_i (S := Unit) () hx hb hr hlocks hP hK hD hS rfl rfl (Nat.le_of_eq (Nat.zero_add _)) (Nat.le_of_eq (Nat.zero_add _)) dL_teach_12)
set_option maxHeartbeats 4000000 in
set_option maxRecDepth 100000 in
theorem vL_teach_2 (l : Launch) (sa sv : Nat → Nat) (G : va_G) (cI cS : ClassId) {tyc : List (ClassId × FieldType)} (hty : ∀ s : State, va_K G vwCl (tyH cI cS) s → va_K G vwCl tyc s) (b : Nat) (p1 : Int32) (p2 : Int32) (p3 : Int32) (sz : Nat) (wc : va_W) {fs : List Value} (he : wc[0]? = some (b, .inr (8, fs))) {w1 : va_W} {rf mc ms rl : Nat} (hM : vx_Met l yX8_teach wsX8_teach ({ frames := rf, cells := mc, slots := ms, locals := rl }) (mPcX sa sv G tyc [.ref b, .int p1, .int p2, .int p3] sz wc) noQ (mXC G tyc (va_A wc sz) 1 w1) mc ms (va_A wc sz)) : vx_Met l yL_teach wsL_teach ({ frames := rf + 1, cells := mc, slots := ms, locals := rl + 60 }) (mPcX sa sv G (tyH cI cS) [.ref b, .int p1, .int p2, .int p3] sz wc) (va_Qi (S := Unit) (fun k _ => k = (-2)) (mB G (tyH cI cS) (va_A wc sz) (fun _ => w1)) (va_A wc sz)) noX mc ms (va_A wc sz) := by
  refine mStartW (cc := cL_teach) (maxL := 5) (ret := (some .int)) (hh := [(0, 7, 8, 15), (0, 7, 13, 17)]) (by decide) rfl (Nat.le_of_ble_eq_true rfl) ?_
  intro p e s m below meth c A ls hx hb hml hr hts hown hlocks hA hsz hAe hP hK hD hE htab hS hl
  subst hsz
  subst hAe
  have hl : lv_has ls 5 [(0, .ref b), (1, .int p1), (2, .int p2), (3, .int p3)] := hl
  refine lv_aload_n hx hb dL_teach_0 rfl (lv_at hl 0 rfl) ?_
  refine lv_iload_n hx hb dL_teach_1 rfl (lv_at hl 1 rfl) ?_
  refine lv_iload_n hx hb dL_teach_2 rfl (lv_at hl 2 rfl) ?_
  refine lv_iload_n hx hb dL_teach_3 rfl (lv_at hl 3 rfl) ?_
  refine mThrPV (E0 := 1) (As := [.int p1, .int p2, .int p3]) (rest := []) (wr := []) hE ⟨hx, hb, hml, hown, hts⟩ hM (cwV 3 hts gL_teach_X8_teach rfl rfl rfl (by decide +kernel) ⟨Nat.le_refl _, by dsimp only; omega⟩) hP hD hS hA (hty s hK) (List.Perm.of_eq (List.append_nil wc).symm) 0 8 rfl he rfl rfl hl.1 rfl (lv_room (Nat.le_of_ble_eq_true rfl)) dL_teach_4 ⟨Nat.le_of_eq (Nat.zero_add _), Nat.le_of_eq (Nat.zero_add _)⟩ (fun ce q9 H locs hP hD hS hce hcv hcl => ?_)
  rw [List.append_nil] at hP hD
  refine vx_catch (own := RL) (name := exN 1) (E := exN 1) hown [(⟨0, 7, 8, 15⟩ : ExceptionTableEntry)] (⟨0, 7, 13, 17⟩ : ExceptionTableEntry) [] htab (fun z hz => by obtain rfl := List.mem_singleton.mp hz; exact Or.inr ⟨by decide, "java/lang/IndexOutOfBoundsException", hts (.classLink RL 15 "java/lang/IndexOutOfBoundsException") (by decide +kernel), hE.nc10⟩) rfl (by decide) (hts (.classLink RL 17 "java/lang/IllegalArgumentException") (by decide +kernel)) (hE.cast (by decide)) hce hcv hcl ?_
  refine lv_astore hx hb dL_teach_13 hl (by decide) rfl (fun ls hl => ?_)
  refine lv_bipush (v := (-2)) hx hb dL_teach_15 (by decide) ?_
  exact vx_ret (mEndQ_i (S := Unit) () hx hb hr hlocks hP hK hD hS rfl rfl (Nat.le_of_eq (Nat.zero_add _)) (Nat.le_of_eq (Nat.zero_add _)) dL_teach_17)
set_option maxHeartbeats 4000000 in
set_option maxRecDepth 100000 in
theorem wL_ear (l : Launch) (sa sv : Nat → Nat) (G : va_G) (cI cS : ClassId) {tyc : List (ClassId × FieldType)} (hty : ∀ s : State, va_K G vwCl (tyH cI cS) s → va_K G vwCl tyc s) (b : Nat) (p1 : Int32) (p2 : Int32) (sz : Nat) (wc : va_W) {fs : List Value} (he : wc[0]? = some (b, .inr (8, fs))) {S : Type} {post : Int32 → S → Prop} {w1 : S → va_W} {rf mc ms rl : Nat} (hM : Met l yX8_ear wsX8_ear ({ frames := rf, cells := mc, slots := ms, locals := rl }) (mPcX sa sv G tyc [.ref b, .int p1, .int p2] sz wc) (va_Qi (S := S) post (mB G tyc (va_A wc sz) w1) (va_A wc sz)) mc ms (va_A wc sz)) : vx_Met l yL_ear wsL_ear ({ frames := rf + 1, cells := mc, slots := ms, locals := rl + 60 }) (mPcX sa sv G (tyH cI cS) [.ref b, .int p1, .int p2] sz wc) (va_Qi (S := S) post (mB G (tyH cI cS) (va_A wc sz) w1) (va_A wc sz)) noX mc ms (va_A wc sz) := by
  refine mStartW (cc := cL_ear) (maxL := 4) (ret := (some .int)) (hh := [(0, 6, 7, 15), (0, 6, 11, 17)]) (by decide) rfl (Nat.le_of_ble_eq_true rfl) ?_
  intro p e s m below meth c A ls hx hb hml hr hts hown hlocks hA hsz hAe hP hK hD hE htab hS hl
  subst hsz
  subst hAe
  have hl : lv_has ls 4 [(0, .ref b), (1, .int p1), (2, .int p2)] := hl
  refine lv_aload_n hx hb dL_ear_0 rfl (lv_at hl 0 rfl) ?_
  refine lv_iload_n hx hb dL_ear_1 rfl (lv_at hl 1 rfl) ?_
  refine lv_iload_n hx hb dL_ear_2 rfl (lv_at hl 2 rfl) ?_
  refine mCallPXV_i (As := [.int p1, .int p2]) (rest := []) (wr := []) hE ⟨hx, hb, hml, hown, hts⟩ hM (cwV 2 hts gL_ear_X8_ear rfl rfl rfl (by decide +kernel) ⟨Nat.le_refl _, by dsimp only; omega⟩) hP hD hS hA (hty s hK) (List.Perm.of_eq (List.append_nil wc).symm) 0 8 rfl he rfl rfl hl.1 rfl (lv_room (Nat.le_of_ble_eq_true rfl)) dL_ear_3 ⟨Nat.le_of_eq (Nat.zero_add _), Nat.le_of_eq (Nat.zero_add _)⟩ (fun x u H locs hpo hP hD hS => ?_)
  rw [List.append_nil] at hP hD
  exact vx_ret (mEndQ_i (S := S) u hx hb hr hlocks hP hK hD hS hpo rfl (Nat.le_of_eq (Nat.zero_add _)) (Nat.le_of_eq (Nat.zero_add _)) dL_ear_6)
set_option maxHeartbeats 4000000 in
set_option maxRecDepth 100000 in
theorem vL_ear_1 (l : Launch) (sa sv : Nat → Nat) (G : va_G) (cI cS : ClassId) {tyc : List (ClassId × FieldType)} (hty : ∀ s : State, va_K G vwCl (tyH cI cS) s → va_K G vwCl tyc s) (b : Nat) (p1 : Int32) (p2 : Int32) (sz : Nat) (wc : va_W) {fs : List Value} (he : wc[0]? = some (b, .inr (8, fs))) {w1 : va_W} {rf mc ms rl : Nat} (hM : vx_Met l yX8_ear wsX8_ear ({ frames := rf, cells := mc, slots := ms, locals := rl }) (mPcX sa sv G tyc [.ref b, .int p1, .int p2] sz wc) noQ (mXC G tyc (va_A wc sz) 0 w1) mc ms (va_A wc sz)) : vx_Met l yL_ear wsL_ear ({ frames := rf + 1, cells := mc, slots := ms, locals := rl + 60 }) (mPcX sa sv G (tyH cI cS) [.ref b, .int p1, .int p2] sz wc) (va_Qi (S := Unit) (fun k _ => k = (-3)) (mB G (tyH cI cS) (va_A wc sz) (fun _ => w1)) (va_A wc sz)) noX mc ms (va_A wc sz) := by
  refine mStartW (cc := cL_ear) (maxL := 4) (ret := (some .int)) (hh := [(0, 6, 7, 15), (0, 6, 11, 17)]) (by decide) rfl (Nat.le_of_ble_eq_true rfl) ?_
  intro p e s m below meth c A ls hx hb hml hr hts hown hlocks hA hsz hAe hP hK hD hE htab hS hl
  subst hsz
  subst hAe
  have hl : lv_has ls 4 [(0, .ref b), (1, .int p1), (2, .int p2)] := hl
  refine lv_aload_n hx hb dL_ear_0 rfl (lv_at hl 0 rfl) ?_
  refine lv_iload_n hx hb dL_ear_1 rfl (lv_at hl 1 rfl) ?_
  refine lv_iload_n hx hb dL_ear_2 rfl (lv_at hl 2 rfl) ?_
  refine mThrPV (E0 := 0) (As := [.int p1, .int p2]) (rest := []) (wr := []) hE ⟨hx, hb, hml, hown, hts⟩ hM (cwV 2 hts gL_ear_X8_ear rfl rfl rfl (by decide +kernel) ⟨Nat.le_refl _, by dsimp only; omega⟩) hP hD hS hA (hty s hK) (List.Perm.of_eq (List.append_nil wc).symm) 0 8 rfl he rfl rfl hl.1 rfl (lv_room (Nat.le_of_ble_eq_true rfl)) dL_ear_3 ⟨Nat.le_of_eq (Nat.zero_add _), Nat.le_of_eq (Nat.zero_add _)⟩ (fun ce q9 H locs hP hD hS hce hcv hcl => ?_)
  rw [List.append_nil] at hP hD
  refine vx_catch (own := RL) (name := exN 0) (E := exN 0) hown [] (⟨0, 6, 7, 15⟩ : ExceptionTableEntry) [(⟨0, 6, 11, 17⟩ : ExceptionTableEntry)] htab (fun z hz => absurd hz List.not_mem_nil) rfl (by decide) (hts (.classLink RL 15 "java/lang/IndexOutOfBoundsException") (by decide +kernel)) (hE.cast (by decide)) hce hcv hcl ?_
  refine lv_astore_n hx hb dL_ear_7 rfl hl (by decide) rfl (fun ls hl => ?_)
  refine lv_bipush (v := (-3)) hx hb dL_ear_8 (by decide) ?_
  exact vx_ret (mEndQ_i (S := Unit) () hx hb hr hlocks hP hK hD hS rfl rfl (Nat.le_of_eq (Nat.zero_add _)) (Nat.le_of_eq (Nat.zero_add _)) dL_ear_10)
set_option maxHeartbeats 4000000 in
set_option maxRecDepth 100000 in
theorem vL_ear_2 (l : Launch) (sa sv : Nat → Nat) (G : va_G) (cI cS : ClassId) {tyc : List (ClassId × FieldType)} (hty : ∀ s : State, va_K G vwCl (tyH cI cS) s → va_K G vwCl tyc s) (b : Nat) (p1 : Int32) (p2 : Int32) (sz : Nat) (wc : va_W) {fs : List Value} (he : wc[0]? = some (b, .inr (8, fs))) {w1 : va_W} {rf mc ms rl : Nat} (hM : vx_Met l yX8_ear wsX8_ear ({ frames := rf, cells := mc, slots := ms, locals := rl }) (mPcX sa sv G tyc [.ref b, .int p1, .int p2] sz wc) noQ (mXC G tyc (va_A wc sz) 1 w1) mc ms (va_A wc sz)) : vx_Met l yL_ear wsL_ear ({ frames := rf + 1, cells := mc, slots := ms, locals := rl + 60 }) (mPcX sa sv G (tyH cI cS) [.ref b, .int p1, .int p2] sz wc) (va_Qi (S := Unit) (fun k _ => k = (-2)) (mB G (tyH cI cS) (va_A wc sz) (fun _ => w1)) (va_A wc sz)) noX mc ms (va_A wc sz) := by
  refine mStartW (cc := cL_ear) (maxL := 4) (ret := (some .int)) (hh := [(0, 6, 7, 15), (0, 6, 11, 17)]) (by decide) rfl (Nat.le_of_ble_eq_true rfl) ?_
  intro p e s m below meth c A ls hx hb hml hr hts hown hlocks hA hsz hAe hP hK hD hE htab hS hl
  subst hsz
  subst hAe
  have hl : lv_has ls 4 [(0, .ref b), (1, .int p1), (2, .int p2)] := hl
  refine lv_aload_n hx hb dL_ear_0 rfl (lv_at hl 0 rfl) ?_
  refine lv_iload_n hx hb dL_ear_1 rfl (lv_at hl 1 rfl) ?_
  refine lv_iload_n hx hb dL_ear_2 rfl (lv_at hl 2 rfl) ?_
  refine mThrPV (E0 := 1) (As := [.int p1, .int p2]) (rest := []) (wr := []) hE ⟨hx, hb, hml, hown, hts⟩ hM (cwV 2 hts gL_ear_X8_ear rfl rfl rfl (by decide +kernel) ⟨Nat.le_refl _, by dsimp only; omega⟩) hP hD hS hA (hty s hK) (List.Perm.of_eq (List.append_nil wc).symm) 0 8 rfl he rfl rfl hl.1 rfl (lv_room (Nat.le_of_ble_eq_true rfl)) dL_ear_3 ⟨Nat.le_of_eq (Nat.zero_add _), Nat.le_of_eq (Nat.zero_add _)⟩ (fun ce q9 H locs hP hD hS hce hcv hcl => ?_)
  rw [List.append_nil] at hP hD
  refine vx_catch (own := RL) (name := exN 1) (E := exN 1) hown [(⟨0, 6, 7, 15⟩ : ExceptionTableEntry)] (⟨0, 6, 11, 17⟩ : ExceptionTableEntry) [] htab (fun z hz => by obtain rfl := List.mem_singleton.mp hz; exact Or.inr ⟨by decide, "java/lang/IndexOutOfBoundsException", hts (.classLink RL 15 "java/lang/IndexOutOfBoundsException") (by decide +kernel), hE.nc10⟩) rfl (by decide) (hts (.classLink RL 17 "java/lang/IllegalArgumentException") (by decide +kernel)) (hE.cast (by decide)) hce hcv hcl ?_
  refine lv_astore_n hx hb dL_ear_11 rfl hl (by decide) rfl (fun ls hl => ?_)
  refine lv_bipush (v := (-2)) hx hb dL_ear_12 (by decide) ?_
  exact vx_ret (mEndQ_i (S := Unit) () hx hb hr hlocks hP hK hD hS rfl rfl (Nat.le_of_eq (Nat.zero_add _)) (Nat.le_of_eq (Nat.zero_add _)) dL_ear_14)
set_option maxHeartbeats 4000000 in
set_option maxRecDepth 100000 in
theorem wL_fee (l : Launch) (sa sv : Nat → Nat) (G : va_G) (cI cS : ClassId) {tyc : List (ClassId × FieldType)} (hty : ∀ s : State, va_K G vwCl (tyH cI cS) s → va_K G vwCl tyc s) (b : Nat) (p1 : Int32) (p2 : Int32) (sz : Nat) (wc : va_W) {fs : List Value} (he : wc[0]? = some (b, .inr (8, fs))) {S : Type} {post : Int32 → S → Prop} {w1 : S → va_W} {rf mc ms rl : Nat} (hM : Met l yX8_fee wsX8_fee ({ frames := rf, cells := mc, slots := ms, locals := rl }) (mPcX sa sv G tyc [.ref b, .int p1, .int p2] sz wc) (va_Qi (S := S) post (mB G tyc (va_A wc sz) w1) (va_A wc sz)) mc ms (va_A wc sz)) : vx_Met l yL_fee wsL_fee ({ frames := rf + 1, cells := mc, slots := ms, locals := rl + 60 }) (mPcX sa sv G (tyH cI cS) [.ref b, .int p1, .int p2] sz wc) (va_Qi (S := S) post (mB G (tyH cI cS) (va_A wc sz) w1) (va_A wc sz)) noX mc ms (va_A wc sz) := by
  refine mStartW (cc := cL_fee) (maxL := 4) (ret := (some .int)) (hh := [(0, 6, 7, 15), (0, 6, 11, 17)]) (by decide) rfl (Nat.le_of_ble_eq_true rfl) ?_
  intro p e s m below meth c A ls hx hb hml hr hts hown hlocks hA hsz hAe hP hK hD hE htab hS hl
  subst hsz
  subst hAe
  have hl : lv_has ls 4 [(0, .ref b), (1, .int p1), (2, .int p2)] := hl
  refine lv_aload_n hx hb dL_fee_0 rfl (lv_at hl 0 rfl) ?_
  refine lv_iload_n hx hb dL_fee_1 rfl (lv_at hl 1 rfl) ?_
  refine lv_iload_n hx hb dL_fee_2 rfl (lv_at hl 2 rfl) ?_
  refine mCallPXV_i (As := [.int p1, .int p2]) (rest := []) (wr := []) hE ⟨hx, hb, hml, hown, hts⟩ hM (cwV 2 hts gL_fee_X8_fee rfl rfl rfl (by decide +kernel) ⟨Nat.le_refl _, by dsimp only; omega⟩) hP hD hS hA (hty s hK) (List.Perm.of_eq (List.append_nil wc).symm) 0 8 rfl he rfl rfl hl.1 rfl (lv_room (Nat.le_of_ble_eq_true rfl)) dL_fee_3 ⟨Nat.le_of_eq (Nat.zero_add _), Nat.le_of_eq (Nat.zero_add _)⟩ (fun x u H locs hpo hP hD hS => ?_)
  rw [List.append_nil] at hP hD
  exact vx_ret (mEndQ_i (S := S) u hx hb hr hlocks hP hK hD hS hpo rfl (Nat.le_of_eq (Nat.zero_add _)) (Nat.le_of_eq (Nat.zero_add _)) dL_fee_6)
set_option maxHeartbeats 4000000 in
set_option maxRecDepth 100000 in
theorem vL_fee_1 (l : Launch) (sa sv : Nat → Nat) (G : va_G) (cI cS : ClassId) {tyc : List (ClassId × FieldType)} (hty : ∀ s : State, va_K G vwCl (tyH cI cS) s → va_K G vwCl tyc s) (b : Nat) (p1 : Int32) (p2 : Int32) (sz : Nat) (wc : va_W) {fs : List Value} (he : wc[0]? = some (b, .inr (8, fs))) {w1 : va_W} {rf mc ms rl : Nat} (hM : vx_Met l yX8_fee wsX8_fee ({ frames := rf, cells := mc, slots := ms, locals := rl }) (mPcX sa sv G tyc [.ref b, .int p1, .int p2] sz wc) noQ (mXC G tyc (va_A wc sz) 0 w1) mc ms (va_A wc sz)) : vx_Met l yL_fee wsL_fee ({ frames := rf + 1, cells := mc, slots := ms, locals := rl + 60 }) (mPcX sa sv G (tyH cI cS) [.ref b, .int p1, .int p2] sz wc) (va_Qi (S := Unit) (fun k _ => k = (-3)) (mB G (tyH cI cS) (va_A wc sz) (fun _ => w1)) (va_A wc sz)) noX mc ms (va_A wc sz) := by
  refine mStartW (cc := cL_fee) (maxL := 4) (ret := (some .int)) (hh := [(0, 6, 7, 15), (0, 6, 11, 17)]) (by decide) rfl (Nat.le_of_ble_eq_true rfl) ?_
  intro p e s m below meth c A ls hx hb hml hr hts hown hlocks hA hsz hAe hP hK hD hE htab hS hl
  subst hsz
  subst hAe
  have hl : lv_has ls 4 [(0, .ref b), (1, .int p1), (2, .int p2)] := hl
  refine lv_aload_n hx hb dL_fee_0 rfl (lv_at hl 0 rfl) ?_
  refine lv_iload_n hx hb dL_fee_1 rfl (lv_at hl 1 rfl) ?_
  refine lv_iload_n hx hb dL_fee_2 rfl (lv_at hl 2 rfl) ?_
  refine mThrPV (E0 := 0) (As := [.int p1, .int p2]) (rest := []) (wr := []) hE ⟨hx, hb, hml, hown, hts⟩ hM (cwV 2 hts gL_fee_X8_fee rfl rfl rfl (by decide +kernel) ⟨Nat.le_refl _, by dsimp only; omega⟩) hP hD hS hA (hty s hK) (List.Perm.of_eq (List.append_nil wc).symm) 0 8 rfl he rfl rfl hl.1 rfl (lv_room (Nat.le_of_ble_eq_true rfl)) dL_fee_3 ⟨Nat.le_of_eq (Nat.zero_add _), Nat.le_of_eq (Nat.zero_add _)⟩ (fun ce q9 H locs hP hD hS hce hcv hcl => ?_)
  rw [List.append_nil] at hP hD
  refine vx_catch (own := RL) (name := exN 0) (E := exN 0) hown [] (⟨0, 6, 7, 15⟩ : ExceptionTableEntry) [(⟨0, 6, 11, 17⟩ : ExceptionTableEntry)] htab (fun z hz => absurd hz List.not_mem_nil) rfl (by decide) (hts (.classLink RL 15 "java/lang/IndexOutOfBoundsException") (by decide +kernel)) (hE.cast (by decide)) hce hcv hcl ?_
  refine lv_astore_n hx hb dL_fee_7 rfl hl (by decide) rfl (fun ls hl => ?_)
  refine lv_bipush (v := (-3)) hx hb dL_fee_8 (by decide) ?_
  exact vx_ret (mEndQ_i (S := Unit) () hx hb hr hlocks hP hK hD hS rfl rfl (Nat.le_of_eq (Nat.zero_add _)) (Nat.le_of_eq (Nat.zero_add _)) dL_fee_10)
set_option maxHeartbeats 4000000 in
set_option maxRecDepth 100000 in
theorem vL_fee_2 (l : Launch) (sa sv : Nat → Nat) (G : va_G) (cI cS : ClassId) {tyc : List (ClassId × FieldType)} (hty : ∀ s : State, va_K G vwCl (tyH cI cS) s → va_K G vwCl tyc s) (b : Nat) (p1 : Int32) (p2 : Int32) (sz : Nat) (wc : va_W) {fs : List Value} (he : wc[0]? = some (b, .inr (8, fs))) {w1 : va_W} {rf mc ms rl : Nat} (hM : vx_Met l yX8_fee wsX8_fee ({ frames := rf, cells := mc, slots := ms, locals := rl }) (mPcX sa sv G tyc [.ref b, .int p1, .int p2] sz wc) noQ (mXC G tyc (va_A wc sz) 1 w1) mc ms (va_A wc sz)) : vx_Met l yL_fee wsL_fee ({ frames := rf + 1, cells := mc, slots := ms, locals := rl + 60 }) (mPcX sa sv G (tyH cI cS) [.ref b, .int p1, .int p2] sz wc) (va_Qi (S := Unit) (fun k _ => k = (-2)) (mB G (tyH cI cS) (va_A wc sz) (fun _ => w1)) (va_A wc sz)) noX mc ms (va_A wc sz) := by
  refine mStartW (cc := cL_fee) (maxL := 4) (ret := (some .int)) (hh := [(0, 6, 7, 15), (0, 6, 11, 17)]) (by decide) rfl (Nat.le_of_ble_eq_true rfl) ?_
  intro p e s m below meth c A ls hx hb hml hr hts hown hlocks hA hsz hAe hP hK hD hE htab hS hl
  subst hsz
  subst hAe
  have hl : lv_has ls 4 [(0, .ref b), (1, .int p1), (2, .int p2)] := hl
  refine lv_aload_n hx hb dL_fee_0 rfl (lv_at hl 0 rfl) ?_
  refine lv_iload_n hx hb dL_fee_1 rfl (lv_at hl 1 rfl) ?_
  refine lv_iload_n hx hb dL_fee_2 rfl (lv_at hl 2 rfl) ?_
  refine mThrPV (E0 := 1) (As := [.int p1, .int p2]) (rest := []) (wr := []) hE ⟨hx, hb, hml, hown, hts⟩ hM (cwV 2 hts gL_fee_X8_fee rfl rfl rfl (by decide +kernel) ⟨Nat.le_refl _, by dsimp only; omega⟩) hP hD hS hA (hty s hK) (List.Perm.of_eq (List.append_nil wc).symm) 0 8 rfl he rfl rfl hl.1 rfl (lv_room (Nat.le_of_ble_eq_true rfl)) dL_fee_3 ⟨Nat.le_of_eq (Nat.zero_add _), Nat.le_of_eq (Nat.zero_add _)⟩ (fun ce q9 H locs hP hD hS hce hcv hcl => ?_)
  rw [List.append_nil] at hP hD
  refine vx_catch (own := RL) (name := exN 1) (E := exN 1) hown [(⟨0, 6, 7, 15⟩ : ExceptionTableEntry)] (⟨0, 6, 11, 17⟩ : ExceptionTableEntry) [] htab (fun z hz => by obtain rfl := List.mem_singleton.mp hz; exact Or.inr ⟨by decide, "java/lang/IndexOutOfBoundsException", hts (.classLink RL 15 "java/lang/IndexOutOfBoundsException") (by decide +kernel), hE.nc10⟩) rfl (by decide) (hts (.classLink RL 17 "java/lang/IllegalArgumentException") (by decide +kernel)) (hE.cast (by decide)) hce hcv hcl ?_
  refine lv_astore_n hx hb dL_fee_11 rfl hl (by decide) rfl (fun ls hl => ?_)
  refine lv_bipush (v := (-2)) hx hb dL_fee_12 (by decide) ?_
  exact vx_ret (mEndQ_i (S := Unit) () hx hb hr hlocks hP hK hD hS rfl rfl (Nat.le_of_eq (Nat.zero_add _)) (Nat.le_of_eq (Nat.zero_add _)) dL_fee_14)
set_option maxHeartbeats 4000000 in
set_option maxRecDepth 100000 in
theorem wL_go (l : Launch) (sa sv : Nat → Nat) (G : va_G) (cI cS : ClassId) {tyc : List (ClassId × FieldType)} (hty : ∀ s : State, va_K G vwCl (tyH cI cS) s → va_K G vwCl tyc s) (b : Nat) (sz : Nat) (wc : va_W) {fs : List Value} (he : wc[0]? = some (b, .inr (8, fs))) {S : Type} {post : Int32 → S → Prop} {w1 : S → va_W} {rf mc ms rl : Nat} (hM : Met l yX8_go wsX8_go ({ frames := rf, cells := mc, slots := ms, locals := rl }) (mPcX sa sv G tyc [.ref b] sz wc) (va_Qi (S := S) post (mB G tyc (va_A wc sz) w1) (va_A wc sz)) mc ms (va_A wc sz)) : vx_Met l yL_go wsL_go ({ frames := rf + 1, cells := mc, slots := ms, locals := rl + 60 }) (mPcX sa sv G (tyH cI cS) [.ref b] sz wc) (va_Qi (S := S) post (mB G (tyH cI cS) (va_A wc sz) w1) (va_A wc sz)) noX mc ms (va_A wc sz) := by
  refine mStartW (cc := cL_go) (maxL := 2) (ret := (some .int)) (hh := [(0, 4, 5, 30)]) (by decide) rfl (Nat.le_of_ble_eq_true rfl) ?_
  intro p e s m below meth c A ls hx hb hml hr hts hown hlocks hA hsz hAe hP hK hD hE htab hS hl
  subst hsz
  subst hAe
  have hl : lv_has ls 2 [(0, .ref b)] := hl
  refine lv_aload_n hx hb dL_go_0 rfl (lv_at hl 0 rfl) ?_
  refine mCallPXV_i (As := []) (rest := []) (wr := []) hE ⟨hx, hb, hml, hown, hts⟩ hM (cwV 0 hts gL_go_X8_go rfl rfl rfl (by decide +kernel) ⟨Nat.le_refl _, by dsimp only; omega⟩) hP hD hS hA (hty s hK) (List.Perm.of_eq (List.append_nil wc).symm) 0 8 rfl he rfl rfl hl.1 rfl (lv_room (Nat.le_of_ble_eq_true rfl)) dL_go_1 ⟨Nat.le_of_eq (Nat.zero_add _), Nat.le_of_eq (Nat.zero_add _)⟩ (fun x u H locs hpo hP hD hS => ?_)
  rw [List.append_nil] at hP hD
  exact vx_ret (mEndQ_i (S := S) u hx hb hr hlocks hP hK hD hS hpo rfl (Nat.le_of_eq (Nat.zero_add _)) (Nat.le_of_eq (Nat.zero_add _)) dL_go_4)
set_option maxHeartbeats 4000000 in
set_option maxRecDepth 100000 in
theorem vL_go_1 (l : Launch) (sa sv : Nat → Nat) (G : va_G) (cI cS : ClassId) {tyc : List (ClassId × FieldType)} (hty : ∀ s : State, va_K G vwCl (tyH cI cS) s → va_K G vwCl tyc s) (b : Nat) (sz : Nat) (wc : va_W) {fs : List Value} (he : wc[0]? = some (b, .inr (8, fs))) {w1 : va_W} {rf mc ms rl : Nat} (hM : vx_Met l yX8_go wsX8_go ({ frames := rf, cells := mc, slots := ms, locals := rl }) (mPcX sa sv G tyc [.ref b] sz wc) noQ (mXC G tyc (va_A wc sz) 2 w1) mc ms (va_A wc sz)) : vx_Met l yL_go wsL_go ({ frames := rf + 1, cells := mc, slots := ms, locals := rl + 60 }) (mPcX sa sv G (tyH cI cS) [.ref b] sz wc) (va_Qi (S := Unit) (fun k _ => k = (-2)) (mB G (tyH cI cS) (va_A wc sz) (fun _ => w1)) (va_A wc sz)) noX mc ms (va_A wc sz) := by
  refine mStartW (cc := cL_go) (maxL := 2) (ret := (some .int)) (hh := [(0, 4, 5, 30)]) (by decide) rfl (Nat.le_of_ble_eq_true rfl) ?_
  intro p e s m below meth c A ls hx hb hml hr hts hown hlocks hA hsz hAe hP hK hD hE htab hS hl
  subst hsz
  subst hAe
  have hl : lv_has ls 2 [(0, .ref b)] := hl
  refine lv_aload_n hx hb dL_go_0 rfl (lv_at hl 0 rfl) ?_
  refine mThrPV (E0 := 2) (As := []) (rest := []) (wr := []) hE ⟨hx, hb, hml, hown, hts⟩ hM (cwV 0 hts gL_go_X8_go rfl rfl rfl (by decide +kernel) ⟨Nat.le_refl _, by dsimp only; omega⟩) hP hD hS hA (hty s hK) (List.Perm.of_eq (List.append_nil wc).symm) 0 8 rfl he rfl rfl hl.1 rfl (lv_room (Nat.le_of_ble_eq_true rfl)) dL_go_1 ⟨Nat.le_of_eq (Nat.zero_add _), Nat.le_of_eq (Nat.zero_add _)⟩ (fun ce q9 H locs hP hD hS hce hcv hcl => ?_)
  rw [List.append_nil] at hP hD
  refine vx_catch (own := RL) (name := exN 2) (E := exN 2) hown [] (⟨0, 4, 5, 30⟩ : ExceptionTableEntry) [] htab (fun z hz => absurd hz List.not_mem_nil) rfl (by decide) (hts (.classLink RL 30 "java/lang/IllegalStateException") (by decide +kernel)) (hE.cast (by decide)) hce hcv hcl ?_
  refine lv_astore_n hx hb dL_go_5 rfl hl (by decide) rfl (fun ls hl => ?_)
  refine lv_bipush (v := (-2)) hx hb dL_go_6 (by decide) ?_
  exact vx_ret (mEndQ_i (S := Unit) () hx hb hr hlocks hP hK hD hS rfl rfl (Nat.le_of_eq (Nat.zero_add _)) (Nat.le_of_eq (Nat.zero_add _)) dL_go_8)
set_option maxHeartbeats 4000000 in
set_option maxRecDepth 100000 in
theorem wL_append (l : Launch) (sa sv : Nat → Nat) (G : va_G) (cI cS : ClassId) {tyc : List (ClassId × FieldType)} (hty : ∀ s : State, va_K G vwCl (tyH cI cS) s → va_K G vwCl tyc s) (b : Nat) (p1 : Int32) (sz : Nat) (wc : va_W) {fs : List Value} (he : wc[0]? = some (b, .inr (8, fs))) {S : Type} {post : Int32 → S → Prop} {w1 : S → va_W} {rf mc ms rl : Nat} (hM : Met l yX8_append wsX8_append ({ frames := rf, cells := mc, slots := ms, locals := rl }) (mPcX sa sv G tyc [.ref b, .int p1] sz wc) (va_Qi (S := S) post (mB G tyc (va_A wc sz) w1) (va_A wc sz)) mc ms (va_A wc sz)) : vx_Met l yL_append wsL_append ({ frames := rf + 1, cells := mc, slots := ms, locals := rl + 60 }) (mPcX sa sv G (tyH cI cS) [.ref b, .int p1] sz wc) (va_Qi (S := S) post (mB G (tyH cI cS) (va_A wc sz) w1) (va_A wc sz)) noX mc ms (va_A wc sz) := by
  refine mStartW (cc := cL_append) (maxL := 3) (ret := (some .int)) (hh := [(0, 5, 6, 17), (0, 5, 10, 30)]) (by decide) rfl (Nat.le_of_ble_eq_true rfl) ?_
  intro p e s m below meth c A ls hx hb hml hr hts hown hlocks hA hsz hAe hP hK hD hE htab hS hl
  subst hsz
  subst hAe
  have hl : lv_has ls 3 [(0, .ref b), (1, .int p1)] := hl
  refine lv_aload_n hx hb dL_append_0 rfl (lv_at hl 0 rfl) ?_
  refine lv_iload_n hx hb dL_append_1 rfl (lv_at hl 1 rfl) ?_
  refine mCallPXV_i (As := [.int p1]) (rest := []) (wr := []) hE ⟨hx, hb, hml, hown, hts⟩ hM (cwV 1 hts gL_append_X8_append rfl rfl rfl (by decide +kernel) ⟨Nat.le_refl _, by dsimp only; omega⟩) hP hD hS hA (hty s hK) (List.Perm.of_eq (List.append_nil wc).symm) 0 8 rfl he rfl rfl hl.1 rfl (lv_room (Nat.le_of_ble_eq_true rfl)) dL_append_2 ⟨Nat.le_of_eq (Nat.zero_add _), Nat.le_of_eq (Nat.zero_add _)⟩ (fun x u H locs hpo hP hD hS => ?_)
  rw [List.append_nil] at hP hD
  exact vx_ret (mEndQ_i (S := S) u hx hb hr hlocks hP hK hD hS hpo rfl (Nat.le_of_eq (Nat.zero_add _)) (Nat.le_of_eq (Nat.zero_add _)) dL_append_5)
set_option maxHeartbeats 4000000 in
set_option maxRecDepth 100000 in
theorem vL_append_1 (l : Launch) (sa sv : Nat → Nat) (G : va_G) (cI cS : ClassId) {tyc : List (ClassId × FieldType)} (hty : ∀ s : State, va_K G vwCl (tyH cI cS) s → va_K G vwCl tyc s) (b : Nat) (p1 : Int32) (sz : Nat) (wc : va_W) {fs : List Value} (he : wc[0]? = some (b, .inr (8, fs))) {w1 : va_W} {rf mc ms rl : Nat} (hM : vx_Met l yX8_append wsX8_append ({ frames := rf, cells := mc, slots := ms, locals := rl }) (mPcX sa sv G tyc [.ref b, .int p1] sz wc) noQ (mXC G tyc (va_A wc sz) 1 w1) mc ms (va_A wc sz)) : vx_Met l yL_append wsL_append ({ frames := rf + 1, cells := mc, slots := ms, locals := rl + 60 }) (mPcX sa sv G (tyH cI cS) [.ref b, .int p1] sz wc) (va_Qi (S := Unit) (fun k _ => k = (-2)) (mB G (tyH cI cS) (va_A wc sz) (fun _ => w1)) (va_A wc sz)) noX mc ms (va_A wc sz) := by
  refine mStartW (cc := cL_append) (maxL := 3) (ret := (some .int)) (hh := [(0, 5, 6, 17), (0, 5, 10, 30)]) (by decide) rfl (Nat.le_of_ble_eq_true rfl) ?_
  intro p e s m below meth c A ls hx hb hml hr hts hown hlocks hA hsz hAe hP hK hD hE htab hS hl
  subst hsz
  subst hAe
  have hl : lv_has ls 3 [(0, .ref b), (1, .int p1)] := hl
  refine lv_aload_n hx hb dL_append_0 rfl (lv_at hl 0 rfl) ?_
  refine lv_iload_n hx hb dL_append_1 rfl (lv_at hl 1 rfl) ?_
  refine mThrPV (E0 := 1) (As := [.int p1]) (rest := []) (wr := []) hE ⟨hx, hb, hml, hown, hts⟩ hM (cwV 1 hts gL_append_X8_append rfl rfl rfl (by decide +kernel) ⟨Nat.le_refl _, by dsimp only; omega⟩) hP hD hS hA (hty s hK) (List.Perm.of_eq (List.append_nil wc).symm) 0 8 rfl he rfl rfl hl.1 rfl (lv_room (Nat.le_of_ble_eq_true rfl)) dL_append_2 ⟨Nat.le_of_eq (Nat.zero_add _), Nat.le_of_eq (Nat.zero_add _)⟩ (fun ce q9 H locs hP hD hS hce hcv hcl => ?_)
  rw [List.append_nil] at hP hD
  refine vx_catch (own := RL) (name := exN 1) (E := exN 1) hown [] (⟨0, 5, 6, 17⟩ : ExceptionTableEntry) [(⟨0, 5, 10, 30⟩ : ExceptionTableEntry)] htab (fun z hz => absurd hz List.not_mem_nil) rfl (by decide) (hts (.classLink RL 17 "java/lang/IllegalArgumentException") (by decide +kernel)) (hE.cast (by decide)) hce hcv hcl ?_
  refine lv_astore_n hx hb dL_append_6 rfl hl (by decide) rfl (fun ls hl => ?_)
  refine lv_bipush (v := (-2)) hx hb dL_append_7 (by decide) ?_
  exact vx_ret (mEndQ_i (S := Unit) () hx hb hr hlocks hP hK hD hS rfl rfl (Nat.le_of_eq (Nat.zero_add _)) (Nat.le_of_eq (Nat.zero_add _)) dL_append_9)
set_option maxHeartbeats 4000000 in
set_option maxRecDepth 100000 in
theorem vL_append_2 (l : Launch) (sa sv : Nat → Nat) (G : va_G) (cI cS : ClassId) {tyc : List (ClassId × FieldType)} (hty : ∀ s : State, va_K G vwCl (tyH cI cS) s → va_K G vwCl tyc s) (b : Nat) (p1 : Int32) (sz : Nat) (wc : va_W) {fs : List Value} (he : wc[0]? = some (b, .inr (8, fs))) {w1 : va_W} {rf mc ms rl : Nat} (hM : vx_Met l yX8_append wsX8_append ({ frames := rf, cells := mc, slots := ms, locals := rl }) (mPcX sa sv G tyc [.ref b, .int p1] sz wc) noQ (mXC G tyc (va_A wc sz) 2 w1) mc ms (va_A wc sz)) : vx_Met l yL_append wsL_append ({ frames := rf + 1, cells := mc, slots := ms, locals := rl + 60 }) (mPcX sa sv G (tyH cI cS) [.ref b, .int p1] sz wc) (va_Qi (S := Unit) (fun k _ => k = (-3)) (mB G (tyH cI cS) (va_A wc sz) (fun _ => w1)) (va_A wc sz)) noX mc ms (va_A wc sz) := by
  refine mStartW (cc := cL_append) (maxL := 3) (ret := (some .int)) (hh := [(0, 5, 6, 17), (0, 5, 10, 30)]) (by decide) rfl (Nat.le_of_ble_eq_true rfl) ?_
  intro p e s m below meth c A ls hx hb hml hr hts hown hlocks hA hsz hAe hP hK hD hE htab hS hl
  subst hsz
  subst hAe
  have hl : lv_has ls 3 [(0, .ref b), (1, .int p1)] := hl
  refine lv_aload_n hx hb dL_append_0 rfl (lv_at hl 0 rfl) ?_
  refine lv_iload_n hx hb dL_append_1 rfl (lv_at hl 1 rfl) ?_
  refine mThrPV (E0 := 2) (As := [.int p1]) (rest := []) (wr := []) hE ⟨hx, hb, hml, hown, hts⟩ hM (cwV 1 hts gL_append_X8_append rfl rfl rfl (by decide +kernel) ⟨Nat.le_refl _, by dsimp only; omega⟩) hP hD hS hA (hty s hK) (List.Perm.of_eq (List.append_nil wc).symm) 0 8 rfl he rfl rfl hl.1 rfl (lv_room (Nat.le_of_ble_eq_true rfl)) dL_append_2 ⟨Nat.le_of_eq (Nat.zero_add _), Nat.le_of_eq (Nat.zero_add _)⟩ (fun ce q9 H locs hP hD hS hce hcv hcl => ?_)
  rw [List.append_nil] at hP hD
  refine vx_catch (own := RL) (name := exN 2) (E := exN 2) hown [(⟨0, 5, 6, 17⟩ : ExceptionTableEntry)] (⟨0, 5, 10, 30⟩ : ExceptionTableEntry) [] htab (fun z hz => by obtain rfl := List.mem_singleton.mp hz; exact Or.inr ⟨by decide, "java/lang/IllegalArgumentException", hts (.classLink RL 17 "java/lang/IllegalArgumentException") (by decide +kernel), hE.nc21⟩) rfl (by decide) (hts (.classLink RL 30 "java/lang/IllegalStateException") (by decide +kernel)) (hE.cast (by decide)) hce hcv hcl ?_
  refine lv_astore_n hx hb dL_append_10 rfl hl (by decide) rfl (fun ls hl => ?_)
  refine lv_bipush (v := (-3)) hx hb dL_append_11 (by decide) ?_
  exact vx_ret (mEndQ_i (S := Unit) () hx hb hr hlocks hP hK hD hS rfl rfl (Nat.le_of_eq (Nat.zero_add _)) (Nat.le_of_eq (Nat.zero_add _)) dL_append_13)
set_option maxHeartbeats 4000000 in
set_option maxRecDepth 100000 in
theorem wL_obey (l : Launch) (sa sv : Nat → Nat) (G : va_G) (cI cS : ClassId) {tyc : List (ClassId × FieldType)} (hty : ∀ s : State, va_K G vwCl (tyH cI cS) s → va_K G vwCl tyc s) (b : Nat) (sz : Nat) (wc : va_W) {fs : List Value} (he : wc[0]? = some (b, .inr (8, fs))) {S : Type} {post : Int32 → S → Prop} {w1 : S → va_W} {rf mc ms rl : Nat} (hM : Met l yX8_obey wsX8_obey ({ frames := rf, cells := mc, slots := ms, locals := rl }) (mPcX sa sv G tyc [.ref b] sz wc) (va_Qi (S := S) post (mB G tyc (va_A wc sz) w1) (va_A wc sz)) mc ms (va_A wc sz)) : vx_Met l yL_obey wsL_obey ({ frames := rf + 1, cells := mc, slots := ms, locals := rl + 60 }) (mPcX sa sv G (tyH cI cS) [.ref b] sz wc) (va_Qi (S := S) post (mB G (tyH cI cS) (va_A wc sz) w1) (va_A wc sz)) noX mc ms (va_A wc sz) := by
  refine mStartW (cc := cL_obey) (maxL := 2) (ret := (some .int)) (hh := [(0, 4, 5, 17)]) (by decide) rfl (Nat.le_of_ble_eq_true rfl) ?_
  intro p e s m below meth c A ls hx hb hml hr hts hown hlocks hA hsz hAe hP hK hD hE htab hS hl
  subst hsz
  subst hAe
  have hl : lv_has ls 2 [(0, .ref b)] := hl
  refine lv_aload_n hx hb dL_obey_0 rfl (lv_at hl 0 rfl) ?_
  refine mCallPXV_i (As := []) (rest := []) (wr := []) hE ⟨hx, hb, hml, hown, hts⟩ hM (cwV 0 hts gL_obey_X8_obey rfl rfl rfl (by decide +kernel) ⟨Nat.le_refl _, by dsimp only; omega⟩) hP hD hS hA (hty s hK) (List.Perm.of_eq (List.append_nil wc).symm) 0 8 rfl he rfl rfl hl.1 rfl (lv_room (Nat.le_of_ble_eq_true rfl)) dL_obey_1 ⟨Nat.le_of_eq (Nat.zero_add _), Nat.le_of_eq (Nat.zero_add _)⟩ (fun x u H locs hpo hP hD hS => ?_)
  rw [List.append_nil] at hP hD
  exact vx_ret (mEndQ_i (S := S) u hx hb hr hlocks hP hK hD hS hpo rfl (Nat.le_of_eq (Nat.zero_add _)) (Nat.le_of_eq (Nat.zero_add _)) dL_obey_4)
set_option maxHeartbeats 4000000 in
set_option maxRecDepth 100000 in
theorem vL_obey_1 (l : Launch) (sa sv : Nat → Nat) (G : va_G) (cI cS : ClassId) {tyc : List (ClassId × FieldType)} (hty : ∀ s : State, va_K G vwCl (tyH cI cS) s → va_K G vwCl tyc s) (b : Nat) (sz : Nat) (wc : va_W) {fs : List Value} (he : wc[0]? = some (b, .inr (8, fs))) {w1 : va_W} {rf mc ms rl : Nat} (hM : vx_Met l yX8_obey wsX8_obey ({ frames := rf, cells := mc, slots := ms, locals := rl }) (mPcX sa sv G tyc [.ref b] sz wc) noQ (mXC G tyc (va_A wc sz) 1 w1) mc ms (va_A wc sz)) : vx_Met l yL_obey wsL_obey ({ frames := rf + 1, cells := mc, slots := ms, locals := rl + 60 }) (mPcX sa sv G (tyH cI cS) [.ref b] sz wc) (va_Qi (S := Unit) (fun k _ => k = (-2)) (mB G (tyH cI cS) (va_A wc sz) (fun _ => w1)) (va_A wc sz)) noX mc ms (va_A wc sz) := by
  refine mStartW (cc := cL_obey) (maxL := 2) (ret := (some .int)) (hh := [(0, 4, 5, 17)]) (by decide) rfl (Nat.le_of_ble_eq_true rfl) ?_
  intro p e s m below meth c A ls hx hb hml hr hts hown hlocks hA hsz hAe hP hK hD hE htab hS hl
  subst hsz
  subst hAe
  have hl : lv_has ls 2 [(0, .ref b)] := hl
  refine lv_aload_n hx hb dL_obey_0 rfl (lv_at hl 0 rfl) ?_
  refine mThrPV (E0 := 1) (As := []) (rest := []) (wr := []) hE ⟨hx, hb, hml, hown, hts⟩ hM (cwV 0 hts gL_obey_X8_obey rfl rfl rfl (by decide +kernel) ⟨Nat.le_refl _, by dsimp only; omega⟩) hP hD hS hA (hty s hK) (List.Perm.of_eq (List.append_nil wc).symm) 0 8 rfl he rfl rfl hl.1 rfl (lv_room (Nat.le_of_ble_eq_true rfl)) dL_obey_1 ⟨Nat.le_of_eq (Nat.zero_add _), Nat.le_of_eq (Nat.zero_add _)⟩ (fun ce q9 H locs hP hD hS hce hcv hcl => ?_)
  rw [List.append_nil] at hP hD
  refine vx_catch (own := RL) (name := exN 1) (E := exN 1) hown [] (⟨0, 4, 5, 17⟩ : ExceptionTableEntry) [] htab (fun z hz => absurd hz List.not_mem_nil) rfl (by decide) (hts (.classLink RL 17 "java/lang/IllegalArgumentException") (by decide +kernel)) (hE.cast (by decide)) hce hcv hcl ?_
  refine lv_astore_n hx hb dL_obey_5 rfl hl (by decide) rfl (fun ls hl => ?_)
  refine lv_bipush (v := (-2)) hx hb dL_obey_6 (by decide) ?_
  exact vx_ret (mEndQ_i (S := Unit) () hx hb hr hlocks hP hK hD hS rfl rfl (Nat.le_of_eq (Nat.zero_add _)) (Nat.le_of_eq (Nat.zero_add _)) dL_obey_8)
set_option maxHeartbeats 4000000 in
set_option maxRecDepth 100000 in
theorem wL_stopped (l : Launch) (sa sv : Nat → Nat) (G : va_G) (cI cS : ClassId) {tyc : List (ClassId × FieldType)} (hty : ∀ s : State, va_K G vwCl (tyH cI cS) s → va_K G vwCl tyc s) (b : Nat) (p1 : Int32) (sz : Nat) (wc : va_W) {fs : List Value} (he : wc[0]? = some (b, .inr (8, fs))) {S : Type} {post : Int32 → S → Prop} {w1 : S → va_W} {rf mc ms rl : Nat} (hM : Met l yX8_stopped wsX8_stopped ({ frames := rf, cells := mc, slots := ms, locals := rl }) (mPcX sa sv G tyc [.ref b, .int p1] sz wc) (va_Qi (S := S) post (mB G tyc (va_A wc sz) w1) (va_A wc sz)) mc ms (va_A wc sz)) : vx_Met l yL_stopped wsL_stopped ({ frames := rf + 1, cells := mc, slots := ms, locals := rl + 60 }) (mPcX sa sv G (tyH cI cS) [.ref b, .int p1] sz wc) (va_Qi (S := S) post (mB G (tyH cI cS) (va_A wc sz) w1) (va_A wc sz)) noX mc ms (va_A wc sz) := by
  refine mStartW (cc := cL_stopped) (maxL := 3) (ret := (some .int)) (hh := [(0, 5, 6, 17)]) (by decide) rfl (Nat.le_of_ble_eq_true rfl) ?_
  intro p e s m below meth c A ls hx hb hml hr hts hown hlocks hA hsz hAe hP hK hD hE htab hS hl
  subst hsz
  subst hAe
  have hl : lv_has ls 3 [(0, .ref b), (1, .int p1)] := hl
  refine lv_aload_n hx hb dL_stopped_0 rfl (lv_at hl 0 rfl) ?_
  refine lv_iload_n hx hb dL_stopped_1 rfl (lv_at hl 1 rfl) ?_
  refine mCallPXV_i (As := [.int p1]) (rest := []) (wr := []) hE ⟨hx, hb, hml, hown, hts⟩ hM (cwV 1 hts gL_stopped_X8_stopped rfl rfl rfl (by decide +kernel) ⟨Nat.le_refl _, by dsimp only; omega⟩) hP hD hS hA (hty s hK) (List.Perm.of_eq (List.append_nil wc).symm) 0 8 rfl he rfl rfl hl.1 rfl (lv_room (Nat.le_of_ble_eq_true rfl)) dL_stopped_2 ⟨Nat.le_of_eq (Nat.zero_add _), Nat.le_of_eq (Nat.zero_add _)⟩ (fun x u H locs hpo hP hD hS => ?_)
  rw [List.append_nil] at hP hD
  exact vx_ret (mEndQ_i (S := S) u hx hb hr hlocks hP hK hD hS hpo rfl (Nat.le_of_eq (Nat.zero_add _)) (Nat.le_of_eq (Nat.zero_add _)) dL_stopped_5)
set_option maxHeartbeats 4000000 in
set_option maxRecDepth 100000 in
theorem vL_stopped_1 (l : Launch) (sa sv : Nat → Nat) (G : va_G) (cI cS : ClassId) {tyc : List (ClassId × FieldType)} (hty : ∀ s : State, va_K G vwCl (tyH cI cS) s → va_K G vwCl tyc s) (b : Nat) (p1 : Int32) (sz : Nat) (wc : va_W) {fs : List Value} (he : wc[0]? = some (b, .inr (8, fs))) {w1 : va_W} {rf mc ms rl : Nat} (hM : vx_Met l yX8_stopped wsX8_stopped ({ frames := rf, cells := mc, slots := ms, locals := rl }) (mPcX sa sv G tyc [.ref b, .int p1] sz wc) noQ (mXC G tyc (va_A wc sz) 1 w1) mc ms (va_A wc sz)) : vx_Met l yL_stopped wsL_stopped ({ frames := rf + 1, cells := mc, slots := ms, locals := rl + 60 }) (mPcX sa sv G (tyH cI cS) [.ref b, .int p1] sz wc) (va_Qi (S := Unit) (fun k _ => k = (-2)) (mB G (tyH cI cS) (va_A wc sz) (fun _ => w1)) (va_A wc sz)) noX mc ms (va_A wc sz) := by
  refine mStartW (cc := cL_stopped) (maxL := 3) (ret := (some .int)) (hh := [(0, 5, 6, 17)]) (by decide) rfl (Nat.le_of_ble_eq_true rfl) ?_
  intro p e s m below meth c A ls hx hb hml hr hts hown hlocks hA hsz hAe hP hK hD hE htab hS hl
  subst hsz
  subst hAe
  have hl : lv_has ls 3 [(0, .ref b), (1, .int p1)] := hl
  refine lv_aload_n hx hb dL_stopped_0 rfl (lv_at hl 0 rfl) ?_
  refine lv_iload_n hx hb dL_stopped_1 rfl (lv_at hl 1 rfl) ?_
  refine mThrPV (E0 := 1) (As := [.int p1]) (rest := []) (wr := []) hE ⟨hx, hb, hml, hown, hts⟩ hM (cwV 1 hts gL_stopped_X8_stopped rfl rfl rfl (by decide +kernel) ⟨Nat.le_refl _, by dsimp only; omega⟩) hP hD hS hA (hty s hK) (List.Perm.of_eq (List.append_nil wc).symm) 0 8 rfl he rfl rfl hl.1 rfl (lv_room (Nat.le_of_ble_eq_true rfl)) dL_stopped_2 ⟨Nat.le_of_eq (Nat.zero_add _), Nat.le_of_eq (Nat.zero_add _)⟩ (fun ce q9 H locs hP hD hS hce hcv hcl => ?_)
  rw [List.append_nil] at hP hD
  refine vx_catch (own := RL) (name := exN 1) (E := exN 1) hown [] (⟨0, 5, 6, 17⟩ : ExceptionTableEntry) [] htab (fun z hz => absurd hz List.not_mem_nil) rfl (by decide) (hts (.classLink RL 17 "java/lang/IllegalArgumentException") (by decide +kernel)) (hE.cast (by decide)) hce hcv hcl ?_
  refine lv_astore_n hx hb dL_stopped_6 rfl hl (by decide) rfl (fun ls hl => ?_)
  refine lv_bipush (v := (-2)) hx hb dL_stopped_7 (by decide) ?_
  exact vx_ret (mEndQ_i (S := Unit) () hx hb hr hlocks hP hK hD hS rfl rfl (Nat.le_of_eq (Nat.zero_add _)) (Nat.le_of_eq (Nat.zero_add _)) dL_stopped_9)
set_option maxHeartbeats 4000000 in
set_option maxRecDepth 100000 in
theorem wL_told (l : Launch) (sa sv : Nat → Nat) (G : va_G) (cI cS : ClassId) {tyc : List (ClassId × FieldType)} (hty : ∀ s : State, va_K G vwCl (tyH cI cS) s → va_K G vwCl tyc s) (b : Nat) (p1 : Int32) (p2 : Int32) (sz : Nat) (wc : va_W) {fs : List Value} (he : wc[0]? = some (b, .inr (8, fs))) {S : Type} {post : Int32 → S → Prop} {w1 : S → va_W} {rf mc ms rl : Nat} (hM : Met l yX8_told wsX8_told ({ frames := rf, cells := mc, slots := ms, locals := rl }) (mPcX sa sv G tyc [.ref b, .int p1, .int p2] sz wc) (va_Qi (S := S) post (mB G tyc (va_A wc sz) w1) (va_A wc sz)) mc ms (va_A wc sz)) : vx_Met l yL_told wsL_told ({ frames := rf + 1, cells := mc, slots := ms, locals := rl + 60 }) (mPcX sa sv G (tyH cI cS) [.ref b, .int p1, .int p2] sz wc) (va_Qi (S := S) post (mB G (tyH cI cS) (va_A wc sz) w1) (va_A wc sz)) noX mc ms (va_A wc sz) := by
  refine mStartW (cc := cL_told) (maxL := 4) (ret := (some .int)) (hh := [(0, 6, 7, 17)]) (by decide) rfl (Nat.le_of_ble_eq_true rfl) ?_
  intro p e s m below meth c A ls hx hb hml hr hts hown hlocks hA hsz hAe hP hK hD hE htab hS hl
  subst hsz
  subst hAe
  have hl : lv_has ls 4 [(0, .ref b), (1, .int p1), (2, .int p2)] := hl
  refine lv_aload_n hx hb dL_told_0 rfl (lv_at hl 0 rfl) ?_
  refine lv_iload_n hx hb dL_told_1 rfl (lv_at hl 1 rfl) ?_
  refine lv_iload_n hx hb dL_told_2 rfl (lv_at hl 2 rfl) ?_
  refine mCallPXV_i (As := [.int p1, .int p2]) (rest := []) (wr := []) hE ⟨hx, hb, hml, hown, hts⟩ hM (cwV 2 hts gL_told_X8_told rfl rfl rfl (by decide +kernel) ⟨Nat.le_refl _, by dsimp only; omega⟩) hP hD hS hA (hty s hK) (List.Perm.of_eq (List.append_nil wc).symm) 0 8 rfl he rfl rfl hl.1 rfl (lv_room (Nat.le_of_ble_eq_true rfl)) dL_told_3 ⟨Nat.le_of_eq (Nat.zero_add _), Nat.le_of_eq (Nat.zero_add _)⟩ (fun x u H locs hpo hP hD hS => ?_)
  rw [List.append_nil] at hP hD
  exact vx_ret (mEndQ_i (S := S) u hx hb hr hlocks hP hK hD hS hpo rfl (Nat.le_of_eq (Nat.zero_add _)) (Nat.le_of_eq (Nat.zero_add _)) dL_told_6)
set_option maxHeartbeats 4000000 in
set_option maxRecDepth 100000 in
theorem vL_told_1 (l : Launch) (sa sv : Nat → Nat) (G : va_G) (cI cS : ClassId) {tyc : List (ClassId × FieldType)} (hty : ∀ s : State, va_K G vwCl (tyH cI cS) s → va_K G vwCl tyc s) (b : Nat) (p1 : Int32) (p2 : Int32) (sz : Nat) (wc : va_W) {fs : List Value} (he : wc[0]? = some (b, .inr (8, fs))) {w1 : va_W} {rf mc ms rl : Nat} (hM : vx_Met l yX8_told wsX8_told ({ frames := rf, cells := mc, slots := ms, locals := rl }) (mPcX sa sv G tyc [.ref b, .int p1, .int p2] sz wc) noQ (mXC G tyc (va_A wc sz) 1 w1) mc ms (va_A wc sz)) : vx_Met l yL_told wsL_told ({ frames := rf + 1, cells := mc, slots := ms, locals := rl + 60 }) (mPcX sa sv G (tyH cI cS) [.ref b, .int p1, .int p2] sz wc) (va_Qi (S := Unit) (fun k _ => k = (-2)) (mB G (tyH cI cS) (va_A wc sz) (fun _ => w1)) (va_A wc sz)) noX mc ms (va_A wc sz) := by
  refine mStartW (cc := cL_told) (maxL := 4) (ret := (some .int)) (hh := [(0, 6, 7, 17)]) (by decide) rfl (Nat.le_of_ble_eq_true rfl) ?_
  intro p e s m below meth c A ls hx hb hml hr hts hown hlocks hA hsz hAe hP hK hD hE htab hS hl
  subst hsz
  subst hAe
  have hl : lv_has ls 4 [(0, .ref b), (1, .int p1), (2, .int p2)] := hl
  refine lv_aload_n hx hb dL_told_0 rfl (lv_at hl 0 rfl) ?_
  refine lv_iload_n hx hb dL_told_1 rfl (lv_at hl 1 rfl) ?_
  refine lv_iload_n hx hb dL_told_2 rfl (lv_at hl 2 rfl) ?_
  refine mThrPV (E0 := 1) (As := [.int p1, .int p2]) (rest := []) (wr := []) hE ⟨hx, hb, hml, hown, hts⟩ hM (cwV 2 hts gL_told_X8_told rfl rfl rfl (by decide +kernel) ⟨Nat.le_refl _, by dsimp only; omega⟩) hP hD hS hA (hty s hK) (List.Perm.of_eq (List.append_nil wc).symm) 0 8 rfl he rfl rfl hl.1 rfl (lv_room (Nat.le_of_ble_eq_true rfl)) dL_told_3 ⟨Nat.le_of_eq (Nat.zero_add _), Nat.le_of_eq (Nat.zero_add _)⟩ (fun ce q9 H locs hP hD hS hce hcv hcl => ?_)
  rw [List.append_nil] at hP hD
  refine vx_catch (own := RL) (name := exN 1) (E := exN 1) hown [] (⟨0, 6, 7, 17⟩ : ExceptionTableEntry) [] htab (fun z hz => absurd hz List.not_mem_nil) rfl (by decide) (hts (.classLink RL 17 "java/lang/IllegalArgumentException") (by decide +kernel)) (hE.cast (by decide)) hce hcv hcl ?_
  refine lv_astore_n hx hb dL_told_7 rfl hl (by decide) rfl (fun ls hl => ?_)
  refine lv_bipush (v := (-2)) hx hb dL_told_8 (by decide) ?_
  exact vx_ret (mEndQ_i (S := Unit) () hx hb hr hlocks hP hK hD hS rfl rfl (Nat.le_of_eq (Nat.zero_add _)) (Nat.le_of_eq (Nat.zero_add _)) dL_told_10)
set_option maxHeartbeats 4000000 in
set_option maxRecDepth 100000 in
theorem wL_undo (l : Launch) (sa sv : Nat → Nat) (G : va_G) (cI cS : ClassId) {tyc : List (ClassId × FieldType)} (hty : ∀ s : State, va_K G vwCl (tyH cI cS) s → va_K G vwCl tyc s) (b : Nat) (sz : Nat) (wc : va_W) {fs : List Value} (he : wc[0]? = some (b, .inr (8, fs))) {S : Type} {post : Int32 → S → Prop} {w1 : S → va_W} {rf mc ms rl : Nat} (hM : Met l yX8_undo wsX8_undo ({ frames := rf, cells := mc, slots := ms, locals := rl }) (mPcX sa sv G tyc [.ref b] sz wc) (va_Qi (S := S) post (mB G tyc (va_A wc sz) w1) (va_A wc sz)) mc ms (va_A wc sz)) : vx_Met l yL_undo wsL_undo ({ frames := rf + 1, cells := mc, slots := ms, locals := rl + 60 }) (mPcX sa sv G (tyH cI cS) [.ref b] sz wc) (va_Qi (S := S) post (mB G (tyH cI cS) (va_A wc sz) w1) (va_A wc sz)) noX mc ms (va_A wc sz) := by
  refine mStartW (cc := cL_undo) (maxL := 2) (ret := (some .int)) (hh := [(0, 4, 5, 30)]) (by decide) rfl (Nat.le_of_ble_eq_true rfl) ?_
  intro p e s m below meth c A ls hx hb hml hr hts hown hlocks hA hsz hAe hP hK hD hE htab hS hl
  subst hsz
  subst hAe
  have hl : lv_has ls 2 [(0, .ref b)] := hl
  refine lv_aload_n hx hb dL_undo_0 rfl (lv_at hl 0 rfl) ?_
  refine mCallPXV_i (As := []) (rest := []) (wr := []) hE ⟨hx, hb, hml, hown, hts⟩ hM (cwV 0 hts gL_undo_X8_undo rfl rfl rfl (by decide +kernel) ⟨Nat.le_refl _, by dsimp only; omega⟩) hP hD hS hA (hty s hK) (List.Perm.of_eq (List.append_nil wc).symm) 0 8 rfl he rfl rfl hl.1 rfl (lv_room (Nat.le_of_ble_eq_true rfl)) dL_undo_1 ⟨Nat.le_of_eq (Nat.zero_add _), Nat.le_of_eq (Nat.zero_add _)⟩ (fun x u H locs hpo hP hD hS => ?_)
  rw [List.append_nil] at hP hD
  exact vx_ret (mEndQ_i (S := S) u hx hb hr hlocks hP hK hD hS hpo rfl (Nat.le_of_eq (Nat.zero_add _)) (Nat.le_of_eq (Nat.zero_add _)) dL_undo_4)
set_option maxHeartbeats 4000000 in
set_option maxRecDepth 100000 in
theorem vL_undo_1 (l : Launch) (sa sv : Nat → Nat) (G : va_G) (cI cS : ClassId) {tyc : List (ClassId × FieldType)} (hty : ∀ s : State, va_K G vwCl (tyH cI cS) s → va_K G vwCl tyc s) (b : Nat) (sz : Nat) (wc : va_W) {fs : List Value} (he : wc[0]? = some (b, .inr (8, fs))) {w1 : va_W} {rf mc ms rl : Nat} (hM : vx_Met l yX8_undo wsX8_undo ({ frames := rf, cells := mc, slots := ms, locals := rl }) (mPcX sa sv G tyc [.ref b] sz wc) noQ (mXC G tyc (va_A wc sz) 2 w1) mc ms (va_A wc sz)) : vx_Met l yL_undo wsL_undo ({ frames := rf + 1, cells := mc, slots := ms, locals := rl + 60 }) (mPcX sa sv G (tyH cI cS) [.ref b] sz wc) (va_Qi (S := Unit) (fun k _ => k = (-2)) (mB G (tyH cI cS) (va_A wc sz) (fun _ => w1)) (va_A wc sz)) noX mc ms (va_A wc sz) := by
  refine mStartW (cc := cL_undo) (maxL := 2) (ret := (some .int)) (hh := [(0, 4, 5, 30)]) (by decide) rfl (Nat.le_of_ble_eq_true rfl) ?_
  intro p e s m below meth c A ls hx hb hml hr hts hown hlocks hA hsz hAe hP hK hD hE htab hS hl
  subst hsz
  subst hAe
  have hl : lv_has ls 2 [(0, .ref b)] := hl
  refine lv_aload_n hx hb dL_undo_0 rfl (lv_at hl 0 rfl) ?_
  refine mThrPV (E0 := 2) (As := []) (rest := []) (wr := []) hE ⟨hx, hb, hml, hown, hts⟩ hM (cwV 0 hts gL_undo_X8_undo rfl rfl rfl (by decide +kernel) ⟨Nat.le_refl _, by dsimp only; omega⟩) hP hD hS hA (hty s hK) (List.Perm.of_eq (List.append_nil wc).symm) 0 8 rfl he rfl rfl hl.1 rfl (lv_room (Nat.le_of_ble_eq_true rfl)) dL_undo_1 ⟨Nat.le_of_eq (Nat.zero_add _), Nat.le_of_eq (Nat.zero_add _)⟩ (fun ce q9 H locs hP hD hS hce hcv hcl => ?_)
  rw [List.append_nil] at hP hD
  refine vx_catch (own := RL) (name := exN 2) (E := exN 2) hown [] (⟨0, 4, 5, 30⟩ : ExceptionTableEntry) [] htab (fun z hz => absurd hz List.not_mem_nil) rfl (by decide) (hts (.classLink RL 30 "java/lang/IllegalStateException") (by decide +kernel)) (hE.cast (by decide)) hce hcv hcl ?_
  refine lv_astore_n hx hb dL_undo_5 rfl hl (by decide) rfl (fun ls hl => ?_)
  refine lv_bipush (v := (-2)) hx hb dL_undo_6 (by decide) ?_
  exact vx_ret (mEndQ_i (S := Unit) () hx hb hr hlocks hP hK hD hS rfl rfl (Nat.le_of_eq (Nat.zero_add _)) (Nat.le_of_eq (Nat.zero_add _)) dL_undo_8)
set_option maxHeartbeats 4000000 in
set_option maxRecDepth 100000 in
theorem wL_restore (l : Launch) (sa sv : Nat → Nat) (G : va_G) (cI cS : ClassId) {tyc : List (ClassId × FieldType)} (hty : ∀ s : State, va_K G vwCl (tyH cI cS) s → va_K G vwCl tyc s) (b : Nat) (sz : Nat) (wc : va_W) {fs : List Value} (he : wc[0]? = some (b, .inr (8, fs))) {S : Type} {post : Int32 → S → Prop} {w1 : S → va_W} {rf mc ms rl : Nat} (hM : Met l yX8_restore wsX8_restore ({ frames := rf, cells := mc, slots := ms, locals := rl }) (mPcX sa sv G tyc [.ref b] sz wc) (va_Qi (S := S) post (mB G tyc (va_A wc sz) w1) (va_A wc sz)) mc ms (va_A wc sz)) : vx_Met l yL_restore wsL_restore ({ frames := rf + 1, cells := mc, slots := ms, locals := rl + 60 }) (mPcX sa sv G (tyH cI cS) [.ref b] sz wc) (va_Qi (S := S) post (mB G (tyH cI cS) (va_A wc sz) w1) (va_A wc sz)) noX mc ms (va_A wc sz) := by
  refine mStartW (cc := cL_restore) (maxL := 2) (ret := (some .int)) (hh := [(0, 4, 5, 30)]) (by decide) rfl (Nat.le_of_ble_eq_true rfl) ?_
  intro p e s m below meth c A ls hx hb hml hr hts hown hlocks hA hsz hAe hP hK hD hE htab hS hl
  subst hsz
  subst hAe
  have hl : lv_has ls 2 [(0, .ref b)] := hl
  refine lv_aload_n hx hb dL_restore_0 rfl (lv_at hl 0 rfl) ?_
  refine mCallPXV_i (As := []) (rest := []) (wr := []) hE ⟨hx, hb, hml, hown, hts⟩ hM (cwV 0 hts gL_restore_X8_restore rfl rfl rfl (by decide +kernel) ⟨Nat.le_refl _, by dsimp only; omega⟩) hP hD hS hA (hty s hK) (List.Perm.of_eq (List.append_nil wc).symm) 0 8 rfl he rfl rfl hl.1 rfl (lv_room (Nat.le_of_ble_eq_true rfl)) dL_restore_1 ⟨Nat.le_of_eq (Nat.zero_add _), Nat.le_of_eq (Nat.zero_add _)⟩ (fun x u H locs hpo hP hD hS => ?_)
  rw [List.append_nil] at hP hD
  exact vx_ret (mEndQ_i (S := S) u hx hb hr hlocks hP hK hD hS hpo rfl (Nat.le_of_eq (Nat.zero_add _)) (Nat.le_of_eq (Nat.zero_add _)) dL_restore_4)
set_option maxHeartbeats 4000000 in
set_option maxRecDepth 100000 in
theorem vL_restore_1 (l : Launch) (sa sv : Nat → Nat) (G : va_G) (cI cS : ClassId) {tyc : List (ClassId × FieldType)} (hty : ∀ s : State, va_K G vwCl (tyH cI cS) s → va_K G vwCl tyc s) (b : Nat) (sz : Nat) (wc : va_W) {fs : List Value} (he : wc[0]? = some (b, .inr (8, fs))) {w1 : va_W} {rf mc ms rl : Nat} (hM : vx_Met l yX8_restore wsX8_restore ({ frames := rf, cells := mc, slots := ms, locals := rl }) (mPcX sa sv G tyc [.ref b] sz wc) noQ (mXC G tyc (va_A wc sz) 2 w1) mc ms (va_A wc sz)) : vx_Met l yL_restore wsL_restore ({ frames := rf + 1, cells := mc, slots := ms, locals := rl + 60 }) (mPcX sa sv G (tyH cI cS) [.ref b] sz wc) (va_Qi (S := Unit) (fun k _ => k = (-2)) (mB G (tyH cI cS) (va_A wc sz) (fun _ => w1)) (va_A wc sz)) noX mc ms (va_A wc sz) := by
  refine mStartW (cc := cL_restore) (maxL := 2) (ret := (some .int)) (hh := [(0, 4, 5, 30)]) (by decide) rfl (Nat.le_of_ble_eq_true rfl) ?_
  intro p e s m below meth c A ls hx hb hml hr hts hown hlocks hA hsz hAe hP hK hD hE htab hS hl
  subst hsz
  subst hAe
  have hl : lv_has ls 2 [(0, .ref b)] := hl
  refine lv_aload_n hx hb dL_restore_0 rfl (lv_at hl 0 rfl) ?_
  refine mThrPV (E0 := 2) (As := []) (rest := []) (wr := []) hE ⟨hx, hb, hml, hown, hts⟩ hM (cwV 0 hts gL_restore_X8_restore rfl rfl rfl (by decide +kernel) ⟨Nat.le_refl _, by dsimp only; omega⟩) hP hD hS hA (hty s hK) (List.Perm.of_eq (List.append_nil wc).symm) 0 8 rfl he rfl rfl hl.1 rfl (lv_room (Nat.le_of_ble_eq_true rfl)) dL_restore_1 ⟨Nat.le_of_eq (Nat.zero_add _), Nat.le_of_eq (Nat.zero_add _)⟩ (fun ce q9 H locs hP hD hS hce hcv hcl => ?_)
  rw [List.append_nil] at hP hD
  refine vx_catch (own := RL) (name := exN 2) (E := exN 2) hown [] (⟨0, 4, 5, 30⟩ : ExceptionTableEntry) [] htab (fun z hz => absurd hz List.not_mem_nil) rfl (by decide) (hts (.classLink RL 30 "java/lang/IllegalStateException") (by decide +kernel)) (hE.cast (by decide)) hce hcv hcl ?_
  refine lv_astore_n hx hb dL_restore_5 rfl hl (by decide) rfl (fun ls hl => ?_)
  refine lv_bipush (v := (-2)) hx hb dL_restore_6 (by decide) ?_
  exact vx_ret (mEndQ_i (S := Unit) () hx hb hr hlocks hP hK hD hS rfl rfl (Nat.le_of_eq (Nat.zero_add _)) (Nat.le_of_eq (Nat.zero_add _)) dL_restore_8)
set_option maxHeartbeats 4000000 in
set_option maxRecDepth 100000 in
theorem wL_meaning (l : Launch) (sa sv : Nat → Nat) (G : va_G) (cI cS : ClassId) {tyc : List (ClassId × FieldType)} (hty : ∀ s : State, va_K G vwCl (tyH cI cS) s → va_K G vwCl tyc s) (b : Nat) (p1 : Int32) (p2 : Int32) (p3 : Int32) (sz : Nat) (wc : va_W) {fs : List Value} (he : wc[0]? = some (b, .inr (8, fs))) {S : Type} {post : Int32 → S → Prop} {w1 : S → va_W} {rf mc ms rl : Nat} (hM : Met l yX8_meaning wsX8_meaning ({ frames := rf, cells := mc, slots := ms, locals := rl }) (mPcX sa sv G tyc [.ref b, .int p1, .int p2, .int p3] sz wc) (va_Qi (S := S) post (mB G tyc (va_A wc sz) w1) (va_A wc sz)) mc ms (va_A wc sz)) : vx_Met l yL_meaning wsL_meaning ({ frames := rf + 1, cells := mc, slots := ms, locals := rl + 60 }) (mPcX sa sv G (tyH cI cS) [.ref b, .int p1, .int p2, .int p3] sz wc) (va_Qi (S := S) post (mB G (tyH cI cS) (va_A wc sz) w1) (va_A wc sz)) noX mc ms (va_A wc sz) := by
  refine mStartW (cc := cL_meaning) (maxL := 5) (ret := (some .int)) (hh := [(0, 7, 8, 15), (0, 7, 13, 17)]) (by decide) rfl (Nat.le_of_ble_eq_true rfl) ?_
  intro p e s m below meth c A ls hx hb hml hr hts hown hlocks hA hsz hAe hP hK hD hE htab hS hl
  subst hsz
  subst hAe
  have hl : lv_has ls 5 [(0, .ref b), (1, .int p1), (2, .int p2), (3, .int p3)] := hl
  refine lv_aload_n hx hb dL_meaning_0 rfl (lv_at hl 0 rfl) ?_
  refine lv_iload_n hx hb dL_meaning_1 rfl (lv_at hl 1 rfl) ?_
  refine lv_iload_n hx hb dL_meaning_2 rfl (lv_at hl 2 rfl) ?_
  refine lv_iload_n hx hb dL_meaning_3 rfl (lv_at hl 3 rfl) ?_
  refine mCallPXV_i (As := [.int p1, .int p2, .int p3]) (rest := []) (wr := []) hE ⟨hx, hb, hml, hown, hts⟩ hM (cwV 3 hts gL_meaning_X8_meaning rfl rfl rfl (by decide +kernel) ⟨Nat.le_refl _, by dsimp only; omega⟩) hP hD hS hA (hty s hK) (List.Perm.of_eq (List.append_nil wc).symm) 0 8 rfl he rfl rfl hl.1 rfl (lv_room (Nat.le_of_ble_eq_true rfl)) dL_meaning_4 ⟨Nat.le_of_eq (Nat.zero_add _), Nat.le_of_eq (Nat.zero_add _)⟩ (fun x u H locs hpo hP hD hS => ?_)
  rw [List.append_nil] at hP hD
  exact vx_ret (mEndQ_i (S := S) u hx hb hr hlocks hP hK hD hS hpo rfl (Nat.le_of_eq (Nat.zero_add _)) (Nat.le_of_eq (Nat.zero_add _)) dL_meaning_7)
set_option maxHeartbeats 4000000 in
set_option maxRecDepth 100000 in
theorem vL_meaning_1 (l : Launch) (sa sv : Nat → Nat) (G : va_G) (cI cS : ClassId) {tyc : List (ClassId × FieldType)} (hty : ∀ s : State, va_K G vwCl (tyH cI cS) s → va_K G vwCl tyc s) (b : Nat) (p1 : Int32) (p2 : Int32) (p3 : Int32) (sz : Nat) (wc : va_W) {fs : List Value} (he : wc[0]? = some (b, .inr (8, fs))) {w1 : va_W} {rf mc ms rl : Nat} (hM : vx_Met l yX8_meaning wsX8_meaning ({ frames := rf, cells := mc, slots := ms, locals := rl }) (mPcX sa sv G tyc [.ref b, .int p1, .int p2, .int p3] sz wc) noQ (mXC G tyc (va_A wc sz) 0 w1) mc ms (va_A wc sz)) : vx_Met l yL_meaning wsL_meaning ({ frames := rf + 1, cells := mc, slots := ms, locals := rl + 60 }) (mPcX sa sv G (tyH cI cS) [.ref b, .int p1, .int p2, .int p3] sz wc) (va_Qi (S := Unit) (fun k _ => k = (-3)) (mB G (tyH cI cS) (va_A wc sz) (fun _ => w1)) (va_A wc sz)) noX mc ms (va_A wc sz) := by
  refine mStartW (cc := cL_meaning) (maxL := 5) (ret := (some .int)) (hh := [(0, 7, 8, 15), (0, 7, 13, 17)]) (by decide) rfl (Nat.le_of_ble_eq_true rfl) ?_
  intro p e s m below meth c A ls hx hb hml hr hts hown hlocks hA hsz hAe hP hK hD hE htab hS hl
  subst hsz
  subst hAe
  have hl : lv_has ls 5 [(0, .ref b), (1, .int p1), (2, .int p2), (3, .int p3)] := hl
  refine lv_aload_n hx hb dL_meaning_0 rfl (lv_at hl 0 rfl) ?_
  refine lv_iload_n hx hb dL_meaning_1 rfl (lv_at hl 1 rfl) ?_
  refine lv_iload_n hx hb dL_meaning_2 rfl (lv_at hl 2 rfl) ?_
  refine lv_iload_n hx hb dL_meaning_3 rfl (lv_at hl 3 rfl) ?_
  refine mThrPV (E0 := 0) (As := [.int p1, .int p2, .int p3]) (rest := []) (wr := []) hE ⟨hx, hb, hml, hown, hts⟩ hM (cwV 3 hts gL_meaning_X8_meaning rfl rfl rfl (by decide +kernel) ⟨Nat.le_refl _, by dsimp only; omega⟩) hP hD hS hA (hty s hK) (List.Perm.of_eq (List.append_nil wc).symm) 0 8 rfl he rfl rfl hl.1 rfl (lv_room (Nat.le_of_ble_eq_true rfl)) dL_meaning_4 ⟨Nat.le_of_eq (Nat.zero_add _), Nat.le_of_eq (Nat.zero_add _)⟩ (fun ce q9 H locs hP hD hS hce hcv hcl => ?_)
  rw [List.append_nil] at hP hD
  refine vx_catch (own := RL) (name := exN 0) (E := exN 0) hown [] (⟨0, 7, 8, 15⟩ : ExceptionTableEntry) [(⟨0, 7, 13, 17⟩ : ExceptionTableEntry)] htab (fun z hz => absurd hz List.not_mem_nil) rfl (by decide) (hts (.classLink RL 15 "java/lang/IndexOutOfBoundsException") (by decide +kernel)) (hE.cast (by decide)) hce hcv hcl ?_
  refine lv_astore hx hb dL_meaning_8 hl (by decide) rfl (fun ls hl => ?_)
  refine lv_bipush (v := (-3)) hx hb dL_meaning_10 (by decide) ?_
  exact vx_ret (mEndQ_i (S := Unit) () hx hb hr hlocks hP hK hD hS rfl rfl (Nat.le_of_eq (Nat.zero_add _)) (Nat.le_of_eq (Nat.zero_add _)) dL_meaning_12)
set_option maxHeartbeats 4000000 in
set_option maxRecDepth 100000 in
theorem vL_meaning_2 (l : Launch) (sa sv : Nat → Nat) (G : va_G) (cI cS : ClassId) {tyc : List (ClassId × FieldType)} (hty : ∀ s : State, va_K G vwCl (tyH cI cS) s → va_K G vwCl tyc s) (b : Nat) (p1 : Int32) (p2 : Int32) (p3 : Int32) (sz : Nat) (wc : va_W) {fs : List Value} (he : wc[0]? = some (b, .inr (8, fs))) {w1 : va_W} {rf mc ms rl : Nat} (hM : vx_Met l yX8_meaning wsX8_meaning ({ frames := rf, cells := mc, slots := ms, locals := rl }) (mPcX sa sv G tyc [.ref b, .int p1, .int p2, .int p3] sz wc) noQ (mXC G tyc (va_A wc sz) 1 w1) mc ms (va_A wc sz)) : vx_Met l yL_meaning wsL_meaning ({ frames := rf + 1, cells := mc, slots := ms, locals := rl + 60 }) (mPcX sa sv G (tyH cI cS) [.ref b, .int p1, .int p2, .int p3] sz wc) (va_Qi (S := Unit) (fun k _ => k = (-2)) (mB G (tyH cI cS) (va_A wc sz) (fun _ => w1)) (va_A wc sz)) noX mc ms (va_A wc sz) := by
  refine mStartW (cc := cL_meaning) (maxL := 5) (ret := (some .int)) (hh := [(0, 7, 8, 15), (0, 7, 13, 17)]) (by decide) rfl (Nat.le_of_ble_eq_true rfl) ?_
  intro p e s m below meth c A ls hx hb hml hr hts hown hlocks hA hsz hAe hP hK hD hE htab hS hl
  subst hsz
  subst hAe
  have hl : lv_has ls 5 [(0, .ref b), (1, .int p1), (2, .int p2), (3, .int p3)] := hl
  refine lv_aload_n hx hb dL_meaning_0 rfl (lv_at hl 0 rfl) ?_
  refine lv_iload_n hx hb dL_meaning_1 rfl (lv_at hl 1 rfl) ?_
  refine lv_iload_n hx hb dL_meaning_2 rfl (lv_at hl 2 rfl) ?_
  refine lv_iload_n hx hb dL_meaning_3 rfl (lv_at hl 3 rfl) ?_
  refine mThrPV (E0 := 1) (As := [.int p1, .int p2, .int p3]) (rest := []) (wr := []) hE ⟨hx, hb, hml, hown, hts⟩ hM (cwV 3 hts gL_meaning_X8_meaning rfl rfl rfl (by decide +kernel) ⟨Nat.le_refl _, by dsimp only; omega⟩) hP hD hS hA (hty s hK) (List.Perm.of_eq (List.append_nil wc).symm) 0 8 rfl he rfl rfl hl.1 rfl (lv_room (Nat.le_of_ble_eq_true rfl)) dL_meaning_4 ⟨Nat.le_of_eq (Nat.zero_add _), Nat.le_of_eq (Nat.zero_add _)⟩ (fun ce q9 H locs hP hD hS hce hcv hcl => ?_)
  rw [List.append_nil] at hP hD
  refine vx_catch (own := RL) (name := exN 1) (E := exN 1) hown [(⟨0, 7, 8, 15⟩ : ExceptionTableEntry)] (⟨0, 7, 13, 17⟩ : ExceptionTableEntry) [] htab (fun z hz => by obtain rfl := List.mem_singleton.mp hz; exact Or.inr ⟨by decide, "java/lang/IndexOutOfBoundsException", hts (.classLink RL 15 "java/lang/IndexOutOfBoundsException") (by decide +kernel), hE.nc10⟩) rfl (by decide) (hts (.classLink RL 17 "java/lang/IllegalArgumentException") (by decide +kernel)) (hE.cast (by decide)) hce hcv hcl ?_
  refine lv_astore hx hb dL_meaning_13 hl (by decide) rfl (fun ls hl => ?_)
  refine lv_bipush (v := (-2)) hx hb dL_meaning_15 (by decide) ?_
  exact vx_ret (mEndQ_i (S := Unit) () hx hb hr hlocks hP hK hD hS rfl rfl (Nat.le_of_eq (Nat.zero_add _)) (Nat.le_of_eq (Nat.zero_add _)) dL_meaning_17)
set_option maxHeartbeats 4000000 in
set_option maxRecDepth 100000 in
theorem wL_link (l : Launch) (sa sv : Nat → Nat) (G : va_G) (cI cS : ClassId) {tyc : List (ClassId × FieldType)} (hty : ∀ s : State, va_K G vwCl (tyH cI cS) s → va_K G vwCl tyc s) (b : Nat) (p1 : Int32) (p2 : Int32) (sz : Nat) (wc : va_W) {fs : List Value} (he : wc[0]? = some (b, .inr (8, fs))) {S : Type} {post : Int32 → S → Prop} {w1 : S → va_W} {rf mc ms rl : Nat} (hM : Met l yX8_link wsX8_link ({ frames := rf, cells := mc, slots := ms, locals := rl }) (mPcX sa sv G tyc [.ref b, .int p1, .int p2] sz wc) (va_Qi (S := S) post (mB G tyc (va_A wc sz) w1) (va_A wc sz)) mc ms (va_A wc sz)) : vx_Met l yL_link wsL_link ({ frames := rf + 1, cells := mc, slots := ms, locals := rl + 60 }) (mPcX sa sv G (tyH cI cS) [.ref b, .int p1, .int p2] sz wc) (va_Qi (S := S) post (mB G (tyH cI cS) (va_A wc sz) w1) (va_A wc sz)) noX mc ms (va_A wc sz) := by
  refine mStartW (cc := cL_link) (maxL := 4) (ret := (some .int)) (hh := [(0, 6, 7, 15), (0, 6, 11, 17)]) (by decide) rfl (Nat.le_of_ble_eq_true rfl) ?_
  intro p e s m below meth c A ls hx hb hml hr hts hown hlocks hA hsz hAe hP hK hD hE htab hS hl
  subst hsz
  subst hAe
  have hl : lv_has ls 4 [(0, .ref b), (1, .int p1), (2, .int p2)] := hl
  refine lv_aload_n hx hb dL_link_0 rfl (lv_at hl 0 rfl) ?_
  refine lv_iload_n hx hb dL_link_1 rfl (lv_at hl 1 rfl) ?_
  refine lv_iload_n hx hb dL_link_2 rfl (lv_at hl 2 rfl) ?_
  refine mCallPXV_i (As := [.int p1, .int p2]) (rest := []) (wr := []) hE ⟨hx, hb, hml, hown, hts⟩ hM (cwV 2 hts gL_link_X8_link rfl rfl rfl (by decide +kernel) ⟨Nat.le_refl _, by dsimp only; omega⟩) hP hD hS hA (hty s hK) (List.Perm.of_eq (List.append_nil wc).symm) 0 8 rfl he rfl rfl hl.1 rfl (lv_room (Nat.le_of_ble_eq_true rfl)) dL_link_3 ⟨Nat.le_of_eq (Nat.zero_add _), Nat.le_of_eq (Nat.zero_add _)⟩ (fun x u H locs hpo hP hD hS => ?_)
  rw [List.append_nil] at hP hD
  exact vx_ret (mEndQ_i (S := S) u hx hb hr hlocks hP hK hD hS hpo rfl (Nat.le_of_eq (Nat.zero_add _)) (Nat.le_of_eq (Nat.zero_add _)) dL_link_6)
set_option maxHeartbeats 4000000 in
set_option maxRecDepth 100000 in
theorem vL_link_1 (l : Launch) (sa sv : Nat → Nat) (G : va_G) (cI cS : ClassId) {tyc : List (ClassId × FieldType)} (hty : ∀ s : State, va_K G vwCl (tyH cI cS) s → va_K G vwCl tyc s) (b : Nat) (p1 : Int32) (p2 : Int32) (sz : Nat) (wc : va_W) {fs : List Value} (he : wc[0]? = some (b, .inr (8, fs))) {w1 : va_W} {rf mc ms rl : Nat} (hM : vx_Met l yX8_link wsX8_link ({ frames := rf, cells := mc, slots := ms, locals := rl }) (mPcX sa sv G tyc [.ref b, .int p1, .int p2] sz wc) noQ (mXC G tyc (va_A wc sz) 0 w1) mc ms (va_A wc sz)) : vx_Met l yL_link wsL_link ({ frames := rf + 1, cells := mc, slots := ms, locals := rl + 60 }) (mPcX sa sv G (tyH cI cS) [.ref b, .int p1, .int p2] sz wc) (va_Qi (S := Unit) (fun k _ => k = (-3)) (mB G (tyH cI cS) (va_A wc sz) (fun _ => w1)) (va_A wc sz)) noX mc ms (va_A wc sz) := by
  refine mStartW (cc := cL_link) (maxL := 4) (ret := (some .int)) (hh := [(0, 6, 7, 15), (0, 6, 11, 17)]) (by decide) rfl (Nat.le_of_ble_eq_true rfl) ?_
  intro p e s m below meth c A ls hx hb hml hr hts hown hlocks hA hsz hAe hP hK hD hE htab hS hl
  subst hsz
  subst hAe
  have hl : lv_has ls 4 [(0, .ref b), (1, .int p1), (2, .int p2)] := hl
  refine lv_aload_n hx hb dL_link_0 rfl (lv_at hl 0 rfl) ?_
  refine lv_iload_n hx hb dL_link_1 rfl (lv_at hl 1 rfl) ?_
  refine lv_iload_n hx hb dL_link_2 rfl (lv_at hl 2 rfl) ?_
  refine mThrPV (E0 := 0) (As := [.int p1, .int p2]) (rest := []) (wr := []) hE ⟨hx, hb, hml, hown, hts⟩ hM (cwV 2 hts gL_link_X8_link rfl rfl rfl (by decide +kernel) ⟨Nat.le_refl _, by dsimp only; omega⟩) hP hD hS hA (hty s hK) (List.Perm.of_eq (List.append_nil wc).symm) 0 8 rfl he rfl rfl hl.1 rfl (lv_room (Nat.le_of_ble_eq_true rfl)) dL_link_3 ⟨Nat.le_of_eq (Nat.zero_add _), Nat.le_of_eq (Nat.zero_add _)⟩ (fun ce q9 H locs hP hD hS hce hcv hcl => ?_)
  rw [List.append_nil] at hP hD
  refine vx_catch (own := RL) (name := exN 0) (E := exN 0) hown [] (⟨0, 6, 7, 15⟩ : ExceptionTableEntry) [(⟨0, 6, 11, 17⟩ : ExceptionTableEntry)] htab (fun z hz => absurd hz List.not_mem_nil) rfl (by decide) (hts (.classLink RL 15 "java/lang/IndexOutOfBoundsException") (by decide +kernel)) (hE.cast (by decide)) hce hcv hcl ?_
  refine lv_astore_n hx hb dL_link_7 rfl hl (by decide) rfl (fun ls hl => ?_)
  refine lv_bipush (v := (-3)) hx hb dL_link_8 (by decide) ?_
  exact vx_ret (mEndQ_i (S := Unit) () hx hb hr hlocks hP hK hD hS rfl rfl (Nat.le_of_eq (Nat.zero_add _)) (Nat.le_of_eq (Nat.zero_add _)) dL_link_10)
set_option maxHeartbeats 4000000 in
set_option maxRecDepth 100000 in
theorem vL_link_2 (l : Launch) (sa sv : Nat → Nat) (G : va_G) (cI cS : ClassId) {tyc : List (ClassId × FieldType)} (hty : ∀ s : State, va_K G vwCl (tyH cI cS) s → va_K G vwCl tyc s) (b : Nat) (p1 : Int32) (p2 : Int32) (sz : Nat) (wc : va_W) {fs : List Value} (he : wc[0]? = some (b, .inr (8, fs))) {w1 : va_W} {rf mc ms rl : Nat} (hM : vx_Met l yX8_link wsX8_link ({ frames := rf, cells := mc, slots := ms, locals := rl }) (mPcX sa sv G tyc [.ref b, .int p1, .int p2] sz wc) noQ (mXC G tyc (va_A wc sz) 1 w1) mc ms (va_A wc sz)) : vx_Met l yL_link wsL_link ({ frames := rf + 1, cells := mc, slots := ms, locals := rl + 60 }) (mPcX sa sv G (tyH cI cS) [.ref b, .int p1, .int p2] sz wc) (va_Qi (S := Unit) (fun k _ => k = (-2)) (mB G (tyH cI cS) (va_A wc sz) (fun _ => w1)) (va_A wc sz)) noX mc ms (va_A wc sz) := by
  refine mStartW (cc := cL_link) (maxL := 4) (ret := (some .int)) (hh := [(0, 6, 7, 15), (0, 6, 11, 17)]) (by decide) rfl (Nat.le_of_ble_eq_true rfl) ?_
  intro p e s m below meth c A ls hx hb hml hr hts hown hlocks hA hsz hAe hP hK hD hE htab hS hl
  subst hsz
  subst hAe
  have hl : lv_has ls 4 [(0, .ref b), (1, .int p1), (2, .int p2)] := hl
  refine lv_aload_n hx hb dL_link_0 rfl (lv_at hl 0 rfl) ?_
  refine lv_iload_n hx hb dL_link_1 rfl (lv_at hl 1 rfl) ?_
  refine lv_iload_n hx hb dL_link_2 rfl (lv_at hl 2 rfl) ?_
  refine mThrPV (E0 := 1) (As := [.int p1, .int p2]) (rest := []) (wr := []) hE ⟨hx, hb, hml, hown, hts⟩ hM (cwV 2 hts gL_link_X8_link rfl rfl rfl (by decide +kernel) ⟨Nat.le_refl _, by dsimp only; omega⟩) hP hD hS hA (hty s hK) (List.Perm.of_eq (List.append_nil wc).symm) 0 8 rfl he rfl rfl hl.1 rfl (lv_room (Nat.le_of_ble_eq_true rfl)) dL_link_3 ⟨Nat.le_of_eq (Nat.zero_add _), Nat.le_of_eq (Nat.zero_add _)⟩ (fun ce q9 H locs hP hD hS hce hcv hcl => ?_)
  rw [List.append_nil] at hP hD
  refine vx_catch (own := RL) (name := exN 1) (E := exN 1) hown [(⟨0, 6, 7, 15⟩ : ExceptionTableEntry)] (⟨0, 6, 11, 17⟩ : ExceptionTableEntry) [] htab (fun z hz => by obtain rfl := List.mem_singleton.mp hz; exact Or.inr ⟨by decide, "java/lang/IndexOutOfBoundsException", hts (.classLink RL 15 "java/lang/IndexOutOfBoundsException") (by decide +kernel), hE.nc10⟩) rfl (by decide) (hts (.classLink RL 17 "java/lang/IllegalArgumentException") (by decide +kernel)) (hE.cast (by decide)) hce hcv hcl ?_
  refine lv_astore_n hx hb dL_link_11 rfl hl (by decide) rfl (fun ls hl => ?_)
  refine lv_bipush (v := (-2)) hx hb dL_link_12 (by decide) ?_
  exact vx_ret (mEndQ_i (S := Unit) () hx hb hr hlocks hP hK hD hS rfl rfl (Nat.le_of_eq (Nat.zero_add _)) (Nat.le_of_eq (Nat.zero_add _)) dL_link_14)
set_option maxHeartbeats 4000000 in
set_option maxRecDepth 100000 in
theorem wL_waits (l : Launch) (sa sv : Nat → Nat) (G : va_G) (cI cS : ClassId) {tyc : List (ClassId × FieldType)} (hty : ∀ s : State, va_K G vwCl (tyH cI cS) s → va_K G vwCl tyc s) (b : Nat) (p1 : Int32) (p2 : Int32) (sz : Nat) (wc : va_W) {fs : List Value} (he : wc[0]? = some (b, .inr (8, fs))) {S : Type} {post : Int32 → S → Prop} {w1 : S → va_W} {rf mc ms rl : Nat} (hM : Met l yX8_waits wsX8_waits ({ frames := rf, cells := mc, slots := ms, locals := rl }) (mPcX sa sv G tyc [.ref b, .int p1, .int p2] sz wc) (va_Qi (S := S) post (mB G tyc (va_A wc sz) w1) (va_A wc sz)) mc ms (va_A wc sz)) : vx_Met l yL_waits wsL_waits ({ frames := rf + 1, cells := mc, slots := ms, locals := rl + 60 }) (mPcX sa sv G (tyH cI cS) [.ref b, .int p1, .int p2] sz wc) (va_Qi (S := S) post (mB G (tyH cI cS) (va_A wc sz) w1) (va_A wc sz)) noX mc ms (va_A wc sz) := by
  refine mStartW (cc := cL_waits) (maxL := 4) (ret := (some .int)) (hh := [(0, 6, 7, 17)]) (by decide) rfl (Nat.le_of_ble_eq_true rfl) ?_
  intro p e s m below meth c A ls hx hb hml hr hts hown hlocks hA hsz hAe hP hK hD hE htab hS hl
  subst hsz
  subst hAe
  have hl : lv_has ls 4 [(0, .ref b), (1, .int p1), (2, .int p2)] := hl
  refine lv_aload_n hx hb dL_waits_0 rfl (lv_at hl 0 rfl) ?_
  refine lv_iload_n hx hb dL_waits_1 rfl (lv_at hl 1 rfl) ?_
  refine lv_iload_n hx hb dL_waits_2 rfl (lv_at hl 2 rfl) ?_
  refine mCallPXV_i (As := [.int p1, .int p2]) (rest := []) (wr := []) hE ⟨hx, hb, hml, hown, hts⟩ hM (cwV 2 hts gL_waits_X8_waits rfl rfl rfl (by decide +kernel) ⟨Nat.le_refl _, by dsimp only; omega⟩) hP hD hS hA (hty s hK) (List.Perm.of_eq (List.append_nil wc).symm) 0 8 rfl he rfl rfl hl.1 rfl (lv_room (Nat.le_of_ble_eq_true rfl)) dL_waits_3 ⟨Nat.le_of_eq (Nat.zero_add _), Nat.le_of_eq (Nat.zero_add _)⟩ (fun x u H locs hpo hP hD hS => ?_)
  rw [List.append_nil] at hP hD
  exact vx_ret (mEndQ_i (S := S) u hx hb hr hlocks hP hK hD hS hpo rfl (Nat.le_of_eq (Nat.zero_add _)) (Nat.le_of_eq (Nat.zero_add _)) dL_waits_6)
set_option maxHeartbeats 4000000 in
set_option maxRecDepth 100000 in
theorem vL_waits_1 (l : Launch) (sa sv : Nat → Nat) (G : va_G) (cI cS : ClassId) {tyc : List (ClassId × FieldType)} (hty : ∀ s : State, va_K G vwCl (tyH cI cS) s → va_K G vwCl tyc s) (b : Nat) (p1 : Int32) (p2 : Int32) (sz : Nat) (wc : va_W) {fs : List Value} (he : wc[0]? = some (b, .inr (8, fs))) {w1 : va_W} {rf mc ms rl : Nat} (hM : vx_Met l yX8_waits wsX8_waits ({ frames := rf, cells := mc, slots := ms, locals := rl }) (mPcX sa sv G tyc [.ref b, .int p1, .int p2] sz wc) noQ (mXC G tyc (va_A wc sz) 1 w1) mc ms (va_A wc sz)) : vx_Met l yL_waits wsL_waits ({ frames := rf + 1, cells := mc, slots := ms, locals := rl + 60 }) (mPcX sa sv G (tyH cI cS) [.ref b, .int p1, .int p2] sz wc) (va_Qi (S := Unit) (fun k _ => k = (-2)) (mB G (tyH cI cS) (va_A wc sz) (fun _ => w1)) (va_A wc sz)) noX mc ms (va_A wc sz) := by
  refine mStartW (cc := cL_waits) (maxL := 4) (ret := (some .int)) (hh := [(0, 6, 7, 17)]) (by decide) rfl (Nat.le_of_ble_eq_true rfl) ?_
  intro p e s m below meth c A ls hx hb hml hr hts hown hlocks hA hsz hAe hP hK hD hE htab hS hl
  subst hsz
  subst hAe
  have hl : lv_has ls 4 [(0, .ref b), (1, .int p1), (2, .int p2)] := hl
  refine lv_aload_n hx hb dL_waits_0 rfl (lv_at hl 0 rfl) ?_
  refine lv_iload_n hx hb dL_waits_1 rfl (lv_at hl 1 rfl) ?_
  refine lv_iload_n hx hb dL_waits_2 rfl (lv_at hl 2 rfl) ?_
  refine mThrPV (E0 := 1) (As := [.int p1, .int p2]) (rest := []) (wr := []) hE ⟨hx, hb, hml, hown, hts⟩ hM (cwV 2 hts gL_waits_X8_waits rfl rfl rfl (by decide +kernel) ⟨Nat.le_refl _, by dsimp only; omega⟩) hP hD hS hA (hty s hK) (List.Perm.of_eq (List.append_nil wc).symm) 0 8 rfl he rfl rfl hl.1 rfl (lv_room (Nat.le_of_ble_eq_true rfl)) dL_waits_3 ⟨Nat.le_of_eq (Nat.zero_add _), Nat.le_of_eq (Nat.zero_add _)⟩ (fun ce q9 H locs hP hD hS hce hcv hcl => ?_)
  rw [List.append_nil] at hP hD
  refine vx_catch (own := RL) (name := exN 1) (E := exN 1) hown [] (⟨0, 6, 7, 17⟩ : ExceptionTableEntry) [] htab (fun z hz => absurd hz List.not_mem_nil) rfl (by decide) (hts (.classLink RL 17 "java/lang/IllegalArgumentException") (by decide +kernel)) (hE.cast (by decide)) hce hcv hcl ?_
  refine lv_astore_n hx hb dL_waits_7 rfl hl (by decide) rfl (fun ls hl => ?_)
  refine lv_bipush (v := (-2)) hx hb dL_waits_8 (by decide) ?_
  exact vx_ret (mEndQ_i (S := Unit) () hx hb hr hlocks hP hK hD hS rfl rfl (Nat.le_of_eq (Nat.zero_add _)) (Nat.le_of_eq (Nat.zero_add _)) dL_waits_10)
set_option maxHeartbeats 4000000 in
set_option maxRecDepth 100000 in
theorem wL_arrival (l : Launch) (sa sv : Nat → Nat) (G : va_G) (cI cS : ClassId) {tyc : List (ClassId × FieldType)} (hty : ∀ s : State, va_K G vwCl (tyH cI cS) s → va_K G vwCl tyc s) (b : Nat) (p1 : Int32) (p2 : Int32) (sz : Nat) (wc : va_W) {fs : List Value} (he : wc[0]? = some (b, .inr (8, fs))) {S : Type} {post : Int32 → S → Prop} {w1 : S → va_W} {rf mc ms rl : Nat} (hM : Met l yX8_arrival wsX8_arrival ({ frames := rf, cells := mc, slots := ms, locals := rl }) (mPcX sa sv G tyc [.ref b, .int p1, .int p2] sz wc) (va_Qi (S := S) post (mB G tyc (va_A wc sz) w1) (va_A wc sz)) mc ms (va_A wc sz)) : vx_Met l yL_arrival wsL_arrival ({ frames := rf + 1, cells := mc, slots := ms, locals := rl + 60 }) (mPcX sa sv G (tyH cI cS) [.ref b, .int p1, .int p2] sz wc) (va_Qi (S := S) post (mB G (tyH cI cS) (va_A wc sz) w1) (va_A wc sz)) noX mc ms (va_A wc sz) := by
  refine mStartW (cc := cL_arrival) (maxL := 4) (ret := (some .int)) (hh := [(0, 6, 7, 17)]) (by decide) rfl (Nat.le_of_ble_eq_true rfl) ?_
  intro p e s m below meth c A ls hx hb hml hr hts hown hlocks hA hsz hAe hP hK hD hE htab hS hl
  subst hsz
  subst hAe
  have hl : lv_has ls 4 [(0, .ref b), (1, .int p1), (2, .int p2)] := hl
  refine lv_aload_n hx hb dL_arrival_0 rfl (lv_at hl 0 rfl) ?_
  refine lv_iload_n hx hb dL_arrival_1 rfl (lv_at hl 1 rfl) ?_
  refine lv_iload_n hx hb dL_arrival_2 rfl (lv_at hl 2 rfl) ?_
  refine mCallPXV_i (As := [.int p1, .int p2]) (rest := []) (wr := []) hE ⟨hx, hb, hml, hown, hts⟩ hM (cwV 2 hts gL_arrival_X8_arrival rfl rfl rfl (by decide +kernel) ⟨Nat.le_refl _, by dsimp only; omega⟩) hP hD hS hA (hty s hK) (List.Perm.of_eq (List.append_nil wc).symm) 0 8 rfl he rfl rfl hl.1 rfl (lv_room (Nat.le_of_ble_eq_true rfl)) dL_arrival_3 ⟨Nat.le_of_eq (Nat.zero_add _), Nat.le_of_eq (Nat.zero_add _)⟩ (fun x u H locs hpo hP hD hS => ?_)
  rw [List.append_nil] at hP hD
  exact vx_ret (mEndQ_i (S := S) u hx hb hr hlocks hP hK hD hS hpo rfl (Nat.le_of_eq (Nat.zero_add _)) (Nat.le_of_eq (Nat.zero_add _)) dL_arrival_6)
set_option maxHeartbeats 4000000 in
set_option maxRecDepth 100000 in
theorem vL_arrival_1 (l : Launch) (sa sv : Nat → Nat) (G : va_G) (cI cS : ClassId) {tyc : List (ClassId × FieldType)} (hty : ∀ s : State, va_K G vwCl (tyH cI cS) s → va_K G vwCl tyc s) (b : Nat) (p1 : Int32) (p2 : Int32) (sz : Nat) (wc : va_W) {fs : List Value} (he : wc[0]? = some (b, .inr (8, fs))) {w1 : va_W} {rf mc ms rl : Nat} (hM : vx_Met l yX8_arrival wsX8_arrival ({ frames := rf, cells := mc, slots := ms, locals := rl }) (mPcX sa sv G tyc [.ref b, .int p1, .int p2] sz wc) noQ (mXC G tyc (va_A wc sz) 1 w1) mc ms (va_A wc sz)) : vx_Met l yL_arrival wsL_arrival ({ frames := rf + 1, cells := mc, slots := ms, locals := rl + 60 }) (mPcX sa sv G (tyH cI cS) [.ref b, .int p1, .int p2] sz wc) (va_Qi (S := Unit) (fun k _ => k = (-2)) (mB G (tyH cI cS) (va_A wc sz) (fun _ => w1)) (va_A wc sz)) noX mc ms (va_A wc sz) := by
  refine mStartW (cc := cL_arrival) (maxL := 4) (ret := (some .int)) (hh := [(0, 6, 7, 17)]) (by decide) rfl (Nat.le_of_ble_eq_true rfl) ?_
  intro p e s m below meth c A ls hx hb hml hr hts hown hlocks hA hsz hAe hP hK hD hE htab hS hl
  subst hsz
  subst hAe
  have hl : lv_has ls 4 [(0, .ref b), (1, .int p1), (2, .int p2)] := hl
  refine lv_aload_n hx hb dL_arrival_0 rfl (lv_at hl 0 rfl) ?_
  refine lv_iload_n hx hb dL_arrival_1 rfl (lv_at hl 1 rfl) ?_
  refine lv_iload_n hx hb dL_arrival_2 rfl (lv_at hl 2 rfl) ?_
  refine mThrPV (E0 := 1) (As := [.int p1, .int p2]) (rest := []) (wr := []) hE ⟨hx, hb, hml, hown, hts⟩ hM (cwV 2 hts gL_arrival_X8_arrival rfl rfl rfl (by decide +kernel) ⟨Nat.le_refl _, by dsimp only; omega⟩) hP hD hS hA (hty s hK) (List.Perm.of_eq (List.append_nil wc).symm) 0 8 rfl he rfl rfl hl.1 rfl (lv_room (Nat.le_of_ble_eq_true rfl)) dL_arrival_3 ⟨Nat.le_of_eq (Nat.zero_add _), Nat.le_of_eq (Nat.zero_add _)⟩ (fun ce q9 H locs hP hD hS hce hcv hcl => ?_)
  rw [List.append_nil] at hP hD
  refine vx_catch (own := RL) (name := exN 1) (E := exN 1) hown [] (⟨0, 6, 7, 17⟩ : ExceptionTableEntry) [] htab (fun z hz => absurd hz List.not_mem_nil) rfl (by decide) (hts (.classLink RL 17 "java/lang/IllegalArgumentException") (by decide +kernel)) (hE.cast (by decide)) hce hcv hcl ?_
  refine lv_astore_n hx hb dL_arrival_7 rfl hl (by decide) rfl (fun ls hl => ?_)
  refine lv_bipush (v := (-2)) hx hb dL_arrival_8 (by decide) ?_
  exact vx_ret (mEndQ_i (S := Unit) () hx hb hr hlocks hP hK hD hS rfl rfl (Nat.le_of_eq (Nat.zero_add _)) (Nat.le_of_eq (Nat.zero_add _)) dL_arrival_10)
set_option maxHeartbeats 4000000 in
set_option maxRecDepth 100000 in
theorem wL_count (l : Launch) (sa sv : Nat → Nat) (G : va_G) (cI cS : ClassId) {tyc : List (ClassId × FieldType)} (hty : ∀ s : State, va_K G vwCl (tyH cI cS) s → va_K G vwCl tyc s) (b : Nat) (p1 : Int32) (sz : Nat) (wc : va_W) {fs : List Value} (he : wc[0]? = some (b, .inr (8, fs))) {S : Type} {post : Int32 → S → Prop} {w1 : S → va_W} {rf mc ms rl : Nat} (hM : Met l yX8_count wsX8_count ({ frames := rf, cells := mc, slots := ms, locals := rl }) (mPcX sa sv G tyc [.ref b, .int p1] sz wc) (va_Qi (S := S) post (mB G tyc (va_A wc sz) w1) (va_A wc sz)) mc ms (va_A wc sz)) : vx_Met l yL_count wsL_count ({ frames := rf + 1, cells := mc, slots := ms, locals := rl + 60 }) (mPcX sa sv G (tyH cI cS) [.ref b, .int p1] sz wc) (va_Qi (S := S) post (mB G (tyH cI cS) (va_A wc sz) w1) (va_A wc sz)) noX mc ms (va_A wc sz) := by
  refine mStartW (cc := cL_count) (maxL := 3) (ret := (some .int)) (hh := [(0, 5, 6, 17)]) (by decide) rfl (Nat.le_of_ble_eq_true rfl) ?_
  intro p e s m below meth c A ls hx hb hml hr hts hown hlocks hA hsz hAe hP hK hD hE htab hS hl
  subst hsz
  subst hAe
  have hl : lv_has ls 3 [(0, .ref b), (1, .int p1)] := hl
  refine lv_aload_n hx hb dL_count_0 rfl (lv_at hl 0 rfl) ?_
  refine lv_iload_n hx hb dL_count_1 rfl (lv_at hl 1 rfl) ?_
  refine mCallPXV_i (As := [.int p1]) (rest := []) (wr := []) hE ⟨hx, hb, hml, hown, hts⟩ hM (cwV 1 hts gL_count_X8_count rfl rfl rfl (by decide +kernel) ⟨Nat.le_refl _, by dsimp only; omega⟩) hP hD hS hA (hty s hK) (List.Perm.of_eq (List.append_nil wc).symm) 0 8 rfl he rfl rfl hl.1 rfl (lv_room (Nat.le_of_ble_eq_true rfl)) dL_count_2 ⟨Nat.le_of_eq (Nat.zero_add _), Nat.le_of_eq (Nat.zero_add _)⟩ (fun x u H locs hpo hP hD hS => ?_)
  rw [List.append_nil] at hP hD
  exact vx_ret (mEndQ_i (S := S) u hx hb hr hlocks hP hK hD hS hpo rfl (Nat.le_of_eq (Nat.zero_add _)) (Nat.le_of_eq (Nat.zero_add _)) dL_count_5)
set_option maxHeartbeats 4000000 in
set_option maxRecDepth 100000 in
theorem vL_count_1 (l : Launch) (sa sv : Nat → Nat) (G : va_G) (cI cS : ClassId) {tyc : List (ClassId × FieldType)} (hty : ∀ s : State, va_K G vwCl (tyH cI cS) s → va_K G vwCl tyc s) (b : Nat) (p1 : Int32) (sz : Nat) (wc : va_W) {fs : List Value} (he : wc[0]? = some (b, .inr (8, fs))) {w1 : va_W} {rf mc ms rl : Nat} (hM : vx_Met l yX8_count wsX8_count ({ frames := rf, cells := mc, slots := ms, locals := rl }) (mPcX sa sv G tyc [.ref b, .int p1] sz wc) noQ (mXC G tyc (va_A wc sz) 1 w1) mc ms (va_A wc sz)) : vx_Met l yL_count wsL_count ({ frames := rf + 1, cells := mc, slots := ms, locals := rl + 60 }) (mPcX sa sv G (tyH cI cS) [.ref b, .int p1] sz wc) (va_Qi (S := Unit) (fun k _ => k = (-2)) (mB G (tyH cI cS) (va_A wc sz) (fun _ => w1)) (va_A wc sz)) noX mc ms (va_A wc sz) := by
  refine mStartW (cc := cL_count) (maxL := 3) (ret := (some .int)) (hh := [(0, 5, 6, 17)]) (by decide) rfl (Nat.le_of_ble_eq_true rfl) ?_
  intro p e s m below meth c A ls hx hb hml hr hts hown hlocks hA hsz hAe hP hK hD hE htab hS hl
  subst hsz
  subst hAe
  have hl : lv_has ls 3 [(0, .ref b), (1, .int p1)] := hl
  refine lv_aload_n hx hb dL_count_0 rfl (lv_at hl 0 rfl) ?_
  refine lv_iload_n hx hb dL_count_1 rfl (lv_at hl 1 rfl) ?_
  refine mThrPV (E0 := 1) (As := [.int p1]) (rest := []) (wr := []) hE ⟨hx, hb, hml, hown, hts⟩ hM (cwV 1 hts gL_count_X8_count rfl rfl rfl (by decide +kernel) ⟨Nat.le_refl _, by dsimp only; omega⟩) hP hD hS hA (hty s hK) (List.Perm.of_eq (List.append_nil wc).symm) 0 8 rfl he rfl rfl hl.1 rfl (lv_room (Nat.le_of_ble_eq_true rfl)) dL_count_2 ⟨Nat.le_of_eq (Nat.zero_add _), Nat.le_of_eq (Nat.zero_add _)⟩ (fun ce q9 H locs hP hD hS hce hcv hcl => ?_)
  rw [List.append_nil] at hP hD
  refine vx_catch (own := RL) (name := exN 1) (E := exN 1) hown [] (⟨0, 5, 6, 17⟩ : ExceptionTableEntry) [] htab (fun z hz => absurd hz List.not_mem_nil) rfl (by decide) (hts (.classLink RL 17 "java/lang/IllegalArgumentException") (by decide +kernel)) (hE.cast (by decide)) hce hcv hcl ?_
  refine lv_astore_n hx hb dL_count_6 rfl hl (by decide) rfl (fun ls hl => ?_)
  refine lv_bipush (v := (-2)) hx hb dL_count_7 (by decide) ?_
  exact vx_ret (mEndQ_i (S := Unit) () hx hb hr hlocks hP hK hD hS rfl rfl (Nat.le_of_eq (Nat.zero_add _)) (Nat.le_of_eq (Nat.zero_add _)) dL_count_9)
set_option maxHeartbeats 4000000 in
set_option maxRecDepth 100000 in
theorem wL_lost (l : Launch) (sa sv : Nat → Nat) (G : va_G) (cI cS : ClassId) {tyc : List (ClassId × FieldType)} (hty : ∀ s : State, va_K G vwCl (tyH cI cS) s → va_K G vwCl tyc s) (b : Nat) (p1 : Int32) (p2 : Int32) (sz : Nat) (wc : va_W) {fs : List Value} (he : wc[0]? = some (b, .inr (8, fs))) {S : Type} {post : Int32 → S → Prop} {w1 : S → va_W} {rf mc ms rl : Nat} (hM : Met l yX8_lost wsX8_lost ({ frames := rf, cells := mc, slots := ms, locals := rl }) (mPcX sa sv G tyc [.ref b, .int p1, .int p2] sz wc) (va_Qi (S := S) post (mB G tyc (va_A wc sz) w1) (va_A wc sz)) mc ms (va_A wc sz)) : vx_Met l yL_lost wsL_lost ({ frames := rf + 1, cells := mc, slots := ms, locals := rl + 60 }) (mPcX sa sv G (tyH cI cS) [.ref b, .int p1, .int p2] sz wc) (va_Qi (S := S) post (mB G (tyH cI cS) (va_A wc sz) w1) (va_A wc sz)) noX mc ms (va_A wc sz) := by
  refine mStartW (cc := cL_lost) (maxL := 4) (ret := (some .int)) (hh := [(0, 6, 7, 17)]) (by decide) rfl (Nat.le_of_ble_eq_true rfl) ?_
  intro p e s m below meth c A ls hx hb hml hr hts hown hlocks hA hsz hAe hP hK hD hE htab hS hl
  subst hsz
  subst hAe
  have hl : lv_has ls 4 [(0, .ref b), (1, .int p1), (2, .int p2)] := hl
  refine lv_aload_n hx hb dL_lost_0 rfl (lv_at hl 0 rfl) ?_
  refine lv_iload_n hx hb dL_lost_1 rfl (lv_at hl 1 rfl) ?_
  refine lv_iload_n hx hb dL_lost_2 rfl (lv_at hl 2 rfl) ?_
  refine mCallPXV_i (As := [.int p1, .int p2]) (rest := []) (wr := []) hE ⟨hx, hb, hml, hown, hts⟩ hM (cwV 2 hts gL_lost_X8_lost rfl rfl rfl (by decide +kernel) ⟨Nat.le_refl _, by dsimp only; omega⟩) hP hD hS hA (hty s hK) (List.Perm.of_eq (List.append_nil wc).symm) 0 8 rfl he rfl rfl hl.1 rfl (lv_room (Nat.le_of_ble_eq_true rfl)) dL_lost_3 ⟨Nat.le_of_eq (Nat.zero_add _), Nat.le_of_eq (Nat.zero_add _)⟩ (fun x u H locs hpo hP hD hS => ?_)
  rw [List.append_nil] at hP hD
  exact vx_ret (mEndQ_i (S := S) u hx hb hr hlocks hP hK hD hS hpo rfl (Nat.le_of_eq (Nat.zero_add _)) (Nat.le_of_eq (Nat.zero_add _)) dL_lost_6)
set_option maxHeartbeats 4000000 in
set_option maxRecDepth 100000 in
theorem vL_lost_1 (l : Launch) (sa sv : Nat → Nat) (G : va_G) (cI cS : ClassId) {tyc : List (ClassId × FieldType)} (hty : ∀ s : State, va_K G vwCl (tyH cI cS) s → va_K G vwCl tyc s) (b : Nat) (p1 : Int32) (p2 : Int32) (sz : Nat) (wc : va_W) {fs : List Value} (he : wc[0]? = some (b, .inr (8, fs))) {w1 : va_W} {rf mc ms rl : Nat} (hM : vx_Met l yX8_lost wsX8_lost ({ frames := rf, cells := mc, slots := ms, locals := rl }) (mPcX sa sv G tyc [.ref b, .int p1, .int p2] sz wc) noQ (mXC G tyc (va_A wc sz) 1 w1) mc ms (va_A wc sz)) : vx_Met l yL_lost wsL_lost ({ frames := rf + 1, cells := mc, slots := ms, locals := rl + 60 }) (mPcX sa sv G (tyH cI cS) [.ref b, .int p1, .int p2] sz wc) (va_Qi (S := Unit) (fun k _ => k = (-2)) (mB G (tyH cI cS) (va_A wc sz) (fun _ => w1)) (va_A wc sz)) noX mc ms (va_A wc sz) := by
  refine mStartW (cc := cL_lost) (maxL := 4) (ret := (some .int)) (hh := [(0, 6, 7, 17)]) (by decide) rfl (Nat.le_of_ble_eq_true rfl) ?_
  intro p e s m below meth c A ls hx hb hml hr hts hown hlocks hA hsz hAe hP hK hD hE htab hS hl
  subst hsz
  subst hAe
  have hl : lv_has ls 4 [(0, .ref b), (1, .int p1), (2, .int p2)] := hl
  refine lv_aload_n hx hb dL_lost_0 rfl (lv_at hl 0 rfl) ?_
  refine lv_iload_n hx hb dL_lost_1 rfl (lv_at hl 1 rfl) ?_
  refine lv_iload_n hx hb dL_lost_2 rfl (lv_at hl 2 rfl) ?_
  refine mThrPV (E0 := 1) (As := [.int p1, .int p2]) (rest := []) (wr := []) hE ⟨hx, hb, hml, hown, hts⟩ hM (cwV 2 hts gL_lost_X8_lost rfl rfl rfl (by decide +kernel) ⟨Nat.le_refl _, by dsimp only; omega⟩) hP hD hS hA (hty s hK) (List.Perm.of_eq (List.append_nil wc).symm) 0 8 rfl he rfl rfl hl.1 rfl (lv_room (Nat.le_of_ble_eq_true rfl)) dL_lost_3 ⟨Nat.le_of_eq (Nat.zero_add _), Nat.le_of_eq (Nat.zero_add _)⟩ (fun ce q9 H locs hP hD hS hce hcv hcl => ?_)
  rw [List.append_nil] at hP hD
  refine vx_catch (own := RL) (name := exN 1) (E := exN 1) hown [] (⟨0, 6, 7, 17⟩ : ExceptionTableEntry) [] htab (fun z hz => absurd hz List.not_mem_nil) rfl (by decide) (hts (.classLink RL 17 "java/lang/IllegalArgumentException") (by decide +kernel)) (hE.cast (by decide)) hce hcv hcl ?_
  refine lv_astore_n hx hb dL_lost_7 rfl hl (by decide) rfl (fun ls hl => ?_)
  refine lv_bipush (v := (-2)) hx hb dL_lost_8 (by decide) ?_
  exact vx_ret (mEndQ_i (S := Unit) () hx hb hr hlocks hP hK hD hS rfl rfl (Nat.le_of_eq (Nat.zero_add _)) (Nat.le_of_eq (Nat.zero_add _)) dL_lost_10)
set_option maxHeartbeats 4000000 in
set_option maxRecDepth 100000 in
theorem wL_ifGone (l : Launch) (sa sv : Nat → Nat) (G : va_G) (cI cS : ClassId) {tyc : List (ClassId × FieldType)} (hty : ∀ s : State, va_K G vwCl (tyH cI cS) s → va_K G vwCl tyc s) (b : Nat) (p1 : Int32) (p2 : Int32) (sz : Nat) (wc : va_W) {fs : List Value} (he : wc[0]? = some (b, .inr (8, fs))) {S : Type} {post : Int32 → S → Prop} {w1 : S → va_W} {rf mc ms rl : Nat} (hM : Met l yX8_ifGone wsX8_ifGone ({ frames := rf, cells := mc, slots := ms, locals := rl }) (mPcX sa sv G tyc [.ref b, .int p1, .int p2] sz wc) (va_Qi (S := S) post (mB G tyc (va_A wc sz) w1) (va_A wc sz)) mc ms (va_A wc sz)) : vx_Met l yL_ifGone wsL_ifGone ({ frames := rf + 1, cells := mc, slots := ms, locals := rl + 60 }) (mPcX sa sv G (tyH cI cS) [.ref b, .int p1, .int p2] sz wc) (va_Qi (S := S) post (mB G (tyH cI cS) (va_A wc sz) w1) (va_A wc sz)) noX mc ms (va_A wc sz) := by
  refine mStartW (cc := cL_ifGone) (maxL := 4) (ret := (some .int)) (hh := [(0, 6, 7, 15), (0, 6, 11, 17)]) (by decide) rfl (Nat.le_of_ble_eq_true rfl) ?_
  intro p e s m below meth c A ls hx hb hml hr hts hown hlocks hA hsz hAe hP hK hD hE htab hS hl
  subst hsz
  subst hAe
  have hl : lv_has ls 4 [(0, .ref b), (1, .int p1), (2, .int p2)] := hl
  refine lv_aload_n hx hb dL_ifGone_0 rfl (lv_at hl 0 rfl) ?_
  refine lv_iload_n hx hb dL_ifGone_1 rfl (lv_at hl 1 rfl) ?_
  refine lv_iload_n hx hb dL_ifGone_2 rfl (lv_at hl 2 rfl) ?_
  refine mCallPXV_i (As := [.int p1, .int p2]) (rest := []) (wr := []) hE ⟨hx, hb, hml, hown, hts⟩ hM (cwV 2 hts gL_ifGone_X8_ifGone rfl rfl rfl (by decide +kernel) ⟨Nat.le_refl _, by dsimp only; omega⟩) hP hD hS hA (hty s hK) (List.Perm.of_eq (List.append_nil wc).symm) 0 8 rfl he rfl rfl hl.1 rfl (lv_room (Nat.le_of_ble_eq_true rfl)) dL_ifGone_3 ⟨Nat.le_of_eq (Nat.zero_add _), Nat.le_of_eq (Nat.zero_add _)⟩ (fun x u H locs hpo hP hD hS => ?_)
  rw [List.append_nil] at hP hD
  exact vx_ret (mEndQ_i (S := S) u hx hb hr hlocks hP hK hD hS hpo rfl (Nat.le_of_eq (Nat.zero_add _)) (Nat.le_of_eq (Nat.zero_add _)) dL_ifGone_6)
set_option maxHeartbeats 4000000 in
set_option maxRecDepth 100000 in
theorem vL_ifGone_1 (l : Launch) (sa sv : Nat → Nat) (G : va_G) (cI cS : ClassId) {tyc : List (ClassId × FieldType)} (hty : ∀ s : State, va_K G vwCl (tyH cI cS) s → va_K G vwCl tyc s) (b : Nat) (p1 : Int32) (p2 : Int32) (sz : Nat) (wc : va_W) {fs : List Value} (he : wc[0]? = some (b, .inr (8, fs))) {w1 : va_W} {rf mc ms rl : Nat} (hM : vx_Met l yX8_ifGone wsX8_ifGone ({ frames := rf, cells := mc, slots := ms, locals := rl }) (mPcX sa sv G tyc [.ref b, .int p1, .int p2] sz wc) noQ (mXC G tyc (va_A wc sz) 0 w1) mc ms (va_A wc sz)) : vx_Met l yL_ifGone wsL_ifGone ({ frames := rf + 1, cells := mc, slots := ms, locals := rl + 60 }) (mPcX sa sv G (tyH cI cS) [.ref b, .int p1, .int p2] sz wc) (va_Qi (S := Unit) (fun k _ => k = (-3)) (mB G (tyH cI cS) (va_A wc sz) (fun _ => w1)) (va_A wc sz)) noX mc ms (va_A wc sz) := by
  refine mStartW (cc := cL_ifGone) (maxL := 4) (ret := (some .int)) (hh := [(0, 6, 7, 15), (0, 6, 11, 17)]) (by decide) rfl (Nat.le_of_ble_eq_true rfl) ?_
  intro p e s m below meth c A ls hx hb hml hr hts hown hlocks hA hsz hAe hP hK hD hE htab hS hl
  subst hsz
  subst hAe
  have hl : lv_has ls 4 [(0, .ref b), (1, .int p1), (2, .int p2)] := hl
  refine lv_aload_n hx hb dL_ifGone_0 rfl (lv_at hl 0 rfl) ?_
  refine lv_iload_n hx hb dL_ifGone_1 rfl (lv_at hl 1 rfl) ?_
  refine lv_iload_n hx hb dL_ifGone_2 rfl (lv_at hl 2 rfl) ?_
  refine mThrPV (E0 := 0) (As := [.int p1, .int p2]) (rest := []) (wr := []) hE ⟨hx, hb, hml, hown, hts⟩ hM (cwV 2 hts gL_ifGone_X8_ifGone rfl rfl rfl (by decide +kernel) ⟨Nat.le_refl _, by dsimp only; omega⟩) hP hD hS hA (hty s hK) (List.Perm.of_eq (List.append_nil wc).symm) 0 8 rfl he rfl rfl hl.1 rfl (lv_room (Nat.le_of_ble_eq_true rfl)) dL_ifGone_3 ⟨Nat.le_of_eq (Nat.zero_add _), Nat.le_of_eq (Nat.zero_add _)⟩ (fun ce q9 H locs hP hD hS hce hcv hcl => ?_)
  rw [List.append_nil] at hP hD
  refine vx_catch (own := RL) (name := exN 0) (E := exN 0) hown [] (⟨0, 6, 7, 15⟩ : ExceptionTableEntry) [(⟨0, 6, 11, 17⟩ : ExceptionTableEntry)] htab (fun z hz => absurd hz List.not_mem_nil) rfl (by decide) (hts (.classLink RL 15 "java/lang/IndexOutOfBoundsException") (by decide +kernel)) (hE.cast (by decide)) hce hcv hcl ?_
  refine lv_astore_n hx hb dL_ifGone_7 rfl hl (by decide) rfl (fun ls hl => ?_)
  refine lv_bipush (v := (-3)) hx hb dL_ifGone_8 (by decide) ?_
  exact vx_ret (mEndQ_i (S := Unit) () hx hb hr hlocks hP hK hD hS rfl rfl (Nat.le_of_eq (Nat.zero_add _)) (Nat.le_of_eq (Nat.zero_add _)) dL_ifGone_10)
set_option maxHeartbeats 4000000 in
set_option maxRecDepth 100000 in
theorem vL_ifGone_2 (l : Launch) (sa sv : Nat → Nat) (G : va_G) (cI cS : ClassId) {tyc : List (ClassId × FieldType)} (hty : ∀ s : State, va_K G vwCl (tyH cI cS) s → va_K G vwCl tyc s) (b : Nat) (p1 : Int32) (p2 : Int32) (sz : Nat) (wc : va_W) {fs : List Value} (he : wc[0]? = some (b, .inr (8, fs))) {w1 : va_W} {rf mc ms rl : Nat} (hM : vx_Met l yX8_ifGone wsX8_ifGone ({ frames := rf, cells := mc, slots := ms, locals := rl }) (mPcX sa sv G tyc [.ref b, .int p1, .int p2] sz wc) noQ (mXC G tyc (va_A wc sz) 1 w1) mc ms (va_A wc sz)) : vx_Met l yL_ifGone wsL_ifGone ({ frames := rf + 1, cells := mc, slots := ms, locals := rl + 60 }) (mPcX sa sv G (tyH cI cS) [.ref b, .int p1, .int p2] sz wc) (va_Qi (S := Unit) (fun k _ => k = (-2)) (mB G (tyH cI cS) (va_A wc sz) (fun _ => w1)) (va_A wc sz)) noX mc ms (va_A wc sz) := by
  refine mStartW (cc := cL_ifGone) (maxL := 4) (ret := (some .int)) (hh := [(0, 6, 7, 15), (0, 6, 11, 17)]) (by decide) rfl (Nat.le_of_ble_eq_true rfl) ?_
  intro p e s m below meth c A ls hx hb hml hr hts hown hlocks hA hsz hAe hP hK hD hE htab hS hl
  subst hsz
  subst hAe
  have hl : lv_has ls 4 [(0, .ref b), (1, .int p1), (2, .int p2)] := hl
  refine lv_aload_n hx hb dL_ifGone_0 rfl (lv_at hl 0 rfl) ?_
  refine lv_iload_n hx hb dL_ifGone_1 rfl (lv_at hl 1 rfl) ?_
  refine lv_iload_n hx hb dL_ifGone_2 rfl (lv_at hl 2 rfl) ?_
  refine mThrPV (E0 := 1) (As := [.int p1, .int p2]) (rest := []) (wr := []) hE ⟨hx, hb, hml, hown, hts⟩ hM (cwV 2 hts gL_ifGone_X8_ifGone rfl rfl rfl (by decide +kernel) ⟨Nat.le_refl _, by dsimp only; omega⟩) hP hD hS hA (hty s hK) (List.Perm.of_eq (List.append_nil wc).symm) 0 8 rfl he rfl rfl hl.1 rfl (lv_room (Nat.le_of_ble_eq_true rfl)) dL_ifGone_3 ⟨Nat.le_of_eq (Nat.zero_add _), Nat.le_of_eq (Nat.zero_add _)⟩ (fun ce q9 H locs hP hD hS hce hcv hcl => ?_)
  rw [List.append_nil] at hP hD
  refine vx_catch (own := RL) (name := exN 1) (E := exN 1) hown [(⟨0, 6, 7, 15⟩ : ExceptionTableEntry)] (⟨0, 6, 11, 17⟩ : ExceptionTableEntry) [] htab (fun z hz => by obtain rfl := List.mem_singleton.mp hz; exact Or.inr ⟨by decide, "java/lang/IndexOutOfBoundsException", hts (.classLink RL 15 "java/lang/IndexOutOfBoundsException") (by decide +kernel), hE.nc10⟩) rfl (by decide) (hts (.classLink RL 17 "java/lang/IllegalArgumentException") (by decide +kernel)) (hE.cast (by decide)) hce hcv hcl ?_
  refine lv_astore_n hx hb dL_ifGone_11 rfl hl (by decide) rfl (fun ls hl => ?_)
  refine lv_bipush (v := (-2)) hx hb dL_ifGone_12 (by decide) ?_
  exact vx_ret (mEndQ_i (S := Unit) () hx hb hr hlocks hP hK hD hS rfl rfl (Nat.le_of_eq (Nat.zero_add _)) (Nat.le_of_eq (Nat.zero_add _)) dL_ifGone_14)
set_option maxHeartbeats 4000000 in
set_option maxRecDepth 100000 in
theorem wL_lostAt (l : Launch) (sa sv : Nat → Nat) (G : va_G) (cI cS : ClassId) {tyc : List (ClassId × FieldType)} (hty : ∀ s : State, va_K G vwCl (tyH cI cS) s → va_K G vwCl tyc s) (b : Nat) (p1 : Int32) (sz : Nat) (wc : va_W) {fs : List Value} (he : wc[0]? = some (b, .inr (8, fs))) {S : Type} {post : Int32 → S → Prop} {w1 : S → va_W} {rf mc ms rl : Nat} (hM : Met l yX8_lostAt wsX8_lostAt ({ frames := rf, cells := mc, slots := ms, locals := rl }) (mPcX sa sv G tyc [.ref b, .int p1] sz wc) (va_Qi (S := S) post (mB G tyc (va_A wc sz) w1) (va_A wc sz)) mc ms (va_A wc sz)) : vx_Met l yL_lostAt wsL_lostAt ({ frames := rf + 1, cells := mc, slots := ms, locals := rl + 60 }) (mPcX sa sv G (tyH cI cS) [.ref b, .int p1] sz wc) (va_Qi (S := S) post (mB G (tyH cI cS) (va_A wc sz) w1) (va_A wc sz)) noX mc ms (va_A wc sz) := by
  refine mStartW (cc := cL_lostAt) (maxL := 3) (ret := (some .int)) (hh := [(0, 5, 6, 17)]) (by decide) rfl (Nat.le_of_ble_eq_true rfl) ?_
  intro p e s m below meth c A ls hx hb hml hr hts hown hlocks hA hsz hAe hP hK hD hE htab hS hl
  subst hsz
  subst hAe
  have hl : lv_has ls 3 [(0, .ref b), (1, .int p1)] := hl
  refine lv_aload_n hx hb dL_lostAt_0 rfl (lv_at hl 0 rfl) ?_
  refine lv_iload_n hx hb dL_lostAt_1 rfl (lv_at hl 1 rfl) ?_
  refine mCallPXV_i (As := [.int p1]) (rest := []) (wr := []) hE ⟨hx, hb, hml, hown, hts⟩ hM (cwV 1 hts gL_lostAt_X8_lostAt rfl rfl rfl (by decide +kernel) ⟨Nat.le_refl _, by dsimp only; omega⟩) hP hD hS hA (hty s hK) (List.Perm.of_eq (List.append_nil wc).symm) 0 8 rfl he rfl rfl hl.1 rfl (lv_room (Nat.le_of_ble_eq_true rfl)) dL_lostAt_2 ⟨Nat.le_of_eq (Nat.zero_add _), Nat.le_of_eq (Nat.zero_add _)⟩ (fun x u H locs hpo hP hD hS => ?_)
  rw [List.append_nil] at hP hD
  exact vx_ret (mEndQ_i (S := S) u hx hb hr hlocks hP hK hD hS hpo rfl (Nat.le_of_eq (Nat.zero_add _)) (Nat.le_of_eq (Nat.zero_add _)) dL_lostAt_5)
set_option maxHeartbeats 4000000 in
set_option maxRecDepth 100000 in
theorem vL_lostAt_1 (l : Launch) (sa sv : Nat → Nat) (G : va_G) (cI cS : ClassId) {tyc : List (ClassId × FieldType)} (hty : ∀ s : State, va_K G vwCl (tyH cI cS) s → va_K G vwCl tyc s) (b : Nat) (p1 : Int32) (sz : Nat) (wc : va_W) {fs : List Value} (he : wc[0]? = some (b, .inr (8, fs))) {w1 : va_W} {rf mc ms rl : Nat} (hM : vx_Met l yX8_lostAt wsX8_lostAt ({ frames := rf, cells := mc, slots := ms, locals := rl }) (mPcX sa sv G tyc [.ref b, .int p1] sz wc) noQ (mXC G tyc (va_A wc sz) 1 w1) mc ms (va_A wc sz)) : vx_Met l yL_lostAt wsL_lostAt ({ frames := rf + 1, cells := mc, slots := ms, locals := rl + 60 }) (mPcX sa sv G (tyH cI cS) [.ref b, .int p1] sz wc) (va_Qi (S := Unit) (fun k _ => k = (-2)) (mB G (tyH cI cS) (va_A wc sz) (fun _ => w1)) (va_A wc sz)) noX mc ms (va_A wc sz) := by
  refine mStartW (cc := cL_lostAt) (maxL := 3) (ret := (some .int)) (hh := [(0, 5, 6, 17)]) (by decide) rfl (Nat.le_of_ble_eq_true rfl) ?_
  intro p e s m below meth c A ls hx hb hml hr hts hown hlocks hA hsz hAe hP hK hD hE htab hS hl
  subst hsz
  subst hAe
  have hl : lv_has ls 3 [(0, .ref b), (1, .int p1)] := hl
  refine lv_aload_n hx hb dL_lostAt_0 rfl (lv_at hl 0 rfl) ?_
  refine lv_iload_n hx hb dL_lostAt_1 rfl (lv_at hl 1 rfl) ?_
  refine mThrPV (E0 := 1) (As := [.int p1]) (rest := []) (wr := []) hE ⟨hx, hb, hml, hown, hts⟩ hM (cwV 1 hts gL_lostAt_X8_lostAt rfl rfl rfl (by decide +kernel) ⟨Nat.le_refl _, by dsimp only; omega⟩) hP hD hS hA (hty s hK) (List.Perm.of_eq (List.append_nil wc).symm) 0 8 rfl he rfl rfl hl.1 rfl (lv_room (Nat.le_of_ble_eq_true rfl)) dL_lostAt_2 ⟨Nat.le_of_eq (Nat.zero_add _), Nat.le_of_eq (Nat.zero_add _)⟩ (fun ce q9 H locs hP hD hS hce hcv hcl => ?_)
  rw [List.append_nil] at hP hD
  refine vx_catch (own := RL) (name := exN 1) (E := exN 1) hown [] (⟨0, 5, 6, 17⟩ : ExceptionTableEntry) [] htab (fun z hz => absurd hz List.not_mem_nil) rfl (by decide) (hts (.classLink RL 17 "java/lang/IllegalArgumentException") (by decide +kernel)) (hE.cast (by decide)) hce hcv hcl ?_
  refine lv_astore_n hx hb dL_lostAt_6 rfl hl (by decide) rfl (fun ls hl => ?_)
  refine lv_bipush (v := (-2)) hx hb dL_lostAt_7 (by decide) ?_
  exact vx_ret (mEndQ_i (S := Unit) () hx hb hr hlocks hP hK hD hS rfl rfl (Nat.le_of_eq (Nat.zero_add _)) (Nat.le_of_eq (Nat.zero_add _)) dL_lostAt_9)

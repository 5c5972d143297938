def fX1_dropLatest (t_size : Int32) : Option (Int32) :=
  (if t_size ≤ 0 then some (t_size) else some ((t_size - (1 : Int32))))
theorem iwX1_dropLatest_X1 : ∀ w ∈ u_ws RX1 TX1 2, w ∈ wsX1_dropLatest := by decide +kernel
set_option maxHeartbeats 4000000 in
set_option maxRecDepth 100000 in
theorem mX1_dropLatest (l : Launch) (G : va_G) (cI : ClassId) (a_t : Nat) (sz : Nat) (vt_saved : Value) (t_size : Int32)   (res : Int32) (hf : fX1_dropLatest t_size = some res) : Met l yX1_dropLatest wsX1_dropLatest ({ frames := 0, cells := 0, slots := 0, locals := 0 }) (mPc G [(cI, .int)] [.ref a_t] sz [(a_t, .inr (1, [vt_saved, .int t_size]))]) (mQv G [(cI, .int)] (va_A [(a_t, .inr (1, [vt_saved, .int t_size]))] sz) (fun u9 : Unit => [(a_t, .inr (1, [vt_saved, .int res]))])) 0 0 (va_A [(a_t, .inr (1, [vt_saved, .int t_size]))] sz) := by
  refine mStart (cc := cX1_dropLatest) (maxL := 1) (ret := none) (by decide) rfl (Nat.le_of_ble_eq_true rfl) ?_
  intro p e s m below meth c A ls hx hb hml hr hts hown hlocks hnm hA hsz hAe hP hK hD hS hl
  have hl : lv_has ls 1 [(0, .ref a_t)] := hl
  rw [hAe]
  have k1 := hts (.fieldLink RX1 17 "DeafChain$History" "size" "I") (by decide +kernel)
  unfold fX1_dropLatest at hf
  obtain ⟨H, hH⟩ : ∃ H : Heap, H = s.heap := ⟨_, rfl⟩
  obtain ⟨locs, hlc⟩ : ∃ z : List Loc, z = [] := ⟨_, rfl⟩
  rw [← hlc, ← hH]
  have hP : va_P G vwCl [(a_t, .inr (1, [vt_saved, .int t_size]))] H := by rw [hH]; exact hP
  have hS : va_S A s.heap H locs := by rw [hlc, hH]; exact hS
  refine lv_aload_n hx hb dX1_dropLatest_0 rfl (lv_at hl 0 rfl) ?_
  refine va_get (D := G) (ci := 1) (v := .int t_size) (C := RX1) (T := TX1) (N := 2) hx hb hts iwX1_dropLatest_X1 hown hK hP 0 rfl rfl 1 (by decide) k1 (fun _ h9 => h9) rfl dX1_dropLatest_1 ?_
  refine lv_if_le (tgt := 17) hx hb dX1_dropLatest_4 (by decide) (fun c1 => ?_) (fun c1 => ?_)
  · have hf := pf_t hf c1
    obtain rfl := Option.some.inj hf
    exact mEnd_v () hx hb hr hlocks hP hK hD hS rfl (Nat.le_of_ble_eq_true rfl) (Nat.le_of_ble_eq_true rfl) dX1_dropLatest_17
  · have hf := pf_f hf c1
    refine lv_aload_n hx hb dX1_dropLatest_7 rfl (lv_at hl 0 rfl) ?_
    refine lv_dup hx hb dX1_dropLatest_8 rfl ?_
    refine va_get (D := G) (ci := 1) (v := .int t_size) (C := RX1) (T := TX1) (N := 2) hx hb hts iwX1_dropLatest_X1 hown hK hP 0 rfl rfl 1 (by decide) k1 (fun _ h9 => h9) rfl dX1_dropLatest_9 ?_
    refine lv_iconst (v := 1) hx hb dX1_dropLatest_12 (by decide) ?_
    refine lv_isub hx hb dX1_dropLatest_13 ?_
    refine va_put (D := G) (ci := 1) (v := .int (t_size - (1 : Int32))) (ty := .int) (C := RX1) (T := TX1) (N := 2) hx hb hts iwX1_dropLatest_X1 tyX1 tyX1_ok nmX1 hown hK hP hD hS 0 rfl rfl 1 (by decide) k1 (fun _ h9 => h9) rfl (by decide +kernel) rfl rfl (Nat.le_of_ble_eq_true rfl) dX1_dropLatest_14 (fun H locs hP hD hS => ?_)
    have hP : va_P G vwCl [(a_t, .inr (1, [vt_saved, .int (t_size - (1 : Int32))]))] H := hP
    have hD : va_D A [(a_t, .inr (1, [vt_saved, .int (t_size - (1 : Int32))]))] := hD
    obtain rfl := Option.some.inj hf
    exact mEnd_v () hx hb hr hlocks hP hK hD hS rfl (Nat.le_of_ble_eq_true rfl) (Nat.le_of_ble_eq_true rfl) dX1_dropLatest_17
-- History.latest, undo
section UN
variable {p : Program} {l : Launch} {e : Env} {R : Room} {s : State} {m : MethodId} {args : Array Value} {below : List Frame} {meth : Method} {c : Code} {H : Heap} {locs : List Loc} {cells slots : Nat} {Q : State → Prop} {cc : ByteArray} {pc : Nat} {ls : Array Slot} {rest st0 : List Value} {G : va_G} {A : Nat → Prop} {tys tyc : List (ClassId × FieldType)} {ws wc wr w1 : va_W} {mc ms : Nat} {S : Type} {y : MethodName} {bytes : ByteArray} {maxL nL n index : Nat} {ret : Option FieldType} {wy : List Cond} {rm : Room} {Ts : List Cond} {own C : String} {b : Nat} {As : List Value}
theorem mEnd_q  {post : Option Nat → Unit → Prop} {rt : FieldType} (r : Option Nat) (hu : post r ()) (hx : p.tables.exec = Jvm.exec) (hb : c.code = cc) (hr : meth.sig.returnType = some rt) (hrt : (∃ n, rt = .object n) ∨ ∃ t, rt = .array t) (hlocks : meth.locks = false) (hP : va_P G vwCl ws H) (hK : va_K G vwCl tys s) (hD : va_D A ws) (hS : va_S A s.heap H locs) (hw : ws = w1) (hc : cells ≤ mc) (hs : slots ≤ ms) (hdg : decode cc pc = .ok (.areturn, 1)) :
    W p l e R s m args below meth c H locs cells slots (MQ below (va_Qq (S := Unit) post (mB G tys A (fun _ : Unit => w1)) A) args s mc ms A) (F0 m pc ls [va_rf r]) := by
  subst hw
  refine W.widen hc hs ?_
  exact W.aret hx hb hr hrt (va_rf_or r) (fun t ht hW => ⟨⟨r, (), rfl, hu, by rw [ht]; exact hP, va_K.moved hW.alike hK, hD⟩, hS.F ht⟩) hS.2.2 hdg hlocks
theorem mCallPV_q  {post : Option Nat → Unit → Prop} (CF : CallFix p m c cc nL s args Ts own) (hM : Met l y wy rm (mPc G tyc (.ref b :: As) H.size wc) (va_Qq (S := Unit) post (mB G tyc (va_A wc H.size) (fun _ : Unit => w1)) (va_A wc H.size)) mc ms (va_A wc H.size)) (cw : CallW R s args own C index y bytes maxL ret wy rm mc ms n) (hP : va_P G vwCl ws H) (hD : va_D A ws) (hS : va_S A s.heap H locs) (hA : ∀ q : Nat, s.heap.size ≤ q → A q) (hKc : va_K G vwCl tyc s)
    (hp : ws.Perm (wc ++ wr)) (q0 ci : Nat) {qC : vw_C} {fs : List Value} (hcl : vwCl[ci]? = some qC) (he : wc[q0]? = some (b, .inr (ci, fs))) (hqC : qC.1 = C)
    (hlen : As.length = n) (hsize : ls.size = nL) (hstack : st0 = As.reverse ++ .ref b :: rest) (hW : 2 * (F0 m pc ls st0).monitorRoom + (rest.map fun v => v.category).sum ≤ 8) (hdg : decode cc pc = .ok (.invokevirtual index, 3)) (hroom : cells + mc ≤ R.cells ∧ slots + ms ≤ R.slots)
    (kk : ∀ (r : Option Nat) (H1 : Heap) (locs1 : List Loc), post r () → va_P G vwCl (w1 ++ wr) H1 → va_D A (w1 ++ wr) → va_S A s.heap H1 locs1 → W p l e R s m args below meth c H1 locs1 (cells + mc) (slots + ms) Q (F0 m (pc + 3) ls (va_rf r :: rest))) : W p l e R s m args below meth c H locs cells slots Q (F0 m pc ls st0) := by
  subst hqC
  have hP := hP.perm hp
  have hD := hD.perm hp
  have hpre := mPreA (av := .ref b :: As) hP hD hKc
  refine va_callq (va_runV CF hM cw ⟨hpre.1, va_recv hKc hP.left (ci := ci) (q0 := q0) hcl he, hpre.2⟩ rfl hlen hsize hstack hW hdg hroom) hS (fun q _ h => mFreeA (G := G) hD hS hA q h) (mFreeA (G := G) hD hS hA) (fun r u t H1 locs1 ht hvm hw hB hz1 hk1 hS1 => ?_)
  obtain ⟨hP1, -, hD1⟩ := hB
  rw [ht] at hP1
  obtain ⟨hP2, hD2⟩ := mPutA hP hD (mFreeA (G := G) hD hS hA) hk1 hP1 hD1
  exact kk r H1 locs1 hw hP2 hD2 hS1
end UN
theorem perm_d {α : Type} (O N h t : List α) : ((O ++ (N ++ h)) ++ t).Perm (h ++ ((O ++ N) ++ t)) := by
  classical
  refine List.perm_iff_count.mpr (fun a => ?_)
  simp only [List.count_append]
  omega
theorem perm_f {α : Type} (O N h1 h2 t : List α) : ((O ++ (N ++ (h1 ++ h2))) ++ t).Perm (h1 ++ ((O ++ (N ++ h2)) ++ t)) := by
  classical
  refine List.perm_iff_count.mpr (fun a => ?_)
  simp only [List.count_append]
  omega
theorem perm_e {α : Type} (O N h tp sb tq : List α) : ((O ++ (N ++ h)) ++ (tp ++ (sb ++ tq))).Perm ((N ++ sb) ++ ((O ++ h) ++ (tp ++ tq))) := by
  classical
  refine List.perm_iff_count.mpr (fun a => ?_)
  simp only [List.count_append]
  omega
theorem iwX1_latest_X1 : ∀ w ∈ u_ws RX1 TX1 2, w ∈ wsX1_latest := by decide +kernel
set_option maxHeartbeats 4000000 in
set_option maxRecDepth 100000 in
theorem mX1_latest (l : Launch) (G : va_G) (cI cS : ClassId) (sz ah as n : Nat) (bs : List Blk) (hn : n ≤ 6) : Met l yX1_latest wsX1_latest ({ frames := 0, cells := 0, slots := 0, locals := 0 }) (mPc G (tyH cI cS) [.ref ah] sz (hsW cS ah as (nI n) bs)) (va_Qq (S := Unit) (fun r _ => r = if n = 0 then none else svOf bs (n - 1)) (mB G (tyH cI cS) (va_A (hsW cS ah as (nI n) bs) sz) (fun _ : Unit => (hsW cS ah as (nI n) bs))) (va_A (hsW cS ah as (nI n) bs) sz)) 0 0 (va_A (hsW cS ah as (nI n) bs) sz) := by
  refine mStart (cc := cX1_latest) (maxL := 1) (ret := (some (.object "DeafChain$State"))) (by decide) rfl (Nat.le_of_ble_eq_true rfl) ?_
  intro p e s m below meth c A ls hx hb hml hr hts hown hlocks hnm hA hsz hAe hP hK hD hS hl
  rw [hAe]
  have hl : lv_has ls 1 [(0, .ref ah)] := hl
  have k1 := hts (.fieldLink RX1 11 "DeafChain$History" "saved" "[LDeafChain$State;") (by decide +kernel)
  have k2 := hts (.fieldLink RX1 17 "DeafChain$History" "size" "I") (by decide +kernel)
  refine lv_aload_n hx hb dX1_latest_0 rfl (lv_at hl 0 rfl) ?_
  refine va_get (D := G) (ci := 1) (v := .int (nI n)) (C := RX1) (T := TX1) (N := 2) hx hb hts iwX1_latest_X1 hown hK hP 0 rfl rfl 1 (by decide) k2 (fun _ h9 => h9) rfl dX1_latest_1 ?_
  cases n with
  | zero =>
    refine lv_if_le (tgt := 21) hx hb dX1_latest_4 (by decide) (fun c1 => ?_) (fun c1 => absurd (by decide) c1)
    refine lv_null hx hb dX1_latest_21 ?_
    refine W.eq (g2 := F0 m 22 ls [va_rf none]) rfl ?_
    exact mEnd_q none rfl hx hb hr (Or.inl ⟨_, rfl⟩) hlocks hP hK hD hS rfl (Nat.le_refl _) (Nat.le_refl _) dX1_latest_22
  | succ k =>
    refine lv_if_le (tgt := 21) hx hb dX1_latest_4 (by decide) (fun c1 => absurd c1 (nI_nle (by omega) (by omega))) (fun c1 => ?_)
    refine lv_aload_n hx hb dX1_latest_7 rfl (lv_at hl 0 rfl) ?_
    refine va_get (D := G) (ci := 1) (v := .ref as) (C := RX1) (T := TX1) (N := 2) hx hb hts iwX1_latest_X1 hown hK hP 0 rfl rfl 0 (by decide) k1 (fun _ h9 => h9) rfl dX1_latest_8 ?_
    refine lv_aload_n hx hb dX1_latest_11 rfl (lv_at hl 0 rfl) ?_
    refine va_get (D := G) (ci := 1) (v := .int (nI (k + 1))) (C := RX1) (T := TX1) (N := 2) hx hb hts iwX1_latest_X1 hown hK hP 0 rfl rfl 1 (by decide) k2 (fun _ h9 => h9) rfl dX1_latest_12 ?_
    refine lv_iconst (v := 1) hx hb dX1_latest_15 (by decide) ?_
    refine lv_isub hx hb dX1_latest_16 ?_
    refine W.eq (g2 := F0 m 17 ls [.int (nI k), .ref as]) (by rw [nI_pred]) ?_
    refine va_aldq hx hb hK hP 1 1 rfl rfl (vp_in_nI (by omega) (by decide)) dX1_latest_17 ?_
    rw [nI_clamp (n := k) (by omega)]
    refine lv_goto (tgt := 22) hx hb dX1_latest_18 (by decide) ?_
    exact mEnd_q (svOf bs k) (by simp) hx hb hr (Or.inl ⟨_, rfl⟩) hlocks hP hK hD hS rfl (Nat.le_refl _) (Nat.le_refl _) dX1_latest_22
theorem iwX8_undo_X8 : ∀ w ∈ u_ws RX8 TX8 6, w ∈ wsX8_undo := by decide +kernel
theorem iwX8_undo_X1 : ∀ w ∈ u_ws RX1 TX1 2, w ∈ wsX8_undo := by decide +kernel
theorem drop_ok (k : Nat) (hk : k < 6) : fX1_dropLatest (nI (k + 1)) = some (nI k) := by
  unfold fX1_dropLatest
  rw [if_neg (nI_nle (by omega) (by omega)), nI_pred]
set_option maxHeartbeats 8000000 in
set_option maxRecDepth 100000 in
theorem mX8_undo (l : Launch) (sa sv : Nat → Nat) (G : va_G) (cI cS : ClassId) (sz ad ah as : Nat) (vO vS vT vN : Value) (now : Blk) (k : Nat) (hk : k < 6) (pre post : List Blk) (b : Blk) (hpl : pre.length = k) : Met l yX8_undo wsX8_undo ({ frames := 3, cells := 0, slots := 0, locals := 90 }) (mPcX sa sv G (tyH cI cS) [.ref ad] sz (([(ad, .inr (8, [.ref (now.1 0), .ref ah, vO, vS, vT, vN]))] ++ (stW cI now ++ hsW cS ah as (nI (k + 1)) (pre ++ b :: post))) ++ tlW cI (pre ++ b :: post))) (mQi G (tyH cI cS) (va_A (([(ad, .inr (8, [.ref (now.1 0), .ref ah, vO, vS, vT, vN]))] ++ (stW cI now ++ hsW cS ah as (nI (k + 1)) (pre ++ b :: post))) ++ tlW cI (pre ++ b :: post)) sz) (fun _ : Unit => nI k) (fun _ => (([(ad, .inr (8, [.ref (now.1 0), .ref ah, vO, vS, vT, vN]))] ++ (stW cI (now.1, cpV b.2 now.2) ++ hsW cS ah as (nI k) (pre ++ b :: post))) ++ tlW cI (pre ++ b :: post)))) 0 0 (va_A (([(ad, .inr (8, [.ref (now.1 0), .ref ah, vO, vS, vT, vN]))] ++ (stW cI now ++ hsW cS ah as (nI (k + 1)) (pre ++ b :: post))) ++ tlW cI (pre ++ b :: post)) sz) := by
  refine mStartX (cc := cX8_undo) (maxL := 2) (ret := (some .int)) (by decide) rfl (Nat.le_of_ble_eq_true rfl) ?_
  intro p e s m below meth c A ls hx hb hml hr hts hown hlocks hnm hA hsz hAe hP hK hD hE hS hl
  rw [hAe]
  have hl : lv_has ls 2 [(0, .ref ad)] := hl
  have hKI := hK.sub (tys' := [(cI, .int)]) [0] rfl
  have k1 := hts (.fieldLink RX8 19 "DeafChain" "history" "LDeafChain$History;") (by decide +kernel)
  have k2 := hts (.fieldLink RX8 10 "DeafChain" "now" "LDeafChain$State;") (by decide +kernel)
  have k3 := hts (.fieldLink RX8 156 "DeafChain$History" "size" "I") (by decide +kernel)
  refine lv_aload_n hx hb dX8_undo_0 rfl (lv_at hl 0 rfl) ?_
  refine va_get (D := G) (ci := 8) (v := .ref ah) (C := RX8) (T := TX8) (N := 6) hx hb hts iwX8_undo_X8 hown hK hP 0 rfl rfl 1 (by decide) k1 (fun _ h9 => h9) rfl dX8_undo_1 ?_
  refine mCallPV_q (As := []) (rest := []) (wr := ([(ad, .inr (8, [.ref (now.1 0), .ref ah, vO, vS, vT, vN]))] ++ stW cI now) ++ tlW cI (pre ++ b :: post)) ⟨hx, hb, hml, hown, hts⟩ (mX1_latest l G cI cS s.heap.size ah as (k + 1) (pre ++ b :: post) (by omega)) (cwV 0 hts gX8_undo_X1_latest rfl rfl rfl (by decide +kernel) ⟨Nat.le_of_ble_eq_true rfl, Nat.le_of_ble_eq_true rfl⟩) hP hD hS hA hK (perm_d [(ad, .inr (8, [.ref (now.1 0), .ref ah, vO, vS, vT, vN]))] (stW cI now) (hsW cS ah as (nI (k + 1)) (pre ++ b :: post)) (tlW cI (pre ++ b :: post))) 0 1 rfl rfl rfl rfl hl.1 rfl (lv_room (Nat.le_of_ble_eq_true rfl)) dX8_undo_4 ⟨Nat.le_of_ble_eq_true rfl, Nat.le_of_ble_eq_true rfl⟩ (fun r H locs hr9 hP hD hS => ?_)
  have hP : va_P G vwCl (([(ad, .inr (8, [.ref (now.1 0), .ref ah, vO, vS, vT, vN]))] ++ (stW cI now ++ hsW cS ah as (nI (k + 1)) (pre ++ b :: post))) ++ tlW cI (pre ++ b :: post)) H := hP.perm (perm_d [(ad, .inr (8, [.ref (now.1 0), .ref ah, vO, vS, vT, vN]))] (stW cI now) (hsW cS ah as (nI (k + 1)) (pre ++ b :: post)) (tlW cI (pre ++ b :: post))).symm
  have hD : va_D A (([(ad, .inr (8, [.ref (now.1 0), .ref ah, vO, vS, vT, vN]))] ++ (stW cI now ++ hsW cS ah as (nI (k + 1)) (pre ++ b :: post))) ++ tlW cI (pre ++ b :: post)) := hD.perm (perm_d [(ad, .inr (8, [.ref (now.1 0), .ref ah, vO, vS, vT, vN]))] (stW cI now) (hsW cS ah as (nI (k + 1)) (pre ++ b :: post)) (tlW cI (pre ++ b :: post))).symm
  have e2 : r = some (b.1 0) := by
    rw [hr9, if_neg (by omega), Nat.add_sub_cancel]; simp only [svOf]; rw [List.getElem?_append_right (by omega), hpl, Nat.sub_self]; rfl
  subst e2
  refine W.eq (g2 := F0 m 7 ls [.ref (b.1 0)]) rfl ?_
  refine lv_astore_n (lv' := [(1, .ref (b.1 0)), (0, .ref ad)]) hx hb dX8_undo_7 rfl hl (by decide) rfl (fun ls hl => ?_)
  refine lv_aload_n hx hb dX8_undo_8 rfl (lv_at hl 0 rfl) ?_
  refine lv_ifnonnull (tgt := 22) hx hb dX8_undo_9 (by decide) ?_
  refine lv_aload_n hx hb dX8_undo_22 rfl (lv_at hl 1 rfl) ?_
  refine va_get (D := G) (ci := 8) (v := .ref (now.1 0)) (C := RX8) (T := TX8) (N := 6) hx hb hts iwX8_undo_X8 hown hK hP 0 rfl rfl 0 (by decide) k2 (fun _ h9 => h9) rfl dX8_undo_23 ?_
  refine lv_aload_n hx hb dX8_undo_26 rfl (lv_at hl 0 rfl) ?_
  have etl : tlW cI (pre ++ b :: post) = tlW cI pre ++ (stW cI b ++ tlW cI post) := by rw [tlW_app, tlW_cons]
  rw [etl] at hP hD
  refine mCallPV_v (As := [.ref (b.1 0)]) (rest := []) (wr := ([(ad, .inr (8, [.ref (now.1 0), .ref ah, vO, vS, vT, vN]))] ++ hsW cS ah as (nI (k + 1)) (pre ++ b :: post)) ++ (tlW cI pre ++ tlW cI post)) ⟨hx, hb, hml, hown, hts⟩ (mCopy l G cI H.size now b) (cwV 1 hts gX8_undo_X5_copyFrom rfl rfl rfl (by decide +kernel) ⟨Nat.le_of_ble_eq_true rfl, Nat.le_of_ble_eq_true rfl⟩) hP hD hS hA hKI (perm_e [(ad, .inr (8, [.ref (now.1 0), .ref ah, vO, vS, vT, vN]))] (stW cI now) (hsW cS ah as (nI (k + 1)) (pre ++ b :: post)) (tlW cI pre) (stW cI b) (tlW cI post)) 0 5 rfl rfl rfl rfl hl.1 rfl (lv_room (Nat.le_of_ble_eq_true rfl)) dX8_undo_27 ⟨Nat.le_of_ble_eq_true rfl, Nat.le_of_ble_eq_true rfl⟩ (fun _ H locs _ hP hD hS => ?_)
  have hP := hP.perm (perm_e [(ad, .inr (8, [.ref (now.1 0), .ref ah, vO, vS, vT, vN]))] (stW cI (now.1, cpV b.2 now.2)) (hsW cS ah as (nI (k + 1)) (pre ++ b :: post)) (tlW cI pre) (stW cI b) (tlW cI post)).symm
  have hD := hD.perm (perm_e [(ad, .inr (8, [.ref (now.1 0), .ref ah, vO, vS, vT, vN]))] (stW cI (now.1, cpV b.2 now.2)) (hsW cS ah as (nI (k + 1)) (pre ++ b :: post)) (tlW cI pre) (stW cI b) (tlW cI post)).symm
  rw [← etl] at hP hD
  refine lv_aload_n hx hb dX8_undo_30 rfl (lv_at hl 1 rfl) ?_
  refine va_get (D := G) (ci := 8) (v := .ref ah) (C := RX8) (T := TX8) (N := 6) hx hb hts iwX8_undo_X8 hown hK hP 0 rfl rfl 1 (by decide) k1 (fun _ h9 => h9) rfl dX8_undo_31 ?_
  have hp3 : ((([(ad, .inr (8, [.ref (now.1 0), .ref ah, vO, vS, vT, vN]))] : va_W) ++ (stW cI (now.1, cpV b.2 now.2) ++ hsW cS ah as (nI (k + 1)) (pre ++ b :: post))) ++ tlW cI (pre ++ b :: post)).Perm (([(ah, .inr (1, [.ref as, .int (nI (k + 1))]))] : va_W) ++ ((([(ad, .inr (8, [.ref (now.1 0), .ref ah, vO, vS, vT, vN]))] : va_W) ++ (stW cI (now.1, cpV b.2 now.2) ++ ([(as, .inl (cS, 6, .inr (.inr (.inr (.inr (svOf (pre ++ b :: post)))))))] : va_W))) ++ tlW cI (pre ++ b :: post))) := perm_f [(ad, .inr (8, [.ref (now.1 0), .ref ah, vO, vS, vT, vN]))] (stW cI (now.1, cpV b.2 now.2)) [(ah, .inr (1, [.ref as, .int (nI (k + 1))]))] [(as, .inl (cS, 6, .inr (.inr (.inr (.inr (svOf (pre ++ b :: post)))))))] (tlW cI (pre ++ b :: post))
  have hp4 : ((([(ad, .inr (8, [.ref (now.1 0), .ref ah, vO, vS, vT, vN]))] : va_W) ++ (stW cI (now.1, cpV b.2 now.2) ++ hsW cS ah as (nI k) (pre ++ b :: post))) ++ tlW cI (pre ++ b :: post)).Perm (([(ah, .inr (1, [.ref as, .int (nI k)]))] : va_W) ++ ((([(ad, .inr (8, [.ref (now.1 0), .ref ah, vO, vS, vT, vN]))] : va_W) ++ (stW cI (now.1, cpV b.2 now.2) ++ ([(as, .inl (cS, 6, .inr (.inr (.inr (.inr (svOf (pre ++ b :: post)))))))] : va_W))) ++ tlW cI (pre ++ b :: post))) := perm_f [(ad, .inr (8, [.ref (now.1 0), .ref ah, vO, vS, vT, vN]))] (stW cI (now.1, cpV b.2 now.2)) [(ah, .inr (1, [.ref as, .int (nI k)]))] [(as, .inl (cS, 6, .inr (.inr (.inr (.inr (svOf (pre ++ b :: post)))))))] (tlW cI (pre ++ b :: post))
  refine mCallPV_v (As := []) (rest := []) (wr := ((([(ad, .inr (8, [.ref (now.1 0), .ref ah, vO, vS, vT, vN]))] : va_W) ++ (stW cI (now.1, cpV b.2 now.2) ++ ([(as, .inl (cS, 6, .inr (.inr (.inr (.inr (svOf (pre ++ b :: post)))))))] : va_W))) ++ tlW cI (pre ++ b :: post))) ⟨hx, hb, hml, hown, hts⟩ (mX1_dropLatest l G cI ah H.size (.ref as) (nI (k + 1)) _ (drop_ok k hk)) (cwV 0 hts gX8_undo_X1_dropLatest rfl rfl rfl (by decide +kernel) ⟨Nat.le_of_ble_eq_true rfl, Nat.le_of_ble_eq_true rfl⟩) hP hD hS hA hKI hp3 0 1 rfl rfl rfl rfl hl.1 rfl (lv_room (Nat.le_of_ble_eq_true rfl)) dX8_undo_34 ⟨Nat.le_of_ble_eq_true rfl, Nat.le_of_ble_eq_true rfl⟩ (fun _ H locs _ hP hD hS => ?_)
  have hP : va_P G vwCl (([(ad, .inr (8, [.ref (now.1 0), .ref ah, vO, vS, vT, vN]))] ++ (stW cI (now.1, cpV b.2 now.2) ++ hsW cS ah as (nI k) (pre ++ b :: post))) ++ tlW cI (pre ++ b :: post)) H := hP.perm hp4.symm
  have hD : va_D A (([(ad, .inr (8, [.ref (now.1 0), .ref ah, vO, vS, vT, vN]))] ++ (stW cI (now.1, cpV b.2 now.2) ++ hsW cS ah as (nI k) (pre ++ b :: post))) ++ tlW cI (pre ++ b :: post)) := hD.perm hp4.symm
  refine lv_aload_n hx hb dX8_undo_37 rfl (lv_at hl 1 rfl) ?_
  refine va_get (D := G) (ci := 8) (v := .ref ah) (C := RX8) (T := TX8) (N := 6) hx hb hts iwX8_undo_X8 hown hK hP 0 rfl rfl 1 (by decide) k1 (fun _ h9 => h9) rfl dX8_undo_38 ?_
  refine va_get (D := G) (ci := 1) (v := .int (nI k)) (C := RX1) (T := TX1) (N := 2) hx hb hts iwX8_undo_X1 hown hK hP 17 rfl rfl 1 (by decide) k3 (fun _ h9 => h9) rfl dX8_undo_41 ?_
  exact mEnd_i () hx hb hr hlocks hP hK hD hS rfl rfl (Nat.le_of_ble_eq_true rfl) (Nat.le_of_ble_eq_true rfl) dX8_undo_44
set_option maxHeartbeats 8000000 in
set_option maxRecDepth 100000 in
theorem xX8_undo (l : Launch) (sa sv : Nat → Nat) (G : va_G) (cI cS : ClassId) (hst : l.stackTraces = false) (sz ad ah as : Nat) (vO vS vT vN : Value) (now : Blk) (bs : List Blk) : vx_Met l yX8_undo wsX8_undo ({ frames := 6, cells := 1, slots := 6, locals := 90 }) (mPcX sa sv G (tyH cI cS) [.ref ad] sz (([(ad, .inr (8, [.ref (now.1 0), .ref ah, vO, vS, vT, vN]))] ++ (stW cI now ++ hsW cS ah as (nI 0) bs)) ++ tlW cI bs)) noQ (mXC G (tyH cI cS) (va_A (([(ad, .inr (8, [.ref (now.1 0), .ref ah, vO, vS, vT, vN]))] ++ (stW cI now ++ hsW cS ah as (nI 0) bs)) ++ tlW cI bs) sz) 2 (([(ad, .inr (8, [.ref (now.1 0), .ref ah, vO, vS, vT, vN]))] ++ (stW cI now ++ hsW cS ah as (nI 0) bs)) ++ tlW cI bs)) 1 6 (va_A (([(ad, .inr (8, [.ref (now.1 0), .ref ah, vO, vS, vT, vN]))] ++ (stW cI now ++ hsW cS ah as (nI 0) bs)) ++ tlW cI bs) sz) := by
  refine mStartT (cc := cX8_undo) (maxL := 2) (ret := (some .int)) (by decide) rfl (Nat.le_of_ble_eq_true rfl) ?_
  intro p e s m below meth c A ls hx hb hml hr hts hown hlocks hnm hA hsz hAe hP hK hD hE hex hS hl
  rw [hAe]
  have hl : lv_has ls 2 [(0, .ref ad)] := hl
  have hKI := hK.sub (tys' := [(cI, .int)]) [0] rfl
  have k1 := hts (.fieldLink RX8 19 "DeafChain" "history" "LDeafChain$History;") (by decide +kernel)
  have k2 := hts (.fieldLink RX8 10 "DeafChain" "now" "LDeafChain$State;") (by decide +kernel)
  have k3 := hts (.fieldLink RX8 156 "DeafChain$History" "size" "I") (by decide +kernel)
  have k4 := hts (.classLink RX8 86 (exN 2)) (by decide +kernel)
  have k5 := hts (.initialized (exN 2)) (by decide +kernel)
  refine lv_aload_n hx hb dX8_undo_0 rfl (lv_at hl 0 rfl) ?_
  refine va_get (D := G) (ci := 8) (v := .ref ah) (C := RX8) (T := TX8) (N := 6) hx hb hts iwX8_undo_X8 hown hK hP 0 rfl rfl 1 (by decide) k1 (fun _ h9 => h9) rfl dX8_undo_1 ?_
  refine mCallPV_q (As := []) (rest := []) (wr := ([(ad, .inr (8, [.ref (now.1 0), .ref ah, vO, vS, vT, vN]))] ++ stW cI now) ++ tlW cI bs) ⟨hx, hb, hml, hown, hts⟩ (mX1_latest l G cI cS s.heap.size ah as 0 bs (by omega)) (cwV 0 hts gX8_undo_X1_latest rfl rfl rfl (by decide +kernel) ⟨Nat.le_of_ble_eq_true rfl, Nat.le_of_ble_eq_true rfl⟩) hP hD hS hA hK (perm_d [(ad, .inr (8, [.ref (now.1 0), .ref ah, vO, vS, vT, vN]))] (stW cI now) (hsW cS ah as (nI 0) bs) (tlW cI bs)) 0 1 rfl rfl rfl rfl hl.1 rfl (lv_room (Nat.le_of_ble_eq_true rfl)) dX8_undo_4 ⟨Nat.le_of_ble_eq_true rfl, Nat.le_of_ble_eq_true rfl⟩ (fun r H locs hr9 hP hD hS => ?_)
  have hP : va_P G vwCl (([(ad, .inr (8, [.ref (now.1 0), .ref ah, vO, vS, vT, vN]))] ++ (stW cI now ++ hsW cS ah as (nI 0) bs)) ++ tlW cI bs) H := hP.perm (perm_d [(ad, .inr (8, [.ref (now.1 0), .ref ah, vO, vS, vT, vN]))] (stW cI now) (hsW cS ah as (nI 0) bs) (tlW cI bs)).symm
  have hD : va_D A (([(ad, .inr (8, [.ref (now.1 0), .ref ah, vO, vS, vT, vN]))] ++ (stW cI now ++ hsW cS ah as (nI 0) bs)) ++ tlW cI bs) := hD.perm (perm_d [(ad, .inr (8, [.ref (now.1 0), .ref ah, vO, vS, vT, vN]))] (stW cI now) (hsW cS ah as (nI 0) bs) (tlW cI bs)).symm
  have e2 : r = none := by rw [hr9, if_pos rfl]
  subst e2
  refine W.eq (g2 := F0 m 7 ls [.null]) rfl ?_
  refine lv_astore_nN (lv' := [(1, .null), (0, .ref ad)]) hx hb dX8_undo_7 rfl hl (by decide) rfl (fun ls hl => ?_)
  refine lv_aload_nN hx hb dX8_undo_8 rfl (lv_at hl 0 rfl) ?_
  refine lv_ifnonnullN hx hb dX8_undo_9 ?_
  exact mThrow (k := 11) (E0 := 2) (tx := "no state is saved") hE hx hb hst hts hown (by decide +kernel) k4 k5 rfl (fun w h => List.mem_cons_of_mem _ (List.mem_append_right _ h)) bad_2 ot_2 bad_on hP hK hD hS (hl.1.trans hml.symm) rfl dX8_undo_12 dX8_undo_15 (Or.inl ⟨dX8_undo_16, dX8_undo_18, dX8_undo_21⟩) hex (Nat.le_of_ble_eq_true rfl) (Nat.le_of_ble_eq_true rfl) (Nat.le_of_ble_eq_true rfl) (Nat.le_of_ble_eq_true rfl) hlocks (Nat.le_of_ble_eq_true rfl) (Nat.le_of_ble_eq_true rfl)

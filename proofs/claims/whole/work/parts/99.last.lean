-- doubles
abbrev mQd (G : va_G) (tys : List (ClassId × FieldType)) (A : Nat → Prop) {S : Type} (r : S → UInt64) (w1 : S → va_W) := va_Qd (S := S) (fun x u => x = r u) (mB G tys A w1) A
section MKD
variable {p : Program} {l : Launch} {e : Env} {R : Room} {s : State} {m : MethodId} {args : Array Value} {below : List Frame} {meth : Method} {c : Code} {H : Heap} {locs : List Loc} {cells slots : Nat} {Q : State → Prop}
variable {cc : ByteArray} {pc : Nat} {ls : Array Slot} {rest st0 : List Value} {G : va_G} {A : Nat → Prop} {tys : List (ClassId × FieldType)} {ws : va_W} {mc ms : Nat} {S : Type}
theorem mEnd_d {r : S → UInt64} {w1 : S → va_W} (u : S) {v : UInt64} (hx : p.tables.exec = Jvm.exec) (hb : c.code = cc) (hr : meth.sig.returnType = some .double) (hlocks : meth.locks = false) (hP : va_P G vwCl ws H) (hK : va_K G vwCl tys s) (hD : va_D A ws) (hS : va_S A s.heap H locs) (hv : v = r u) (hw : ws = w1 u) (hc : cells ≤ mc) (hs : slots ≤ ms) (hdg : decode cc pc = .ok (.dreturn, 1)) :
    W p l e R s m args below meth c H locs cells slots (MQ below (mQd G tys A r w1) args s mc ms A) (F0 m pc ls [.double v]) := by
  refine W.widen hc hs ?_
  exact W.dret hx hb hr (fun t ht hW => ⟨⟨v, u, rfl, hv, by rw [ht, ← hw]; exact hP, va_K.moved hW.alike hK, by rw [← hw]; exact hD⟩, hS.F ht⟩) hS.2.2 hdg hlocks
end MKD
section MCD
variable {p : Program} {l : Launch} {e : Env} {R : Room} {s : State} {m : MethodId} {args : Array Value} {below : List Frame} {meth : Method} {c : Code} {H : Heap} {locs : List Loc} {cells slots : Nat} {Q : State → Prop}
variable {cc : ByteArray} {pc : Nat} {ls : Array Slot} {rest st0 : List Value} {G : va_G} {A : Nat → Prop} {tys tyc : List (ClassId × FieldType)} {ws wc : va_W} {mc ms : Nat} {S : Type}
variable {y : MethodName} {bytes : ByteArray} {maxL nL n index : Nat} {ret : Option FieldType} {wy : List Cond} {rm : Room} {Ts : List Cond} {own C : String} {b : Nat} {As : List Value}
theorem mCallV_d {r : S → UInt64} {w1 : S → va_W} (CF : CallFix p m c cc nL s args Ts own) (hM : Met l y wy rm (mPc G tyc (.ref b :: As) H.size wc) (mQd G tyc (va_A wc H.size) r w1) mc ms (va_A wc H.size)) (cw : CallW R s args own C index y bytes maxL ret wy rm mc ms n) (hP : va_P G vwCl ws H) (hD : va_D A ws) (hS : va_S A s.heap H locs) (hA : ∀ q : Nat, s.heap.size ≤ q → A q) (hKc : va_K G vwCl tyc s)
    (isC : List Nat) (hC : isC.map (fun i => ws[i]?) = wc.map some) (hn : va_nd isC = true) (q0 ci : Nat) {qC : vw_C} {fs : List Value} (hcl : vwCl[ci]? = some qC) (he : ws[q0]? = some (b, .inr (ci, fs))) (hqC : qC.1 = C) (hKs : va_K G vwCl tys s) (adC : List Nat) (hfst : ∀ u, (w1 u).map Prod.fst = adC) (hfc : wc.map Prod.fst = adC) (ws1 : S → va_W) (ad : List Nat) (hf1 : ∀ u, (ws1 u).map Prod.fst = ad) (hf0 : ws.map Prod.fst = ad) (hC1 : ∀ u, isC.map (fun i => (ws1 u)[i]?) = (w1 u).map some) (isR : List Nat) (wr : va_W) (hR1 : ∀ u, isR.map (fun i => (ws1 u)[i]?) = wr.map some) (hR0 : isR.map (fun i => ws[i]?) = wr.map some) (N : Nat) (hN : ws.length = N) (hcov : (List.range N).all (fun i => isC.contains i || isR.contains i) = true)
    (hlen : As.length = n) (hsize : ls.size = nL) (hstack : st0 = As.reverse ++ .ref b :: rest) (hW : 2 * (F0 m pc ls st0).monitorRoom + (rest.map fun v => v.category).sum ≤ 8) (hdg : decode cc pc = .ok (.invokevirtual index, 3)) (hroom : cells + mc ≤ R.cells ∧ slots + ms ≤ R.slots)
    (kk : ∀ (u : S) (H1 : Heap) (locs1 : List Loc), va_P G vwCl (ws1 u) H1 → va_D A (ws1 u) → va_S A s.heap H1 locs1 → W p l e R s m args below meth c H1 locs1 (cells + mc) (slots + ms) Q (F0 m (pc + 3) ls (.double (r u) :: rest))) : W p l e R s m args below meth c H locs cells slots Q (F0 m pc ls st0) := by
  subst hqC
  have hpre := mPre (av := .ref b :: As) hP hD hKc hC hn
  refine va_calld (va_runV CF hM cw ⟨hpre.1, va_recv hKs hP (ci := ci) (q0 := q0) hcl he, hpre.2⟩ rfl hlen hsize hstack hW hdg hroom) hS (fun q _ h => mFree hD hS hA hC q h) (mFree hD hS hA hC) (fun x u t H1 locs1 ht hvm hw hB hz1 hk1 hS1 => ?_)
  obtain ⟨hP1, -, -⟩ := hB
  rw [ht] at hP1
  obtain ⟨hP2, hD2⟩ := mPut isR N hP hD hC ((hfst u).trans hfc.symm) ((hf1 u).trans hf0.symm) (hC1 u) ((hR1 u).trans hR0.symm) hN hcov hk1 hP1
  rw [hw]
  exact kk u H1 locs1 hP2 hD2 hS1
end MCD
section MXD
variable {p : Program} {l : Launch} {e : Env} {R : Room} {s : State} {m : MethodId} {args : Array Value} {below : List Frame} {meth : Method} {c : Code} {H : Heap} {locs : List Loc} {cells slots : Nat} {Q : State → Prop}
variable {cc : ByteArray} {pc : Nat} {ls : Array Slot} {rest st0 : List Value} {G : va_G} {A : Nat → Prop} {tys tyc : List (ClassId × FieldType)} {ws wc : va_W} {mc ms : Nat} {S : Type}
variable {y : MethodName} {bytes : ByteArray} {maxL nL n index : Nat} {ret : Option FieldType} {wy : List Cond} {rm : Room} {Ts : List Cond} {own C : String} {b : Nat} {As : List Value}
variable {sa sv : Nat → Nat}
theorem mCallXV_d {r : S → UInt64} {w1 : S → va_W} (hE : EnvP sa sv A s s.heap) (CF : CallFix p m c cc nL s args Ts own) (hM : Met l y wy rm (mPcX sa sv G tyc (.ref b :: As) H.size wc) (mQd G tyc (va_A wc H.size) r w1) mc ms (va_A wc H.size)) (cw : CallW R s args own C index y bytes maxL ret wy rm mc ms n) (hP : va_P G vwCl ws H) (hD : va_D A ws) (hS : va_S A s.heap H locs) (hA : ∀ q : Nat, s.heap.size ≤ q → A q) (hKc : va_K G vwCl tyc s)
    (isC : List Nat) (hC : isC.map (fun i => ws[i]?) = wc.map some) (hn : va_nd isC = true) (q0 ci : Nat) {qC : vw_C} {fs : List Value} (hcl : vwCl[ci]? = some qC) (he : ws[q0]? = some (b, .inr (ci, fs))) (hqC : qC.1 = C) (hKs : va_K G vwCl tys s) (adC : List Nat) (hfst : ∀ u, (w1 u).map Prod.fst = adC) (hfc : wc.map Prod.fst = adC) (ws1 : S → va_W) (ad : List Nat) (hf1 : ∀ u, (ws1 u).map Prod.fst = ad) (hf0 : ws.map Prod.fst = ad) (hC1 : ∀ u, isC.map (fun i => (ws1 u)[i]?) = (w1 u).map some) (isR : List Nat) (wr : va_W) (hR1 : ∀ u, isR.map (fun i => (ws1 u)[i]?) = wr.map some) (hR0 : isR.map (fun i => ws[i]?) = wr.map some) (N : Nat) (hN : ws.length = N) (hcov : (List.range N).all (fun i => isC.contains i || isR.contains i) = true)
    (hlen : As.length = n) (hsize : ls.size = nL) (hstack : st0 = As.reverse ++ .ref b :: rest) (hW : 2 * (F0 m pc ls st0).monitorRoom + (rest.map fun v => v.category).sum ≤ 8) (hdg : decode cc pc = .ok (.invokevirtual index, 3)) (hroom : cells + mc ≤ R.cells ∧ slots + ms ≤ R.slots)
    (kk : ∀ (u : S) (H1 : Heap) (locs1 : List Loc), va_P G vwCl (ws1 u) H1 → va_D A (ws1 u) → va_S A s.heap H1 locs1 → W p l e R s m args below meth c H1 locs1 (cells + mc) (slots + ms) Q (F0 m (pc + 3) ls (.double (r u) :: rest))) : W p l e R s m args below meth c H locs cells slots Q (F0 m pc ls st0) := by
  subst hqC
  have hpre := mPreX (av := .ref b :: As) hE hS hA hP hD hKc hC hn
  refine va_calld (va_runV CF hM cw ⟨hpre.1, va_recv hKs hP (ci := ci) (q0 := q0) hcl he, hpre.2⟩ rfl hlen hsize hstack hW hdg hroom) hS (fun q _ h => mFree hD hS hA hC q h) (mFree hD hS hA hC) (fun x u t H1 locs1 ht hvm hw hB hz1 hk1 hS1 => ?_)
  obtain ⟨hP1, -, -⟩ := hB
  rw [ht] at hP1
  obtain ⟨hP2, hD2⟩ := mPut isR N hP hD hC ((hfst u).trans hfc.symm) ((hf1 u).trans hf0.symm) (hC1 u) ((hR1 u).trans hR0.symm) hN hcov hk1 hP1
  rw [hw]
  exact kk u H1 locs1 hP2 hD2 hS1
end MXD
theorem lv_topd {p : Program} {l : Launch} {e : Env} {R : Room} {s : State} {m : MethodId} {args : Array Value} {below : List Frame} {meth : Method} {c : Code} {H : Heap} {locs : List Loc} {cells slots : Nat} {Q : State → Prop} {pc : Nat} {ls : Array Slot} {rest : List Value} {x : UInt64} (k : ∀ y : UInt64, y = x → W p l e R s m args below meth c H locs cells slots Q (F0 m pc ls (.double y :: rest))) : W p l e R s m args below meth c H locs cells slots Q (F0 m pc ls (.double x :: rest)) := k x rfl
theorem mJ_isNaN (l : Launch) (G : va_G) (cI : ClassId) (sz : Nat) (x : UInt64) (hn : Op.cmpValue (FP.dcmp x x) .l = 0) : Met l yJxe99ae_isNaN_b9ae7 wsJxe99ae_isNaN_b9ae7 ({ frames := 0, cells := 0, slots := 0, locals := 0 }) (mPc G [(cI, .int)] [.double x] sz []) (mQi G [(cI, .int)] (va_A [] sz) (fun _ : Unit => 0) (fun _ => [])) 0 0 (va_A [] sz) := by
  refine mStart (cc := cJxe99ae_isNaN_b9ae7) (maxL := 2) (ret := (some .boolean)) (by decide) rfl (Nat.le_of_ble_eq_true rfl) ?_
  intro p e s m below meth c A ls hx hb hml hr hts hown hlocks hnm hA hsz hAe hP hK hD hS hl
  have hl : lv_has ls 2 [(0, .double x)] := hl
  rw [hAe]
  refine lv_dload_n hx hb dJxe99ae_isNaN_b9ae7_0 rfl (lv_at hl 0 rfl) ?_
  refine lv_dload_n hx hb dJxe99ae_isNaN_b9ae7_1 rfl (lv_at hl 0 rfl) ?_
  refine lv_dcmp hx hb dJxe99ae_isNaN_b9ae7_2 ?_
  refine W.eq (g2 := F0 m 3 ls [.int 0]) (by rw [hn]) ?_
  refine lv_if_eq (tgt := 10) hx hb dJxe99ae_isNaN_b9ae7_3 (by decide) (fun _ => ?_) (fun c1 => absurd rfl c1)
  refine lv_iconst (v := 0) hx hb dJxe99ae_isNaN_b9ae7_10 (by decide) ?_
  exact mEnd_z () hx hb hr rfl hlocks hP hK hD hS rfl rfl (Nat.le_refl _) (Nat.le_refl _) dJxe99ae_isNaN_b9ae7_11
set_option maxHeartbeats 2000000 in
theorem mJ_d2L (l : Launch) (G : va_G) (cI : ClassId) (sz : Nat) (x : UInt64) (hn : Op.cmpValue (FP.dcmp x x) .l = 0) : Met l yJxe99ae_doubleToLongBits_ccdee wsJxe99ae_doubleToLongBits_ccdee ({ frames := 1, cells := 0, slots := 0, locals := 21 }) (mPc G [(cI, .int)] [.double x] sz []) (mQl G [(cI, .int)] (va_A [] sz) (fun _ : Unit => x.toInt64) (fun _ => [])) 0 0 (va_A [] sz) := by
  refine mStart (cc := cJxe99ae_doubleToLongBits_ccdee) (maxL := 2) (ret := (some .long)) (by decide) rfl (Nat.le_of_ble_eq_true rfl) ?_
  intro p e s m below meth c A ls hx hb hml hr hts hown hlocks hnm hA hsz hAe hP hK hD hS hl
  have hl : lv_has ls 2 [(0, .double x)] := hl
  rw [hAe]
  have k1 := hts (.methodLink RJxe99ae 134 ⟨"java/lang/Double", "doubleToRawLongBits", "(D)J"⟩) (by decide +kernel)
  have k2 := hts (.native ⟨"java/lang/Double", "doubleToRawLongBits", "(D)J"⟩) (by decide +kernel)
  have k3 := hts (.static ⟨"java/lang/Double", "doubleToRawLongBits", "(D)J"⟩) (by decide +kernel)
  have k4 := hts (.initialized "java/lang/Double") (by decide +kernel)
  refine lv_dload_n hx hb dJxe99ae_doubleToLongBits_ccdee_0 rfl (lv_at hl 0 rfl) ?_
  refine mCallS_i (As := [.double x]) ⟨hx, hb, hml, hown, hts⟩ (mJ_isNaN l G cI s.heap.size x hn) (va_cwS 1 hts gJxe99ae_doubleToLongBits_ccdee_Jxe99ae_isNaN_b9ae7 rfl rfl rfl (by decide +kernel) ⟨Nat.le_of_ble_eq_true rfl, Nat.le_of_ble_eq_true rfl⟩) hP hD hS hA hK [] rfl (by decide) [] (fun _ => rfl) rfl (fun _ => []) [] (fun _ => rfl) rfl (fun _ => rfl) [] [] (fun _ => rfl) rfl 0 rfl rfl rfl hl.1 rfl (lv_room (Nat.le_of_ble_eq_true rfl)) dJxe99ae_doubleToLongBits_ccdee_1 ⟨Nat.zero_le _, Nat.zero_le _⟩ (fun _ H locs hP hD hS => ?_)
  refine lv_if_ne (tgt := 12) hx hb dJxe99ae_doubleToLongBits_ccdee_4 (by decide) (fun c1 => absurd rfl c1) (fun _ => ?_)
  refine lv_dload_n hx hb dJxe99ae_doubleToLongBits_ccdee_7 rfl (lv_at hl 0 rfl) ?_
  refine vn_d2l hx hb (hml.trans hl.1.symm) hown k1 k2 k3 k4 (Nat.le_of_ble_eq_true rfl) (Nat.le_of_ble_eq_true rfl) dJxe99ae_doubleToLongBits_ccdee_8 ?_
  exact mEnd_l () hx hb hr hlocks hP hK hD hS rfl rfl (Nat.le_refl _) (Nat.le_refl _) dJxe99ae_doubleToLongBits_ccdee_11

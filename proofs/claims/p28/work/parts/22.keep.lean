-- DeafChain.keep, restore
theorem perm_g {α : Type} (O N t : List α) : ((O ++ N) ++ t).Perm ((t ++ N) ++ O) := by
  classical
  refine List.perm_iff_count.mpr (fun a => ?_)
  simp only [List.count_append]
  omega
theorem perm_h {α : Type} (x O N : List α) : (x ++ ((O ++ N) ++ [])).Perm ((O ++ N) ++ x) := by
  classical
  refine List.perm_iff_count.mpr (fun a => ?_)
  simp only [List.count_append, List.count_nil]
  omega
/-- a chain's own object -/
abbrev dcW (ad an ah : Nat) (vO vS vT vN : Value) : va_W := [(ad, .inr (8, [.ref an, .ref ah, vO, vS, vT, vN]))]
section KP
variable {p : Program} {l : Launch} {e : Env} {s : State} {m : MethodId} {below : List Frame} {meth : Method} {c : Code} {H : Heap} {locs : List Loc} {cells slots : Nat} {G : va_G} {A : Nat → Prop} {cI : ClassId} {ad ah : Nat} {vO vS vT : Value} {now : Blk} {sa sv : Nat → Nat} {ls : Array Slot}
theorem iwX8_keep_X8 : ∀ w ∈ u_ws RX8 TX8 6, w ∈ wsX8_keep := by decide +kernel
theorem iwX8_keep_X5 : ∀ w ∈ u_ws RX5 TX5 7, w ∈ wsX8_keep := by decide +kernel
theorem iwX8_keep_X7 : ∀ w ∈ u_ws RX7 TX7 4, w ∈ wsX8_keep := by decide +kernel
set_option maxHeartbeats 8000000 in
set_option maxRecDepth 100000 in
theorem keep_copy (hx : p.tables.exec = Jvm.exec) (hb : c.code = cX8_keep) (hml : c.maxLocals = 2) (hr : meth.sig.returnType = some .int) (hts : ∀ w ∈ wsX8_keep, w.before ([.ref ad] : List Value).toArray s = true) (hown : s.vm.findClass RX8 = some m.cls) (hlocks : meth.locks = false) (hA : ∀ q : Nat, s.heap.size ≤ q → A q) (hK : va_K G vwCl [(cI, .int)] s) (b : Blk) (hP : va_P G vwCl ((dcW ad (now.1 0) ah vO vS vT (.ref (b.1 0)) ++ stW cI now) ++ stW cI b) H) (hD : va_D A ((dcW ad (now.1 0) ah vO vS vT (.ref (b.1 0)) ++ stW cI now) ++ stW cI b)) (hS : va_S A s.heap H locs) (hl : lv_has ls 2 [(1, .ref (b.1 0)), (0, .ref ad)]) (hc : cells ≤ 16) (hs : slots ≤ 480) :
    W p l e ({ frames := 3, cells := 16, slots := 480, locals := 90 } : Room) s m ([.ref ad] : List Value).toArray below meth c H locs cells slots (MQ below (va_Qi (S := Blk) (fun x u => x = now.2 9 0 ∧ ∃ (a : Nat → Nat) (w : Nat → Nat → Int32), u = (a, cpV now.2 w)) (mB G [(cI, .int)] A (fun u => ((dcW ad (now.1 0) ah vO vS vT (.ref (u.1 0)) ++ stW cI now) ++ stW cI u))) A) ([.ref ad] : List Value).toArray s 16 480 A) (F0 m 22 ls []) := by
  have k2 := hts (.fieldLink RX8 10 "DeafChain" "now" "LDeafChain$State;") (by decide +kernel)
  have k3 := hts (.fieldLink RX8 76 "DeafChain$State" "waiting" "LDeafChain$Waiting;") (by decide +kernel)
  have k4 := hts (.fieldLink RX8 80 "DeafChain$Waiting" "size" "I") (by decide +kernel)
  refine lv_aload_n hx hb dX8_keep_22 rfl (lv_at hl 0 rfl) ?_
  refine lv_aload_n hx hb dX8_keep_23 rfl (lv_at hl 1 rfl) ?_
  refine va_get (D := G) (ci := 8) (v := .ref (now.1 0)) (C := RX8) (T := TX8) (N := 6) hx hb hts iwX8_keep_X8 hown hK hP 0 rfl rfl 0 (by decide) k2 (fun _ h9 => h9) rfl dX8_keep_24 ?_
  have hp : ((dcW ad (now.1 0) ah vO vS vT (.ref (b.1 0)) ++ stW cI now) ++ stW cI b).Perm ((stW cI b ++ stW cI now) ++ dcW ad (now.1 0) ah vO vS vT (.ref (b.1 0))) := perm_g _ _ _
  refine mCallPV_v (As := [.ref (now.1 0)]) (rest := []) ⟨hx, hb, hml, hown, hts⟩ (mCopy l G cI H.size b now) (cwV 1 hts gX8_keep_X5_copyFrom rfl rfl rfl (by decide +kernel) ⟨Nat.le_of_ble_eq_true rfl, Nat.le_of_ble_eq_true rfl⟩) hP hD hS hA hK hp 0 5 rfl rfl rfl rfl hl.1 rfl (lv_room (Nat.le_of_ble_eq_true rfl)) dX8_keep_27 ⟨hc, hs⟩ (fun _ H locs _ hP hD hS => ?_)
  obtain ⟨b2, eb2⟩ : ∃ z : Blk, z = ((b.1, cpV now.2 b.2) : Blk) := ⟨_, rfl⟩
  have e0 : b2.1 0 = b.1 0 := by rw [eb2]
  have hp2 : ((stW cI (b.1, cpV now.2 b.2) ++ stW cI now) ++ dcW ad (now.1 0) ah vO vS vT (.ref (b.1 0))).Perm ((dcW ad (now.1 0) ah vO vS vT (.ref (b2.1 0)) ++ stW cI now) ++ stW cI b2) := by rw [← eb2, ← e0]; exact (perm_g _ _ _).symm
  have hP := hP.perm hp2
  have hD := hD.perm hp2
  refine lv_aload_n hx hb dX8_keep_30 rfl (lv_at hl 1 rfl) ?_
  refine va_get (D := G) (ci := 8) (v := .ref (now.1 0)) (C := RX8) (T := TX8) (N := 6) hx hb hts iwX8_keep_X8 hown hK hP 0 rfl rfl 0 (by decide) k2 (fun _ h9 => h9) rfl dX8_keep_31 ?_
  refine va_get (D := G) (ci := 5) (v := .ref (now.1 8)) (C := RX5) (T := TX5) (N := 7) hx hb hts iwX8_keep_X5 hown hK hP 1 rfl rfl 1 (by decide) k3 (fun _ h9 => h9) rfl dX8_keep_34 ?_
  refine va_get (D := G) (ci := 7) (v := .int (now.2 9 0)) (C := RX7) (T := TX7) (N := 4) hx hb hts iwX8_keep_X7 hown hK hP 9 rfl rfl 3 (by decide) k4 (fun _ h9 => h9) rfl dX8_keep_37 ?_
  exact mEnd_ip b2 ⟨b.1, b.2, eb2⟩ hx hb hr hlocks hP hK hD hS rfl rfl hc hs dX8_keep_40
end KP
/-- the snapshot: none, or a block -/
def snV (sn : List Blk) : Value := match sn with
  | [] => .null
  | b :: _ => .ref (b.1 0)
set_option maxHeartbeats 8000000 in
set_option maxRecDepth 100000 in
theorem mX8_keep (l : Launch) (sa sv : Nat → Nat) (G : va_G) (cI : ClassId) (sz ad ah : Nat) (vO vS vT : Value) (now : Blk) (sn : List Blk) (hsn : sn.length ≤ 1) {r0 : R0T} (h0 : fX5_init = some r0) : Met l yX8_keep wsX8_keep ({ frames := 3, cells := 16, slots := 480, locals := 90 } : Room) (mPcX sa sv G [(cI, .int)] [.ref ad] sz ((dcW ad (now.1 0) ah vO vS vT (snV sn) ++ stW cI now) ++ tlW cI sn)) (va_Qi (S := Blk) (fun x u => x = now.2 9 0 ∧ ∃ (a : Nat → Nat) (w : Nat → Nat → Int32), u = (a, cpV now.2 w)) (mB G [(cI, .int)] (va_A ((dcW ad (now.1 0) ah vO vS vT (snV sn) ++ stW cI now) ++ tlW cI sn) sz) (fun u => ((dcW ad (now.1 0) ah vO vS vT (.ref (u.1 0)) ++ stW cI now) ++ stW cI u))) (va_A ((dcW ad (now.1 0) ah vO vS vT (snV sn) ++ stW cI now) ++ tlW cI sn) sz)) 16 480 (va_A ((dcW ad (now.1 0) ah vO vS vT (snV sn) ++ stW cI now) ++ tlW cI sn) sz) := by
  refine mStartX (cc := cX8_keep) (maxL := 2) (ret := (some .int)) (by decide) rfl (Nat.le_of_ble_eq_true rfl) ?_
  intro p e s m below meth c A ls hx hb hml hr hts hown hlocks hnm hA hsz hAe hP hK hD hE hS hl
  rw [hAe]
  have hl : lv_has ls 2 [(0, .ref ad)] := hl
  have k1 := hts (.fieldLink RX8 157 "DeafChain" "snapshot" "LDeafChain$State;") (by decide +kernel)
  refine lv_aload_n hx hb dX8_keep_0 rfl (lv_at hl 0 rfl) ?_
  match sn, hsn with
  | [b], _ =>
    refine va_get (D := G) (ci := 8) (v := .ref (b.1 0)) (C := RX8) (T := TX8) (N := 6) hx hb hts iwX8_keep_X8 hown hK hP 0 rfl rfl 5 (by decide) k1 (fun _ h9 => h9) rfl dX8_keep_1 ?_
    refine lv_astore_n (lv' := [(1, .ref (b.1 0)), (0, .ref ad)]) hx hb dX8_keep_4 rfl hl (by decide) rfl (fun ls hl => ?_)
    refine lv_aload_n hx hb dX8_keep_5 rfl (lv_at hl 0 rfl) ?_
    refine lv_ifnonnull (tgt := 22) hx hb dX8_keep_6 (by decide) ?_
    have et : tlW cI [b] = stW cI b := by rw [tlW_cons]; exact List.append_nil _
    rw [et] at hP hD
    exact keep_copy hx hb hml hr hts hown hlocks hA hK b hP hD hS hl (Nat.zero_le _) (Nat.zero_le _)
  | [], _ =>
    refine va_get (D := G) (ci := 8) (v := .null) (C := RX8) (T := TX8) (N := 6) hx hb hts iwX8_keep_X8 hown hK hP 0 rfl rfl 5 (by decide) k1 (fun _ h9 => h9) rfl dX8_keep_1 ?_
    refine lv_astore_nN (lv' := [(1, .null), (0, .ref ad)]) hx hb dX8_keep_4 rfl hl (by decide) rfl (fun ls hl => ?_)
    refine lv_aload_nN hx hb dX8_keep_5 rfl (lv_at hl 0 rfl) ?_
    refine lv_ifnonnullN hx hb dX8_keep_6 ?_
    have k3 := hts (.classLink RX8 7 RX5) (by decide +kernel)
    have k4 := hts (.instantiable RX5 7) (by decide +kernel)
    have k5 := hts (.initialized RX5) (by decide +kernel)
    have k6 := hts (.instanceMethod yX5_init) (by decide +kernel)
    refine va_new (ci := 5) (fs := [.null, .null, .null, .null, .int 0, .int 0, .int 0]) (C := RX5) (T := TX5) (N := 7) hx hb hts iwX8_keep_X5 tyX5 tyX5_ok hown k3 k4 k5 hK hP hD hS hA rfl (fun j hj => by rcases (show j = 0 ∨ j = 1 ∨ j = 2 ∨ j = 3 ∨ j = 4 ∨ j = 5 ∨ j = 6 by omega) with rfl | rfl | rfl | rfl | rfl | rfl | rfl <;> rfl) (Nat.le_of_ble_eq_true rfl) (Nat.le_of_ble_eq_true rfl) dX8_keep_9 (fun q H hP hD hS => ?_)
    refine lv_dup hx hb dX8_keep_12 rfl ?_
    refine mCallPXN_v (As := []) (rest := [.ref q]) (wr := ((dcW ad (now.1 0) ah vO vS vT .null ++ stW cI now) ++ tlW cI [])) hE ⟨hx, hb, hml, hown, hts⟩ (mX5_init l sa sv G cI q H.size r0 h0) ⟨va_cnB 0 hts gX8_keep_X5_init_n9 rfl rfl rfl (hE.1 _ (List.mem_of_getElem? (i := 0) rfl)) k5 (by decide +kernel) ⟨Nat.le_of_ble_eq_true rfl, Nat.le_of_ble_eq_true rfl⟩, rfl, k6⟩ hP hD hS hA hK List.perm_append_comm rfl hl.1 rfl (lv_room (Nat.le_of_ble_eq_true rfl)) dX8_keep_13 ⟨Nat.le_of_ble_eq_true rfl, Nat.le_of_ble_eq_true rfl⟩ (fun u9 H locs _ hP hD hS => ?_)
    obtain ⟨b1, eb1⟩ : ∃ z : Blk, z = (((fun k => match k with | 0 => q | k + 1 => u9 k), (fun k => match k with | 0 => fun _ => r0.1 | 1 => fun _ => r0.2.1 | 2 => fun _ => r0.2.2.1 | 3 => r0.2.2.2.1 | 4 => r0.2.2.2.2.1 | 5 => r0.2.2.2.2.2.1 | 6 => r0.2.2.2.2.2.2.1 | 7 => r0.2.2.2.2.2.2.2.1 | 8 => r0.2.2.2.2.2.2.2.2.1 | 9 => fun _ => r0.2.2.2.2.2.2.2.2.2.1 | 10 => r0.2.2.2.2.2.2.2.2.2.2.1 | 11 => r0.2.2.2.2.2.2.2.2.2.2.2.1 | 12 => r0.2.2.2.2.2.2.2.2.2.2.2.2.1 | 13 => fun _ => r0.2.2.2.2.2.2.2.2.2.2.2.2.2.1 | 14 => r0.2.2.2.2.2.2.2.2.2.2.2.2.2.2.1 | 15 => r0.2.2.2.2.2.2.2.2.2.2.2.2.2.2.2.1 | 16 => r0.2.2.2.2.2.2.2.2.2.2.2.2.2.2.2.2 | _ => fun _ => 0)) : Blk) := ⟨_, rfl⟩
    have hP : va_P G vwCl (stW cI b1 ++ ((dcW ad (now.1 0) ah vO vS vT .null ++ stW cI now) ++ ([] : va_W))) H := by rw [eb1]; exact hP
    have hD : va_D A (stW cI b1 ++ ((dcW ad (now.1 0) ah vO vS vT .null ++ stW cI now) ++ ([] : va_W))) := by rw [eb1]; exact hD
    have eq0 : q = b1.1 0 := by rw [eb1]
    refine W.eq (g2 := F0 m 16 ls [.ref (b1.1 0)]) (by rw [← eq0]) ?_
    refine lv_astore_n (lv' := [(1, .ref (b1.1 0)), (0, .ref ad)]) hx hb dX8_keep_16 rfl hl (by decide) rfl (fun ls hl => ?_)
    refine lv_aload_n hx hb dX8_keep_17 rfl (lv_at hl 1 rfl) ?_
    refine lv_aload_n hx hb dX8_keep_18 rfl (lv_at hl 0 rfl) ?_
    refine va_put (D := G) (ci := 8) (v := .ref (b1.1 0)) (ty := .object "DeafChain$State") (C := RX8) (T := TX8) (N := 6) hx hb hts iwX8_keep_X8 tyX8 tyX8_ok nmX8 hown hK hP hD hS 16 rfl rfl 5 (by decide) k1 (fun _ h9 => h9) rfl (by decide +kernel) rfl rfl (Nat.le_of_ble_eq_true rfl) dX8_keep_19 (fun H locs hP hD hS => ?_)
    have hP : va_P G vwCl (stW cI b1 ++ ((dcW ad (now.1 0) ah vO vS vT (.ref (b1.1 0)) ++ stW cI now) ++ ([] : va_W))) H := hP
    have hD : va_D A (stW cI b1 ++ ((dcW ad (now.1 0) ah vO vS vT (.ref (b1.1 0)) ++ stW cI now) ++ ([] : va_W))) := hD
    exact keep_copy hx hb hml hr hts hown hlocks hA hK b1 (hP.perm (perm_h _ _ _)) (hD.perm (perm_h _ _ _)) hS hl (Nat.le_of_ble_eq_true rfl) (Nat.le_of_ble_eq_true rfl)
theorem perm_i {α : Type} (O N h t b : List α) : (((O ++ (N ++ h)) ++ t) ++ b).Perm (((h ++ t) ++ N) ++ (O ++ b)) := by
  classical
  refine List.perm_iff_count.mpr (fun a => ?_)
  simp only [List.count_append]
  omega
theorem perm_j {α : Type} (O N h t b : List α) : (((O ++ (N ++ h)) ++ t) ++ b).Perm ((N ++ b) ++ (O ++ (h ++ t))) := by
  classical
  refine List.perm_iff_count.mpr (fun a => ?_)
  simp only [List.count_append]
  omega
theorem iwX8_restore_X8 : ∀ w ∈ u_ws RX8 TX8 6, w ∈ wsX8_restore := by decide +kernel
theorem iwX8_restore_X5 : ∀ w ∈ u_ws RX5 TX5 7, w ∈ wsX8_restore := by decide +kernel
theorem iwX8_restore_X7 : ∀ w ∈ u_ws RX7 TX7 4, w ∈ wsX8_restore := by decide +kernel
set_option maxHeartbeats 8000000 in
set_option maxRecDepth 100000 in
theorem mX8_restore (l : Launch) (sa sv : Nat → Nat) (G : va_G) (cI cS : ClassId) (sz ad ah as : Nat) (vO vS vT : Value) (now : Blk) (b : Blk) (n : Nat) (bs : List Blk) {r0 : R0T} (h0 : fX5_init = some r0) (hn : n ≤ 6) (hnb : n ≤ bs.length) (hb6 : bs.length ≤ 6) : Met l yX8_restore wsX8_restore ({ frames := 4, cells := 16, slots := 480, locals := 112 }) (mPcX sa sv G (tyH cI cS) [.ref ad] sz (((dcW ad (now.1 0) ah vO vS vT (.ref (b.1 0)) ++ (stW cI now ++ hsW cS ah as (nI n) bs)) ++ tlW cI bs) ++ stW cI b)) (va_Qi (S := List Blk) (fun x u => x = b.2 9 0 ∧ SaveR n bs now.2 u) (mB G (tyH cI cS) (va_A (((dcW ad (now.1 0) ah vO vS vT (.ref (b.1 0)) ++ (stW cI now ++ hsW cS ah as (nI n) bs)) ++ tlW cI bs) ++ stW cI b) sz) (fun u => (((dcW ad ((now.1, cpV b.2 now.2).1 0) ah vO vS vT (.ref (b.1 0)) ++ (stW cI (now.1, cpV b.2 now.2) ++ hsW cS ah as (nI (if n < 6 then n + 1 else 6)) u)) ++ tlW cI u) ++ stW cI b))) (va_A (((dcW ad (now.1 0) ah vO vS vT (.ref (b.1 0)) ++ (stW cI now ++ hsW cS ah as (nI n) bs)) ++ tlW cI bs) ++ stW cI b) sz)) 16 480 (va_A (((dcW ad (now.1 0) ah vO vS vT (.ref (b.1 0)) ++ (stW cI now ++ hsW cS ah as (nI n) bs)) ++ tlW cI bs) ++ stW cI b) sz) := by
  refine mStartX (cc := cX8_restore) (maxL := 2) (ret := (some .int)) (by decide) rfl (Nat.le_of_ble_eq_true rfl) ?_
  intro p e s m below meth c A ls hx hb hml hr hts hown hlocks hnm hA hsz hAe hP hK hD hE hS hl
  rw [hAe]
  have hl : lv_has ls 2 [(0, .ref ad)] := hl
  have k1 := hts (.fieldLink RX8 157 "DeafChain" "snapshot" "LDeafChain$State;") (by decide +kernel)
  refine lv_aload_n hx hb dX8_restore_0 rfl (lv_at hl 0 rfl) ?_
  have hKI := hK.sub (tys' := [(cI, .int)]) [0] rfl
  have k2 := hts (.fieldLink RX8 10 "DeafChain" "now" "LDeafChain$State;") (by decide +kernel)
  have k3 := hts (.fieldLink RX8 76 "DeafChain$State" "waiting" "LDeafChain$Waiting;") (by decide +kernel)
  have k4 := hts (.fieldLink RX8 80 "DeafChain$Waiting" "size" "I") (by decide +kernel)
  have k5 := hts (.fieldLink RX8 19 "DeafChain" "history" "LDeafChain$History;") (by decide +kernel)
  refine va_get (D := G) (ci := 8) (v := .ref (b.1 0)) (C := RX8) (T := TX8) (N := 6) hx hb hts iwX8_restore_X8 hown hK hP 0 rfl rfl 5 (by decide) k1 (fun _ h9 => h9) rfl dX8_restore_1 ?_
  refine lv_astore_n (lv' := [(1, .ref (b.1 0)), (0, .ref ad)]) hx hb dX8_restore_4 rfl hl (by decide) rfl (fun ls hl => ?_)
  refine lv_aload_n hx hb dX8_restore_5 rfl (lv_at hl 0 rfl) ?_
  refine lv_ifnonnull (tgt := 19) hx hb dX8_restore_6 (by decide) ?_
  refine lv_aload_n hx hb dX8_restore_19 rfl (lv_at hl 1 rfl) ?_
  refine va_get (D := G) (ci := 8) (v := .ref ah) (C := RX8) (T := TX8) (N := 6) hx hb hts iwX8_restore_X8 hown hK hP 0 rfl rfl 1 (by decide) k5 (fun _ h9 => h9) rfl dX8_restore_20 ?_
  refine lv_aload_n hx hb dX8_restore_23 rfl (lv_at hl 1 rfl) ?_
  refine va_get (D := G) (ci := 8) (v := .ref (now.1 0)) (C := RX8) (T := TX8) (N := 6) hx hb hts iwX8_restore_X8 hown hK hP 0 rfl rfl 0 (by decide) k2 (fun _ h9 => h9) rfl dX8_restore_24 ?_
  have hp : (((dcW ad (now.1 0) ah vO vS vT (.ref (b.1 0)) ++ (stW cI now ++ hsW cS ah as (nI n) bs)) ++ tlW cI bs) ++ stW cI b).Perm (svW cI cS ah as n bs now ++ (dcW ad (now.1 0) ah vO vS vT (.ref (b.1 0)) ++ stW cI b)) := perm_i _ _ _ _ _
  refine mCallPXV_v (As := [.ref (now.1 0)]) (rest := []) (wr := (dcW ad (now.1 0) ah vO vS vT (.ref (b.1 0)) ++ stW cI b)) hE ⟨hx, hb, hml, hown, hts⟩ (mX1_save l sa sv G cI cS s.heap.size ah as n bs now h0 hn hnb hb6) (cwV 1 hts gX8_restore_X1_save rfl rfl rfl (by decide +kernel) ⟨Nat.le_of_ble_eq_true rfl, Nat.le_of_ble_eq_true rfl⟩) hP hD hS hA hK hp 0 1 rfl rfl rfl rfl hl.1 rfl (lv_room (Nat.le_of_ble_eq_true rfl)) dX8_restore_27 ⟨Nat.le_of_ble_eq_true rfl, Nat.le_of_ble_eq_true rfl⟩ (fun bs1 H locs hsv hP hD hS => ?_)
  have hP : va_P G vwCl (((dcW ad (now.1 0) ah vO vS vT (.ref (b.1 0)) ++ (stW cI now ++ hsW cS ah as (nI (if n < 6 then n + 1 else 6)) bs1)) ++ tlW cI bs1) ++ stW cI b) H := hP.perm (perm_i _ _ _ _ _).symm
  have hD : va_D A (((dcW ad (now.1 0) ah vO vS vT (.ref (b.1 0)) ++ (stW cI now ++ hsW cS ah as (nI (if n < 6 then n + 1 else 6)) bs1)) ++ tlW cI bs1) ++ stW cI b) := hD.perm (perm_i _ _ _ _ _).symm
  refine lv_aload_n hx hb dX8_restore_30 rfl (lv_at hl 1 rfl) ?_
  refine va_get (D := G) (ci := 8) (v := .ref (now.1 0)) (C := RX8) (T := TX8) (N := 6) hx hb hts iwX8_restore_X8 hown hK hP 0 rfl rfl 0 (by decide) k2 (fun _ h9 => h9) rfl dX8_restore_31 ?_
  refine lv_aload_n hx hb dX8_restore_34 rfl (lv_at hl 0 rfl) ?_
  have hp : (((dcW ad (now.1 0) ah vO vS vT (.ref (b.1 0)) ++ (stW cI now ++ hsW cS ah as (nI (if n < 6 then n + 1 else 6)) bs1)) ++ tlW cI bs1) ++ stW cI b).Perm ((stW cI now ++ stW cI b) ++ (dcW ad (now.1 0) ah vO vS vT (.ref (b.1 0)) ++ (hsW cS ah as (nI (if n < 6 then n + 1 else 6)) bs1 ++ tlW cI bs1))) := perm_j _ _ _ _ _
  refine mCallPV_v (As := [.ref (b.1 0)]) (rest := []) (wr := (dcW ad (now.1 0) ah vO vS vT (.ref (b.1 0)) ++ (hsW cS ah as (nI (if n < 6 then n + 1 else 6)) bs1 ++ tlW cI bs1))) ⟨hx, hb, hml, hown, hts⟩ (mCopy l G cI H.size now b) (cwV 1 hts gX8_restore_X5_copyFrom rfl rfl rfl (by decide +kernel) ⟨Nat.le_of_ble_eq_true rfl, Nat.le_of_ble_eq_true rfl⟩) hP hD hS hA hKI hp 0 5 rfl rfl rfl rfl hl.1 rfl (lv_room (Nat.le_of_ble_eq_true rfl)) dX8_restore_35 ⟨Nat.le_of_ble_eq_true rfl, Nat.le_of_ble_eq_true rfl⟩ (fun _ H locs _ hP hD hS => ?_)
  have hP : va_P G vwCl (((dcW ad ((now.1, cpV b.2 now.2).1 0) ah vO vS vT (.ref (b.1 0)) ++ (stW cI (now.1, cpV b.2 now.2) ++ hsW cS ah as (nI (if n < 6 then n + 1 else 6)) bs1)) ++ tlW cI bs1) ++ stW cI b) H := hP.perm (perm_j _ _ _ _ _).symm
  have hD : va_D A (((dcW ad ((now.1, cpV b.2 now.2).1 0) ah vO vS vT (.ref (b.1 0)) ++ (stW cI (now.1, cpV b.2 now.2) ++ hsW cS ah as (nI (if n < 6 then n + 1 else 6)) bs1)) ++ tlW cI bs1) ++ stW cI b) := hD.perm (perm_j _ _ _ _ _).symm
  refine lv_aload_n hx hb dX8_restore_38 rfl (lv_at hl 1 rfl) ?_
  refine va_get (D := G) (ci := 8) (v := .ref (now.1 0)) (C := RX8) (T := TX8) (N := 6) hx hb hts iwX8_restore_X8 hown hK hP 0 rfl rfl 0 (by decide) k2 (fun _ h9 => h9) rfl dX8_restore_39 ?_
  refine va_get (D := G) (ci := 5) (v := .ref (now.1 8)) (C := RX5) (T := TX5) (N := 7) hx hb hts iwX8_restore_X5 hown hK hP 1 rfl rfl 1 (by decide) k3 (fun _ h9 => h9) rfl dX8_restore_42 ?_
  refine va_get (D := G) (ci := 7) (v := .int (b.2 9 0)) (C := RX7) (T := TX7) (N := 4) hx hb hts iwX8_restore_X7 hown hK hP 9 rfl rfl 3 (by decide) k4 (fun _ h9 => h9) rfl dX8_restore_45 ?_
  exact mEnd_ip bs1 hsv hx hb hr hlocks hP hK hD hS rfl rfl (Nat.le_of_ble_eq_true rfl) (Nat.le_of_ble_eq_true rfl) dX8_restore_48
set_option maxHeartbeats 8000000 in
set_option maxRecDepth 100000 in
theorem xX8_restore (l : Launch) (sa sv : Nat → Nat) (G : va_G) (cI : ClassId) (hst : l.stackTraces = false) (sz ad an ah : Nat) (vO vS vT : Value) : vx_Met l yX8_restore wsX8_restore ({ frames := 6, cells := 1, slots := 6, locals := 90 }) (mPcX sa sv G [(cI, .int)] [.ref ad] sz (dcW ad an ah vO vS vT .null)) noQ (mXC G [(cI, .int)] (va_A (dcW ad an ah vO vS vT .null) sz) 2 (dcW ad an ah vO vS vT .null)) 1 6 (va_A (dcW ad an ah vO vS vT .null) sz) := by
  refine mStartT (cc := cX8_restore) (maxL := 2) (ret := (some .int)) (by decide) rfl (Nat.le_of_ble_eq_true rfl) ?_
  intro p e s m below meth c A ls hx hb hml hr hts hown hlocks hnm hA hsz hAe hP hK hD hE hex hS hl
  rw [hAe]
  have hl : lv_has ls 2 [(0, .ref ad)] := hl
  have k1 := hts (.fieldLink RX8 157 "DeafChain" "snapshot" "LDeafChain$State;") (by decide +kernel)
  refine lv_aload_n hx hb dX8_restore_0 rfl (lv_at hl 0 rfl) ?_
  have k4 := hts (.classLink RX8 86 (exN 2)) (by decide +kernel)
  have k5 := hts (.initialized (exN 2)) (by decide +kernel)
  refine va_get (D := G) (ci := 8) (v := .null) (C := RX8) (T := TX8) (N := 6) hx hb hts iwX8_restore_X8 hown hK hP 0 rfl rfl 5 (by decide) k1 (fun _ h9 => h9) rfl dX8_restore_1 ?_
  refine lv_astore_nN (lv' := [(1, .null), (0, .ref ad)]) hx hb dX8_restore_4 rfl hl (by decide) rfl (fun ls hl => ?_)
  refine lv_aload_nN hx hb dX8_restore_5 rfl (lv_at hl 0 rfl) ?_
  refine lv_ifnonnullN hx hb dX8_restore_6 ?_
  exact mThrow (k := 12) (E0 := 2) (tx := "there is no snapshot") hE hx hb hst hts hown (by decide +kernel) k4 k5 rfl (fun w h => List.mem_cons_of_mem _ (List.mem_append_right _ h)) bad_2 ot_2 bad_on hP hK hD hS (hl.1.trans hml.symm) rfl dX8_restore_9 dX8_restore_12 (Or.inl ⟨dX8_restore_13, dX8_restore_15, dX8_restore_18⟩) hex (Nat.le_of_ble_eq_true rfl) (Nat.le_of_ble_eq_true rfl) (Nat.le_of_ble_eq_true rfl) (Nat.le_of_ble_eq_true rfl) hlocks (Nat.le_of_ble_eq_true rfl) (Nat.le_of_ble_eq_true rfl)

def fX2_meaningOf (p1 : Int32) (p2 : Int32) (t_meanings : Nat → Int32) : Option (Int32) :=
  (if p1 < 0 then some (((-1) : Int32)) else (if (6 : Int32) ≤ p1 then some (((-1) : Int32)) else (if p2 < 0 then some (((-1) : Int32)) else (if p2 < (30 : Int32) then (if ((p1 * (30 : Int32)) + p2) < 0 ∨ 180 ≤ ((p1 * (30 : Int32)) + p2).toNatClampNeg then none else some ((t_meanings ((p1 * (30 : Int32)) + p2).toNatClampNeg))) else some (((-1) : Int32))))))
theorem iwX2_meaningOf_X2 : ∀ w ∈ u_ws RX2 TX2 6, w ∈ wsX2_meaningOf := by decide +kernel
set_option maxHeartbeats 4000000 in
set_option maxRecDepth 100000 in
theorem mX2_meaningOf (l : Launch) (G : va_G) (cI : ClassId) (a_t a_t_meanings : Nat) (sz : Nat) (vt_ears vt_fees vt_missed vt_paid vt_losses : Value) (t_meanings : Nat → Int32) (p1 : Int32) (p2 : Int32) (res : Int32) (hf : fX2_meaningOf p1 p2 t_meanings = some res) : Met l yX2_meaningOf wsX2_meaningOf ({ frames := 0, cells := 0, slots := 0, locals := 0 }) (mPc G [(cI, .int)] [.ref a_t, .int p1, .int p2] sz [(a_t, .inr (2, [.ref a_t_meanings, vt_ears, vt_fees, vt_missed, vt_paid, vt_losses])), (a_t_meanings, .inl (cI, 180, .inl t_meanings))]) (mQi G [(cI, .int)] (va_A [(a_t, .inr (2, [.ref a_t_meanings, vt_ears, vt_fees, vt_missed, vt_paid, vt_losses])), (a_t_meanings, .inl (cI, 180, .inl t_meanings))] sz) (fun _ : Unit => res) (fun _ => [(a_t, .inr (2, [.ref a_t_meanings, vt_ears, vt_fees, vt_missed, vt_paid, vt_losses])), (a_t_meanings, .inl (cI, 180, .inl t_meanings))])) 0 0 (va_A [(a_t, .inr (2, [.ref a_t_meanings, vt_ears, vt_fees, vt_missed, vt_paid, vt_losses])), (a_t_meanings, .inl (cI, 180, .inl t_meanings))] sz) := by
  refine mStart (cc := cX2_meaningOf) (maxL := 3) (ret := (some .int)) (by decide) rfl (Nat.le_of_ble_eq_true rfl) ?_
  intro p e s m below meth c A ls hx hb hml hr hts hown hlocks hnm hA hsz hAe hP hK hD hS hl
  have hl : lv_has ls 3 [(0, .ref a_t), (1, .int p1), (2, .int p2)] := hl
  rw [hAe]
  have k1 := hts (.fieldLink RX2 9 "DeafChain$Links" "meanings" "[I") (by decide +kernel)
  unfold fX2_meaningOf at hf
  obtain ⟨H, hH⟩ : ∃ H : Heap, H = s.heap := ⟨_, rfl⟩
  obtain ⟨locs, hlc⟩ : ∃ z : List Loc, z = [] := ⟨_, rfl⟩
  rw [← hlc, ← hH]
  have hP : va_P G vwCl [(a_t, .inr (2, [.ref a_t_meanings, vt_ears, vt_fees, vt_missed, vt_paid, vt_losses])), (a_t_meanings, .inl (cI, 180, .inl t_meanings))] H := by rw [hH]; exact hP
  have hS : va_S A s.heap H locs := by rw [hlc, hH]; exact hS
  refine lv_iload_n hx hb dX2_meaningOf_0 rfl (lv_at hl 1 rfl) ?_
  refine lv_if_lt (tgt := 20) hx hb dX2_meaningOf_1 (by decide) (fun c1 => ?_) (fun c1 => ?_)
  · have hf := pf_t hf c1
    refine lv_iconst (v := (-1)) hx hb dX2_meaningOf_20 (by decide) ?_
    obtain rfl := Option.some.inj hf
    exact mEnd_i () hx hb hr hlocks hP hK hD hS rfl rfl (Nat.le_refl _) (Nat.le_refl _) dX2_meaningOf_21
  · have hf := pf_f hf c1
    refine lv_iload_n hx hb dX2_meaningOf_4 rfl (lv_at hl 1 rfl) ?_
    refine lv_bipush (v := 6) hx hb dX2_meaningOf_5 (by decide) ?_
    refine lv_icmp_ge (tgt := 20) hx hb dX2_meaningOf_7 (by decide) (fun c2 => ?_) (fun c2 => ?_)
    · have hf := pf_t hf c2
      refine lv_iconst (v := (-1)) hx hb dX2_meaningOf_20 (by decide) ?_
      obtain rfl := Option.some.inj hf
      exact mEnd_i () hx hb hr hlocks hP hK hD hS rfl rfl (Nat.le_refl _) (Nat.le_refl _) dX2_meaningOf_21
    · have hf := pf_f hf c2
      refine lv_iload_n hx hb dX2_meaningOf_10 rfl (lv_at hl 2 rfl) ?_
      refine lv_if_lt (tgt := 20) hx hb dX2_meaningOf_11 (by decide) (fun c3 => ?_) (fun c3 => ?_)
      · have hf := pf_t hf c3
        refine lv_iconst (v := (-1)) hx hb dX2_meaningOf_20 (by decide) ?_
        obtain rfl := Option.some.inj hf
        exact mEnd_i () hx hb hr hlocks hP hK hD hS rfl rfl (Nat.le_refl _) (Nat.le_refl _) dX2_meaningOf_21
      · have hf := pf_f hf c3
        refine lv_iload_n hx hb dX2_meaningOf_14 rfl (lv_at hl 2 rfl) ?_
        refine lv_bipush (v := 30) hx hb dX2_meaningOf_15 (by decide) ?_
        refine lv_icmp_lt (tgt := 22) hx hb dX2_meaningOf_17 (by decide) (fun c4 => ?_) (fun c4 => ?_)
        · have hf := pf_t hf c4
          refine lv_aload_n hx hb dX2_meaningOf_22 rfl (lv_at hl 0 rfl) ?_
          refine va_get (D := G) (ci := 2) (v := .ref a_t_meanings) (C := RX2) (T := TX2) (N := 6) hx hb hts iwX2_meaningOf_X2 hown hK hP 0 rfl rfl 0 (by decide) k1 (fun _ h9 => h9) rfl dX2_meaningOf_23 ?_
          refine lv_iload_n hx hb dX2_meaningOf_26 rfl (lv_at hl 1 rfl) ?_
          refine lv_bipush (v := 30) hx hb dX2_meaningOf_27 (by decide) ?_
          refine lv_imul hx hb dX2_meaningOf_29 ?_
          refine lv_iload_n hx hb dX2_meaningOf_30 rfl (lv_at hl 2 rfl) ?_
          refine lv_iadd hx hb dX2_meaningOf_31 ?_
          obtain ⟨q5, hf⟩ := pf_k hf
          refine va_iald hx hb hK hP 1 0 rfl rfl q5 dX2_meaningOf_32 ?_
          obtain rfl := Option.some.inj hf
          exact mEnd_i () hx hb hr hlocks hP hK hD hS rfl rfl (Nat.le_refl _) (Nat.le_refl _) dX2_meaningOf_33
        · have hf := pf_f hf c4
          refine lv_iconst (v := (-1)) hx hb dX2_meaningOf_20 (by decide) ?_
          obtain rfl := Option.some.inj hf
          exact mEnd_i () hx hb hr hlocks hP hK hD hS rfl rfl (Nat.le_refl _) (Nat.le_refl _) dX2_meaningOf_21
def fX2_saidFor (p1 : Int32) (p2 : Int32) (t_meanings : Nat → Int32) : Option (Int32) :=
  ((fX2_meaningOf p1 p2 t_meanings).bind fun (u1 : Int32) => (if u1 = ((-1) : Int32) then some ((30 : Int32)) else some (u1)))
set_option maxHeartbeats 4000000 in
set_option maxRecDepth 100000 in
theorem mX2_saidFor (l : Launch) (G : va_G) (cI : ClassId) (a_t a_t_meanings : Nat) (sz : Nat) (vt_ears vt_fees vt_missed vt_paid vt_losses : Value) (t_meanings : Nat → Int32) (p1 : Int32) (p2 : Int32) (res : Int32) (hf : fX2_saidFor p1 p2 t_meanings = some res) : Met l yX2_saidFor wsX2_saidFor ({ frames := 1, cells := 0, slots := 0, locals := 22 }) (mPc G [(cI, .int)] [.ref a_t, .int p1, .int p2] sz [(a_t, .inr (2, [.ref a_t_meanings, vt_ears, vt_fees, vt_missed, vt_paid, vt_losses])), (a_t_meanings, .inl (cI, 180, .inl t_meanings))]) (mQi G [(cI, .int)] (va_A [(a_t, .inr (2, [.ref a_t_meanings, vt_ears, vt_fees, vt_missed, vt_paid, vt_losses])), (a_t_meanings, .inl (cI, 180, .inl t_meanings))] sz) (fun _ : Unit => res) (fun _ => [(a_t, .inr (2, [.ref a_t_meanings, vt_ears, vt_fees, vt_missed, vt_paid, vt_losses])), (a_t_meanings, .inl (cI, 180, .inl t_meanings))])) 0 0 (va_A [(a_t, .inr (2, [.ref a_t_meanings, vt_ears, vt_fees, vt_missed, vt_paid, vt_losses])), (a_t_meanings, .inl (cI, 180, .inl t_meanings))] sz) := by
  refine mStart (cc := cX2_saidFor) (maxL := 4) (ret := (some .int)) (by decide) rfl (Nat.le_of_ble_eq_true rfl) ?_
  intro p e s m below meth c A ls hx hb hml hr hts hown hlocks hnm hA hsz hAe hP hK hD hS hl
  have hl : lv_has ls 4 [(0, .ref a_t), (1, .int p1), (2, .int p2)] := hl
  rw [hAe]
  unfold fX2_saidFor at hf
  obtain ⟨H, hH⟩ : ∃ H : Heap, H = s.heap := ⟨_, rfl⟩
  obtain ⟨locs, hlc⟩ : ∃ z : List Loc, z = [] := ⟨_, rfl⟩
  rw [← hlc, ← hH]
  have hP : va_P G vwCl [(a_t, .inr (2, [.ref a_t_meanings, vt_ears, vt_fees, vt_missed, vt_paid, vt_losses])), (a_t_meanings, .inl (cI, 180, .inl t_meanings))] H := by rw [hH]; exact hP
  have hS : va_S A s.heap H locs := by rw [hlc, hH]; exact hS
  refine lv_aload_n hx hb dX2_saidFor_0 rfl (lv_at hl 0 rfl) ?_
  refine lv_iload_n hx hb dX2_saidFor_1 rfl (lv_at hl 1 rfl) ?_
  refine lv_iload_n hx hb dX2_saidFor_2 rfl (lv_at hl 2 rfl) ?_
  obtain ⟨u1, hu1, hf⟩ := pf_b hf
  refine mCallV_i (As := [.int p1, .int p2]) ⟨hx, hb, hml, hown, hts⟩ (mX2_meaningOf l G cI a_t a_t_meanings H.size vt_ears vt_fees vt_missed vt_paid vt_losses t_meanings p1 p2 _ hu1) (cwV 2 hts gX2_saidFor_X2_meaningOf rfl rfl rfl (by decide +kernel) ⟨Nat.le_of_ble_eq_true rfl, Nat.le_of_ble_eq_true rfl⟩) hP hD hS hA hK [0, 1] rfl (by decide) 0 2 rfl rfl rfl hK (fun _ => rfl) rfl hl.1 rfl (lv_room (Nat.le_of_ble_eq_true rfl)) dX2_saidFor_3 ⟨Nat.zero_le _, Nat.zero_le _⟩ (fun _ H locs hP hD hS => ?_)
  have hP : va_P G vwCl [(a_t, .inr (2, [.ref a_t_meanings, vt_ears, vt_fees, vt_missed, vt_paid, vt_losses])), (a_t_meanings, .inl (cI, 180, .inl t_meanings))] H := hP
  have hD : va_D A [(a_t, .inr (2, [.ref a_t_meanings, vt_ears, vt_fees, vt_missed, vt_paid, vt_losses])), (a_t_meanings, .inl (cI, 180, .inl t_meanings))] := hD
  refine lv_istore_n (lv' := [(3, .int u1), (0, .ref a_t), (1, .int p1), (2, .int p2)]) hx hb dX2_saidFor_6 rfl hl (by decide) rfl (fun ls hl => ?_)
  refine lv_iload_n hx hb dX2_saidFor_7 rfl (lv_at hl 0 rfl) ?_
  refine lv_iconst (v := (-1)) hx hb dX2_saidFor_8 (by decide) ?_
  refine lv_icmp_ne (tgt := 17) hx hb dX2_saidFor_9 (by decide) (fun c2 => ?_) (fun c2 => ?_)
  · have hf := pf_f hf c2
    refine lv_iload_n hx hb dX2_saidFor_17 rfl (lv_at hl 0 rfl) ?_
    obtain rfl := Option.some.inj hf
    exact mEnd_i () hx hb hr hlocks hP hK hD hS rfl rfl (Nat.le_refl _) (Nat.le_refl _) dX2_saidFor_18
  · have hf := pf_t hf c2
    refine lv_bipush (v := 30) hx hb dX2_saidFor_12 (by decide) ?_
    refine lv_goto (tgt := 18) hx hb dX2_saidFor_14 (by decide) ?_
    obtain rfl := Option.some.inj hf
    exact mEnd_i () hx hb hr hlocks hP hK hD hS rfl rfl (Nat.le_refl _) (Nat.le_refl _) dX2_saidFor_18
def bX2_lowestWith_1 (p1 : Int32) (p2 : Int32) (t_meanings : Nat → Int32) (k : Nat → Int32 → Option (Int32)) (x3 : Int32) : Option (Int32) :=
  (if (30 : Int32) ≤ x3 then some ((30 : Int32)) else (if ((p1 * (30 : Int32)) + x3) < 0 ∨ 180 ≤ ((p1 * (30 : Int32)) + x3).toNatClampNeg then none else (if (t_meanings ((p1 * (30 : Int32)) + x3).toNatClampNeg) = p2 then some (x3) else k 1 (x3 + 1))))
def sX2_lowestWith (p1 : Int32) (p2 : Int32) (t_meanings : Nat → Int32) (k : Nat → Int32 → Option (Int32)) (b : Nat) (x3 : Int32) : Option (Int32) := match b with
  | 1 => bX2_lowestWith_1 p1 p2 t_meanings k x3
  | _ => none
def rX2_lowestWith (p1 : Int32) (p2 : Int32) (t_meanings : Nat → Int32) : Nat → Nat → Int32 → Option (Int32)
  | 0 => fun _ _ => none
  | n + 1 => sX2_lowestWith p1 p2 t_meanings (rX2_lowestWith p1 p2 t_meanings n)
def eX2_lowestWith (p1 : Int32) (p2 : Int32) (t_meanings : Nat → Int32) (k : Nat → Int32 → Option (Int32)) : Option (Int32) :=
  (if p1 < 0 then some ((30 : Int32)) else (if p1 < (6 : Int32) then k 1 (0 : Int32) else some ((30 : Int32))))
def fX2_lowestWith (p1 : Int32) (p2 : Int32) (t_meanings : Nat → Int32) : Option (Int32) := eX2_lowestWith p1 p2 t_meanings (rX2_lowestWith p1 p2 t_meanings fuelN)
theorem iwX2_lowestWith_X2 : ∀ w ∈ u_ws RX2 TX2 6, w ∈ wsX2_lowestWith := by decide +kernel
set_option maxHeartbeats 4000000 in
set_option maxRecDepth 100000 in
theorem mX2_lowestWith (l : Launch) (G : va_G) (cI : ClassId) (a_t a_t_meanings : Nat) (sz : Nat) (vt_ears vt_fees vt_missed vt_paid vt_losses : Value) (t_meanings : Nat → Int32) (p1 : Int32) (p2 : Int32) (res : Int32) (hf : fX2_lowestWith p1 p2 t_meanings = some res) : Met l yX2_lowestWith wsX2_lowestWith ({ frames := 0, cells := 0, slots := 0, locals := 0 }) (mPc G [(cI, .int)] [.ref a_t, .int p1, .int p2] sz [(a_t, .inr (2, [.ref a_t_meanings, vt_ears, vt_fees, vt_missed, vt_paid, vt_losses])), (a_t_meanings, .inl (cI, 180, .inl t_meanings))]) (mQi G [(cI, .int)] (va_A [(a_t, .inr (2, [.ref a_t_meanings, vt_ears, vt_fees, vt_missed, vt_paid, vt_losses])), (a_t_meanings, .inl (cI, 180, .inl t_meanings))] sz) (fun _ : Unit => res) (fun _ => [(a_t, .inr (2, [.ref a_t_meanings, vt_ears, vt_fees, vt_missed, vt_paid, vt_losses])), (a_t_meanings, .inl (cI, 180, .inl t_meanings))])) 0 0 (va_A [(a_t, .inr (2, [.ref a_t_meanings, vt_ears, vt_fees, vt_missed, vt_paid, vt_losses])), (a_t_meanings, .inl (cI, 180, .inl t_meanings))] sz) := by
  refine mStart (cc := cX2_lowestWith) (maxL := 4) (ret := (some .int)) (by decide) rfl (Nat.le_of_ble_eq_true rfl) ?_
  intro p e s m below meth c A ls hx hb hml hr hts hown hlocks hnm hA hsz hAe hP hK hD hS hl
  have hl : lv_has ls 4 [(0, .ref a_t), (1, .int p1), (2, .int p2)] := hl
  rw [hAe]
  have k1 := hts (.fieldLink RX2 9 "DeafChain$Links" "meanings" "[I") (by decide +kernel)
  have key : ∀ n : Nat, (∀ (x3 : Int32) (H : Heap) (locs : List Loc) (hf : rX2_lowestWith p1 p2 t_meanings n 1 x3 = some res) (hP : va_P G vwCl [(a_t, .inr (2, [.ref a_t_meanings, vt_ears, vt_fees, vt_missed, vt_paid, vt_losses])), (a_t_meanings, .inl (cI, 180, .inl t_meanings))] H) (hD : va_D A [(a_t, .inr (2, [.ref a_t_meanings, vt_ears, vt_fees, vt_missed, vt_paid, vt_losses])), (a_t_meanings, .inl (cI, 180, .inl t_meanings))]) (hS : va_S A s.heap H locs) (ls : Array Slot) (hl : lv_has ls 4 [(0, .ref a_t), (1, .int p1), (2, .int p2), (3, .int x3)]), W p l e ({ frames := 0, cells := 0, slots := 0, locals := 0 } : Room) s m ([.ref a_t, .int p1, .int p2] : List Value).toArray below meth c H locs 0 0 (MQ below (mQi G [(cI, .int)] A (fun _ : Unit => res) (fun _ => [(a_t, .inr (2, [.ref a_t_meanings, vt_ears, vt_fees, vt_missed, vt_paid, vt_losses])), (a_t_meanings, .inl (cI, 180, .inl t_meanings))])) ([.ref a_t, .int p1, .int p2] : List Value).toArray s 0 0 A) (F0 m 15 ls [])) := by
    intro n
    induction n with
    | zero => exact fun _ H locs hf => by cases hf
    | succ n ih =>
      · intro x3 H locs hf hP hD hS ls hl
        replace hf : bX2_lowestWith_1 p1 p2 t_meanings (rX2_lowestWith p1 p2 t_meanings n) x3 = some res := hf
        unfold bX2_lowestWith_1 at hf
        refine lv_iload_n hx hb dX2_lowestWith_15 rfl (lv_at hl 3 rfl) ?_
        refine lv_bipush (v := 30) hx hb dX2_lowestWith_16 (by decide) ?_
        refine lv_icmp_ge (tgt := 44) hx hb dX2_lowestWith_18 (by decide) (fun c1 => ?_) (fun c1 => ?_)
        · have hf := pf_t hf c1
          refine lv_bipush (v := 30) hx hb dX2_lowestWith_44 (by decide) ?_
          obtain rfl := Option.some.inj hf
          exact mEnd_i () hx hb hr hlocks hP hK hD hS rfl rfl (Nat.le_refl _) (Nat.le_refl _) dX2_lowestWith_46
        · have hf := pf_f hf c1
          refine lv_aload_n hx hb dX2_lowestWith_21 rfl (lv_at hl 0 rfl) ?_
          refine va_get (D := G) (ci := 2) (v := .ref a_t_meanings) (C := RX2) (T := TX2) (N := 6) hx hb hts iwX2_lowestWith_X2 hown hK hP 0 rfl rfl 0 (by decide) k1 (fun _ h9 => h9) rfl dX2_lowestWith_22 ?_
          refine lv_iload_n hx hb dX2_lowestWith_25 rfl (lv_at hl 1 rfl) ?_
          refine lv_bipush (v := 30) hx hb dX2_lowestWith_26 (by decide) ?_
          refine lv_imul hx hb dX2_lowestWith_28 ?_
          refine lv_iload_n hx hb dX2_lowestWith_29 rfl (lv_at hl 3 rfl) ?_
          refine lv_iadd hx hb dX2_lowestWith_30 ?_
          obtain ⟨q2, hf⟩ := pf_k hf
          refine va_iald hx hb hK hP 1 0 rfl rfl q2 dX2_lowestWith_31 ?_
          refine lv_iload_n hx hb dX2_lowestWith_32 rfl (lv_at hl 2 rfl) ?_
          refine lv_icmp_ne (tgt := 38) hx hb dX2_lowestWith_33 (by decide) (fun c3 => ?_) (fun c3 => ?_)
          · have hf := pf_f hf c3
            refine lv_iinc (v := x3 + 1) (lv' := [(3, .int (x3 + 1)), (0, .ref a_t), (1, .int p1), (2, .int p2)]) hx hb dX2_lowestWith_38 hl (k := 3) rfl rfl (by decide) rfl (fun ls hl => ?_)
            refine lv_goto (tgt := 15) hx hb dX2_lowestWith_41 (by decide) ?_
            exact ih (x3 + 1) H locs hf hP hD hS ls (lv_sub hl [1, 2, 3, 0] rfl)
          · have hf := pf_t hf c3
            refine lv_iload_n hx hb dX2_lowestWith_36 rfl (lv_at hl 3 rfl) ?_
            obtain rfl := Option.some.inj hf
            exact mEnd_i () hx hb hr hlocks hP hK hD hS rfl rfl (Nat.le_refl _) (Nat.le_refl _) dX2_lowestWith_37
  unfold fX2_lowestWith eX2_lowestWith at hf
  obtain ⟨H, hH⟩ : ∃ H : Heap, H = s.heap := ⟨_, rfl⟩
  obtain ⟨locs, hlc⟩ : ∃ z : List Loc, z = [] := ⟨_, rfl⟩
  rw [← hlc, ← hH]
  have hP : va_P G vwCl [(a_t, .inr (2, [.ref a_t_meanings, vt_ears, vt_fees, vt_missed, vt_paid, vt_losses])), (a_t_meanings, .inl (cI, 180, .inl t_meanings))] H := by rw [hH]; exact hP
  have hS : va_S A s.heap H locs := by rw [hlc, hH]; exact hS
  refine lv_iload_n hx hb dX2_lowestWith_0 rfl (lv_at hl 1 rfl) ?_
  refine lv_if_lt (tgt := 10) hx hb dX2_lowestWith_1 (by decide) (fun c4 => ?_) (fun c4 => ?_)
  · have hf := pf_t hf c4
    refine lv_bipush (v := 30) hx hb dX2_lowestWith_10 (by decide) ?_
    obtain rfl := Option.some.inj hf
    exact mEnd_i () hx hb hr hlocks hP hK hD hS rfl rfl (Nat.le_refl _) (Nat.le_refl _) dX2_lowestWith_12
  · have hf := pf_f hf c4
    refine lv_iload_n hx hb dX2_lowestWith_4 rfl (lv_at hl 1 rfl) ?_
    refine lv_bipush (v := 6) hx hb dX2_lowestWith_5 (by decide) ?_
    refine lv_icmp_lt (tgt := 13) hx hb dX2_lowestWith_7 (by decide) (fun c5 => ?_) (fun c5 => ?_)
    · have hf := pf_t hf c5
      refine lv_iconst (v := 0) hx hb dX2_lowestWith_13 (by decide) ?_
      refine lv_istore_n (lv' := [(3, .int 0), (0, .ref a_t), (1, .int p1), (2, .int p2)]) hx hb dX2_lowestWith_14 rfl hl (by decide) rfl (fun ls hl => ?_)
      exact (key fuelN) (0 : Int32) H locs hf hP hD hS ls (lv_sub hl [1, 2, 3, 0] rfl)
    · have hf := pf_f hf c5
      refine lv_bipush (v := 30) hx hb dX2_lowestWith_10 (by decide) ?_
      obtain rfl := Option.some.inj hf
      exact mEnd_i () hx hb hr hlocks hP hK hD hS rfl rfl (Nat.le_refl _) (Nat.le_refl _) dX2_lowestWith_12
def fX2_backFor (p1 : Int32) (p2 : Int32) (t_meanings : Nat → Int32) : Option (Int32) :=
  ((fX2_meaningOf p1 p2 t_meanings).bind fun (u1 : Int32) => (if u1 = ((-1) : Int32) then some ((30 : Int32)) else ((fX2_lowestWith p1 u1 t_meanings).bind fun (u3 : Int32) => some (u3))))
set_option maxHeartbeats 4000000 in
set_option maxRecDepth 100000 in
theorem mX2_backFor (l : Launch) (G : va_G) (cI : ClassId) (a_t a_t_meanings : Nat) (sz : Nat) (vt_ears vt_fees vt_missed vt_paid vt_losses : Value) (t_meanings : Nat → Int32) (p1 : Int32) (p2 : Int32) (res : Int32) (hf : fX2_backFor p1 p2 t_meanings = some res) : Met l yX2_backFor wsX2_backFor ({ frames := 1, cells := 0, slots := 0, locals := 23 }) (mPc G [(cI, .int)] [.ref a_t, .int p1, .int p2] sz [(a_t, .inr (2, [.ref a_t_meanings, vt_ears, vt_fees, vt_missed, vt_paid, vt_losses])), (a_t_meanings, .inl (cI, 180, .inl t_meanings))]) (mQi G [(cI, .int)] (va_A [(a_t, .inr (2, [.ref a_t_meanings, vt_ears, vt_fees, vt_missed, vt_paid, vt_losses])), (a_t_meanings, .inl (cI, 180, .inl t_meanings))] sz) (fun _ : Unit => res) (fun _ => [(a_t, .inr (2, [.ref a_t_meanings, vt_ears, vt_fees, vt_missed, vt_paid, vt_losses])), (a_t_meanings, .inl (cI, 180, .inl t_meanings))])) 0 0 (va_A [(a_t, .inr (2, [.ref a_t_meanings, vt_ears, vt_fees, vt_missed, vt_paid, vt_losses])), (a_t_meanings, .inl (cI, 180, .inl t_meanings))] sz) := by
  refine mStart (cc := cX2_backFor) (maxL := 4) (ret := (some .int)) (by decide) rfl (Nat.le_of_ble_eq_true rfl) ?_
  intro p e s m below meth c A ls hx hb hml hr hts hown hlocks hnm hA hsz hAe hP hK hD hS hl
  have hl : lv_has ls 4 [(0, .ref a_t), (1, .int p1), (2, .int p2)] := hl
  rw [hAe]
  unfold fX2_backFor at hf
  obtain ⟨H, hH⟩ : ∃ H : Heap, H = s.heap := ⟨_, rfl⟩
  obtain ⟨locs, hlc⟩ : ∃ z : List Loc, z = [] := ⟨_, rfl⟩
  rw [← hlc, ← hH]
  have hP : va_P G vwCl [(a_t, .inr (2, [.ref a_t_meanings, vt_ears, vt_fees, vt_missed, vt_paid, vt_losses])), (a_t_meanings, .inl (cI, 180, .inl t_meanings))] H := by rw [hH]; exact hP
  have hS : va_S A s.heap H locs := by rw [hlc, hH]; exact hS
  refine lv_aload_n hx hb dX2_backFor_0 rfl (lv_at hl 0 rfl) ?_
  refine lv_iload_n hx hb dX2_backFor_1 rfl (lv_at hl 1 rfl) ?_
  refine lv_iload_n hx hb dX2_backFor_2 rfl (lv_at hl 2 rfl) ?_
  obtain ⟨u1, hu1, hf⟩ := pf_b hf
  refine mCallV_i (As := [.int p1, .int p2]) ⟨hx, hb, hml, hown, hts⟩ (mX2_meaningOf l G cI a_t a_t_meanings H.size vt_ears vt_fees vt_missed vt_paid vt_losses t_meanings p1 p2 _ hu1) (cwV 2 hts gX2_backFor_X2_meaningOf rfl rfl rfl (by decide +kernel) ⟨Nat.le_of_ble_eq_true rfl, Nat.le_of_ble_eq_true rfl⟩) hP hD hS hA hK [0, 1] rfl (by decide) 0 2 rfl rfl rfl hK (fun _ => rfl) rfl hl.1 rfl (lv_room (Nat.le_of_ble_eq_true rfl)) dX2_backFor_3 ⟨Nat.zero_le _, Nat.zero_le _⟩ (fun _ H locs hP hD hS => ?_)
  have hP : va_P G vwCl [(a_t, .inr (2, [.ref a_t_meanings, vt_ears, vt_fees, vt_missed, vt_paid, vt_losses])), (a_t_meanings, .inl (cI, 180, .inl t_meanings))] H := hP
  have hD : va_D A [(a_t, .inr (2, [.ref a_t_meanings, vt_ears, vt_fees, vt_missed, vt_paid, vt_losses])), (a_t_meanings, .inl (cI, 180, .inl t_meanings))] := hD
  refine lv_istore_n (lv' := [(3, .int u1), (0, .ref a_t), (1, .int p1), (2, .int p2)]) hx hb dX2_backFor_6 rfl hl (by decide) rfl (fun ls hl => ?_)
  refine lv_iload_n hx hb dX2_backFor_7 rfl (lv_at hl 0 rfl) ?_
  refine lv_iconst (v := (-1)) hx hb dX2_backFor_8 (by decide) ?_
  refine lv_icmp_ne (tgt := 17) hx hb dX2_backFor_9 (by decide) (fun c2 => ?_) (fun c2 => ?_)
  · have hf := pf_f hf c2
    refine lv_aload_n hx hb dX2_backFor_17 rfl (lv_at hl 1 rfl) ?_
    refine lv_iload_n hx hb dX2_backFor_18 rfl (lv_at hl 2 rfl) ?_
    refine lv_iload_n hx hb dX2_backFor_19 rfl (lv_at hl 0 rfl) ?_
    obtain ⟨u3, hu3, hf⟩ := pf_b hf
    refine mCallV_i (As := [.int p1, .int u1]) ⟨hx, hb, hml, hown, hts⟩ (mX2_lowestWith l G cI a_t a_t_meanings H.size vt_ears vt_fees vt_missed vt_paid vt_losses t_meanings p1 u1 _ hu3) (cwV 2 hts gX2_backFor_X2_lowestWith rfl rfl rfl (by decide +kernel) ⟨Nat.le_of_ble_eq_true rfl, Nat.le_of_ble_eq_true rfl⟩) hP hD hS hA hK [0, 1] rfl (by decide) 0 2 rfl rfl rfl hK (fun _ => rfl) rfl hl.1 rfl (lv_room (Nat.le_of_ble_eq_true rfl)) dX2_backFor_20 ⟨Nat.zero_le _, Nat.zero_le _⟩ (fun _ H locs hP hD hS => ?_)
    have hP : va_P G vwCl [(a_t, .inr (2, [.ref a_t_meanings, vt_ears, vt_fees, vt_missed, vt_paid, vt_losses])), (a_t_meanings, .inl (cI, 180, .inl t_meanings))] H := hP
    have hD : va_D A [(a_t, .inr (2, [.ref a_t_meanings, vt_ears, vt_fees, vt_missed, vt_paid, vt_losses])), (a_t_meanings, .inl (cI, 180, .inl t_meanings))] := hD
    obtain rfl := Option.some.inj hf
    exact mEnd_i () hx hb hr hlocks hP hK hD hS rfl rfl (Nat.le_refl _) (Nat.le_refl _) dX2_backFor_23
  · have hf := pf_t hf c2
    refine lv_bipush (v := 30) hx hb dX2_backFor_12 (by decide) ?_
    refine lv_goto (tgt := 23) hx hb dX2_backFor_14 (by decide) ?_
    obtain rfl := Option.some.inj hf
    exact mEnd_i () hx hb hr hlocks hP hK hD hS rfl rfl (Nat.le_refl _) (Nat.le_refl _) dX2_backFor_23
def bX2_lossOfWord_1 (p1 : Int32) (t_meanings : Nat → Int32) (k : Nat → Int32 → Int32 → Option (Int32)) (x2 : Int32) (x3 : Int32) : Option (Int32) :=
  (if (6 : Int32) ≤ x3 then some (((-1) : Int32)) else ((fX2_backFor x3 x2 t_meanings).bind fun (u2 : Int32) => (if u2 = x2 then ((fX2_saidFor x3 x2 t_meanings).bind fun (u4 : Int32) => k 1 u4 (x3 + 1)) else some (x3))))
def sX2_lossOfWord (p1 : Int32) (t_meanings : Nat → Int32) (k : Nat → Int32 → Int32 → Option (Int32)) (b : Nat) (x2 : Int32) (x3 : Int32) : Option (Int32) := match b with
  | 1 => bX2_lossOfWord_1 p1 t_meanings k x2 x3
  | _ => none
def rX2_lossOfWord (p1 : Int32) (t_meanings : Nat → Int32) : Nat → Nat → Int32 → Int32 → Option (Int32)
  | 0 => fun _ _ _ => none
  | n + 1 => sX2_lossOfWord p1 t_meanings (rX2_lossOfWord p1 t_meanings n)
def eX2_lossOfWord (p1 : Int32) (t_meanings : Nat → Int32) (k : Nat → Int32 → Int32 → Option (Int32)) : Option (Int32) :=
  k 1 p1 (0 : Int32)
def fX2_lossOfWord (p1 : Int32) (t_meanings : Nat → Int32) : Option (Int32) := eX2_lossOfWord p1 t_meanings (rX2_lossOfWord p1 t_meanings fuelN)
set_option maxHeartbeats 4000000 in
set_option maxRecDepth 100000 in
theorem mX2_lossOfWord (l : Launch) (G : va_G) (cI : ClassId) (a_t a_t_meanings : Nat) (sz : Nat) (vt_ears vt_fees vt_missed vt_paid vt_losses : Value) (t_meanings : Nat → Int32) (p1 : Int32) (res : Int32) (hf : fX2_lossOfWord p1 t_meanings = some res) : Met l yX2_lossOfWord wsX2_lossOfWord ({ frames := 2, cells := 0, slots := 0, locals := 46 }) (mPc G [(cI, .int)] [.ref a_t, .int p1] sz [(a_t, .inr (2, [.ref a_t_meanings, vt_ears, vt_fees, vt_missed, vt_paid, vt_losses])), (a_t_meanings, .inl (cI, 180, .inl t_meanings))]) (mQi G [(cI, .int)] (va_A [(a_t, .inr (2, [.ref a_t_meanings, vt_ears, vt_fees, vt_missed, vt_paid, vt_losses])), (a_t_meanings, .inl (cI, 180, .inl t_meanings))] sz) (fun _ : Unit => res) (fun _ => [(a_t, .inr (2, [.ref a_t_meanings, vt_ears, vt_fees, vt_missed, vt_paid, vt_losses])), (a_t_meanings, .inl (cI, 180, .inl t_meanings))])) 0 0 (va_A [(a_t, .inr (2, [.ref a_t_meanings, vt_ears, vt_fees, vt_missed, vt_paid, vt_losses])), (a_t_meanings, .inl (cI, 180, .inl t_meanings))] sz) := by
  refine mStart (cc := cX2_lossOfWord) (maxL := 4) (ret := (some .int)) (by decide) rfl (Nat.le_of_ble_eq_true rfl) ?_
  intro p e s m below meth c A ls hx hb hml hr hts hown hlocks hnm hA hsz hAe hP hK hD hS hl
  have hl : lv_has ls 4 [(0, .ref a_t), (1, .int p1)] := hl
  rw [hAe]
  have key : ∀ n : Nat, (∀ (x2 : Int32) (x3 : Int32) (H : Heap) (locs : List Loc) (hf : rX2_lossOfWord p1 t_meanings n 1 x2 x3 = some res) (hP : va_P G vwCl [(a_t, .inr (2, [.ref a_t_meanings, vt_ears, vt_fees, vt_missed, vt_paid, vt_losses])), (a_t_meanings, .inl (cI, 180, .inl t_meanings))] H) (hD : va_D A [(a_t, .inr (2, [.ref a_t_meanings, vt_ears, vt_fees, vt_missed, vt_paid, vt_losses])), (a_t_meanings, .inl (cI, 180, .inl t_meanings))]) (hS : va_S A s.heap H locs) (ls : Array Slot) (hl : lv_has ls 4 [(0, .ref a_t), (2, .int x2), (3, .int x3)]), W p l e ({ frames := 2, cells := 0, slots := 0, locals := 46 } : Room) s m ([.ref a_t, .int p1] : List Value).toArray below meth c H locs 0 0 (MQ below (mQi G [(cI, .int)] A (fun _ : Unit => res) (fun _ => [(a_t, .inr (2, [.ref a_t_meanings, vt_ears, vt_fees, vt_missed, vt_paid, vt_losses])), (a_t_meanings, .inl (cI, 180, .inl t_meanings))])) ([.ref a_t, .int p1] : List Value).toArray s 0 0 A) (F0 m 4 ls [])) := by
    intro n
    induction n with
    | zero => exact fun _ _ H locs hf => by cases hf
    | succ n ih =>
      · intro x2 x3 H locs hf hP hD hS ls hl
        replace hf : bX2_lossOfWord_1 p1 t_meanings (rX2_lossOfWord p1 t_meanings n) x2 x3 = some res := hf
        unfold bX2_lossOfWord_1 at hf
        refine lv_iload_n hx hb dX2_lossOfWord_4 rfl (lv_at hl 2 rfl) ?_
        refine lv_bipush (v := 6) hx hb dX2_lossOfWord_5 (by decide) ?_
        refine lv_icmp_ge (tgt := 35) hx hb dX2_lossOfWord_7 (by decide) (fun c1 => ?_) (fun c1 => ?_)
        · have hf := pf_t hf c1
          refine lv_iconst (v := (-1)) hx hb dX2_lossOfWord_35 (by decide) ?_
          obtain rfl := Option.some.inj hf
          exact mEnd_i () hx hb hr hlocks hP hK hD hS rfl rfl (Nat.le_refl _) (Nat.le_refl _) dX2_lossOfWord_36
        · have hf := pf_f hf c1
          refine lv_aload_n hx hb dX2_lossOfWord_10 rfl (lv_at hl 0 rfl) ?_
          refine lv_iload_n hx hb dX2_lossOfWord_11 rfl (lv_at hl 2 rfl) ?_
          refine lv_iload_n hx hb dX2_lossOfWord_12 rfl (lv_at hl 1 rfl) ?_
          obtain ⟨u2, hu2, hf⟩ := pf_b hf
          refine mCallV_i (As := [.int x3, .int x2]) ⟨hx, hb, hml, hown, hts⟩ (mX2_backFor l G cI a_t a_t_meanings H.size vt_ears vt_fees vt_missed vt_paid vt_losses t_meanings x3 x2 _ hu2) (cwV 2 hts gX2_lossOfWord_X2_backFor rfl rfl rfl (by decide +kernel) ⟨Nat.le_of_ble_eq_true rfl, Nat.le_of_ble_eq_true rfl⟩) hP hD hS hA hK [0, 1] rfl (by decide) 0 2 rfl rfl rfl hK (fun _ => rfl) rfl hl.1 rfl (lv_room (Nat.le_of_ble_eq_true rfl)) dX2_lossOfWord_13 ⟨Nat.zero_le _, Nat.zero_le _⟩ (fun _ H locs hP hD hS => ?_)
          have hP : va_P G vwCl [(a_t, .inr (2, [.ref a_t_meanings, vt_ears, vt_fees, vt_missed, vt_paid, vt_losses])), (a_t_meanings, .inl (cI, 180, .inl t_meanings))] H := hP
          have hD : va_D A [(a_t, .inr (2, [.ref a_t_meanings, vt_ears, vt_fees, vt_missed, vt_paid, vt_losses])), (a_t_meanings, .inl (cI, 180, .inl t_meanings))] := hD
          refine lv_iload_n hx hb dX2_lossOfWord_16 rfl (lv_at hl 1 rfl) ?_
          refine lv_icmp_eq (tgt := 22) hx hb dX2_lossOfWord_17 (by decide) (fun c3 => ?_) (fun c3 => ?_)
          · have hf := pf_t hf c3
            refine lv_aload_n hx hb dX2_lossOfWord_22 rfl (lv_at hl 0 rfl) ?_
            refine lv_iload_n hx hb dX2_lossOfWord_23 rfl (lv_at hl 2 rfl) ?_
            refine lv_iload_n hx hb dX2_lossOfWord_24 rfl (lv_at hl 1 rfl) ?_
            obtain ⟨u4, hu4, hf⟩ := pf_b hf
            refine mCallV_i (As := [.int x3, .int x2]) ⟨hx, hb, hml, hown, hts⟩ (mX2_saidFor l G cI a_t a_t_meanings H.size vt_ears vt_fees vt_missed vt_paid vt_losses t_meanings x3 x2 _ hu4) (cwV 2 hts gX2_lossOfWord_X2_saidFor rfl rfl rfl (by decide +kernel) ⟨Nat.le_of_ble_eq_true rfl, Nat.le_of_ble_eq_true rfl⟩) hP hD hS hA hK [0, 1] rfl (by decide) 0 2 rfl rfl rfl hK (fun _ => rfl) rfl hl.1 rfl (lv_room (Nat.le_of_ble_eq_true rfl)) dX2_lossOfWord_25 ⟨Nat.zero_le _, Nat.zero_le _⟩ (fun _ H locs hP hD hS => ?_)
            have hP : va_P G vwCl [(a_t, .inr (2, [.ref a_t_meanings, vt_ears, vt_fees, vt_missed, vt_paid, vt_losses])), (a_t_meanings, .inl (cI, 180, .inl t_meanings))] H := hP
            have hD : va_D A [(a_t, .inr (2, [.ref a_t_meanings, vt_ears, vt_fees, vt_missed, vt_paid, vt_losses])), (a_t_meanings, .inl (cI, 180, .inl t_meanings))] := hD
            refine lv_istore_n (lv' := [(2, .int u4), (0, .ref a_t), (3, .int x3)]) hx hb dX2_lossOfWord_28 rfl hl (by decide) rfl (fun ls hl => ?_)
            refine lv_iinc (v := x3 + 1) (lv' := [(3, .int (x3 + 1)), (2, .int u4), (0, .ref a_t)]) hx hb dX2_lossOfWord_29 hl (k := 2) rfl rfl (by decide) rfl (fun ls hl => ?_)
            refine lv_goto (tgt := 4) hx hb dX2_lossOfWord_32 (by decide) ?_
            exact ih u4 (x3 + 1) H locs hf hP hD hS ls (lv_sub hl [2, 1, 0] rfl)
          · have hf := pf_f hf c3
            refine lv_iload_n hx hb dX2_lossOfWord_20 rfl (lv_at hl 2 rfl) ?_
            obtain rfl := Option.some.inj hf
            exact mEnd_i () hx hb hr hlocks hP hK hD hS rfl rfl (Nat.le_refl _) (Nat.le_refl _) dX2_lossOfWord_21
  unfold fX2_lossOfWord eX2_lossOfWord at hf
  obtain ⟨H, hH⟩ : ∃ H : Heap, H = s.heap := ⟨_, rfl⟩
  obtain ⟨locs, hlc⟩ : ∃ z : List Loc, z = [] := ⟨_, rfl⟩
  rw [← hlc, ← hH]
  have hP : va_P G vwCl [(a_t, .inr (2, [.ref a_t_meanings, vt_ears, vt_fees, vt_missed, vt_paid, vt_losses])), (a_t_meanings, .inl (cI, 180, .inl t_meanings))] H := by rw [hH]; exact hP
  have hS : va_S A s.heap H locs := by rw [hlc, hH]; exact hS
  refine lv_iload_n hx hb dX2_lossOfWord_0 rfl (lv_at hl 1 rfl) ?_
  refine lv_istore_n (lv' := [(2, .int p1), (0, .ref a_t), (1, .int p1)]) hx hb dX2_lossOfWord_1 rfl hl (by decide) rfl (fun ls hl => ?_)
  refine lv_iconst (v := 0) hx hb dX2_lossOfWord_2 (by decide) ?_
  refine lv_istore_n (lv' := [(3, .int 0), (2, .int p1), (0, .ref a_t), (1, .int p1)]) hx hb dX2_lossOfWord_3 rfl hl (by decide) rfl (fun ls hl => ?_)
  exact (key fuelN) p1 (0 : Int32) H locs hf hP hD hS ls (lv_sub hl [2, 1, 0] rfl)

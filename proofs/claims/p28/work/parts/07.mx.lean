def fX2_meaningOf (p1 : Int32) (p2 : Int32) (t_meanings : Nat → Int32) : Option (Int32) :=
  (if p1 < 0 then some (((-1) : Int32)) else (if (6 : Int32) ≤ p1 then some (((-1) : Int32)) else (if p2 < 0 then some (((-1) : Int32)) else (if p2 < (30 : Int32) then (if ((p1 * (30 : Int32)) + p2) < 0 ∨ 180 ≤ ((p1 * (30 : Int32)) + p2).toNatClampNeg then none else some ((t_meanings ((p1 * (30 : Int32)) + p2).toNatClampNeg))) else some (((-1) : Int32))))))
theorem iwX2_meaningOf_X2 : ∀ w ∈ u_ws RX2 TX2 6, w ∈ wsX2_meaningOf := by decide +kernel
set_option maxHeartbeats 4000000 in
set_option maxRecDepth 100000 in
theorem mX2_meaningOf (l : Launch) (G : va_G) (cI : ClassId) (a_t a_t_meanings : Nat) (sz : Nat) (vt_ears vt_fees vt_missed vt_paid vt_losses : Value) (t_meanings : Nat → Int32) (p1 : Int32) (p2 : Int32) (res : Int32) (hf : fX2_meaningOf p1 p2 t_meanings = some res) : Met l yX2_meaningOf wsX2_meaningOf ({ frames := 0, cells := 0, slots := 0, locals := 0 }) (mPc G [(cI, .int)] [.ref a_t, .int p1, .int p2] sz [(a_t, .inr (2, [.ref a_t_meanings, vt_ears, vt_fees, vt_missed, vt_paid, vt_losses])), (a_t_meanings, .inl (cI, 180, .inl t_meanings))]) (mQi G [(cI, .int)] (va_A [(a_t, .inr (2, [.ref a_t_meanings, vt_ears, vt_fees, vt_missed, vt_paid, vt_losses])), (a_t_meanings, .inl (cI, 180, .inl t_meanings))] sz) (fun _ : Unit => res) (fun _ => [(a_t, .inr (2, [.ref a_t_meanings, vt_ears, vt_fees, vt_missed, vt_paid, vt_losses])), (a_t_meanings, .inl (cI, 180, .inl t_meanings))])) 0 0 (va_A [(a_t, .inr (2, [.ref a_t_meanings, vt_ears, vt_fees, vt_missed, vt_paid, vt_losses])), (a_t_meanings, .inl (cI, 180, .inl t_meanings))] sz) := by
  refine mStart (cc := cX2_meaningOf) (maxL := 3) (ret := (some .int)) (by decide) rfl (Nat.le_of_ble_eq_true rfl) ?_
  intro p e s m below meth c A ls hx hb hml hr hts hown hlocks hnm hA hsz hAe hP hK hD hS hl
  have hl : lv_has ls 3 [(0, .ref a_t), (1, .int p1), (2, .int p2)] := hl
  rw [hAe]
  have k1 := hts (.fieldLink RX2 9 "DeafChain$Links" "meanings" "[I") (by decide +kernel)
  unfold fX2_meaningOf at hf
  obtain ⟨H, hH⟩ : ∃ H : Heap, H = s.heap := ⟨_, rfl⟩
  obtain ⟨locs, hlc⟩ : ∃ z : List Loc, z = [] := ⟨_, rfl⟩
  rw [← hlc, ← hH]
  have hP : va_P G vwCl [(a_t, .inr (2, [.ref a_t_meanings, vt_ears, vt_fees, vt_missed, vt_paid, vt_losses])), (a_t_meanings, .inl (cI, 180, .inl t_meanings))] H := by rw [hH]; exact hP
  have hS : va_S A s.heap H locs := by rw [hlc, hH]; exact hS
  refine lv_iload_n hx hb dX2_meaningOf_0 rfl (lv_at hl 1 rfl) ?_
  refine lv_if_lt (tgt := 20) hx hb dX2_meaningOf_1 (by decide) (fun c1 => ?_) (fun c1 => ?_)
  · have hf := pf_t hf c1
    refine lv_iconst (v := (-1)) hx hb dX2_meaningOf_20 (by decide) ?_
    obtain rfl := Option.some.inj hf
    exact mEnd_i () hx hb hr hlocks hP hK hD hS rfl rfl (Nat.le_refl _) (Nat.le_refl _) dX2_meaningOf_21
  · have hf := pf_f hf c1
    refine lv_iload_n hx hb dX2_meaningOf_4 rfl (lv_at hl 1 rfl) ?_
    refine lv_bipush (v := 6) hx hb dX2_meaningOf_5 (by decide) ?_
    refine lv_icmp_ge (tgt := 20) hx hb dX2_meaningOf_7 (by decide) (fun c2 => ?_) (fun c2 => ?_)
    · have hf := pf_t hf c2
      refine lv_iconst (v := (-1)) hx hb dX2_meaningOf_20 (by decide) ?_
      obtain rfl := Option.some.inj hf
      exact mEnd_i () hx hb hr hlocks hP hK hD hS rfl rfl (Nat.le_refl _) (Nat.le_refl _) dX2_meaningOf_21
    · have hf := pf_f hf c2
      refine lv_iload_n hx hb dX2_meaningOf_10 rfl (lv_at hl 2 rfl) ?_
      refine lv_if_lt (tgt := 20) hx hb dX2_meaningOf_11 (by decide) (fun c3 => ?_) (fun c3 => ?_)
      · have hf := pf_t hf c3
        refine lv_iconst (v := (-1)) hx hb dX2_meaningOf_20 (by decide) ?_
        obtain rfl := Option.some.inj hf
        exact mEnd_i () hx hb hr hlocks hP hK hD hS rfl rfl (Nat.le_refl _) (Nat.le_refl _) dX2_meaningOf_21
      · have hf := pf_f hf c3
        refine lv_iload_n hx hb dX2_meaningOf_14 rfl (lv_at hl 2 rfl) ?_
        refine lv_bipush (v := 30) hx hb dX2_meaningOf_15 (by decide) ?_
        refine lv_icmp_lt (tgt := 22) hx hb dX2_meaningOf_17 (by decide) (fun c4 => ?_) (fun c4 => ?_)
        · have hf := pf_t hf c4
          refine lv_aload_n hx hb dX2_meaningOf_22 rfl (lv_at hl 0 rfl) ?_
          refine va_get (D := G) (ci := 2) (v := .ref a_t_meanings) (C := RX2) (T := TX2) (N := 6) hx hb hts iwX2_meaningOf_X2 hown hK hP 0 rfl rfl 0 (by decide) k1 (fun _ h9 => h9) rfl dX2_meaningOf_23 ?_
          refine lv_iload_n hx hb dX2_meaningOf_26 rfl (lv_at hl 1 rfl) ?_
          refine lv_bipush (v := 30) hx hb dX2_meaningOf_27 (by decide) ?_
          refine lv_imul hx hb dX2_meaningOf_29 ?_
          refine lv_iload_n hx hb dX2_meaningOf_30 rfl (lv_at hl 2 rfl) ?_
          refine lv_iadd hx hb dX2_meaningOf_31 ?_
          obtain ⟨q5, hf⟩ := pf_k hf
          refine va_iald hx hb hK hP 1 0 rfl rfl q5 dX2_meaningOf_32 ?_
          obtain rfl := Option.some.inj hf
          exact mEnd_i () hx hb hr hlocks hP hK hD hS rfl rfl (Nat.le_refl _) (Nat.le_refl _) dX2_meaningOf_33
        · have hf := pf_f hf c4
          refine lv_iconst (v := (-1)) hx hb dX2_meaningOf_20 (by decide) ?_
          obtain rfl := Option.some.inj hf
          exact mEnd_i () hx hb hr hlocks hP hK hD hS rfl rfl (Nat.le_refl _) (Nat.le_refl _) dX2_meaningOf_21
def fX2_saidFor (p1 : Int32) (p2 : Int32) (t_meanings : Nat → Int32) : Option (Int32) :=
  ((fX2_meaningOf p1 p2 t_meanings).bind fun (u1 : Int32) => (if u1 = ((-1) : Int32) then some ((30 : Int32)) else some (u1)))
set_option maxHeartbeats 4000000 in
set_option maxRecDepth 100000 in
theorem mX2_saidFor (l : Launch) (G : va_G) (cI : ClassId) (a_t a_t_meanings : Nat) (sz : Nat) (vt_ears vt_fees vt_missed vt_paid vt_losses : Value) (t_meanings : Nat → Int32) (p1 : Int32) (p2 : Int32) (res : Int32) (hf : fX2_saidFor p1 p2 t_meanings = some res) : Met l yX2_saidFor wsX2_saidFor ({ frames := 1, cells := 0, slots := 0, locals := 22 }) (mPc G [(cI, .int)] [.ref a_t, .int p1, .int p2] sz [(a_t, .inr (2, [.ref a_t_meanings, vt_ears, vt_fees, vt_missed, vt_paid, vt_losses])), (a_t_meanings, .inl (cI, 180, .inl t_meanings))]) (mQi G [(cI, .int)] (va_A [(a_t, .inr (2, [.ref a_t_meanings, vt_ears, vt_fees, vt_missed, vt_paid, vt_losses])), (a_t_meanings, .inl (cI, 180, .inl t_meanings))] sz) (fun _ : Unit => res) (fun _ => [(a_t, .inr (2, [.ref a_t_meanings, vt_ears, vt_fees, vt_missed, vt_paid, vt_losses])), (a_t_meanings, .inl (cI, 180, .inl t_meanings))])) 0 0 (va_A [(a_t, .inr (2, [.ref a_t_meanings, vt_ears, vt_fees, vt_missed, vt_paid, vt_losses])), (a_t_meanings, .inl (cI, 180, .inl t_meanings))] sz) := by
  refine mStart (cc := cX2_saidFor) (maxL := 4) (ret := (some .int)) (by decide) rfl (Nat.le_of_ble_eq_true rfl) ?_
  intro p e s m below meth c A ls hx hb hml hr hts hown hlocks hnm hA hsz hAe hP hK hD hS hl
  have hl : lv_has ls 4 [(0, .ref a_t), (1, .int p1), (2, .int p2)] := hl
  rw [hAe]
  unfold fX2_saidFor at hf
  obtain ⟨H, hH⟩ : ∃ H : Heap, H = s.heap := ⟨_, rfl⟩
  obtain ⟨locs, hlc⟩ : ∃ z : List Loc, z = [] := ⟨_, rfl⟩
  rw [← hlc, ← hH]
  have hP : va_P G vwCl [(a_t, .inr (2, [.ref a_t_meanings, vt_ears, vt_fees, vt_missed, vt_paid, vt_losses])), (a_t_meanings, .inl (cI, 180, .inl t_meanings))] H := by rw [hH]; exact hP
  have hS : va_S A s.heap H locs := by rw [hlc, hH]; exact hS
  refine lv_aload_n hx hb dX2_saidFor_0 rfl (lv_at hl 0 rfl) ?_
  refine lv_iload_n hx hb dX2_saidFor_1 rfl (lv_at hl 1 rfl) ?_
  refine lv_iload_n hx hb dX2_saidFor_2 rfl (lv_at hl 2 rfl) ?_
  obtain ⟨u1, hu1, hf⟩ := pf_b hf
  refine mCallV_i (As := [.int p1, .int p2]) ⟨hx, hb, hml, hown, hts⟩ (mX2_meaningOf l G cI a_t a_t_meanings H.size vt_ears vt_fees vt_missed vt_paid vt_losses t_meanings p1 p2 _ hu1) (cwV 2 hts gX2_saidFor_X2_meaningOf rfl rfl rfl (by decide +kernel) ⟨Nat.le_of_ble_eq_true rfl, Nat.le_of_ble_eq_true rfl⟩) hP hD hS hA hK [0, 1] rfl (by decide) 0 2 rfl rfl rfl hK [a_t, a_t_meanings] (fun _ => rfl) rfl (fun _ => [(a_t, .inr (2, [.ref a_t_meanings, vt_ears, vt_fees, vt_missed, vt_paid, vt_losses])), (a_t_meanings, .inl (cI, 180, .inl t_meanings))]) [a_t, a_t_meanings] (fun _ => rfl) rfl (fun _ => rfl) [] [] (fun _ => rfl) rfl 2 rfl rfl rfl hl.1 rfl (lv_room (Nat.le_of_ble_eq_true rfl)) dX2_saidFor_3 ⟨Nat.zero_le _, Nat.zero_le _⟩ (fun _ H locs hP hD hS => ?_)
  have hP : va_P G vwCl [(a_t, .inr (2, [.ref a_t_meanings, vt_ears, vt_fees, vt_missed, vt_paid, vt_losses])), (a_t_meanings, .inl (cI, 180, .inl t_meanings))] H := hP
  have hD : va_D A [(a_t, .inr (2, [.ref a_t_meanings, vt_ears, vt_fees, vt_missed, vt_paid, vt_losses])), (a_t_meanings, .inl (cI, 180, .inl t_meanings))] := hD
  refine lv_istore_n (lv' := [(3, .int u1), (0, .ref a_t), (1, .int p1), (2, .int p2)]) hx hb dX2_saidFor_6 rfl hl (by decide) rfl (fun ls hl => ?_)
  refine lv_iload_n hx hb dX2_saidFor_7 rfl (lv_at hl 0 rfl) ?_
  refine lv_iconst (v := (-1)) hx hb dX2_saidFor_8 (by decide) ?_
  refine lv_icmp_ne (tgt := 17) hx hb dX2_saidFor_9 (by decide) (fun c2 => ?_) (fun c2 => ?_)
  · have hf := pf_f hf c2
    refine lv_iload_n hx hb dX2_saidFor_17 rfl (lv_at hl 0 rfl) ?_
    obtain rfl := Option.some.inj hf
    exact mEnd_i () hx hb hr hlocks hP hK hD hS rfl rfl (Nat.le_refl _) (Nat.le_refl _) dX2_saidFor_18
  · have hf := pf_t hf c2
    refine lv_bipush (v := 30) hx hb dX2_saidFor_12 (by decide) ?_
    refine lv_goto (tgt := 18) hx hb dX2_saidFor_14 (by decide) ?_
    obtain rfl := Option.some.inj hf
    exact mEnd_i () hx hb hr hlocks hP hK hD hS rfl rfl (Nat.le_refl _) (Nat.le_refl _) dX2_saidFor_18
def bX2_lowestWith_1 (p1 : Int32) (p2 : Int32) (t_meanings : Nat → Int32) (k : Nat → Int32 → Option (Int32)) (x3 : Int32) : Option (Int32) :=
  (if (30 : Int32) ≤ x3 then some ((30 : Int32)) else (if ((p1 * (30 : Int32)) + x3) < 0 ∨ 180 ≤ ((p1 * (30 : Int32)) + x3).toNatClampNeg then none else (if (t_meanings ((p1 * (30 : Int32)) + x3).toNatClampNeg) = p2 then some (x3) else k 1 (x3 + 1))))
def sX2_lowestWith (p1 : Int32) (p2 : Int32) (t_meanings : Nat → Int32) (k : Nat → Int32 → Option (Int32)) (b : Nat) (x3 : Int32) : Option (Int32) := match b with
  | 1 => bX2_lowestWith_1 p1 p2 t_meanings k x3
  | _ => none
def rX2_lowestWith (p1 : Int32) (p2 : Int32) (t_meanings : Nat → Int32) : Nat → Nat → Int32 → Option (Int32)
  | 0 => fun _ _ => none
  | n + 1 => sX2_lowestWith p1 p2 t_meanings (rX2_lowestWith p1 p2 t_meanings n)
def eX2_lowestWith (p1 : Int32) (p2 : Int32) (t_meanings : Nat → Int32) (k : Nat → Int32 → Option (Int32)) : Option (Int32) :=
  (if p1 < 0 then some ((30 : Int32)) else (if p1 < (6 : Int32) then k 1 (0 : Int32) else some ((30 : Int32))))
def fX2_lowestWith (p1 : Int32) (p2 : Int32) (t_meanings : Nat → Int32) : Option (Int32) := eX2_lowestWith p1 p2 t_meanings (rX2_lowestWith p1 p2 t_meanings fuelN)
theorem iwX2_lowestWith_X2 : ∀ w ∈ u_ws RX2 TX2 6, w ∈ wsX2_lowestWith := by decide +kernel
set_option maxHeartbeats 4000000 in
set_option maxRecDepth 100000 in
theorem mX2_lowestWith (l : Launch) (G : va_G) (cI : ClassId) (a_t a_t_meanings : Nat) (sz : Nat) (vt_ears vt_fees vt_missed vt_paid vt_losses : Value) (t_meanings : Nat → Int32) (p1 : Int32) (p2 : Int32) (res : Int32) (hf : fX2_lowestWith p1 p2 t_meanings = some res) : Met l yX2_lowestWith wsX2_lowestWith ({ frames := 0, cells := 0, slots := 0, locals := 0 }) (mPc G [(cI, .int)] [.ref a_t, .int p1, .int p2] sz [(a_t, .inr (2, [.ref a_t_meanings, vt_ears, vt_fees, vt_missed, vt_paid, vt_losses])), (a_t_meanings, .inl (cI, 180, .inl t_meanings))]) (mQi G [(cI, .int)] (va_A [(a_t, .inr (2, [.ref a_t_meanings, vt_ears, vt_fees, vt_missed, vt_paid, vt_losses])), (a_t_meanings, .inl (cI, 180, .inl t_meanings))] sz) (fun _ : Unit => res) (fun _ => [(a_t, .inr (2, [.ref a_t_meanings, vt_ears, vt_fees, vt_missed, vt_paid, vt_losses])), (a_t_meanings, .inl (cI, 180, .inl t_meanings))])) 0 0 (va_A [(a_t, .inr (2, [.ref a_t_meanings, vt_ears, vt_fees, vt_missed, vt_paid, vt_losses])), (a_t_meanings, .inl (cI, 180, .inl t_meanings))] sz) := by
  refine mStart (cc := cX2_lowestWith) (maxL := 4) (ret := (some .int)) (by decide) rfl (Nat.le_of_ble_eq_true rfl) ?_
  intro p e s m below meth c A ls hx hb hml hr hts hown hlocks hnm hA hsz hAe hP hK hD hS hl
  have hl : lv_has ls 4 [(0, .ref a_t), (1, .int p1), (2, .int p2)] := hl
  rw [hAe]
  have k1 := hts (.fieldLink RX2 9 "DeafChain$Links" "meanings" "[I") (by decide +kernel)
  have key : ∀ n : Nat, (∀ (x3 : Int32) (H : Heap) (locs : List Loc) (hf : rX2_lowestWith p1 p2 t_meanings n 1 x3 = some res) (hP : va_P G vwCl [(a_t, .inr (2, [.ref a_t_meanings, vt_ears, vt_fees, vt_missed, vt_paid, vt_losses])), (a_t_meanings, .inl (cI, 180, .inl t_meanings))] H) (hD : va_D A [(a_t, .inr (2, [.ref a_t_meanings, vt_ears, vt_fees, vt_missed, vt_paid, vt_losses])), (a_t_meanings, .inl (cI, 180, .inl t_meanings))]) (hS : va_S A s.heap H locs) (ls : Array Slot) (hl : lv_has ls 4 [(0, .ref a_t), (1, .int p1), (2, .int p2), (3, .int x3)]), W p l e ({ frames := 0, cells := 0, slots := 0, locals := 0 } : Room) s m ([.ref a_t, .int p1, .int p2] : List Value).toArray below meth c H locs 0 0 (MQ below (mQi G [(cI, .int)] A (fun _ : Unit => res) (fun _ => [(a_t, .inr (2, [.ref a_t_meanings, vt_ears, vt_fees, vt_missed, vt_paid, vt_losses])), (a_t_meanings, .inl (cI, 180, .inl t_meanings))])) ([.ref a_t, .int p1, .int p2] : List Value).toArray s 0 0 A) (F0 m 15 ls [])) := by
    intro n
    induction n with
    | zero => exact (fun _ H locs hf => (by cases hf))
    | succ n ih =>
      · intro  x3 H locs hf hP hD hS ls hl
        replace hf : bX2_lowestWith_1 p1 p2 t_meanings (rX2_lowestWith p1 p2 t_meanings n) x3 = some res := hf
        unfold bX2_lowestWith_1 at hf
        refine lv_iload_n hx hb dX2_lowestWith_15 rfl (lv_at hl 3 rfl) ?_
        refine lv_bipush (v := 30) hx hb dX2_lowestWith_16 (by decide) ?_
        refine lv_icmp_ge (tgt := 44) hx hb dX2_lowestWith_18 (by decide) (fun c1 => ?_) (fun c1 => ?_)
        · have hf := pf_t hf c1
          refine lv_bipush (v := 30) hx hb dX2_lowestWith_44 (by decide) ?_
          obtain rfl := Option.some.inj hf
          exact mEnd_i () hx hb hr hlocks hP hK hD hS rfl rfl (Nat.le_refl _) (Nat.le_refl _) dX2_lowestWith_46
        · have hf := pf_f hf c1
          refine lv_aload_n hx hb dX2_lowestWith_21 rfl (lv_at hl 0 rfl) ?_
          refine va_get (D := G) (ci := 2) (v := .ref a_t_meanings) (C := RX2) (T := TX2) (N := 6) hx hb hts iwX2_lowestWith_X2 hown hK hP 0 rfl rfl 0 (by decide) k1 (fun _ h9 => h9) rfl dX2_lowestWith_22 ?_
          refine lv_iload_n hx hb dX2_lowestWith_25 rfl (lv_at hl 1 rfl) ?_
          refine lv_bipush (v := 30) hx hb dX2_lowestWith_26 (by decide) ?_
          refine lv_imul hx hb dX2_lowestWith_28 ?_
          refine lv_iload_n hx hb dX2_lowestWith_29 rfl (lv_at hl 3 rfl) ?_
          refine lv_iadd hx hb dX2_lowestWith_30 ?_
          obtain ⟨q2, hf⟩ := pf_k hf
          refine va_iald hx hb hK hP 1 0 rfl rfl q2 dX2_lowestWith_31 ?_
          refine lv_iload_n hx hb dX2_lowestWith_32 rfl (lv_at hl 2 rfl) ?_
          refine lv_icmp_ne (tgt := 38) hx hb dX2_lowestWith_33 (by decide) (fun c3 => ?_) (fun c3 => ?_)
          · have hf := pf_f hf c3
            refine lv_iinc (v := x3 + 1) (lv' := [(3, .int (x3 + 1)), (0, .ref a_t), (1, .int p1), (2, .int p2)]) hx hb dX2_lowestWith_38 hl (k := 3) rfl rfl (by decide) rfl (fun ls hl => ?_)
            refine lv_goto (tgt := 15) hx hb dX2_lowestWith_41 (by decide) ?_
            exact ih (x3 + 1) H locs hf hP hD hS ls (lv_sub hl [1, 2, 3, 0] rfl)
          · have hf := pf_t hf c3
            refine lv_iload_n hx hb dX2_lowestWith_36 rfl (lv_at hl 3 rfl) ?_
            obtain rfl := Option.some.inj hf
            exact mEnd_i () hx hb hr hlocks hP hK hD hS rfl rfl (Nat.le_refl _) (Nat.le_refl _) dX2_lowestWith_37
  unfold fX2_lowestWith eX2_lowestWith at hf
  obtain ⟨H, hH⟩ : ∃ H : Heap, H = s.heap := ⟨_, rfl⟩
  obtain ⟨locs, hlc⟩ : ∃ z : List Loc, z = [] := ⟨_, rfl⟩
  rw [← hlc, ← hH]
  have hP : va_P G vwCl [(a_t, .inr (2, [.ref a_t_meanings, vt_ears, vt_fees, vt_missed, vt_paid, vt_losses])), (a_t_meanings, .inl (cI, 180, .inl t_meanings))] H := by rw [hH]; exact hP
  have hS : va_S A s.heap H locs := by rw [hlc, hH]; exact hS
  refine lv_iload_n hx hb dX2_lowestWith_0 rfl (lv_at hl 1 rfl) ?_
  refine lv_if_lt (tgt := 10) hx hb dX2_lowestWith_1 (by decide) (fun c4 => ?_) (fun c4 => ?_)
  · have hf := pf_t hf c4
    refine lv_bipush (v := 30) hx hb dX2_lowestWith_10 (by decide) ?_
    obtain rfl := Option.some.inj hf
    exact mEnd_i () hx hb hr hlocks hP hK hD hS rfl rfl (Nat.le_refl _) (Nat.le_refl _) dX2_lowestWith_12
  · have hf := pf_f hf c4
    refine lv_iload_n hx hb dX2_lowestWith_4 rfl (lv_at hl 1 rfl) ?_
    refine lv_bipush (v := 6) hx hb dX2_lowestWith_5 (by decide) ?_
    refine lv_icmp_lt (tgt := 13) hx hb dX2_lowestWith_7 (by decide) (fun c5 => ?_) (fun c5 => ?_)
    · have hf := pf_t hf c5
      refine lv_iconst (v := 0) hx hb dX2_lowestWith_13 (by decide) ?_
      refine lv_istore_n (lv' := [(3, .int 0), (0, .ref a_t), (1, .int p1), (2, .int p2)]) hx hb dX2_lowestWith_14 rfl hl (by decide) rfl (fun ls hl => ?_)
      exact (key fuelN) (0 : Int32) H locs hf hP hD hS ls (lv_sub hl [1, 2, 3, 0] rfl)
    · have hf := pf_f hf c5
      refine lv_bipush (v := 30) hx hb dX2_lowestWith_10 (by decide) ?_
      obtain rfl := Option.some.inj hf
      exact mEnd_i () hx hb hr hlocks hP hK hD hS rfl rfl (Nat.le_refl _) (Nat.le_refl _) dX2_lowestWith_12
def fX2_backFor (p1 : Int32) (p2 : Int32) (t_meanings : Nat → Int32) : Option (Int32) :=
  ((fX2_meaningOf p1 p2 t_meanings).bind fun (u1 : Int32) => (if u1 = ((-1) : Int32) then some ((30 : Int32)) else ((fX2_lowestWith p1 u1 t_meanings).bind fun (u3 : Int32) => some (u3))))
set_option maxHeartbeats 4000000 in
set_option maxRecDepth 100000 in
theorem mX2_backFor (l : Launch) (G : va_G) (cI : ClassId) (a_t a_t_meanings : Nat) (sz : Nat) (vt_ears vt_fees vt_missed vt_paid vt_losses : Value) (t_meanings : Nat → Int32) (p1 : Int32) (p2 : Int32) (res : Int32) (hf : fX2_backFor p1 p2 t_meanings = some res) : Met l yX2_backFor wsX2_backFor ({ frames := 1, cells := 0, slots := 0, locals := 23 }) (mPc G [(cI, .int)] [.ref a_t, .int p1, .int p2] sz [(a_t, .inr (2, [.ref a_t_meanings, vt_ears, vt_fees, vt_missed, vt_paid, vt_losses])), (a_t_meanings, .inl (cI, 180, .inl t_meanings))]) (mQi G [(cI, .int)] (va_A [(a_t, .inr (2, [.ref a_t_meanings, vt_ears, vt_fees, vt_missed, vt_paid, vt_losses])), (a_t_meanings, .inl (cI, 180, .inl t_meanings))] sz) (fun _ : Unit => res) (fun _ => [(a_t, .inr (2, [.ref a_t_meanings, vt_ears, vt_fees, vt_missed, vt_paid, vt_losses])), (a_t_meanings, .inl (cI, 180, .inl t_meanings))])) 0 0 (va_A [(a_t, .inr (2, [.ref a_t_meanings, vt_ears, vt_fees, vt_missed, vt_paid, vt_losses])), (a_t_meanings, .inl (cI, 180, .inl t_meanings))] sz) := by
  refine mStart (cc := cX2_backFor) (maxL := 4) (ret := (some .int)) (by decide) rfl (Nat.le_of_ble_eq_true rfl) ?_
  intro p e s m below meth c A ls hx hb hml hr hts hown hlocks hnm hA hsz hAe hP hK hD hS hl
  have hl : lv_has ls 4 [(0, .ref a_t), (1, .int p1), (2, .int p2)] := hl
  rw [hAe]
  unfold fX2_backFor at hf
  obtain ⟨H, hH⟩ : ∃ H : Heap, H = s.heap := ⟨_, rfl⟩
  obtain ⟨locs, hlc⟩ : ∃ z : List Loc, z = [] := ⟨_, rfl⟩
  rw [← hlc, ← hH]
  have hP : va_P G vwCl [(a_t, .inr (2, [.ref a_t_meanings, vt_ears, vt_fees, vt_missed, vt_paid, vt_losses])), (a_t_meanings, .inl (cI, 180, .inl t_meanings))] H := by rw [hH]; exact hP
  have hS : va_S A s.heap H locs := by rw [hlc, hH]; exact hS
  refine lv_aload_n hx hb dX2_backFor_0 rfl (lv_at hl 0 rfl) ?_
  refine lv_iload_n hx hb dX2_backFor_1 rfl (lv_at hl 1 rfl) ?_
  refine lv_iload_n hx hb dX2_backFor_2 rfl (lv_at hl 2 rfl) ?_
  obtain ⟨u1, hu1, hf⟩ := pf_b hf
  refine mCallV_i (As := [.int p1, .int p2]) ⟨hx, hb, hml, hown, hts⟩ (mX2_meaningOf l G cI a_t a_t_meanings H.size vt_ears vt_fees vt_missed vt_paid vt_losses t_meanings p1 p2 _ hu1) (cwV 2 hts gX2_backFor_X2_meaningOf rfl rfl rfl (by decide +kernel) ⟨Nat.le_of_ble_eq_true rfl, Nat.le_of_ble_eq_true rfl⟩) hP hD hS hA hK [0, 1] rfl (by decide) 0 2 rfl rfl rfl hK [a_t, a_t_meanings] (fun _ => rfl) rfl (fun _ => [(a_t, .inr (2, [.ref a_t_meanings, vt_ears, vt_fees, vt_missed, vt_paid, vt_losses])), (a_t_meanings, .inl (cI, 180, .inl t_meanings))]) [a_t, a_t_meanings] (fun _ => rfl) rfl (fun _ => rfl) [] [] (fun _ => rfl) rfl 2 rfl rfl rfl hl.1 rfl (lv_room (Nat.le_of_ble_eq_true rfl)) dX2_backFor_3 ⟨Nat.zero_le _, Nat.zero_le _⟩ (fun _ H locs hP hD hS => ?_)
  have hP : va_P G vwCl [(a_t, .inr (2, [.ref a_t_meanings, vt_ears, vt_fees, vt_missed, vt_paid, vt_losses])), (a_t_meanings, .inl (cI, 180, .inl t_meanings))] H := hP
  have hD : va_D A [(a_t, .inr (2, [.ref a_t_meanings, vt_ears, vt_fees, vt_missed, vt_paid, vt_losses])), (a_t_meanings, .inl (cI, 180, .inl t_meanings))] := hD
  refine lv_istore_n (lv' := [(3, .int u1), (0, .ref a_t), (1, .int p1), (2, .int p2)]) hx hb dX2_backFor_6 rfl hl (by decide) rfl (fun ls hl => ?_)
  refine lv_iload_n hx hb dX2_backFor_7 rfl (lv_at hl 0 rfl) ?_
  refine lv_iconst (v := (-1)) hx hb dX2_backFor_8 (by decide) ?_
  refine lv_icmp_ne (tgt := 17) hx hb dX2_backFor_9 (by decide) (fun c2 => ?_) (fun c2 => ?_)
  · have hf := pf_f hf c2
    refine lv_aload_n hx hb dX2_backFor_17 rfl (lv_at hl 1 rfl) ?_
    refine lv_iload_n hx hb dX2_backFor_18 rfl (lv_at hl 2 rfl) ?_
    refine lv_iload_n hx hb dX2_backFor_19 rfl (lv_at hl 0 rfl) ?_
    obtain ⟨u3, hu3, hf⟩ := pf_b hf
    refine mCallV_i (As := [.int p1, .int u1]) ⟨hx, hb, hml, hown, hts⟩ (mX2_lowestWith l G cI a_t a_t_meanings H.size vt_ears vt_fees vt_missed vt_paid vt_losses t_meanings p1 u1 _ hu3) (cwV 2 hts gX2_backFor_X2_lowestWith rfl rfl rfl (by decide +kernel) ⟨Nat.le_of_ble_eq_true rfl, Nat.le_of_ble_eq_true rfl⟩) hP hD hS hA hK [0, 1] rfl (by decide) 0 2 rfl rfl rfl hK [a_t, a_t_meanings] (fun _ => rfl) rfl (fun _ => [(a_t, .inr (2, [.ref a_t_meanings, vt_ears, vt_fees, vt_missed, vt_paid, vt_losses])), (a_t_meanings, .inl (cI, 180, .inl t_meanings))]) [a_t, a_t_meanings] (fun _ => rfl) rfl (fun _ => rfl) [] [] (fun _ => rfl) rfl 2 rfl rfl rfl hl.1 rfl (lv_room (Nat.le_of_ble_eq_true rfl)) dX2_backFor_20 ⟨Nat.zero_le _, Nat.zero_le _⟩ (fun _ H locs hP hD hS => ?_)
    have hP : va_P G vwCl [(a_t, .inr (2, [.ref a_t_meanings, vt_ears, vt_fees, vt_missed, vt_paid, vt_losses])), (a_t_meanings, .inl (cI, 180, .inl t_meanings))] H := hP
    have hD : va_D A [(a_t, .inr (2, [.ref a_t_meanings, vt_ears, vt_fees, vt_missed, vt_paid, vt_losses])), (a_t_meanings, .inl (cI, 180, .inl t_meanings))] := hD
    obtain rfl := Option.some.inj hf
    exact mEnd_i () hx hb hr hlocks hP hK hD hS rfl rfl (Nat.le_refl _) (Nat.le_refl _) dX2_backFor_23
  · have hf := pf_t hf c2
    refine lv_bipush (v := 30) hx hb dX2_backFor_12 (by decide) ?_
    refine lv_goto (tgt := 23) hx hb dX2_backFor_14 (by decide) ?_
    obtain rfl := Option.some.inj hf
    exact mEnd_i () hx hb hr hlocks hP hK hD hS rfl rfl (Nat.le_refl _) (Nat.le_refl _) dX2_backFor_23
def bX2_lossOfWord_1 (p1 : Int32) (t_meanings : Nat → Int32) (k : Nat → Int32 → Int32 → Option (Int32)) (x2 : Int32) (x3 : Int32) : Option (Int32) :=
  (if (6 : Int32) ≤ x3 then some (((-1) : Int32)) else ((fX2_backFor x3 x2 t_meanings).bind fun (u2 : Int32) => (if u2 = x2 then ((fX2_saidFor x3 x2 t_meanings).bind fun (u4 : Int32) => k 1 u4 (x3 + 1)) else some (x3))))
def sX2_lossOfWord (p1 : Int32) (t_meanings : Nat → Int32) (k : Nat → Int32 → Int32 → Option (Int32)) (b : Nat) (x2 : Int32) (x3 : Int32) : Option (Int32) := match b with
  | 1 => bX2_lossOfWord_1 p1 t_meanings k x2 x3
  | _ => none
def rX2_lossOfWord (p1 : Int32) (t_meanings : Nat → Int32) : Nat → Nat → Int32 → Int32 → Option (Int32)
  | 0 => fun _ _ _ => none
  | n + 1 => sX2_lossOfWord p1 t_meanings (rX2_lossOfWord p1 t_meanings n)
def eX2_lossOfWord (p1 : Int32) (t_meanings : Nat → Int32) (k : Nat → Int32 → Int32 → Option (Int32)) : Option (Int32) :=
  k 1 p1 (0 : Int32)
def fX2_lossOfWord (p1 : Int32) (t_meanings : Nat → Int32) : Option (Int32) := eX2_lossOfWord p1 t_meanings (rX2_lossOfWord p1 t_meanings fuelN)
set_option maxHeartbeats 4000000 in
set_option maxRecDepth 100000 in
theorem mX2_lossOfWord (l : Launch) (G : va_G) (cI : ClassId) (a_t a_t_meanings : Nat) (sz : Nat) (vt_ears vt_fees vt_missed vt_paid vt_losses : Value) (t_meanings : Nat → Int32) (p1 : Int32) (res : Int32) (hf : fX2_lossOfWord p1 t_meanings = some res) : Met l yX2_lossOfWord wsX2_lossOfWord ({ frames := 2, cells := 0, slots := 0, locals := 46 }) (mPc G [(cI, .int)] [.ref a_t, .int p1] sz [(a_t, .inr (2, [.ref a_t_meanings, vt_ears, vt_fees, vt_missed, vt_paid, vt_losses])), (a_t_meanings, .inl (cI, 180, .inl t_meanings))]) (mQi G [(cI, .int)] (va_A [(a_t, .inr (2, [.ref a_t_meanings, vt_ears, vt_fees, vt_missed, vt_paid, vt_losses])), (a_t_meanings, .inl (cI, 180, .inl t_meanings))] sz) (fun _ : Unit => res) (fun _ => [(a_t, .inr (2, [.ref a_t_meanings, vt_ears, vt_fees, vt_missed, vt_paid, vt_losses])), (a_t_meanings, .inl (cI, 180, .inl t_meanings))])) 0 0 (va_A [(a_t, .inr (2, [.ref a_t_meanings, vt_ears, vt_fees, vt_missed, vt_paid, vt_losses])), (a_t_meanings, .inl (cI, 180, .inl t_meanings))] sz) := by
  refine mStart (cc := cX2_lossOfWord) (maxL := 4) (ret := (some .int)) (by decide) rfl (Nat.le_of_ble_eq_true rfl) ?_
  intro p e s m below meth c A ls hx hb hml hr hts hown hlocks hnm hA hsz hAe hP hK hD hS hl
  have hl : lv_has ls 4 [(0, .ref a_t), (1, .int p1)] := hl
  rw [hAe]
  have key : ∀ n : Nat, (∀ (x2 : Int32) (x3 : Int32) (H : Heap) (locs : List Loc) (hf : rX2_lossOfWord p1 t_meanings n 1 x2 x3 = some res) (hP : va_P G vwCl [(a_t, .inr (2, [.ref a_t_meanings, vt_ears, vt_fees, vt_missed, vt_paid, vt_losses])), (a_t_meanings, .inl (cI, 180, .inl t_meanings))] H) (hD : va_D A [(a_t, .inr (2, [.ref a_t_meanings, vt_ears, vt_fees, vt_missed, vt_paid, vt_losses])), (a_t_meanings, .inl (cI, 180, .inl t_meanings))]) (hS : va_S A s.heap H locs) (ls : Array Slot) (hl : lv_has ls 4 [(0, .ref a_t), (2, .int x2), (3, .int x3)]), W p l e ({ frames := 2, cells := 0, slots := 0, locals := 46 } : Room) s m ([.ref a_t, .int p1] : List Value).toArray below meth c H locs 0 0 (MQ below (mQi G [(cI, .int)] A (fun _ : Unit => res) (fun _ => [(a_t, .inr (2, [.ref a_t_meanings, vt_ears, vt_fees, vt_missed, vt_paid, vt_losses])), (a_t_meanings, .inl (cI, 180, .inl t_meanings))])) ([.ref a_t, .int p1] : List Value).toArray s 0 0 A) (F0 m 4 ls [])) := by
    intro n
    induction n with
    | zero => exact (fun _ _ H locs hf => (by cases hf))
    | succ n ih =>
      · intro  x2 x3 H locs hf hP hD hS ls hl
        replace hf : bX2_lossOfWord_1 p1 t_meanings (rX2_lossOfWord p1 t_meanings n) x2 x3 = some res := hf
        unfold bX2_lossOfWord_1 at hf
        refine lv_iload_n hx hb dX2_lossOfWord_4 rfl (lv_at hl 2 rfl) ?_
        refine lv_bipush (v := 6) hx hb dX2_lossOfWord_5 (by decide) ?_
        refine lv_icmp_ge (tgt := 35) hx hb dX2_lossOfWord_7 (by decide) (fun c1 => ?_) (fun c1 => ?_)
        · have hf := pf_t hf c1
          refine lv_iconst (v := (-1)) hx hb dX2_lossOfWord_35 (by decide) ?_
          obtain rfl := Option.some.inj hf
          exact mEnd_i () hx hb hr hlocks hP hK hD hS rfl rfl (Nat.le_refl _) (Nat.le_refl _) dX2_lossOfWord_36
        · have hf := pf_f hf c1
          refine lv_aload_n hx hb dX2_lossOfWord_10 rfl (lv_at hl 0 rfl) ?_
          refine lv_iload_n hx hb dX2_lossOfWord_11 rfl (lv_at hl 2 rfl) ?_
          refine lv_iload_n hx hb dX2_lossOfWord_12 rfl (lv_at hl 1 rfl) ?_
          obtain ⟨u2, hu2, hf⟩ := pf_b hf
          refine mCallV_i (As := [.int x3, .int x2]) ⟨hx, hb, hml, hown, hts⟩ (mX2_backFor l G cI a_t a_t_meanings H.size vt_ears vt_fees vt_missed vt_paid vt_losses t_meanings x3 x2 _ hu2) (cwV 2 hts gX2_lossOfWord_X2_backFor rfl rfl rfl (by decide +kernel) ⟨Nat.le_of_ble_eq_true rfl, Nat.le_of_ble_eq_true rfl⟩) hP hD hS hA hK [0, 1] rfl (by decide) 0 2 rfl rfl rfl hK [a_t, a_t_meanings] (fun _ => rfl) rfl (fun _ => [(a_t, .inr (2, [.ref a_t_meanings, vt_ears, vt_fees, vt_missed, vt_paid, vt_losses])), (a_t_meanings, .inl (cI, 180, .inl t_meanings))]) [a_t, a_t_meanings] (fun _ => rfl) rfl (fun _ => rfl) [] [] (fun _ => rfl) rfl 2 rfl rfl rfl hl.1 rfl (lv_room (Nat.le_of_ble_eq_true rfl)) dX2_lossOfWord_13 ⟨Nat.zero_le _, Nat.zero_le _⟩ (fun _ H locs hP hD hS => ?_)
          have hP : va_P G vwCl [(a_t, .inr (2, [.ref a_t_meanings, vt_ears, vt_fees, vt_missed, vt_paid, vt_losses])), (a_t_meanings, .inl (cI, 180, .inl t_meanings))] H := hP
          have hD : va_D A [(a_t, .inr (2, [.ref a_t_meanings, vt_ears, vt_fees, vt_missed, vt_paid, vt_losses])), (a_t_meanings, .inl (cI, 180, .inl t_meanings))] := hD
          refine lv_iload_n hx hb dX2_lossOfWord_16 rfl (lv_at hl 1 rfl) ?_
          refine lv_icmp_eq (tgt := 22) hx hb dX2_lossOfWord_17 (by decide) (fun c3 => ?_) (fun c3 => ?_)
          · have hf := pf_t hf c3
            refine lv_aload_n hx hb dX2_lossOfWord_22 rfl (lv_at hl 0 rfl) ?_
            refine lv_iload_n hx hb dX2_lossOfWord_23 rfl (lv_at hl 2 rfl) ?_
            refine lv_iload_n hx hb dX2_lossOfWord_24 rfl (lv_at hl 1 rfl) ?_
            obtain ⟨u4, hu4, hf⟩ := pf_b hf
            refine mCallV_i (As := [.int x3, .int x2]) ⟨hx, hb, hml, hown, hts⟩ (mX2_saidFor l G cI a_t a_t_meanings H.size vt_ears vt_fees vt_missed vt_paid vt_losses t_meanings x3 x2 _ hu4) (cwV 2 hts gX2_lossOfWord_X2_saidFor rfl rfl rfl (by decide +kernel) ⟨Nat.le_of_ble_eq_true rfl, Nat.le_of_ble_eq_true rfl⟩) hP hD hS hA hK [0, 1] rfl (by decide) 0 2 rfl rfl rfl hK [a_t, a_t_meanings] (fun _ => rfl) rfl (fun _ => [(a_t, .inr (2, [.ref a_t_meanings, vt_ears, vt_fees, vt_missed, vt_paid, vt_losses])), (a_t_meanings, .inl (cI, 180, .inl t_meanings))]) [a_t, a_t_meanings] (fun _ => rfl) rfl (fun _ => rfl) [] [] (fun _ => rfl) rfl 2 rfl rfl rfl hl.1 rfl (lv_room (Nat.le_of_ble_eq_true rfl)) dX2_lossOfWord_25 ⟨Nat.zero_le _, Nat.zero_le _⟩ (fun _ H locs hP hD hS => ?_)
            have hP : va_P G vwCl [(a_t, .inr (2, [.ref a_t_meanings, vt_ears, vt_fees, vt_missed, vt_paid, vt_losses])), (a_t_meanings, .inl (cI, 180, .inl t_meanings))] H := hP
            have hD : va_D A [(a_t, .inr (2, [.ref a_t_meanings, vt_ears, vt_fees, vt_missed, vt_paid, vt_losses])), (a_t_meanings, .inl (cI, 180, .inl t_meanings))] := hD
            refine lv_istore_n (lv' := [(2, .int u4), (0, .ref a_t), (3, .int x3)]) hx hb dX2_lossOfWord_28 rfl hl (by decide) rfl (fun ls hl => ?_)
            refine lv_iinc (v := x3 + 1) (lv' := [(3, .int (x3 + 1)), (2, .int u4), (0, .ref a_t)]) hx hb dX2_lossOfWord_29 hl (k := 2) rfl rfl (by decide) rfl (fun ls hl => ?_)
            refine lv_goto (tgt := 4) hx hb dX2_lossOfWord_32 (by decide) ?_
            exact ih u4 (x3 + 1) H locs hf hP hD hS ls (lv_sub hl [2, 1, 0] rfl)
          · have hf := pf_f hf c3
            refine lv_iload_n hx hb dX2_lossOfWord_20 rfl (lv_at hl 2 rfl) ?_
            obtain rfl := Option.some.inj hf
            exact mEnd_i () hx hb hr hlocks hP hK hD hS rfl rfl (Nat.le_refl _) (Nat.le_refl _) dX2_lossOfWord_21
  unfold fX2_lossOfWord eX2_lossOfWord at hf
  obtain ⟨H, hH⟩ : ∃ H : Heap, H = s.heap := ⟨_, rfl⟩
  obtain ⟨locs, hlc⟩ : ∃ z : List Loc, z = [] := ⟨_, rfl⟩
  rw [← hlc, ← hH]
  have hP : va_P G vwCl [(a_t, .inr (2, [.ref a_t_meanings, vt_ears, vt_fees, vt_missed, vt_paid, vt_losses])), (a_t_meanings, .inl (cI, 180, .inl t_meanings))] H := by rw [hH]; exact hP
  have hS : va_S A s.heap H locs := by rw [hlc, hH]; exact hS
  refine lv_iload_n hx hb dX2_lossOfWord_0 rfl (lv_at hl 1 rfl) ?_
  refine lv_istore_n (lv' := [(2, .int p1), (0, .ref a_t), (1, .int p1)]) hx hb dX2_lossOfWord_1 rfl hl (by decide) rfl (fun ls hl => ?_)
  refine lv_iconst (v := 0) hx hb dX2_lossOfWord_2 (by decide) ?_
  refine lv_istore_n (lv' := [(3, .int 0), (2, .int p1), (0, .ref a_t), (1, .int p1)]) hx hb dX2_lossOfWord_3 rfl hl (by decide) rfl (fun ls hl => ?_)
  exact (key fuelN) p1 (0 : Int32) H locs hf hP hD hS ls (lv_sub hl [2, 1, 0] rfl)
def fX2_setMeaning (p1 : Int32) (p2 : Int32) (p3 : Int32) (t_meanings : Nat → Int32) : Option ((Nat → Int32)) :=
  (if p1 < 0 then some (t_meanings) else (if (6 : Int32) ≤ p1 then some (t_meanings) else (if p2 < 0 then some (t_meanings) else (if (30 : Int32) ≤ p2 then some (t_meanings) else (if ((p1 * (30 : Int32)) + p2) < 0 ∨ 180 ≤ ((p1 * (30 : Int32)) + p2).toNatClampNeg then none else (lt (upd t_meanings ((p1 * (30 : Int32)) + p2).toNatClampNeg p3) fun (f6 : Nat → Int32) => some (f6)))))))
theorem iwX2_setMeaning_X2 : ∀ w ∈ u_ws RX2 TX2 6, w ∈ wsX2_setMeaning := by decide +kernel
set_option maxHeartbeats 4000000 in
set_option maxRecDepth 100000 in
theorem mX2_setMeaning (l : Launch) (G : va_G) (cI : ClassId) (a_t a_t_meanings : Nat) (sz : Nat) (vt_ears vt_fees vt_missed vt_paid vt_losses : Value) (t_meanings : Nat → Int32) (p1 : Int32) (p2 : Int32) (p3 : Int32) (res : (Nat → Int32)) (hf : fX2_setMeaning p1 p2 p3 t_meanings = some res) : Met l yX2_setMeaning wsX2_setMeaning ({ frames := 0, cells := 0, slots := 0, locals := 0 }) (mPc G [(cI, .int)] [.ref a_t, .int p1, .int p2, .int p3] sz [(a_t, .inr (2, [.ref a_t_meanings, vt_ears, vt_fees, vt_missed, vt_paid, vt_losses])), (a_t_meanings, .inl (cI, 180, .inl t_meanings))]) (mQv G [(cI, .int)] (va_A [(a_t, .inr (2, [.ref a_t_meanings, vt_ears, vt_fees, vt_missed, vt_paid, vt_losses])), (a_t_meanings, .inl (cI, 180, .inl t_meanings))] sz) (fun u9 : Unit => [(a_t, .inr (2, [.ref a_t_meanings, vt_ears, vt_fees, vt_missed, vt_paid, vt_losses])), (a_t_meanings, .inl (cI, 180, .inl res))])) 0 0 (va_A [(a_t, .inr (2, [.ref a_t_meanings, vt_ears, vt_fees, vt_missed, vt_paid, vt_losses])), (a_t_meanings, .inl (cI, 180, .inl t_meanings))] sz) := by
  refine mStart (cc := cX2_setMeaning) (maxL := 4) (ret := none) (by decide) rfl (Nat.le_of_ble_eq_true rfl) ?_
  intro p e s m below meth c A ls hx hb hml hr hts hown hlocks hnm hA hsz hAe hP hK hD hS hl
  have hl : lv_has ls 4 [(0, .ref a_t), (1, .int p1), (2, .int p2), (3, .int p3)] := hl
  rw [hAe]
  have k1 := hts (.fieldLink RX2 9 "DeafChain$Links" "meanings" "[I") (by decide +kernel)
  unfold fX2_setMeaning at hf
  obtain ⟨H, hH⟩ : ∃ H : Heap, H = s.heap := ⟨_, rfl⟩
  obtain ⟨locs, hlc⟩ : ∃ z : List Loc, z = [] := ⟨_, rfl⟩
  rw [← hlc, ← hH]
  have hP : va_P G vwCl [(a_t, .inr (2, [.ref a_t_meanings, vt_ears, vt_fees, vt_missed, vt_paid, vt_losses])), (a_t_meanings, .inl (cI, 180, .inl t_meanings))] H := by rw [hH]; exact hP
  have hS : va_S A s.heap H locs := by rw [hlc, hH]; exact hS
  refine lv_iload_n hx hb dX2_setMeaning_0 rfl (lv_at hl 1 rfl) ?_
  refine lv_if_lt (tgt := 32) hx hb dX2_setMeaning_1 (by decide) (fun c1 => ?_) (fun c1 => ?_)
  · have hf := pf_t hf c1
    obtain rfl := Option.some.inj hf
    exact mEnd_v () hx hb hr hlocks hP hK hD hS rfl (Nat.le_of_ble_eq_true rfl) (Nat.le_of_ble_eq_true rfl) dX2_setMeaning_32
  · have hf := pf_f hf c1
    refine lv_iload_n hx hb dX2_setMeaning_4 rfl (lv_at hl 1 rfl) ?_
    refine lv_bipush (v := 6) hx hb dX2_setMeaning_5 (by decide) ?_
    refine lv_icmp_ge (tgt := 32) hx hb dX2_setMeaning_7 (by decide) (fun c2 => ?_) (fun c2 => ?_)
    · have hf := pf_t hf c2
      obtain rfl := Option.some.inj hf
      exact mEnd_v () hx hb hr hlocks hP hK hD hS rfl (Nat.le_of_ble_eq_true rfl) (Nat.le_of_ble_eq_true rfl) dX2_setMeaning_32
    · have hf := pf_f hf c2
      refine lv_iload_n hx hb dX2_setMeaning_10 rfl (lv_at hl 2 rfl) ?_
      refine lv_if_lt (tgt := 32) hx hb dX2_setMeaning_11 (by decide) (fun c3 => ?_) (fun c3 => ?_)
      · have hf := pf_t hf c3
        obtain rfl := Option.some.inj hf
        exact mEnd_v () hx hb hr hlocks hP hK hD hS rfl (Nat.le_of_ble_eq_true rfl) (Nat.le_of_ble_eq_true rfl) dX2_setMeaning_32
      · have hf := pf_f hf c3
        refine lv_iload_n hx hb dX2_setMeaning_14 rfl (lv_at hl 2 rfl) ?_
        refine lv_bipush (v := 30) hx hb dX2_setMeaning_15 (by decide) ?_
        refine lv_icmp_ge (tgt := 32) hx hb dX2_setMeaning_17 (by decide) (fun c4 => ?_) (fun c4 => ?_)
        · have hf := pf_t hf c4
          obtain rfl := Option.some.inj hf
          exact mEnd_v () hx hb hr hlocks hP hK hD hS rfl (Nat.le_of_ble_eq_true rfl) (Nat.le_of_ble_eq_true rfl) dX2_setMeaning_32
        · have hf := pf_f hf c4
          refine lv_aload_n hx hb dX2_setMeaning_20 rfl (lv_at hl 0 rfl) ?_
          refine va_get (D := G) (ci := 2) (v := .ref a_t_meanings) (C := RX2) (T := TX2) (N := 6) hx hb hts iwX2_setMeaning_X2 hown hK hP 0 rfl rfl 0 (by decide) k1 (fun _ h9 => h9) rfl dX2_setMeaning_21 ?_
          refine lv_iload_n hx hb dX2_setMeaning_24 rfl (lv_at hl 1 rfl) ?_
          refine lv_bipush (v := 30) hx hb dX2_setMeaning_25 (by decide) ?_
          refine lv_imul hx hb dX2_setMeaning_27 ?_
          refine lv_iload_n hx hb dX2_setMeaning_28 rfl (lv_at hl 2 rfl) ?_
          refine lv_iadd hx hb dX2_setMeaning_29 ?_
          refine lv_iload_n hx hb dX2_setMeaning_30 rfl (lv_at hl 3 rfl) ?_
          obtain ⟨q5, hf⟩ := pf_k hf
          refine va_iast hx hb hK hP hD hS 1 0 rfl rfl q5 dX2_setMeaning_31 (fun H locs hP hD hS => ?_)
          obtain ⟨f6, ef6⟩ : ∃ z : Nat → Int32, z = upd t_meanings ((p1 * (30 : Int32)) + p2).toNatClampNeg p3 := ⟨_, rfl⟩
          have hf := pf_l hf f6 ef6
          have hP : va_P G vwCl [(a_t, .inr (2, [.ref a_t_meanings, vt_ears, vt_fees, vt_missed, vt_paid, vt_losses])), (a_t_meanings, .inl (cI, 180, .inl f6))] H := by rw [ef6]; exact hP
          have hD : va_D A [(a_t, .inr (2, [.ref a_t_meanings, vt_ears, vt_fees, vt_missed, vt_paid, vt_losses])), (a_t_meanings, .inl (cI, 180, .inl f6))] := by rw [ef6]; exact hD
          obtain rfl := Option.some.inj hf
          exact mEnd_v () hx hb hr hlocks hP hK hD hS rfl (Nat.le_of_ble_eq_true rfl) (Nat.le_of_ble_eq_true rfl) dX2_setMeaning_32
def fX2_copyFrom (t_meanings : Nat → Int32) (t_ears : Nat → Int32) (t_fees : Nat → Int32) (t_missed : Nat → Int32) (t_paid : Nat → Int32) (t_losses : Nat → Int32) (p1_meanings : Nat → Int32) (p1_ears : Nat → Int32) (p1_fees : Nat → Int32) (p1_missed : Nat → Int32) (p1_paid : Nat → Int32) (p1_losses : Nat → Int32) : Option ((Nat → Int32) × (Nat → Int32) × (Nat → Int32) × (Nat → Int32) × (Nat → Int32) × (Nat → Int32)) :=
  (lt (va_cpy p1_meanings t_meanings (0 : Int32).toNatClampNeg (0 : Int32).toNatClampNeg (180 : Int32).toNatClampNeg) fun (f1 : Nat → Int32) => (lt (va_cpy p1_ears t_ears (0 : Int32).toNatClampNeg (0 : Int32).toNatClampNeg (6 : Int32).toNatClampNeg) fun (f2 : Nat → Int32) => (lt (va_cpy p1_fees t_fees (0 : Int32).toNatClampNeg (0 : Int32).toNatClampNeg (6 : Int32).toNatClampNeg) fun (f3 : Nat → Int32) => (lt (va_cpy p1_missed t_missed (0 : Int32).toNatClampNeg (0 : Int32).toNatClampNeg (6 : Int32).toNatClampNeg) fun (f4 : Nat → Int32) => (lt (va_cpy p1_paid t_paid (0 : Int32).toNatClampNeg (0 : Int32).toNatClampNeg (6 : Int32).toNatClampNeg) fun (f5 : Nat → Int32) => (lt (va_cpy p1_losses t_losses (0 : Int32).toNatClampNeg (0 : Int32).toNatClampNeg (6 : Int32).toNatClampNeg) fun (f6 : Nat → Int32) => some (f1, f2, f3, f4, f5, f6)))))))
theorem iwX2_copyFrom_X2 : ∀ w ∈ u_ws RX2 TX2 6, w ∈ wsX2_copyFrom := by decide +kernel
set_option maxHeartbeats 4000000 in
set_option maxRecDepth 100000 in
theorem mX2_copyFrom (l : Launch) (G : va_G) (cI : ClassId) (a_t a_t_meanings a_t_ears a_t_fees a_t_missed a_t_paid a_t_losses a_p1 a_p1_meanings a_p1_ears a_p1_fees a_p1_missed a_p1_paid a_p1_losses : Nat) (sz : Nat)  (t_meanings : Nat → Int32) (t_ears : Nat → Int32) (t_fees : Nat → Int32) (t_missed : Nat → Int32) (t_paid : Nat → Int32) (t_losses : Nat → Int32) (p1_meanings : Nat → Int32) (p1_ears : Nat → Int32) (p1_fees : Nat → Int32) (p1_missed : Nat → Int32) (p1_paid : Nat → Int32) (p1_losses : Nat → Int32)  (res : (Nat → Int32) × (Nat → Int32) × (Nat → Int32) × (Nat → Int32) × (Nat → Int32) × (Nat → Int32)) (hf : fX2_copyFrom t_meanings t_ears t_fees t_missed t_paid t_losses p1_meanings p1_ears p1_fees p1_missed p1_paid p1_losses = some res) : Met l yX2_copyFrom wsX2_copyFrom ({ frames := 1, cells := 0, slots := 0, locals := 48 }) (mPc G [(cI, .int)] [.ref a_t, .ref a_p1] sz [(a_t, .inr (2, [.ref a_t_meanings, .ref a_t_ears, .ref a_t_fees, .ref a_t_missed, .ref a_t_paid, .ref a_t_losses])), (a_t_meanings, .inl (cI, 180, .inl t_meanings)), (a_t_ears, .inl (cI, 6, .inl t_ears)), (a_t_fees, .inl (cI, 6, .inl t_fees)), (a_t_missed, .inl (cI, 6, .inl t_missed)), (a_t_paid, .inl (cI, 6, .inl t_paid)), (a_t_losses, .inl (cI, 6, .inl t_losses)), (a_p1, .inr (2, [.ref a_p1_meanings, .ref a_p1_ears, .ref a_p1_fees, .ref a_p1_missed, .ref a_p1_paid, .ref a_p1_losses])), (a_p1_meanings, .inl (cI, 180, .inl p1_meanings)), (a_p1_ears, .inl (cI, 6, .inl p1_ears)), (a_p1_fees, .inl (cI, 6, .inl p1_fees)), (a_p1_missed, .inl (cI, 6, .inl p1_missed)), (a_p1_paid, .inl (cI, 6, .inl p1_paid)), (a_p1_losses, .inl (cI, 6, .inl p1_losses))]) (mQv G [(cI, .int)] (va_A [(a_t, .inr (2, [.ref a_t_meanings, .ref a_t_ears, .ref a_t_fees, .ref a_t_missed, .ref a_t_paid, .ref a_t_losses])), (a_t_meanings, .inl (cI, 180, .inl t_meanings)), (a_t_ears, .inl (cI, 6, .inl t_ears)), (a_t_fees, .inl (cI, 6, .inl t_fees)), (a_t_missed, .inl (cI, 6, .inl t_missed)), (a_t_paid, .inl (cI, 6, .inl t_paid)), (a_t_losses, .inl (cI, 6, .inl t_losses)), (a_p1, .inr (2, [.ref a_p1_meanings, .ref a_p1_ears, .ref a_p1_fees, .ref a_p1_missed, .ref a_p1_paid, .ref a_p1_losses])), (a_p1_meanings, .inl (cI, 180, .inl p1_meanings)), (a_p1_ears, .inl (cI, 6, .inl p1_ears)), (a_p1_fees, .inl (cI, 6, .inl p1_fees)), (a_p1_missed, .inl (cI, 6, .inl p1_missed)), (a_p1_paid, .inl (cI, 6, .inl p1_paid)), (a_p1_losses, .inl (cI, 6, .inl p1_losses))] sz) (fun u9 : Unit => [(a_t, .inr (2, [.ref a_t_meanings, .ref a_t_ears, .ref a_t_fees, .ref a_t_missed, .ref a_t_paid, .ref a_t_losses])), (a_t_meanings, .inl (cI, 180, .inl res.1)), (a_t_ears, .inl (cI, 6, .inl res.2.1)), (a_t_fees, .inl (cI, 6, .inl res.2.2.1)), (a_t_missed, .inl (cI, 6, .inl res.2.2.2.1)), (a_t_paid, .inl (cI, 6, .inl res.2.2.2.2.1)), (a_t_losses, .inl (cI, 6, .inl res.2.2.2.2.2)), (a_p1, .inr (2, [.ref a_p1_meanings, .ref a_p1_ears, .ref a_p1_fees, .ref a_p1_missed, .ref a_p1_paid, .ref a_p1_losses])), (a_p1_meanings, .inl (cI, 180, .inl p1_meanings)), (a_p1_ears, .inl (cI, 6, .inl p1_ears)), (a_p1_fees, .inl (cI, 6, .inl p1_fees)), (a_p1_missed, .inl (cI, 6, .inl p1_missed)), (a_p1_paid, .inl (cI, 6, .inl p1_paid)), (a_p1_losses, .inl (cI, 6, .inl p1_losses))])) 0 0 (va_A [(a_t, .inr (2, [.ref a_t_meanings, .ref a_t_ears, .ref a_t_fees, .ref a_t_missed, .ref a_t_paid, .ref a_t_losses])), (a_t_meanings, .inl (cI, 180, .inl t_meanings)), (a_t_ears, .inl (cI, 6, .inl t_ears)), (a_t_fees, .inl (cI, 6, .inl t_fees)), (a_t_missed, .inl (cI, 6, .inl t_missed)), (a_t_paid, .inl (cI, 6, .inl t_paid)), (a_t_losses, .inl (cI, 6, .inl t_losses)), (a_p1, .inr (2, [.ref a_p1_meanings, .ref a_p1_ears, .ref a_p1_fees, .ref a_p1_missed, .ref a_p1_paid, .ref a_p1_losses])), (a_p1_meanings, .inl (cI, 180, .inl p1_meanings)), (a_p1_ears, .inl (cI, 6, .inl p1_ears)), (a_p1_fees, .inl (cI, 6, .inl p1_fees)), (a_p1_missed, .inl (cI, 6, .inl p1_missed)), (a_p1_paid, .inl (cI, 6, .inl p1_paid)), (a_p1_losses, .inl (cI, 6, .inl p1_losses))] sz) := by
  refine mStart (cc := cX2_copyFrom) (maxL := 2) (ret := none) (by decide) rfl (Nat.le_of_ble_eq_true rfl) ?_
  intro p e s m below meth c A ls hx hb hml hr hts hown hlocks hnm hA hsz hAe hP hK hD hS hl
  have hl : lv_has ls 2 [(0, .ref a_t), (1, .ref a_p1)] := hl
  rw [hAe]
  have k1 := hts (.fieldLink RX2 9 "DeafChain$Links" "meanings" "[I") (by decide +kernel)
  have k2 := hts (.methodLink RX2 30 arraycopyName) (by decide +kernel)
  have k3 := hts (.native arraycopyName) (by decide +kernel)
  have k4 := hts (.static arraycopyName) (by decide +kernel)
  have k5 := hts (.initialized "java/lang/System") (by decide +kernel)
  have k6 := hts (.fieldLink RX2 15 "DeafChain$Links" "ears" "[I") (by decide +kernel)
  have k7 := hts (.fieldLink RX2 18 "DeafChain$Links" "fees" "[I") (by decide +kernel)
  have k8 := hts (.fieldLink RX2 21 "DeafChain$Links" "missed" "[I") (by decide +kernel)
  have k9 := hts (.fieldLink RX2 24 "DeafChain$Links" "paid" "[I") (by decide +kernel)
  have k10 := hts (.fieldLink RX2 27 "DeafChain$Links" "losses" "[I") (by decide +kernel)
  unfold fX2_copyFrom at hf
  obtain ⟨H, hH⟩ : ∃ H : Heap, H = s.heap := ⟨_, rfl⟩
  obtain ⟨locs, hlc⟩ : ∃ z : List Loc, z = [] := ⟨_, rfl⟩
  rw [← hlc, ← hH]
  have hP : va_P G vwCl [(a_t, .inr (2, [.ref a_t_meanings, .ref a_t_ears, .ref a_t_fees, .ref a_t_missed, .ref a_t_paid, .ref a_t_losses])), (a_t_meanings, .inl (cI, 180, .inl t_meanings)), (a_t_ears, .inl (cI, 6, .inl t_ears)), (a_t_fees, .inl (cI, 6, .inl t_fees)), (a_t_missed, .inl (cI, 6, .inl t_missed)), (a_t_paid, .inl (cI, 6, .inl t_paid)), (a_t_losses, .inl (cI, 6, .inl t_losses)), (a_p1, .inr (2, [.ref a_p1_meanings, .ref a_p1_ears, .ref a_p1_fees, .ref a_p1_missed, .ref a_p1_paid, .ref a_p1_losses])), (a_p1_meanings, .inl (cI, 180, .inl p1_meanings)), (a_p1_ears, .inl (cI, 6, .inl p1_ears)), (a_p1_fees, .inl (cI, 6, .inl p1_fees)), (a_p1_missed, .inl (cI, 6, .inl p1_missed)), (a_p1_paid, .inl (cI, 6, .inl p1_paid)), (a_p1_losses, .inl (cI, 6, .inl p1_losses))] H := by rw [hH]; exact hP
  have hS : va_S A s.heap H locs := by rw [hlc, hH]; exact hS
  refine lv_aload_n hx hb dX2_copyFrom_0 rfl (lv_at hl 1 rfl) ?_
  refine va_get (D := G) (ci := 2) (v := .ref a_p1_meanings) (C := RX2) (T := TX2) (N := 6) hx hb hts iwX2_copyFrom_X2 hown hK hP 7 rfl rfl 0 (by decide) k1 (fun _ h9 => h9) rfl dX2_copyFrom_1 ?_
  refine lv_iconst (v := 0) hx hb dX2_copyFrom_4 (by decide) ?_
  refine lv_aload_n hx hb dX2_copyFrom_5 rfl (lv_at hl 0 rfl) ?_
  refine va_get (D := G) (ci := 2) (v := .ref a_t_meanings) (C := RX2) (T := TX2) (N := 6) hx hb hts iwX2_copyFrom_X2 hown hK hP 0 rfl rfl 0 (by decide) k1 (fun _ h9 => h9) rfl dX2_copyFrom_6 ?_
  refine lv_iconst (v := 0) hx hb dX2_copyFrom_9 (by decide) ?_
  refine lv_sipush (v := 180) hx hb dX2_copyFrom_10 (by decide) ?_
  refine va_copyi hx hb (hml.trans hl.1.symm) hown k2 k3 k4 k5 hK hP hD hS 8 1 0 0 rfl rfl rfl rfl rfl (by decide) (by decide) (by decide) (by decide +kernel) (by decide +kernel) (fun _ _ => rfl) (Nat.le_of_ble_eq_true rfl) (Nat.le_of_ble_eq_true rfl) dX2_copyFrom_13 (fun H locs hP hD hS => ?_)
  obtain ⟨f1, ef1⟩ : ∃ z : Nat → Int32, z = va_cpy p1_meanings t_meanings (0 : Int32).toNatClampNeg (0 : Int32).toNatClampNeg (180 : Int32).toNatClampNeg := ⟨_, rfl⟩
  have hf := pf_l hf f1 ef1
  have hP : va_P G vwCl [(a_t, .inr (2, [.ref a_t_meanings, .ref a_t_ears, .ref a_t_fees, .ref a_t_missed, .ref a_t_paid, .ref a_t_losses])), (a_t_meanings, .inl (cI, 180, .inl f1)), (a_t_ears, .inl (cI, 6, .inl t_ears)), (a_t_fees, .inl (cI, 6, .inl t_fees)), (a_t_missed, .inl (cI, 6, .inl t_missed)), (a_t_paid, .inl (cI, 6, .inl t_paid)), (a_t_losses, .inl (cI, 6, .inl t_losses)), (a_p1, .inr (2, [.ref a_p1_meanings, .ref a_p1_ears, .ref a_p1_fees, .ref a_p1_missed, .ref a_p1_paid, .ref a_p1_losses])), (a_p1_meanings, .inl (cI, 180, .inl p1_meanings)), (a_p1_ears, .inl (cI, 6, .inl p1_ears)), (a_p1_fees, .inl (cI, 6, .inl p1_fees)), (a_p1_missed, .inl (cI, 6, .inl p1_missed)), (a_p1_paid, .inl (cI, 6, .inl p1_paid)), (a_p1_losses, .inl (cI, 6, .inl p1_losses))] H := by rw [ef1]; exact hP
  have hD : va_D A [(a_t, .inr (2, [.ref a_t_meanings, .ref a_t_ears, .ref a_t_fees, .ref a_t_missed, .ref a_t_paid, .ref a_t_losses])), (a_t_meanings, .inl (cI, 180, .inl f1)), (a_t_ears, .inl (cI, 6, .inl t_ears)), (a_t_fees, .inl (cI, 6, .inl t_fees)), (a_t_missed, .inl (cI, 6, .inl t_missed)), (a_t_paid, .inl (cI, 6, .inl t_paid)), (a_t_losses, .inl (cI, 6, .inl t_losses)), (a_p1, .inr (2, [.ref a_p1_meanings, .ref a_p1_ears, .ref a_p1_fees, .ref a_p1_missed, .ref a_p1_paid, .ref a_p1_losses])), (a_p1_meanings, .inl (cI, 180, .inl p1_meanings)), (a_p1_ears, .inl (cI, 6, .inl p1_ears)), (a_p1_fees, .inl (cI, 6, .inl p1_fees)), (a_p1_missed, .inl (cI, 6, .inl p1_missed)), (a_p1_paid, .inl (cI, 6, .inl p1_paid)), (a_p1_losses, .inl (cI, 6, .inl p1_losses))] := by rw [ef1]; exact hD
  refine lv_aload_n hx hb dX2_copyFrom_16 rfl (lv_at hl 1 rfl) ?_
  refine va_get (D := G) (ci := 2) (v := .ref a_p1_ears) (C := RX2) (T := TX2) (N := 6) hx hb hts iwX2_copyFrom_X2 hown hK hP 7 rfl rfl 1 (by decide) k6 (fun _ h9 => h9) rfl dX2_copyFrom_17 ?_
  refine lv_iconst (v := 0) hx hb dX2_copyFrom_20 (by decide) ?_
  refine lv_aload_n hx hb dX2_copyFrom_21 rfl (lv_at hl 0 rfl) ?_
  refine va_get (D := G) (ci := 2) (v := .ref a_t_ears) (C := RX2) (T := TX2) (N := 6) hx hb hts iwX2_copyFrom_X2 hown hK hP 0 rfl rfl 1 (by decide) k6 (fun _ h9 => h9) rfl dX2_copyFrom_22 ?_
  refine lv_iconst (v := 0) hx hb dX2_copyFrom_25 (by decide) ?_
  refine lv_bipush (v := 6) hx hb dX2_copyFrom_26 (by decide) ?_
  refine va_copyi hx hb (hml.trans hl.1.symm) hown k2 k3 k4 k5 hK hP hD hS 9 2 0 0 rfl rfl rfl rfl rfl (by decide) (by decide) (by decide) (by decide +kernel) (by decide +kernel) (fun _ _ => rfl) (Nat.le_of_ble_eq_true rfl) (Nat.le_of_ble_eq_true rfl) dX2_copyFrom_28 (fun H locs hP hD hS => ?_)
  obtain ⟨f2, ef2⟩ : ∃ z : Nat → Int32, z = va_cpy p1_ears t_ears (0 : Int32).toNatClampNeg (0 : Int32).toNatClampNeg (6 : Int32).toNatClampNeg := ⟨_, rfl⟩
  have hf := pf_l hf f2 ef2
  have hP : va_P G vwCl [(a_t, .inr (2, [.ref a_t_meanings, .ref a_t_ears, .ref a_t_fees, .ref a_t_missed, .ref a_t_paid, .ref a_t_losses])), (a_t_meanings, .inl (cI, 180, .inl f1)), (a_t_ears, .inl (cI, 6, .inl f2)), (a_t_fees, .inl (cI, 6, .inl t_fees)), (a_t_missed, .inl (cI, 6, .inl t_missed)), (a_t_paid, .inl (cI, 6, .inl t_paid)), (a_t_losses, .inl (cI, 6, .inl t_losses)), (a_p1, .inr (2, [.ref a_p1_meanings, .ref a_p1_ears, .ref a_p1_fees, .ref a_p1_missed, .ref a_p1_paid, .ref a_p1_losses])), (a_p1_meanings, .inl (cI, 180, .inl p1_meanings)), (a_p1_ears, .inl (cI, 6, .inl p1_ears)), (a_p1_fees, .inl (cI, 6, .inl p1_fees)), (a_p1_missed, .inl (cI, 6, .inl p1_missed)), (a_p1_paid, .inl (cI, 6, .inl p1_paid)), (a_p1_losses, .inl (cI, 6, .inl p1_losses))] H := by rw [ef2]; exact hP
  have hD : va_D A [(a_t, .inr (2, [.ref a_t_meanings, .ref a_t_ears, .ref a_t_fees, .ref a_t_missed, .ref a_t_paid, .ref a_t_losses])), (a_t_meanings, .inl (cI, 180, .inl f1)), (a_t_ears, .inl (cI, 6, .inl f2)), (a_t_fees, .inl (cI, 6, .inl t_fees)), (a_t_missed, .inl (cI, 6, .inl t_missed)), (a_t_paid, .inl (cI, 6, .inl t_paid)), (a_t_losses, .inl (cI, 6, .inl t_losses)), (a_p1, .inr (2, [.ref a_p1_meanings, .ref a_p1_ears, .ref a_p1_fees, .ref a_p1_missed, .ref a_p1_paid, .ref a_p1_losses])), (a_p1_meanings, .inl (cI, 180, .inl p1_meanings)), (a_p1_ears, .inl (cI, 6, .inl p1_ears)), (a_p1_fees, .inl (cI, 6, .inl p1_fees)), (a_p1_missed, .inl (cI, 6, .inl p1_missed)), (a_p1_paid, .inl (cI, 6, .inl p1_paid)), (a_p1_losses, .inl (cI, 6, .inl p1_losses))] := by rw [ef2]; exact hD
  refine lv_aload_n hx hb dX2_copyFrom_31 rfl (lv_at hl 1 rfl) ?_
  refine va_get (D := G) (ci := 2) (v := .ref a_p1_fees) (C := RX2) (T := TX2) (N := 6) hx hb hts iwX2_copyFrom_X2 hown hK hP 7 rfl rfl 2 (by decide) k7 (fun _ h9 => h9) rfl dX2_copyFrom_32 ?_
  refine lv_iconst (v := 0) hx hb dX2_copyFrom_35 (by decide) ?_
  refine lv_aload_n hx hb dX2_copyFrom_36 rfl (lv_at hl 0 rfl) ?_
  refine va_get (D := G) (ci := 2) (v := .ref a_t_fees) (C := RX2) (T := TX2) (N := 6) hx hb hts iwX2_copyFrom_X2 hown hK hP 0 rfl rfl 2 (by decide) k7 (fun _ h9 => h9) rfl dX2_copyFrom_37 ?_
  refine lv_iconst (v := 0) hx hb dX2_copyFrom_40 (by decide) ?_
  refine lv_bipush (v := 6) hx hb dX2_copyFrom_41 (by decide) ?_
  refine va_copyi hx hb (hml.trans hl.1.symm) hown k2 k3 k4 k5 hK hP hD hS 10 3 0 0 rfl rfl rfl rfl rfl (by decide) (by decide) (by decide) (by decide +kernel) (by decide +kernel) (fun _ _ => rfl) (Nat.le_of_ble_eq_true rfl) (Nat.le_of_ble_eq_true rfl) dX2_copyFrom_43 (fun H locs hP hD hS => ?_)
  obtain ⟨f3, ef3⟩ : ∃ z : Nat → Int32, z = va_cpy p1_fees t_fees (0 : Int32).toNatClampNeg (0 : Int32).toNatClampNeg (6 : Int32).toNatClampNeg := ⟨_, rfl⟩
  have hf := pf_l hf f3 ef3
  have hP : va_P G vwCl [(a_t, .inr (2, [.ref a_t_meanings, .ref a_t_ears, .ref a_t_fees, .ref a_t_missed, .ref a_t_paid, .ref a_t_losses])), (a_t_meanings, .inl (cI, 180, .inl f1)), (a_t_ears, .inl (cI, 6, .inl f2)), (a_t_fees, .inl (cI, 6, .inl f3)), (a_t_missed, .inl (cI, 6, .inl t_missed)), (a_t_paid, .inl (cI, 6, .inl t_paid)), (a_t_losses, .inl (cI, 6, .inl t_losses)), (a_p1, .inr (2, [.ref a_p1_meanings, .ref a_p1_ears, .ref a_p1_fees, .ref a_p1_missed, .ref a_p1_paid, .ref a_p1_losses])), (a_p1_meanings, .inl (cI, 180, .inl p1_meanings)), (a_p1_ears, .inl (cI, 6, .inl p1_ears)), (a_p1_fees, .inl (cI, 6, .inl p1_fees)), (a_p1_missed, .inl (cI, 6, .inl p1_missed)), (a_p1_paid, .inl (cI, 6, .inl p1_paid)), (a_p1_losses, .inl (cI, 6, .inl p1_losses))] H := by rw [ef3]; exact hP
  have hD : va_D A [(a_t, .inr (2, [.ref a_t_meanings, .ref a_t_ears, .ref a_t_fees, .ref a_t_missed, .ref a_t_paid, .ref a_t_losses])), (a_t_meanings, .inl (cI, 180, .inl f1)), (a_t_ears, .inl (cI, 6, .inl f2)), (a_t_fees, .inl (cI, 6, .inl f3)), (a_t_missed, .inl (cI, 6, .inl t_missed)), (a_t_paid, .inl (cI, 6, .inl t_paid)), (a_t_losses, .inl (cI, 6, .inl t_losses)), (a_p1, .inr (2, [.ref a_p1_meanings, .ref a_p1_ears, .ref a_p1_fees, .ref a_p1_missed, .ref a_p1_paid, .ref a_p1_losses])), (a_p1_meanings, .inl (cI, 180, .inl p1_meanings)), (a_p1_ears, .inl (cI, 6, .inl p1_ears)), (a_p1_fees, .inl (cI, 6, .inl p1_fees)), (a_p1_missed, .inl (cI, 6, .inl p1_missed)), (a_p1_paid, .inl (cI, 6, .inl p1_paid)), (a_p1_losses, .inl (cI, 6, .inl p1_losses))] := by rw [ef3]; exact hD
  refine lv_aload_n hx hb dX2_copyFrom_46 rfl (lv_at hl 1 rfl) ?_
  refine va_get (D := G) (ci := 2) (v := .ref a_p1_missed) (C := RX2) (T := TX2) (N := 6) hx hb hts iwX2_copyFrom_X2 hown hK hP 7 rfl rfl 3 (by decide) k8 (fun _ h9 => h9) rfl dX2_copyFrom_47 ?_
  refine lv_iconst (v := 0) hx hb dX2_copyFrom_50 (by decide) ?_
  refine lv_aload_n hx hb dX2_copyFrom_51 rfl (lv_at hl 0 rfl) ?_
  refine va_get (D := G) (ci := 2) (v := .ref a_t_missed) (C := RX2) (T := TX2) (N := 6) hx hb hts iwX2_copyFrom_X2 hown hK hP 0 rfl rfl 3 (by decide) k8 (fun _ h9 => h9) rfl dX2_copyFrom_52 ?_
  refine lv_iconst (v := 0) hx hb dX2_copyFrom_55 (by decide) ?_
  refine lv_bipush (v := 6) hx hb dX2_copyFrom_56 (by decide) ?_
  refine va_copyi hx hb (hml.trans hl.1.symm) hown k2 k3 k4 k5 hK hP hD hS 11 4 0 0 rfl rfl rfl rfl rfl (by decide) (by decide) (by decide) (by decide +kernel) (by decide +kernel) (fun _ _ => rfl) (Nat.le_of_ble_eq_true rfl) (Nat.le_of_ble_eq_true rfl) dX2_copyFrom_58 (fun H locs hP hD hS => ?_)
  obtain ⟨f4, ef4⟩ : ∃ z : Nat → Int32, z = va_cpy p1_missed t_missed (0 : Int32).toNatClampNeg (0 : Int32).toNatClampNeg (6 : Int32).toNatClampNeg := ⟨_, rfl⟩
  have hf := pf_l hf f4 ef4
  have hP : va_P G vwCl [(a_t, .inr (2, [.ref a_t_meanings, .ref a_t_ears, .ref a_t_fees, .ref a_t_missed, .ref a_t_paid, .ref a_t_losses])), (a_t_meanings, .inl (cI, 180, .inl f1)), (a_t_ears, .inl (cI, 6, .inl f2)), (a_t_fees, .inl (cI, 6, .inl f3)), (a_t_missed, .inl (cI, 6, .inl f4)), (a_t_paid, .inl (cI, 6, .inl t_paid)), (a_t_losses, .inl (cI, 6, .inl t_losses)), (a_p1, .inr (2, [.ref a_p1_meanings, .ref a_p1_ears, .ref a_p1_fees, .ref a_p1_missed, .ref a_p1_paid, .ref a_p1_losses])), (a_p1_meanings, .inl (cI, 180, .inl p1_meanings)), (a_p1_ears, .inl (cI, 6, .inl p1_ears)), (a_p1_fees, .inl (cI, 6, .inl p1_fees)), (a_p1_missed, .inl (cI, 6, .inl p1_missed)), (a_p1_paid, .inl (cI, 6, .inl p1_paid)), (a_p1_losses, .inl (cI, 6, .inl p1_losses))] H := by rw [ef4]; exact hP
  have hD : va_D A [(a_t, .inr (2, [.ref a_t_meanings, .ref a_t_ears, .ref a_t_fees, .ref a_t_missed, .ref a_t_paid, .ref a_t_losses])), (a_t_meanings, .inl (cI, 180, .inl f1)), (a_t_ears, .inl (cI, 6, .inl f2)), (a_t_fees, .inl (cI, 6, .inl f3)), (a_t_missed, .inl (cI, 6, .inl f4)), (a_t_paid, .inl (cI, 6, .inl t_paid)), (a_t_losses, .inl (cI, 6, .inl t_losses)), (a_p1, .inr (2, [.ref a_p1_meanings, .ref a_p1_ears, .ref a_p1_fees, .ref a_p1_missed, .ref a_p1_paid, .ref a_p1_losses])), (a_p1_meanings, .inl (cI, 180, .inl p1_meanings)), (a_p1_ears, .inl (cI, 6, .inl p1_ears)), (a_p1_fees, .inl (cI, 6, .inl p1_fees)), (a_p1_missed, .inl (cI, 6, .inl p1_missed)), (a_p1_paid, .inl (cI, 6, .inl p1_paid)), (a_p1_losses, .inl (cI, 6, .inl p1_losses))] := by rw [ef4]; exact hD
  refine lv_aload_n hx hb dX2_copyFrom_61 rfl (lv_at hl 1 rfl) ?_
  refine va_get (D := G) (ci := 2) (v := .ref a_p1_paid) (C := RX2) (T := TX2) (N := 6) hx hb hts iwX2_copyFrom_X2 hown hK hP 7 rfl rfl 4 (by decide) k9 (fun _ h9 => h9) rfl dX2_copyFrom_62 ?_
  refine lv_iconst (v := 0) hx hb dX2_copyFrom_65 (by decide) ?_
  refine lv_aload_n hx hb dX2_copyFrom_66 rfl (lv_at hl 0 rfl) ?_
  refine va_get (D := G) (ci := 2) (v := .ref a_t_paid) (C := RX2) (T := TX2) (N := 6) hx hb hts iwX2_copyFrom_X2 hown hK hP 0 rfl rfl 4 (by decide) k9 (fun _ h9 => h9) rfl dX2_copyFrom_67 ?_
  refine lv_iconst (v := 0) hx hb dX2_copyFrom_70 (by decide) ?_
  refine lv_bipush (v := 6) hx hb dX2_copyFrom_71 (by decide) ?_
  refine va_copyi hx hb (hml.trans hl.1.symm) hown k2 k3 k4 k5 hK hP hD hS 12 5 0 0 rfl rfl rfl rfl rfl (by decide) (by decide) (by decide) (by decide +kernel) (by decide +kernel) (fun _ _ => rfl) (Nat.le_of_ble_eq_true rfl) (Nat.le_of_ble_eq_true rfl) dX2_copyFrom_73 (fun H locs hP hD hS => ?_)
  obtain ⟨f5, ef5⟩ : ∃ z : Nat → Int32, z = va_cpy p1_paid t_paid (0 : Int32).toNatClampNeg (0 : Int32).toNatClampNeg (6 : Int32).toNatClampNeg := ⟨_, rfl⟩
  have hf := pf_l hf f5 ef5
  have hP : va_P G vwCl [(a_t, .inr (2, [.ref a_t_meanings, .ref a_t_ears, .ref a_t_fees, .ref a_t_missed, .ref a_t_paid, .ref a_t_losses])), (a_t_meanings, .inl (cI, 180, .inl f1)), (a_t_ears, .inl (cI, 6, .inl f2)), (a_t_fees, .inl (cI, 6, .inl f3)), (a_t_missed, .inl (cI, 6, .inl f4)), (a_t_paid, .inl (cI, 6, .inl f5)), (a_t_losses, .inl (cI, 6, .inl t_losses)), (a_p1, .inr (2, [.ref a_p1_meanings, .ref a_p1_ears, .ref a_p1_fees, .ref a_p1_missed, .ref a_p1_paid, .ref a_p1_losses])), (a_p1_meanings, .inl (cI, 180, .inl p1_meanings)), (a_p1_ears, .inl (cI, 6, .inl p1_ears)), (a_p1_fees, .inl (cI, 6, .inl p1_fees)), (a_p1_missed, .inl (cI, 6, .inl p1_missed)), (a_p1_paid, .inl (cI, 6, .inl p1_paid)), (a_p1_losses, .inl (cI, 6, .inl p1_losses))] H := by rw [ef5]; exact hP
  have hD : va_D A [(a_t, .inr (2, [.ref a_t_meanings, .ref a_t_ears, .ref a_t_fees, .ref a_t_missed, .ref a_t_paid, .ref a_t_losses])), (a_t_meanings, .inl (cI, 180, .inl f1)), (a_t_ears, .inl (cI, 6, .inl f2)), (a_t_fees, .inl (cI, 6, .inl f3)), (a_t_missed, .inl (cI, 6, .inl f4)), (a_t_paid, .inl (cI, 6, .inl f5)), (a_t_losses, .inl (cI, 6, .inl t_losses)), (a_p1, .inr (2, [.ref a_p1_meanings, .ref a_p1_ears, .ref a_p1_fees, .ref a_p1_missed, .ref a_p1_paid, .ref a_p1_losses])), (a_p1_meanings, .inl (cI, 180, .inl p1_meanings)), (a_p1_ears, .inl (cI, 6, .inl p1_ears)), (a_p1_fees, .inl (cI, 6, .inl p1_fees)), (a_p1_missed, .inl (cI, 6, .inl p1_missed)), (a_p1_paid, .inl (cI, 6, .inl p1_paid)), (a_p1_losses, .inl (cI, 6, .inl p1_losses))] := by rw [ef5]; exact hD
  refine lv_aload_n hx hb dX2_copyFrom_76 rfl (lv_at hl 1 rfl) ?_
  refine va_get (D := G) (ci := 2) (v := .ref a_p1_losses) (C := RX2) (T := TX2) (N := 6) hx hb hts iwX2_copyFrom_X2 hown hK hP 7 rfl rfl 5 (by decide) k10 (fun _ h9 => h9) rfl dX2_copyFrom_77 ?_
  refine lv_iconst (v := 0) hx hb dX2_copyFrom_80 (by decide) ?_
  refine lv_aload_n hx hb dX2_copyFrom_81 rfl (lv_at hl 0 rfl) ?_
  refine va_get (D := G) (ci := 2) (v := .ref a_t_losses) (C := RX2) (T := TX2) (N := 6) hx hb hts iwX2_copyFrom_X2 hown hK hP 0 rfl rfl 5 (by decide) k10 (fun _ h9 => h9) rfl dX2_copyFrom_82 ?_
  refine lv_iconst (v := 0) hx hb dX2_copyFrom_85 (by decide) ?_
  refine lv_bipush (v := 6) hx hb dX2_copyFrom_86 (by decide) ?_
  refine va_copyi hx hb (hml.trans hl.1.symm) hown k2 k3 k4 k5 hK hP hD hS 13 6 0 0 rfl rfl rfl rfl rfl (by decide) (by decide) (by decide) (by decide +kernel) (by decide +kernel) (fun _ _ => rfl) (Nat.le_of_ble_eq_true rfl) (Nat.le_of_ble_eq_true rfl) dX2_copyFrom_88 (fun H locs hP hD hS => ?_)
  obtain ⟨f6, ef6⟩ : ∃ z : Nat → Int32, z = va_cpy p1_losses t_losses (0 : Int32).toNatClampNeg (0 : Int32).toNatClampNeg (6 : Int32).toNatClampNeg := ⟨_, rfl⟩
  have hf := pf_l hf f6 ef6
  have hP : va_P G vwCl [(a_t, .inr (2, [.ref a_t_meanings, .ref a_t_ears, .ref a_t_fees, .ref a_t_missed, .ref a_t_paid, .ref a_t_losses])), (a_t_meanings, .inl (cI, 180, .inl f1)), (a_t_ears, .inl (cI, 6, .inl f2)), (a_t_fees, .inl (cI, 6, .inl f3)), (a_t_missed, .inl (cI, 6, .inl f4)), (a_t_paid, .inl (cI, 6, .inl f5)), (a_t_losses, .inl (cI, 6, .inl f6)), (a_p1, .inr (2, [.ref a_p1_meanings, .ref a_p1_ears, .ref a_p1_fees, .ref a_p1_missed, .ref a_p1_paid, .ref a_p1_losses])), (a_p1_meanings, .inl (cI, 180, .inl p1_meanings)), (a_p1_ears, .inl (cI, 6, .inl p1_ears)), (a_p1_fees, .inl (cI, 6, .inl p1_fees)), (a_p1_missed, .inl (cI, 6, .inl p1_missed)), (a_p1_paid, .inl (cI, 6, .inl p1_paid)), (a_p1_losses, .inl (cI, 6, .inl p1_losses))] H := by rw [ef6]; exact hP
  have hD : va_D A [(a_t, .inr (2, [.ref a_t_meanings, .ref a_t_ears, .ref a_t_fees, .ref a_t_missed, .ref a_t_paid, .ref a_t_losses])), (a_t_meanings, .inl (cI, 180, .inl f1)), (a_t_ears, .inl (cI, 6, .inl f2)), (a_t_fees, .inl (cI, 6, .inl f3)), (a_t_missed, .inl (cI, 6, .inl f4)), (a_t_paid, .inl (cI, 6, .inl f5)), (a_t_losses, .inl (cI, 6, .inl f6)), (a_p1, .inr (2, [.ref a_p1_meanings, .ref a_p1_ears, .ref a_p1_fees, .ref a_p1_missed, .ref a_p1_paid, .ref a_p1_losses])), (a_p1_meanings, .inl (cI, 180, .inl p1_meanings)), (a_p1_ears, .inl (cI, 6, .inl p1_ears)), (a_p1_fees, .inl (cI, 6, .inl p1_fees)), (a_p1_missed, .inl (cI, 6, .inl p1_missed)), (a_p1_paid, .inl (cI, 6, .inl p1_paid)), (a_p1_losses, .inl (cI, 6, .inl p1_losses))] := by rw [ef6]; exact hD
  obtain rfl := Option.some.inj hf
  exact mEnd_v () hx hb hr hlocks hP hK hD hS rfl (Nat.le_of_ble_eq_true rfl) (Nat.le_of_ble_eq_true rfl) dX2_copyFrom_91
def bX2_wordsWithoutMeaning_1 (p1 : Int32) (t_meanings : Nat → Int32) (k : Nat → Int32 → Int32 → Option (Int32)) (x2 : Int32) (x3 : Int32) : Option (Int32) :=
  (if (30 : Int32) ≤ x3 then some (x2) else ((fX2_meaningOf p1 x3 t_meanings).bind fun (u2 : Int32) => (if u2 = ((-1) : Int32) then k 1 (x2 + 1) (x3 + 1) else k 1 x2 (x3 + 1))))
def sX2_wordsWithoutMeaning (p1 : Int32) (t_meanings : Nat → Int32) (k : Nat → Int32 → Int32 → Option (Int32)) (b : Nat) (x2 : Int32) (x3 : Int32) : Option (Int32) := match b with
  | 1 => bX2_wordsWithoutMeaning_1 p1 t_meanings k x2 x3
  | _ => none
def rX2_wordsWithoutMeaning (p1 : Int32) (t_meanings : Nat → Int32) : Nat → Nat → Int32 → Int32 → Option (Int32)
  | 0 => fun _ _ _ => none
  | n + 1 => sX2_wordsWithoutMeaning p1 t_meanings (rX2_wordsWithoutMeaning p1 t_meanings n)
def eX2_wordsWithoutMeaning (p1 : Int32) (t_meanings : Nat → Int32) (k : Nat → Int32 → Int32 → Option (Int32)) : Option (Int32) :=
  k 1 (0 : Int32) (0 : Int32)
def fX2_wordsWithoutMeaning (p1 : Int32) (t_meanings : Nat → Int32) : Option (Int32) := eX2_wordsWithoutMeaning p1 t_meanings (rX2_wordsWithoutMeaning p1 t_meanings fuelN)
set_option maxHeartbeats 4000000 in
set_option maxRecDepth 100000 in
theorem mX2_wordsWithoutMeaning (l : Launch) (G : va_G) (cI : ClassId) (a_t a_t_meanings : Nat) (sz : Nat) (vt_ears vt_fees vt_missed vt_paid vt_losses : Value) (t_meanings : Nat → Int32) (p1 : Int32) (res : Int32) (hf : fX2_wordsWithoutMeaning p1 t_meanings = some res) : Met l yX2_wordsWithoutMeaning wsX2_wordsWithoutMeaning ({ frames := 1, cells := 0, slots := 0, locals := 22 }) (mPc G [(cI, .int)] [.ref a_t, .int p1] sz [(a_t, .inr (2, [.ref a_t_meanings, vt_ears, vt_fees, vt_missed, vt_paid, vt_losses])), (a_t_meanings, .inl (cI, 180, .inl t_meanings))]) (mQi G [(cI, .int)] (va_A [(a_t, .inr (2, [.ref a_t_meanings, vt_ears, vt_fees, vt_missed, vt_paid, vt_losses])), (a_t_meanings, .inl (cI, 180, .inl t_meanings))] sz) (fun _ : Unit => res) (fun _ => [(a_t, .inr (2, [.ref a_t_meanings, vt_ears, vt_fees, vt_missed, vt_paid, vt_losses])), (a_t_meanings, .inl (cI, 180, .inl t_meanings))])) 0 0 (va_A [(a_t, .inr (2, [.ref a_t_meanings, vt_ears, vt_fees, vt_missed, vt_paid, vt_losses])), (a_t_meanings, .inl (cI, 180, .inl t_meanings))] sz) := by
  refine mStart (cc := cX2_wordsWithoutMeaning) (maxL := 4) (ret := (some .int)) (by decide) rfl (Nat.le_of_ble_eq_true rfl) ?_
  intro p e s m below meth c A ls hx hb hml hr hts hown hlocks hnm hA hsz hAe hP hK hD hS hl
  have hl : lv_has ls 4 [(0, .ref a_t), (1, .int p1)] := hl
  rw [hAe]
  have key : ∀ n : Nat, (∀ (x2 : Int32) (x3 : Int32) (H : Heap) (locs : List Loc) (hf : rX2_wordsWithoutMeaning p1 t_meanings n 1 x2 x3 = some res) (hP : va_P G vwCl [(a_t, .inr (2, [.ref a_t_meanings, vt_ears, vt_fees, vt_missed, vt_paid, vt_losses])), (a_t_meanings, .inl (cI, 180, .inl t_meanings))] H) (hD : va_D A [(a_t, .inr (2, [.ref a_t_meanings, vt_ears, vt_fees, vt_missed, vt_paid, vt_losses])), (a_t_meanings, .inl (cI, 180, .inl t_meanings))]) (hS : va_S A s.heap H locs) (ls : Array Slot) (hl : lv_has ls 4 [(0, .ref a_t), (1, .int p1), (2, .int x2), (3, .int x3)]), W p l e ({ frames := 1, cells := 0, slots := 0, locals := 22 } : Room) s m ([.ref a_t, .int p1] : List Value).toArray below meth c H locs 0 0 (MQ below (mQi G [(cI, .int)] A (fun _ : Unit => res) (fun _ => [(a_t, .inr (2, [.ref a_t_meanings, vt_ears, vt_fees, vt_missed, vt_paid, vt_losses])), (a_t_meanings, .inl (cI, 180, .inl t_meanings))])) ([.ref a_t, .int p1] : List Value).toArray s 0 0 A) (F0 m 4 ls [])) := by
    intro n
    induction n with
    | zero => exact (fun _ _ H locs hf => (by cases hf))
    | succ n ih =>
      · intro  x2 x3 H locs hf hP hD hS ls hl
        replace hf : bX2_wordsWithoutMeaning_1 p1 t_meanings (rX2_wordsWithoutMeaning p1 t_meanings n) x2 x3 = some res := hf
        unfold bX2_wordsWithoutMeaning_1 at hf
        refine lv_iload_n hx hb dX2_wordsWithoutMeaning_4 rfl (lv_at hl 3 rfl) ?_
        refine lv_bipush (v := 30) hx hb dX2_wordsWithoutMeaning_5 (by decide) ?_
        refine lv_icmp_ge (tgt := 29) hx hb dX2_wordsWithoutMeaning_7 (by decide) (fun c1 => ?_) (fun c1 => ?_)
        · have hf := pf_t hf c1
          refine lv_iload_n hx hb dX2_wordsWithoutMeaning_29 rfl (lv_at hl 2 rfl) ?_
          obtain rfl := Option.some.inj hf
          exact mEnd_i () hx hb hr hlocks hP hK hD hS rfl rfl (Nat.le_refl _) (Nat.le_refl _) dX2_wordsWithoutMeaning_30
        · have hf := pf_f hf c1
          refine lv_aload_n hx hb dX2_wordsWithoutMeaning_10 rfl (lv_at hl 0 rfl) ?_
          refine lv_iload_n hx hb dX2_wordsWithoutMeaning_11 rfl (lv_at hl 1 rfl) ?_
          refine lv_iload_n hx hb dX2_wordsWithoutMeaning_12 rfl (lv_at hl 3 rfl) ?_
          obtain ⟨u2, hu2, hf⟩ := pf_b hf
          refine mCallV_i (As := [.int p1, .int x3]) ⟨hx, hb, hml, hown, hts⟩ (mX2_meaningOf l G cI a_t a_t_meanings H.size vt_ears vt_fees vt_missed vt_paid vt_losses t_meanings p1 x3 _ hu2) (cwV 2 hts gX2_wordsWithoutMeaning_X2_meaningOf rfl rfl rfl (by decide +kernel) ⟨Nat.le_of_ble_eq_true rfl, Nat.le_of_ble_eq_true rfl⟩) hP hD hS hA hK [0, 1] rfl (by decide) 0 2 rfl rfl rfl hK [a_t, a_t_meanings] (fun _ => rfl) rfl (fun _ => [(a_t, .inr (2, [.ref a_t_meanings, vt_ears, vt_fees, vt_missed, vt_paid, vt_losses])), (a_t_meanings, .inl (cI, 180, .inl t_meanings))]) [a_t, a_t_meanings] (fun _ => rfl) rfl (fun _ => rfl) [] [] (fun _ => rfl) rfl 2 rfl rfl rfl hl.1 rfl (lv_room (Nat.le_of_ble_eq_true rfl)) dX2_wordsWithoutMeaning_13 ⟨Nat.zero_le _, Nat.zero_le _⟩ (fun _ H locs hP hD hS => ?_)
          have hP : va_P G vwCl [(a_t, .inr (2, [.ref a_t_meanings, vt_ears, vt_fees, vt_missed, vt_paid, vt_losses])), (a_t_meanings, .inl (cI, 180, .inl t_meanings))] H := hP
          have hD : va_D A [(a_t, .inr (2, [.ref a_t_meanings, vt_ears, vt_fees, vt_missed, vt_paid, vt_losses])), (a_t_meanings, .inl (cI, 180, .inl t_meanings))] := hD
          refine lv_iconst (v := (-1)) hx hb dX2_wordsWithoutMeaning_16 (by decide) ?_
          refine lv_icmp_ne (tgt := 23) hx hb dX2_wordsWithoutMeaning_17 (by decide) (fun c3 => ?_) (fun c3 => ?_)
          · have hf := pf_f hf c3
            refine lv_iinc (v := x3 + 1) (lv' := [(3, .int (x3 + 1)), (0, .ref a_t), (1, .int p1), (2, .int x2)]) hx hb dX2_wordsWithoutMeaning_23 hl (k := 3) rfl rfl (by decide) rfl (fun ls hl => ?_)
            refine lv_goto (tgt := 4) hx hb dX2_wordsWithoutMeaning_26 (by decide) ?_
            exact ih x2 (x3 + 1) H locs hf hP hD hS ls (lv_sub hl [1, 2, 3, 0] rfl)
          · have hf := pf_t hf c3
            refine lv_iinc (v := x2 + 1) (lv' := [(2, .int (x2 + 1)), (0, .ref a_t), (1, .int p1), (3, .int x3)]) hx hb dX2_wordsWithoutMeaning_20 hl (k := 2) rfl rfl (by decide) rfl (fun ls hl => ?_)
            refine lv_iinc (v := x3 + 1) (lv' := [(3, .int (x3 + 1)), (2, .int (x2 + 1)), (0, .ref a_t), (1, .int p1)]) hx hb dX2_wordsWithoutMeaning_23 hl (k := 3) rfl rfl (by decide) rfl (fun ls hl => ?_)
            refine lv_goto (tgt := 4) hx hb dX2_wordsWithoutMeaning_26 (by decide) ?_
            exact ih (x2 + 1) (x3 + 1) H locs hf hP hD hS ls (lv_sub hl [2, 3, 1, 0] rfl)
  unfold fX2_wordsWithoutMeaning eX2_wordsWithoutMeaning at hf
  obtain ⟨H, hH⟩ : ∃ H : Heap, H = s.heap := ⟨_, rfl⟩
  obtain ⟨locs, hlc⟩ : ∃ z : List Loc, z = [] := ⟨_, rfl⟩
  rw [← hlc, ← hH]
  have hP : va_P G vwCl [(a_t, .inr (2, [.ref a_t_meanings, vt_ears, vt_fees, vt_missed, vt_paid, vt_losses])), (a_t_meanings, .inl (cI, 180, .inl t_meanings))] H := by rw [hH]; exact hP
  have hS : va_S A s.heap H locs := by rw [hlc, hH]; exact hS
  refine lv_iconst (v := 0) hx hb dX2_wordsWithoutMeaning_0 (by decide) ?_
  refine lv_istore_n (lv' := [(2, .int 0), (0, .ref a_t), (1, .int p1)]) hx hb dX2_wordsWithoutMeaning_1 rfl hl (by decide) rfl (fun ls hl => ?_)
  refine lv_iconst (v := 0) hx hb dX2_wordsWithoutMeaning_2 (by decide) ?_
  refine lv_istore_n (lv' := [(3, .int 0), (2, .int 0), (0, .ref a_t), (1, .int p1)]) hx hb dX2_wordsWithoutMeaning_3 rfl hl (by decide) rfl (fun ls hl => ?_)
  exact (key fuelN) (0 : Int32) (0 : Int32) H locs hf hP hD hS ls (lv_sub hl [2, 3, 1, 0] rfl)
def bX2_wordsLikeLowerOnes_1 (p1 : Int32) (t_meanings : Nat → Int32) (k : Nat → Int32 → Int32 → Option (Int32)) (x2 : Int32) (x3 : Int32) : Option (Int32) :=
  (if (30 : Int32) ≤ x3 then some (x2) else ((fX2_backFor p1 x3 t_meanings).bind fun (u2 : Int32) => (if x3 ≤ u2 then k 1 x2 (x3 + 1) else k 1 (x2 + 1) (x3 + 1))))
def sX2_wordsLikeLowerOnes (p1 : Int32) (t_meanings : Nat → Int32) (k : Nat → Int32 → Int32 → Option (Int32)) (b : Nat) (x2 : Int32) (x3 : Int32) : Option (Int32) := match b with
  | 1 => bX2_wordsLikeLowerOnes_1 p1 t_meanings k x2 x3
  | _ => none
def rX2_wordsLikeLowerOnes (p1 : Int32) (t_meanings : Nat → Int32) : Nat → Nat → Int32 → Int32 → Option (Int32)
  | 0 => fun _ _ _ => none
  | n + 1 => sX2_wordsLikeLowerOnes p1 t_meanings (rX2_wordsLikeLowerOnes p1 t_meanings n)
def eX2_wordsLikeLowerOnes (p1 : Int32) (t_meanings : Nat → Int32) (k : Nat → Int32 → Int32 → Option (Int32)) : Option (Int32) :=
  k 1 (0 : Int32) (0 : Int32)
def fX2_wordsLikeLowerOnes (p1 : Int32) (t_meanings : Nat → Int32) : Option (Int32) := eX2_wordsLikeLowerOnes p1 t_meanings (rX2_wordsLikeLowerOnes p1 t_meanings fuelN)
set_option maxHeartbeats 4000000 in
set_option maxRecDepth 100000 in
theorem mX2_wordsLikeLowerOnes (l : Launch) (G : va_G) (cI : ClassId) (a_t a_t_meanings : Nat) (sz : Nat) (vt_ears vt_fees vt_missed vt_paid vt_losses : Value) (t_meanings : Nat → Int32) (p1 : Int32) (res : Int32) (hf : fX2_wordsLikeLowerOnes p1 t_meanings = some res) : Met l yX2_wordsLikeLowerOnes wsX2_wordsLikeLowerOnes ({ frames := 2, cells := 0, slots := 0, locals := 46 }) (mPc G [(cI, .int)] [.ref a_t, .int p1] sz [(a_t, .inr (2, [.ref a_t_meanings, vt_ears, vt_fees, vt_missed, vt_paid, vt_losses])), (a_t_meanings, .inl (cI, 180, .inl t_meanings))]) (mQi G [(cI, .int)] (va_A [(a_t, .inr (2, [.ref a_t_meanings, vt_ears, vt_fees, vt_missed, vt_paid, vt_losses])), (a_t_meanings, .inl (cI, 180, .inl t_meanings))] sz) (fun _ : Unit => res) (fun _ => [(a_t, .inr (2, [.ref a_t_meanings, vt_ears, vt_fees, vt_missed, vt_paid, vt_losses])), (a_t_meanings, .inl (cI, 180, .inl t_meanings))])) 0 0 (va_A [(a_t, .inr (2, [.ref a_t_meanings, vt_ears, vt_fees, vt_missed, vt_paid, vt_losses])), (a_t_meanings, .inl (cI, 180, .inl t_meanings))] sz) := by
  refine mStart (cc := cX2_wordsLikeLowerOnes) (maxL := 4) (ret := (some .int)) (by decide) rfl (Nat.le_of_ble_eq_true rfl) ?_
  intro p e s m below meth c A ls hx hb hml hr hts hown hlocks hnm hA hsz hAe hP hK hD hS hl
  have hl : lv_has ls 4 [(0, .ref a_t), (1, .int p1)] := hl
  rw [hAe]
  have key : ∀ n : Nat, (∀ (x2 : Int32) (x3 : Int32) (H : Heap) (locs : List Loc) (hf : rX2_wordsLikeLowerOnes p1 t_meanings n 1 x2 x3 = some res) (hP : va_P G vwCl [(a_t, .inr (2, [.ref a_t_meanings, vt_ears, vt_fees, vt_missed, vt_paid, vt_losses])), (a_t_meanings, .inl (cI, 180, .inl t_meanings))] H) (hD : va_D A [(a_t, .inr (2, [.ref a_t_meanings, vt_ears, vt_fees, vt_missed, vt_paid, vt_losses])), (a_t_meanings, .inl (cI, 180, .inl t_meanings))]) (hS : va_S A s.heap H locs) (ls : Array Slot) (hl : lv_has ls 4 [(0, .ref a_t), (1, .int p1), (2, .int x2), (3, .int x3)]), W p l e ({ frames := 2, cells := 0, slots := 0, locals := 46 } : Room) s m ([.ref a_t, .int p1] : List Value).toArray below meth c H locs 0 0 (MQ below (mQi G [(cI, .int)] A (fun _ : Unit => res) (fun _ => [(a_t, .inr (2, [.ref a_t_meanings, vt_ears, vt_fees, vt_missed, vt_paid, vt_losses])), (a_t_meanings, .inl (cI, 180, .inl t_meanings))])) ([.ref a_t, .int p1] : List Value).toArray s 0 0 A) (F0 m 4 ls [])) := by
    intro n
    induction n with
    | zero => exact (fun _ _ H locs hf => (by cases hf))
    | succ n ih =>
      · intro  x2 x3 H locs hf hP hD hS ls hl
        replace hf : bX2_wordsLikeLowerOnes_1 p1 t_meanings (rX2_wordsLikeLowerOnes p1 t_meanings n) x2 x3 = some res := hf
        unfold bX2_wordsLikeLowerOnes_1 at hf
        refine lv_iload_n hx hb dX2_wordsLikeLowerOnes_4 rfl (lv_at hl 3 rfl) ?_
        refine lv_bipush (v := 30) hx hb dX2_wordsLikeLowerOnes_5 (by decide) ?_
        refine lv_icmp_ge (tgt := 29) hx hb dX2_wordsLikeLowerOnes_7 (by decide) (fun c1 => ?_) (fun c1 => ?_)
        · have hf := pf_t hf c1
          refine lv_iload_n hx hb dX2_wordsLikeLowerOnes_29 rfl (lv_at hl 2 rfl) ?_
          obtain rfl := Option.some.inj hf
          exact mEnd_i () hx hb hr hlocks hP hK hD hS rfl rfl (Nat.le_refl _) (Nat.le_refl _) dX2_wordsLikeLowerOnes_30
        · have hf := pf_f hf c1
          refine lv_aload_n hx hb dX2_wordsLikeLowerOnes_10 rfl (lv_at hl 0 rfl) ?_
          refine lv_iload_n hx hb dX2_wordsLikeLowerOnes_11 rfl (lv_at hl 1 rfl) ?_
          refine lv_iload_n hx hb dX2_wordsLikeLowerOnes_12 rfl (lv_at hl 3 rfl) ?_
          obtain ⟨u2, hu2, hf⟩ := pf_b hf
          refine mCallV_i (As := [.int p1, .int x3]) ⟨hx, hb, hml, hown, hts⟩ (mX2_backFor l G cI a_t a_t_meanings H.size vt_ears vt_fees vt_missed vt_paid vt_losses t_meanings p1 x3 _ hu2) (cwV 2 hts gX2_wordsLikeLowerOnes_X2_backFor rfl rfl rfl (by decide +kernel) ⟨Nat.le_of_ble_eq_true rfl, Nat.le_of_ble_eq_true rfl⟩) hP hD hS hA hK [0, 1] rfl (by decide) 0 2 rfl rfl rfl hK [a_t, a_t_meanings] (fun _ => rfl) rfl (fun _ => [(a_t, .inr (2, [.ref a_t_meanings, vt_ears, vt_fees, vt_missed, vt_paid, vt_losses])), (a_t_meanings, .inl (cI, 180, .inl t_meanings))]) [a_t, a_t_meanings] (fun _ => rfl) rfl (fun _ => rfl) [] [] (fun _ => rfl) rfl 2 rfl rfl rfl hl.1 rfl (lv_room (Nat.le_of_ble_eq_true rfl)) dX2_wordsLikeLowerOnes_13 ⟨Nat.zero_le _, Nat.zero_le _⟩ (fun _ H locs hP hD hS => ?_)
          have hP : va_P G vwCl [(a_t, .inr (2, [.ref a_t_meanings, vt_ears, vt_fees, vt_missed, vt_paid, vt_losses])), (a_t_meanings, .inl (cI, 180, .inl t_meanings))] H := hP
          have hD : va_D A [(a_t, .inr (2, [.ref a_t_meanings, vt_ears, vt_fees, vt_missed, vt_paid, vt_losses])), (a_t_meanings, .inl (cI, 180, .inl t_meanings))] := hD
          refine lv_iload_n hx hb dX2_wordsLikeLowerOnes_16 rfl (lv_at hl 3 rfl) ?_
          refine lv_icmp_ge (tgt := 23) hx hb dX2_wordsLikeLowerOnes_17 (by decide) (fun c3 => ?_) (fun c3 => ?_)
          · have hf := pf_t hf c3
            refine lv_iinc (v := x3 + 1) (lv' := [(3, .int (x3 + 1)), (0, .ref a_t), (1, .int p1), (2, .int x2)]) hx hb dX2_wordsLikeLowerOnes_23 hl (k := 3) rfl rfl (by decide) rfl (fun ls hl => ?_)
            refine lv_goto (tgt := 4) hx hb dX2_wordsLikeLowerOnes_26 (by decide) ?_
            exact ih x2 (x3 + 1) H locs hf hP hD hS ls (lv_sub hl [1, 2, 3, 0] rfl)
          · have hf := pf_f hf c3
            refine lv_iinc (v := x2 + 1) (lv' := [(2, .int (x2 + 1)), (0, .ref a_t), (1, .int p1), (3, .int x3)]) hx hb dX2_wordsLikeLowerOnes_20 hl (k := 2) rfl rfl (by decide) rfl (fun ls hl => ?_)
            refine lv_iinc (v := x3 + 1) (lv' := [(3, .int (x3 + 1)), (2, .int (x2 + 1)), (0, .ref a_t), (1, .int p1)]) hx hb dX2_wordsLikeLowerOnes_23 hl (k := 3) rfl rfl (by decide) rfl (fun ls hl => ?_)
            refine lv_goto (tgt := 4) hx hb dX2_wordsLikeLowerOnes_26 (by decide) ?_
            exact ih (x2 + 1) (x3 + 1) H locs hf hP hD hS ls (lv_sub hl [2, 3, 1, 0] rfl)
  unfold fX2_wordsLikeLowerOnes eX2_wordsLikeLowerOnes at hf
  obtain ⟨H, hH⟩ : ∃ H : Heap, H = s.heap := ⟨_, rfl⟩
  obtain ⟨locs, hlc⟩ : ∃ z : List Loc, z = [] := ⟨_, rfl⟩
  rw [← hlc, ← hH]
  have hP : va_P G vwCl [(a_t, .inr (2, [.ref a_t_meanings, vt_ears, vt_fees, vt_missed, vt_paid, vt_losses])), (a_t_meanings, .inl (cI, 180, .inl t_meanings))] H := by rw [hH]; exact hP
  have hS : va_S A s.heap H locs := by rw [hlc, hH]; exact hS
  refine lv_iconst (v := 0) hx hb dX2_wordsLikeLowerOnes_0 (by decide) ?_
  refine lv_istore_n (lv' := [(2, .int 0), (0, .ref a_t), (1, .int p1)]) hx hb dX2_wordsLikeLowerOnes_1 rfl hl (by decide) rfl (fun ls hl => ?_)
  refine lv_iconst (v := 0) hx hb dX2_wordsLikeLowerOnes_2 (by decide) ?_
  refine lv_istore_n (lv' := [(3, .int 0), (2, .int 0), (0, .ref a_t), (1, .int p1)]) hx hb dX2_wordsLikeLowerOnes_3 rfl hl (by decide) rfl (fun ls hl => ?_)
  exact (key fuelN) (0 : Int32) (0 : Int32) H locs hf hP hD hS ls (lv_sub hl [2, 3, 1, 0] rfl)
def fX7_copyFrom (t_size : Int32) (t_words : Nat → Int32) (t_lengths : Nat → Int32) (t_urgencies : Nat → Int32) (p1_size : Int32) (p1_words : Nat → Int32) (p1_lengths : Nat → Int32) (p1_urgencies : Nat → Int32) : Option (Int32 × (Nat → Int32) × (Nat → Int32) × (Nat → Int32)) :=
  (lt (va_cpy p1_words t_words (0 : Int32).toNatClampNeg (0 : Int32).toNatClampNeg (96 : Int32).toNatClampNeg) fun (f1 : Nat → Int32) => (lt (va_cpy p1_lengths t_lengths (0 : Int32).toNatClampNeg (0 : Int32).toNatClampNeg (8 : Int32).toNatClampNeg) fun (f2 : Nat → Int32) => (lt (va_cpy p1_urgencies t_urgencies (0 : Int32).toNatClampNeg (0 : Int32).toNatClampNeg (8 : Int32).toNatClampNeg) fun (f3 : Nat → Int32) => some (p1_size, f1, f2, f3))))
theorem iwX7_copyFrom_X7 : ∀ w ∈ u_ws RX7 TX7 4, w ∈ wsX7_copyFrom := by decide +kernel
set_option maxHeartbeats 4000000 in
set_option maxRecDepth 100000 in
theorem mX7_copyFrom (l : Launch) (G : va_G) (cI : ClassId) (a_t a_t_words a_t_lengths a_t_urgencies a_p1 a_p1_words a_p1_lengths a_p1_urgencies : Nat) (sz : Nat)  (t_size : Int32) (t_words : Nat → Int32) (t_lengths : Nat → Int32) (t_urgencies : Nat → Int32) (p1_size : Int32) (p1_words : Nat → Int32) (p1_lengths : Nat → Int32) (p1_urgencies : Nat → Int32)  (res : Int32 × (Nat → Int32) × (Nat → Int32) × (Nat → Int32)) (hf : fX7_copyFrom t_size t_words t_lengths t_urgencies p1_size p1_words p1_lengths p1_urgencies = some res) : Met l yX7_copyFrom wsX7_copyFrom ({ frames := 1, cells := 0, slots := 0, locals := 48 }) (mPc G [(cI, .int)] [.ref a_t, .ref a_p1] sz [(a_t, .inr (7, [.ref a_t_words, .ref a_t_lengths, .ref a_t_urgencies, .int t_size])), (a_t_words, .inl (cI, 96, .inl t_words)), (a_t_lengths, .inl (cI, 8, .inl t_lengths)), (a_t_urgencies, .inl (cI, 8, .inl t_urgencies)), (a_p1, .inr (7, [.ref a_p1_words, .ref a_p1_lengths, .ref a_p1_urgencies, .int p1_size])), (a_p1_words, .inl (cI, 96, .inl p1_words)), (a_p1_lengths, .inl (cI, 8, .inl p1_lengths)), (a_p1_urgencies, .inl (cI, 8, .inl p1_urgencies))]) (mQv G [(cI, .int)] (va_A [(a_t, .inr (7, [.ref a_t_words, .ref a_t_lengths, .ref a_t_urgencies, .int t_size])), (a_t_words, .inl (cI, 96, .inl t_words)), (a_t_lengths, .inl (cI, 8, .inl t_lengths)), (a_t_urgencies, .inl (cI, 8, .inl t_urgencies)), (a_p1, .inr (7, [.ref a_p1_words, .ref a_p1_lengths, .ref a_p1_urgencies, .int p1_size])), (a_p1_words, .inl (cI, 96, .inl p1_words)), (a_p1_lengths, .inl (cI, 8, .inl p1_lengths)), (a_p1_urgencies, .inl (cI, 8, .inl p1_urgencies))] sz) (fun u9 : Unit => [(a_t, .inr (7, [.ref a_t_words, .ref a_t_lengths, .ref a_t_urgencies, .int res.1])), (a_t_words, .inl (cI, 96, .inl res.2.1)), (a_t_lengths, .inl (cI, 8, .inl res.2.2.1)), (a_t_urgencies, .inl (cI, 8, .inl res.2.2.2)), (a_p1, .inr (7, [.ref a_p1_words, .ref a_p1_lengths, .ref a_p1_urgencies, .int p1_size])), (a_p1_words, .inl (cI, 96, .inl p1_words)), (a_p1_lengths, .inl (cI, 8, .inl p1_lengths)), (a_p1_urgencies, .inl (cI, 8, .inl p1_urgencies))])) 0 0 (va_A [(a_t, .inr (7, [.ref a_t_words, .ref a_t_lengths, .ref a_t_urgencies, .int t_size])), (a_t_words, .inl (cI, 96, .inl t_words)), (a_t_lengths, .inl (cI, 8, .inl t_lengths)), (a_t_urgencies, .inl (cI, 8, .inl t_urgencies)), (a_p1, .inr (7, [.ref a_p1_words, .ref a_p1_lengths, .ref a_p1_urgencies, .int p1_size])), (a_p1_words, .inl (cI, 96, .inl p1_words)), (a_p1_lengths, .inl (cI, 8, .inl p1_lengths)), (a_p1_urgencies, .inl (cI, 8, .inl p1_urgencies))] sz) := by
  refine mStart (cc := cX7_copyFrom) (maxL := 2) (ret := none) (by decide) rfl (Nat.le_of_ble_eq_true rfl) ?_
  intro p e s m below meth c A ls hx hb hml hr hts hown hlocks hnm hA hsz hAe hP hK hD hS hl
  have hl : lv_has ls 2 [(0, .ref a_t), (1, .ref a_p1)] := hl
  rw [hAe]
  have k1 := hts (.fieldLink RX7 9 "DeafChain$Waiting" "words" "[I") (by decide +kernel)
  have k2 := hts (.methodLink RX7 21 arraycopyName) (by decide +kernel)
  have k3 := hts (.native arraycopyName) (by decide +kernel)
  have k4 := hts (.static arraycopyName) (by decide +kernel)
  have k5 := hts (.initialized "java/lang/System") (by decide +kernel)
  have k6 := hts (.fieldLink RX7 15 "DeafChain$Waiting" "lengths" "[I") (by decide +kernel)
  have k7 := hts (.fieldLink RX7 18 "DeafChain$Waiting" "urgencies" "[I") (by decide +kernel)
  have k8 := hts (.fieldLink RX7 27 "DeafChain$Waiting" "size" "I") (by decide +kernel)
  unfold fX7_copyFrom at hf
  obtain ⟨H, hH⟩ : ∃ H : Heap, H = s.heap := ⟨_, rfl⟩
  obtain ⟨locs, hlc⟩ : ∃ z : List Loc, z = [] := ⟨_, rfl⟩
  rw [← hlc, ← hH]
  have hP : va_P G vwCl [(a_t, .inr (7, [.ref a_t_words, .ref a_t_lengths, .ref a_t_urgencies, .int t_size])), (a_t_words, .inl (cI, 96, .inl t_words)), (a_t_lengths, .inl (cI, 8, .inl t_lengths)), (a_t_urgencies, .inl (cI, 8, .inl t_urgencies)), (a_p1, .inr (7, [.ref a_p1_words, .ref a_p1_lengths, .ref a_p1_urgencies, .int p1_size])), (a_p1_words, .inl (cI, 96, .inl p1_words)), (a_p1_lengths, .inl (cI, 8, .inl p1_lengths)), (a_p1_urgencies, .inl (cI, 8, .inl p1_urgencies))] H := by rw [hH]; exact hP
  have hS : va_S A s.heap H locs := by rw [hlc, hH]; exact hS
  refine lv_aload_n hx hb dX7_copyFrom_0 rfl (lv_at hl 1 rfl) ?_
  refine va_get (D := G) (ci := 7) (v := .ref a_p1_words) (C := RX7) (T := TX7) (N := 4) hx hb hts iwX7_copyFrom_X7 hown hK hP 4 rfl rfl 0 (by decide) k1 (fun _ h9 => h9) rfl dX7_copyFrom_1 ?_
  refine lv_iconst (v := 0) hx hb dX7_copyFrom_4 (by decide) ?_
  refine lv_aload_n hx hb dX7_copyFrom_5 rfl (lv_at hl 0 rfl) ?_
  refine va_get (D := G) (ci := 7) (v := .ref a_t_words) (C := RX7) (T := TX7) (N := 4) hx hb hts iwX7_copyFrom_X7 hown hK hP 0 rfl rfl 0 (by decide) k1 (fun _ h9 => h9) rfl dX7_copyFrom_6 ?_
  refine lv_iconst (v := 0) hx hb dX7_copyFrom_9 (by decide) ?_
  refine lv_bipush (v := 96) hx hb dX7_copyFrom_10 (by decide) ?_
  refine va_copyi hx hb (hml.trans hl.1.symm) hown k2 k3 k4 k5 hK hP hD hS 5 1 0 0 rfl rfl rfl rfl rfl (by decide) (by decide) (by decide) (by decide +kernel) (by decide +kernel) (fun _ _ => rfl) (Nat.le_of_ble_eq_true rfl) (Nat.le_of_ble_eq_true rfl) dX7_copyFrom_12 (fun H locs hP hD hS => ?_)
  obtain ⟨f1, ef1⟩ : ∃ z : Nat → Int32, z = va_cpy p1_words t_words (0 : Int32).toNatClampNeg (0 : Int32).toNatClampNeg (96 : Int32).toNatClampNeg := ⟨_, rfl⟩
  have hf := pf_l hf f1 ef1
  have hP : va_P G vwCl [(a_t, .inr (7, [.ref a_t_words, .ref a_t_lengths, .ref a_t_urgencies, .int t_size])), (a_t_words, .inl (cI, 96, .inl f1)), (a_t_lengths, .inl (cI, 8, .inl t_lengths)), (a_t_urgencies, .inl (cI, 8, .inl t_urgencies)), (a_p1, .inr (7, [.ref a_p1_words, .ref a_p1_lengths, .ref a_p1_urgencies, .int p1_size])), (a_p1_words, .inl (cI, 96, .inl p1_words)), (a_p1_lengths, .inl (cI, 8, .inl p1_lengths)), (a_p1_urgencies, .inl (cI, 8, .inl p1_urgencies))] H := by rw [ef1]; exact hP
  have hD : va_D A [(a_t, .inr (7, [.ref a_t_words, .ref a_t_lengths, .ref a_t_urgencies, .int t_size])), (a_t_words, .inl (cI, 96, .inl f1)), (a_t_lengths, .inl (cI, 8, .inl t_lengths)), (a_t_urgencies, .inl (cI, 8, .inl t_urgencies)), (a_p1, .inr (7, [.ref a_p1_words, .ref a_p1_lengths, .ref a_p1_urgencies, .int p1_size])), (a_p1_words, .inl (cI, 96, .inl p1_words)), (a_p1_lengths, .inl (cI, 8, .inl p1_lengths)), (a_p1_urgencies, .inl (cI, 8, .inl p1_urgencies))] := by rw [ef1]; exact hD
  refine lv_aload_n hx hb dX7_copyFrom_15 rfl (lv_at hl 1 rfl) ?_
  refine va_get (D := G) (ci := 7) (v := .ref a_p1_lengths) (C := RX7) (T := TX7) (N := 4) hx hb hts iwX7_copyFrom_X7 hown hK hP 4 rfl rfl 1 (by decide) k6 (fun _ h9 => h9) rfl dX7_copyFrom_16 ?_
  refine lv_iconst (v := 0) hx hb dX7_copyFrom_19 (by decide) ?_
  refine lv_aload_n hx hb dX7_copyFrom_20 rfl (lv_at hl 0 rfl) ?_
  refine va_get (D := G) (ci := 7) (v := .ref a_t_lengths) (C := RX7) (T := TX7) (N := 4) hx hb hts iwX7_copyFrom_X7 hown hK hP 0 rfl rfl 1 (by decide) k6 (fun _ h9 => h9) rfl dX7_copyFrom_21 ?_
  refine lv_iconst (v := 0) hx hb dX7_copyFrom_24 (by decide) ?_
  refine lv_bipush (v := 8) hx hb dX7_copyFrom_25 (by decide) ?_
  refine va_copyi hx hb (hml.trans hl.1.symm) hown k2 k3 k4 k5 hK hP hD hS 6 2 0 0 rfl rfl rfl rfl rfl (by decide) (by decide) (by decide) (by decide +kernel) (by decide +kernel) (fun _ _ => rfl) (Nat.le_of_ble_eq_true rfl) (Nat.le_of_ble_eq_true rfl) dX7_copyFrom_27 (fun H locs hP hD hS => ?_)
  obtain ⟨f2, ef2⟩ : ∃ z : Nat → Int32, z = va_cpy p1_lengths t_lengths (0 : Int32).toNatClampNeg (0 : Int32).toNatClampNeg (8 : Int32).toNatClampNeg := ⟨_, rfl⟩
  have hf := pf_l hf f2 ef2
  have hP : va_P G vwCl [(a_t, .inr (7, [.ref a_t_words, .ref a_t_lengths, .ref a_t_urgencies, .int t_size])), (a_t_words, .inl (cI, 96, .inl f1)), (a_t_lengths, .inl (cI, 8, .inl f2)), (a_t_urgencies, .inl (cI, 8, .inl t_urgencies)), (a_p1, .inr (7, [.ref a_p1_words, .ref a_p1_lengths, .ref a_p1_urgencies, .int p1_size])), (a_p1_words, .inl (cI, 96, .inl p1_words)), (a_p1_lengths, .inl (cI, 8, .inl p1_lengths)), (a_p1_urgencies, .inl (cI, 8, .inl p1_urgencies))] H := by rw [ef2]; exact hP
  have hD : va_D A [(a_t, .inr (7, [.ref a_t_words, .ref a_t_lengths, .ref a_t_urgencies, .int t_size])), (a_t_words, .inl (cI, 96, .inl f1)), (a_t_lengths, .inl (cI, 8, .inl f2)), (a_t_urgencies, .inl (cI, 8, .inl t_urgencies)), (a_p1, .inr (7, [.ref a_p1_words, .ref a_p1_lengths, .ref a_p1_urgencies, .int p1_size])), (a_p1_words, .inl (cI, 96, .inl p1_words)), (a_p1_lengths, .inl (cI, 8, .inl p1_lengths)), (a_p1_urgencies, .inl (cI, 8, .inl p1_urgencies))] := by rw [ef2]; exact hD
  refine lv_aload_n hx hb dX7_copyFrom_30 rfl (lv_at hl 1 rfl) ?_
  refine va_get (D := G) (ci := 7) (v := .ref a_p1_urgencies) (C := RX7) (T := TX7) (N := 4) hx hb hts iwX7_copyFrom_X7 hown hK hP 4 rfl rfl 2 (by decide) k7 (fun _ h9 => h9) rfl dX7_copyFrom_31 ?_
  refine lv_iconst (v := 0) hx hb dX7_copyFrom_34 (by decide) ?_
  refine lv_aload_n hx hb dX7_copyFrom_35 rfl (lv_at hl 0 rfl) ?_
  refine va_get (D := G) (ci := 7) (v := .ref a_t_urgencies) (C := RX7) (T := TX7) (N := 4) hx hb hts iwX7_copyFrom_X7 hown hK hP 0 rfl rfl 2 (by decide) k7 (fun _ h9 => h9) rfl dX7_copyFrom_36 ?_
  refine lv_iconst (v := 0) hx hb dX7_copyFrom_39 (by decide) ?_
  refine lv_bipush (v := 8) hx hb dX7_copyFrom_40 (by decide) ?_
  refine va_copyi hx hb (hml.trans hl.1.symm) hown k2 k3 k4 k5 hK hP hD hS 7 3 0 0 rfl rfl rfl rfl rfl (by decide) (by decide) (by decide) (by decide +kernel) (by decide +kernel) (fun _ _ => rfl) (Nat.le_of_ble_eq_true rfl) (Nat.le_of_ble_eq_true rfl) dX7_copyFrom_42 (fun H locs hP hD hS => ?_)
  obtain ⟨f3, ef3⟩ : ∃ z : Nat → Int32, z = va_cpy p1_urgencies t_urgencies (0 : Int32).toNatClampNeg (0 : Int32).toNatClampNeg (8 : Int32).toNatClampNeg := ⟨_, rfl⟩
  have hf := pf_l hf f3 ef3
  have hP : va_P G vwCl [(a_t, .inr (7, [.ref a_t_words, .ref a_t_lengths, .ref a_t_urgencies, .int t_size])), (a_t_words, .inl (cI, 96, .inl f1)), (a_t_lengths, .inl (cI, 8, .inl f2)), (a_t_urgencies, .inl (cI, 8, .inl f3)), (a_p1, .inr (7, [.ref a_p1_words, .ref a_p1_lengths, .ref a_p1_urgencies, .int p1_size])), (a_p1_words, .inl (cI, 96, .inl p1_words)), (a_p1_lengths, .inl (cI, 8, .inl p1_lengths)), (a_p1_urgencies, .inl (cI, 8, .inl p1_urgencies))] H := by rw [ef3]; exact hP
  have hD : va_D A [(a_t, .inr (7, [.ref a_t_words, .ref a_t_lengths, .ref a_t_urgencies, .int t_size])), (a_t_words, .inl (cI, 96, .inl f1)), (a_t_lengths, .inl (cI, 8, .inl f2)), (a_t_urgencies, .inl (cI, 8, .inl f3)), (a_p1, .inr (7, [.ref a_p1_words, .ref a_p1_lengths, .ref a_p1_urgencies, .int p1_size])), (a_p1_words, .inl (cI, 96, .inl p1_words)), (a_p1_lengths, .inl (cI, 8, .inl p1_lengths)), (a_p1_urgencies, .inl (cI, 8, .inl p1_urgencies))] := by rw [ef3]; exact hD
  refine lv_aload_n hx hb dX7_copyFrom_45 rfl (lv_at hl 0 rfl) ?_
  refine lv_aload_n hx hb dX7_copyFrom_46 rfl (lv_at hl 1 rfl) ?_
  refine va_get (D := G) (ci := 7) (v := .int p1_size) (C := RX7) (T := TX7) (N := 4) hx hb hts iwX7_copyFrom_X7 hown hK hP 4 rfl rfl 3 (by decide) k8 (fun _ h9 => h9) rfl dX7_copyFrom_47 ?_
  refine va_put (D := G) (ci := 7) (v := .int p1_size) (ty := .int) (C := RX7) (T := TX7) (N := 4) hx hb hts iwX7_copyFrom_X7 tyX7 tyX7_ok nmX7 hown hK hP hD hS 0 rfl rfl 3 (by decide) k8 (fun _ h9 => h9) rfl (by decide +kernel) rfl rfl (Nat.le_of_ble_eq_true rfl) dX7_copyFrom_50 (fun H locs hP hD hS => ?_)
  have hP : va_P G vwCl [(a_t, .inr (7, [.ref a_t_words, .ref a_t_lengths, .ref a_t_urgencies, .int p1_size])), (a_t_words, .inl (cI, 96, .inl f1)), (a_t_lengths, .inl (cI, 8, .inl f2)), (a_t_urgencies, .inl (cI, 8, .inl f3)), (a_p1, .inr (7, [.ref a_p1_words, .ref a_p1_lengths, .ref a_p1_urgencies, .int p1_size])), (a_p1_words, .inl (cI, 96, .inl p1_words)), (a_p1_lengths, .inl (cI, 8, .inl p1_lengths)), (a_p1_urgencies, .inl (cI, 8, .inl p1_urgencies))] H := hP
  have hD : va_D A [(a_t, .inr (7, [.ref a_t_words, .ref a_t_lengths, .ref a_t_urgencies, .int p1_size])), (a_t_words, .inl (cI, 96, .inl f1)), (a_t_lengths, .inl (cI, 8, .inl f2)), (a_t_urgencies, .inl (cI, 8, .inl f3)), (a_p1, .inr (7, [.ref a_p1_words, .ref a_p1_lengths, .ref a_p1_urgencies, .int p1_size])), (a_p1_words, .inl (cI, 96, .inl p1_words)), (a_p1_lengths, .inl (cI, 8, .inl p1_lengths)), (a_p1_urgencies, .inl (cI, 8, .inl p1_urgencies))] := hD
  obtain rfl := Option.some.inj hf
  exact mEnd_v () hx hb hr hlocks hP hK hD hS rfl (Nat.le_of_ble_eq_true rfl) (Nat.le_of_ble_eq_true rfl) dX7_copyFrom_53
def fX7_copyPlace (p1 : Int32) (p2 : Int32) (t_words : Nat → Int32) (t_lengths : Nat → Int32) (t_urgencies : Nat → Int32) : Option ((Nat → Int32) × (Nat → Int32) × (Nat → Int32)) :=
  (if (p1 * (12 : Int32)) < 0 then none else (if (p2 * (12 : Int32)) < 0 then none else (if 96 < (p1 * (12 : Int32)).toNatClampNeg + (12 : Int32).toNatClampNeg then none else (if 96 < (p2 * (12 : Int32)).toNatClampNeg + (12 : Int32).toNatClampNeg then none else (lt (va_cpy t_words t_words (p1 * (12 : Int32)).toNatClampNeg (p2 * (12 : Int32)).toNatClampNeg (12 : Int32).toNatClampNeg) fun (f5 : Nat → Int32) => (if p1 < 0 ∨ 8 ≤ p1.toNatClampNeg then none else (if p2 < 0 ∨ 8 ≤ p2.toNatClampNeg then none else (lt (upd t_lengths p2.toNatClampNeg (t_lengths p1.toNatClampNeg)) fun (f8 : Nat → Int32) => (if p1 < 0 ∨ 8 ≤ p1.toNatClampNeg then none else (if p2 < 0 ∨ 8 ≤ p2.toNatClampNeg then none else (lt (upd t_urgencies p2.toNatClampNeg (t_urgencies p1.toNatClampNeg)) fun (f11 : Nat → Int32) => some (f5, f8, f11))))))))))))
theorem iwX7_copyPlace_X7 : ∀ w ∈ u_ws RX7 TX7 4, w ∈ wsX7_copyPlace := by decide +kernel
set_option maxHeartbeats 4000000 in
set_option maxRecDepth 100000 in
theorem mX7_copyPlace (l : Launch) (G : va_G) (cI : ClassId) (a_t a_t_words a_t_lengths a_t_urgencies : Nat) (sz : Nat)  (t_size : Int32) (t_words : Nat → Int32) (t_lengths : Nat → Int32) (t_urgencies : Nat → Int32) (p1 : Int32) (p2 : Int32) (res : (Nat → Int32) × (Nat → Int32) × (Nat → Int32)) (hf : fX7_copyPlace p1 p2 t_words t_lengths t_urgencies = some res) : Met l yX7_copyPlace wsX7_copyPlace ({ frames := 1, cells := 0, slots := 0, locals := 48 }) (mPc G [(cI, .int)] [.ref a_t, .int p1, .int p2] sz [(a_t, .inr (7, [.ref a_t_words, .ref a_t_lengths, .ref a_t_urgencies, .int t_size])), (a_t_words, .inl (cI, 96, .inl t_words)), (a_t_lengths, .inl (cI, 8, .inl t_lengths)), (a_t_urgencies, .inl (cI, 8, .inl t_urgencies))]) (mQv G [(cI, .int)] (va_A [(a_t, .inr (7, [.ref a_t_words, .ref a_t_lengths, .ref a_t_urgencies, .int t_size])), (a_t_words, .inl (cI, 96, .inl t_words)), (a_t_lengths, .inl (cI, 8, .inl t_lengths)), (a_t_urgencies, .inl (cI, 8, .inl t_urgencies))] sz) (fun u9 : Unit => [(a_t, .inr (7, [.ref a_t_words, .ref a_t_lengths, .ref a_t_urgencies, .int t_size])), (a_t_words, .inl (cI, 96, .inl res.1)), (a_t_lengths, .inl (cI, 8, .inl res.2.1)), (a_t_urgencies, .inl (cI, 8, .inl res.2.2))])) 0 0 (va_A [(a_t, .inr (7, [.ref a_t_words, .ref a_t_lengths, .ref a_t_urgencies, .int t_size])), (a_t_words, .inl (cI, 96, .inl t_words)), (a_t_lengths, .inl (cI, 8, .inl t_lengths)), (a_t_urgencies, .inl (cI, 8, .inl t_urgencies))] sz) := by
  refine mStart (cc := cX7_copyPlace) (maxL := 3) (ret := none) (by decide) rfl (Nat.le_of_ble_eq_true rfl) ?_
  intro p e s m below meth c A ls hx hb hml hr hts hown hlocks hnm hA hsz hAe hP hK hD hS hl
  have hl : lv_has ls 3 [(0, .ref a_t), (1, .int p1), (2, .int p2)] := hl
  rw [hAe]
  have k1 := hts (.fieldLink RX7 9 "DeafChain$Waiting" "words" "[I") (by decide +kernel)
  have k2 := hts (.methodLink RX7 21 arraycopyName) (by decide +kernel)
  have k3 := hts (.native arraycopyName) (by decide +kernel)
  have k4 := hts (.static arraycopyName) (by decide +kernel)
  have k5 := hts (.initialized "java/lang/System") (by decide +kernel)
  have k6 := hts (.fieldLink RX7 15 "DeafChain$Waiting" "lengths" "[I") (by decide +kernel)
  have k7 := hts (.fieldLink RX7 18 "DeafChain$Waiting" "urgencies" "[I") (by decide +kernel)
  unfold fX7_copyPlace at hf
  obtain ⟨H, hH⟩ : ∃ H : Heap, H = s.heap := ⟨_, rfl⟩
  obtain ⟨locs, hlc⟩ : ∃ z : List Loc, z = [] := ⟨_, rfl⟩
  rw [← hlc, ← hH]
  have hP : va_P G vwCl [(a_t, .inr (7, [.ref a_t_words, .ref a_t_lengths, .ref a_t_urgencies, .int t_size])), (a_t_words, .inl (cI, 96, .inl t_words)), (a_t_lengths, .inl (cI, 8, .inl t_lengths)), (a_t_urgencies, .inl (cI, 8, .inl t_urgencies))] H := by rw [hH]; exact hP
  have hS : va_S A s.heap H locs := by rw [hlc, hH]; exact hS
  refine lv_aload_n hx hb dX7_copyPlace_0 rfl (lv_at hl 0 rfl) ?_
  refine va_get (D := G) (ci := 7) (v := .ref a_t_words) (C := RX7) (T := TX7) (N := 4) hx hb hts iwX7_copyPlace_X7 hown hK hP 0 rfl rfl 0 (by decide) k1 (fun _ h9 => h9) rfl dX7_copyPlace_1 ?_
  refine lv_iload_n hx hb dX7_copyPlace_4 rfl (lv_at hl 1 rfl) ?_
  refine lv_bipush (v := 12) hx hb dX7_copyPlace_5 (by decide) ?_
  refine lv_imul hx hb dX7_copyPlace_7 ?_
  refine lv_aload_n hx hb dX7_copyPlace_8 rfl (lv_at hl 0 rfl) ?_
  refine va_get (D := G) (ci := 7) (v := .ref a_t_words) (C := RX7) (T := TX7) (N := 4) hx hb hts iwX7_copyPlace_X7 hown hK hP 0 rfl rfl 0 (by decide) k1 (fun _ h9 => h9) rfl dX7_copyPlace_9 ?_
  refine lv_iload_n hx hb dX7_copyPlace_12 rfl (lv_at hl 2 rfl) ?_
  refine lv_bipush (v := 12) hx hb dX7_copyPlace_13 (by decide) ?_
  refine lv_imul hx hb dX7_copyPlace_15 ?_
  refine lv_bipush (v := 12) hx hb dX7_copyPlace_16 (by decide) ?_
  obtain ⟨q1, hf⟩ := pf_k hf
  obtain ⟨q2, hf⟩ := pf_k hf
  obtain ⟨q3, hf⟩ := pf_k hf
  obtain ⟨q4, hf⟩ := pf_k hf
  refine va_copyi hx hb (hml.trans hl.1.symm) hown k2 k3 k4 k5 hK hP hD hS 1 1 0 0 rfl rfl rfl rfl rfl q1 q2 (by decide) (Nat.not_lt.mp q3) (Nat.not_lt.mp q4) (fun _ _ => rfl) (Nat.le_of_ble_eq_true rfl) (Nat.le_of_ble_eq_true rfl) dX7_copyPlace_18 (fun H locs hP hD hS => ?_)
  obtain ⟨f5, ef5⟩ : ∃ z : Nat → Int32, z = va_cpy t_words t_words (p1 * (12 : Int32)).toNatClampNeg (p2 * (12 : Int32)).toNatClampNeg (12 : Int32).toNatClampNeg := ⟨_, rfl⟩
  have hf := pf_l hf f5 ef5
  have hP : va_P G vwCl [(a_t, .inr (7, [.ref a_t_words, .ref a_t_lengths, .ref a_t_urgencies, .int t_size])), (a_t_words, .inl (cI, 96, .inl f5)), (a_t_lengths, .inl (cI, 8, .inl t_lengths)), (a_t_urgencies, .inl (cI, 8, .inl t_urgencies))] H := by rw [ef5]; exact hP
  have hD : va_D A [(a_t, .inr (7, [.ref a_t_words, .ref a_t_lengths, .ref a_t_urgencies, .int t_size])), (a_t_words, .inl (cI, 96, .inl f5)), (a_t_lengths, .inl (cI, 8, .inl t_lengths)), (a_t_urgencies, .inl (cI, 8, .inl t_urgencies))] := by rw [ef5]; exact hD
  refine lv_aload_n hx hb dX7_copyPlace_21 rfl (lv_at hl 0 rfl) ?_
  refine va_get (D := G) (ci := 7) (v := .ref a_t_lengths) (C := RX7) (T := TX7) (N := 4) hx hb hts iwX7_copyPlace_X7 hown hK hP 0 rfl rfl 1 (by decide) k6 (fun _ h9 => h9) rfl dX7_copyPlace_22 ?_
  refine lv_iload_n hx hb dX7_copyPlace_25 rfl (lv_at hl 2 rfl) ?_
  refine lv_aload_n hx hb dX7_copyPlace_26 rfl (lv_at hl 0 rfl) ?_
  refine va_get (D := G) (ci := 7) (v := .ref a_t_lengths) (C := RX7) (T := TX7) (N := 4) hx hb hts iwX7_copyPlace_X7 hown hK hP 0 rfl rfl 1 (by decide) k6 (fun _ h9 => h9) rfl dX7_copyPlace_27 ?_
  refine lv_iload_n hx hb dX7_copyPlace_30 rfl (lv_at hl 1 rfl) ?_
  obtain ⟨q6, hf⟩ := pf_k hf
  refine va_iald hx hb hK hP 2 0 rfl rfl q6 dX7_copyPlace_31 ?_
  obtain ⟨q7, hf⟩ := pf_k hf
  refine va_iast hx hb hK hP hD hS 2 0 rfl rfl q7 dX7_copyPlace_32 (fun H locs hP hD hS => ?_)
  obtain ⟨f8, ef8⟩ : ∃ z : Nat → Int32, z = upd t_lengths p2.toNatClampNeg (t_lengths p1.toNatClampNeg) := ⟨_, rfl⟩
  have hf := pf_l hf f8 ef8
  have hP : va_P G vwCl [(a_t, .inr (7, [.ref a_t_words, .ref a_t_lengths, .ref a_t_urgencies, .int t_size])), (a_t_words, .inl (cI, 96, .inl f5)), (a_t_lengths, .inl (cI, 8, .inl f8)), (a_t_urgencies, .inl (cI, 8, .inl t_urgencies))] H := by rw [ef8]; exact hP
  have hD : va_D A [(a_t, .inr (7, [.ref a_t_words, .ref a_t_lengths, .ref a_t_urgencies, .int t_size])), (a_t_words, .inl (cI, 96, .inl f5)), (a_t_lengths, .inl (cI, 8, .inl f8)), (a_t_urgencies, .inl (cI, 8, .inl t_urgencies))] := by rw [ef8]; exact hD
  refine lv_aload_n hx hb dX7_copyPlace_33 rfl (lv_at hl 0 rfl) ?_
  refine va_get (D := G) (ci := 7) (v := .ref a_t_urgencies) (C := RX7) (T := TX7) (N := 4) hx hb hts iwX7_copyPlace_X7 hown hK hP 0 rfl rfl 2 (by decide) k7 (fun _ h9 => h9) rfl dX7_copyPlace_34 ?_
  refine lv_iload_n hx hb dX7_copyPlace_37 rfl (lv_at hl 2 rfl) ?_
  refine lv_aload_n hx hb dX7_copyPlace_38 rfl (lv_at hl 0 rfl) ?_
  refine va_get (D := G) (ci := 7) (v := .ref a_t_urgencies) (C := RX7) (T := TX7) (N := 4) hx hb hts iwX7_copyPlace_X7 hown hK hP 0 rfl rfl 2 (by decide) k7 (fun _ h9 => h9) rfl dX7_copyPlace_39 ?_
  refine lv_iload_n hx hb dX7_copyPlace_42 rfl (lv_at hl 1 rfl) ?_
  obtain ⟨q9, hf⟩ := pf_k hf
  refine va_iald hx hb hK hP 3 0 rfl rfl q9 dX7_copyPlace_43 ?_
  obtain ⟨q10, hf⟩ := pf_k hf
  refine va_iast hx hb hK hP hD hS 3 0 rfl rfl q10 dX7_copyPlace_44 (fun H locs hP hD hS => ?_)
  obtain ⟨f11, ef11⟩ : ∃ z : Nat → Int32, z = upd t_urgencies p2.toNatClampNeg (t_urgencies p1.toNatClampNeg) := ⟨_, rfl⟩
  have hf := pf_l hf f11 ef11
  have hP : va_P G vwCl [(a_t, .inr (7, [.ref a_t_words, .ref a_t_lengths, .ref a_t_urgencies, .int t_size])), (a_t_words, .inl (cI, 96, .inl f5)), (a_t_lengths, .inl (cI, 8, .inl f8)), (a_t_urgencies, .inl (cI, 8, .inl f11))] H := by rw [ef11]; exact hP
  have hD : va_D A [(a_t, .inr (7, [.ref a_t_words, .ref a_t_lengths, .ref a_t_urgencies, .int t_size])), (a_t_words, .inl (cI, 96, .inl f5)), (a_t_lengths, .inl (cI, 8, .inl f8)), (a_t_urgencies, .inl (cI, 8, .inl f11))] := by rw [ef11]; exact hD
  obtain rfl := Option.some.inj hf
  exact mEnd_v () hx hb hr hlocks hP hK hD hS rfl (Nat.le_of_ble_eq_true rfl) (Nat.le_of_ble_eq_true rfl) dX7_copyPlace_45
def bX7_add_1 (p1_length : Int32) (p1_urgency : Int32) (p1_words : Nat → Int32) (k : Nat → Int32 → Int32 → (Nat → Int32) → (Nat → Int32) → (Nat → Int32) → Option (Int32 × Int32 × (Nat → Int32) × (Nat → Int32) × (Nat → Int32))) (x2 : Int32) (t_size : Int32) (t_words : Nat → Int32) (t_lengths : Nat → Int32) (t_urgencies : Nat → Int32) : Option (Int32 × Int32 × (Nat → Int32) × (Nat → Int32) × (Nat → Int32)) :=
  (if x2 ≤ 0 then k 2 x2 t_size t_words t_lengths t_urgencies else (if (x2 - (1 : Int32)) < 0 ∨ 8 ≤ (x2 - (1 : Int32)).toNatClampNeg then none else (if p1_urgency ≤ (t_urgencies (x2 - (1 : Int32)).toNatClampNeg) then k 2 x2 t_size t_words t_lengths t_urgencies else ((fX7_copyPlace (x2 - (1 : Int32)) x2 t_words t_lengths t_urgencies).bind fun (u4 : (Nat → Int32) × (Nat → Int32) × (Nat → Int32)) => k 1 (x2 + (-1)) t_size u4.1 u4.2.1 u4.2.2))))
def bX7_add_2 (p1_length : Int32) (p1_urgency : Int32) (p1_words : Nat → Int32) (k : Nat → Int32 → Int32 → (Nat → Int32) → (Nat → Int32) → (Nat → Int32) → Option (Int32 × Int32 × (Nat → Int32) × (Nat → Int32) × (Nat → Int32))) (x2 : Int32) (t_size : Int32) (t_words : Nat → Int32) (t_lengths : Nat → Int32) (t_urgencies : Nat → Int32) : Option (Int32 × Int32 × (Nat → Int32) × (Nat → Int32) × (Nat → Int32)) :=
  (if (x2 * (12 : Int32)) < 0 then none else (if 96 < (x2 * (12 : Int32)).toNatClampNeg + (12 : Int32).toNatClampNeg then none else (lt (va_cpy p1_words t_words (0 : Int32).toNatClampNeg (x2 * (12 : Int32)).toNatClampNeg (12 : Int32).toNatClampNeg) fun (f7 : Nat → Int32) => (if x2 < 0 ∨ 8 ≤ x2.toNatClampNeg then none else (lt (upd t_lengths x2.toNatClampNeg p1_length) fun (f9 : Nat → Int32) => (if x2 < 0 ∨ 8 ≤ x2.toNatClampNeg then none else (lt (upd t_urgencies x2.toNatClampNeg p1_urgency) fun (f11 : Nat → Int32) => some ((1 : Int32), (t_size + (1 : Int32)), f7, f9, f11))))))))
def sX7_add (p1_length : Int32) (p1_urgency : Int32) (p1_words : Nat → Int32) (k : Nat → Int32 → Int32 → (Nat → Int32) → (Nat → Int32) → (Nat → Int32) → Option (Int32 × Int32 × (Nat → Int32) × (Nat → Int32) × (Nat → Int32))) (b : Nat) (x2 : Int32) (t_size : Int32) (t_words : Nat → Int32) (t_lengths : Nat → Int32) (t_urgencies : Nat → Int32) : Option (Int32 × Int32 × (Nat → Int32) × (Nat → Int32) × (Nat → Int32)) := match b with
  | 1 => bX7_add_1 p1_length p1_urgency p1_words k x2 t_size t_words t_lengths t_urgencies
  | 2 => bX7_add_2 p1_length p1_urgency p1_words k x2 t_size t_words t_lengths t_urgencies
  | _ => none
def rX7_add (p1_length : Int32) (p1_urgency : Int32) (p1_words : Nat → Int32) : Nat → Nat → Int32 → Int32 → (Nat → Int32) → (Nat → Int32) → (Nat → Int32) → Option (Int32 × Int32 × (Nat → Int32) × (Nat → Int32) × (Nat → Int32))
  | 0 => fun _ _ _ _ _ _ => none
  | n + 1 => sX7_add p1_length p1_urgency p1_words (rX7_add p1_length p1_urgency p1_words n)
def eX7_add (t_size : Int32) (t_words : Nat → Int32) (t_lengths : Nat → Int32) (t_urgencies : Nat → Int32) (p1_length : Int32) (p1_urgency : Int32) (p1_words : Nat → Int32) (k : Nat → Int32 → Int32 → (Nat → Int32) → (Nat → Int32) → (Nat → Int32) → Option (Int32 × Int32 × (Nat → Int32) × (Nat → Int32) × (Nat → Int32))) : Option (Int32 × Int32 × (Nat → Int32) × (Nat → Int32) × (Nat → Int32)) :=
  (if t_size < (8 : Int32) then k 1 t_size t_size t_words t_lengths t_urgencies else some ((0 : Int32), t_size, t_words, t_lengths, t_urgencies))
def fX7_add (t_size : Int32) (t_words : Nat → Int32) (t_lengths : Nat → Int32) (t_urgencies : Nat → Int32) (p1_length : Int32) (p1_urgency : Int32) (p1_words : Nat → Int32) : Option (Int32 × Int32 × (Nat → Int32) × (Nat → Int32) × (Nat → Int32)) := eX7_add t_size t_words t_lengths t_urgencies p1_length p1_urgency p1_words (rX7_add p1_length p1_urgency p1_words fuelN)
theorem iwX7_add_X4 : ∀ w ∈ u_ws RX4 TX4 3, w ∈ wsX7_add := by decide +kernel
theorem iwX7_add_X7 : ∀ w ∈ u_ws RX7 TX7 4, w ∈ wsX7_add := by decide +kernel
set_option maxHeartbeats 4000000 in
set_option maxRecDepth 100000 in
theorem mX7_add (l : Launch) (G : va_G) (cI : ClassId) (a_t a_t_words a_t_lengths a_t_urgencies a_p1 a_p1_words : Nat) (sz : Nat)  (t_size : Int32) (t_words : Nat → Int32) (t_lengths : Nat → Int32) (t_urgencies : Nat → Int32) (p1_length : Int32) (p1_urgency : Int32) (p1_words : Nat → Int32)  (res : Int32 × Int32 × (Nat → Int32) × (Nat → Int32) × (Nat → Int32)) (hf : fX7_add t_size t_words t_lengths t_urgencies p1_length p1_urgency p1_words = some res) : Met l yX7_add wsX7_add ({ frames := 2, cells := 0, slots := 0, locals := 70 }) (mPc G [(cI, .int)] [.ref a_t, .ref a_p1] sz [(a_t, .inr (7, [.ref a_t_words, .ref a_t_lengths, .ref a_t_urgencies, .int t_size])), (a_t_words, .inl (cI, 96, .inl t_words)), (a_t_lengths, .inl (cI, 8, .inl t_lengths)), (a_t_urgencies, .inl (cI, 8, .inl t_urgencies)), (a_p1, .inr (4, [.ref a_p1_words, .int p1_length, .int p1_urgency])), (a_p1_words, .inl (cI, 12, .inl p1_words))]) (mQi G [(cI, .int)] (va_A [(a_t, .inr (7, [.ref a_t_words, .ref a_t_lengths, .ref a_t_urgencies, .int t_size])), (a_t_words, .inl (cI, 96, .inl t_words)), (a_t_lengths, .inl (cI, 8, .inl t_lengths)), (a_t_urgencies, .inl (cI, 8, .inl t_urgencies)), (a_p1, .inr (4, [.ref a_p1_words, .int p1_length, .int p1_urgency])), (a_p1_words, .inl (cI, 12, .inl p1_words))] sz) (fun _ : Unit => res.1) (fun _ => [(a_t, .inr (7, [.ref a_t_words, .ref a_t_lengths, .ref a_t_urgencies, .int res.2.1])), (a_t_words, .inl (cI, 96, .inl res.2.2.1)), (a_t_lengths, .inl (cI, 8, .inl res.2.2.2.1)), (a_t_urgencies, .inl (cI, 8, .inl res.2.2.2.2)), (a_p1, .inr (4, [.ref a_p1_words, .int p1_length, .int p1_urgency])), (a_p1_words, .inl (cI, 12, .inl p1_words))])) 0 0 (va_A [(a_t, .inr (7, [.ref a_t_words, .ref a_t_lengths, .ref a_t_urgencies, .int t_size])), (a_t_words, .inl (cI, 96, .inl t_words)), (a_t_lengths, .inl (cI, 8, .inl t_lengths)), (a_t_urgencies, .inl (cI, 8, .inl t_urgencies)), (a_p1, .inr (4, [.ref a_p1_words, .int p1_length, .int p1_urgency])), (a_p1_words, .inl (cI, 12, .inl p1_words))] sz) := by
  refine mStart (cc := cX7_add) (maxL := 3) (ret := (some .boolean)) (by decide) rfl (Nat.le_of_ble_eq_true rfl) ?_
  intro p e s m below meth c A ls hx hb hml hr hts hown hlocks hnm hA hsz hAe hP hK hD hS hl
  have hl : lv_has ls 3 [(0, .ref a_t), (1, .ref a_p1)] := hl
  rw [hAe]
  have k1 := hts (.fieldLink RX7 18 "DeafChain$Waiting" "urgencies" "[I") (by decide +kernel)
  have k2 := hts (.fieldLink RX7 31 "DeafChain$Sentence" "urgency" "I") (by decide +kernel)
  have k3 := hts (.fieldLink RX7 40 "DeafChain$Sentence" "words" "[I") (by decide +kernel)
  have k4 := hts (.fieldLink RX7 9 "DeafChain$Waiting" "words" "[I") (by decide +kernel)
  have k5 := hts (.methodLink RX7 21 arraycopyName) (by decide +kernel)
  have k6 := hts (.native arraycopyName) (by decide +kernel)
  have k7 := hts (.static arraycopyName) (by decide +kernel)
  have k8 := hts (.initialized "java/lang/System") (by decide +kernel)
  have k9 := hts (.fieldLink RX7 15 "DeafChain$Waiting" "lengths" "[I") (by decide +kernel)
  have k10 := hts (.fieldLink RX7 41 "DeafChain$Sentence" "length" "I") (by decide +kernel)
  have k11 := hts (.fieldLink RX7 27 "DeafChain$Waiting" "size" "I") (by decide +kernel)
  have key : ∀ n : Nat, (∀ (x2 : Int32) (t_size : Int32) (t_words : Nat → Int32) (t_lengths : Nat → Int32) (t_urgencies : Nat → Int32) (H : Heap) (locs : List Loc) (hf : rX7_add p1_length p1_urgency p1_words n 1 x2 t_size t_words t_lengths t_urgencies = some res) (hP : va_P G vwCl [(a_t, .inr (7, [.ref a_t_words, .ref a_t_lengths, .ref a_t_urgencies, .int t_size])), (a_t_words, .inl (cI, 96, .inl t_words)), (a_t_lengths, .inl (cI, 8, .inl t_lengths)), (a_t_urgencies, .inl (cI, 8, .inl t_urgencies)), (a_p1, .inr (4, [.ref a_p1_words, .int p1_length, .int p1_urgency])), (a_p1_words, .inl (cI, 12, .inl p1_words))] H) (hD : va_D A [(a_t, .inr (7, [.ref a_t_words, .ref a_t_lengths, .ref a_t_urgencies, .int t_size])), (a_t_words, .inl (cI, 96, .inl t_words)), (a_t_lengths, .inl (cI, 8, .inl t_lengths)), (a_t_urgencies, .inl (cI, 8, .inl t_urgencies)), (a_p1, .inr (4, [.ref a_p1_words, .int p1_length, .int p1_urgency])), (a_p1_words, .inl (cI, 12, .inl p1_words))]) (hS : va_S A s.heap H locs) (ls : Array Slot) (hl : lv_has ls 3 [(0, .ref a_t), (1, .ref a_p1), (2, .int x2)]), W p l e ({ frames := 2, cells := 0, slots := 0, locals := 70 } : Room) s m ([.ref a_t, .ref a_p1] : List Value).toArray below meth c H locs 0 0 (MQ below (mQi G [(cI, .int)] A (fun _ : Unit => res.1) (fun _ => [(a_t, .inr (7, [.ref a_t_words, .ref a_t_lengths, .ref a_t_urgencies, .int res.2.1])), (a_t_words, .inl (cI, 96, .inl res.2.2.1)), (a_t_lengths, .inl (cI, 8, .inl res.2.2.2.1)), (a_t_urgencies, .inl (cI, 8, .inl res.2.2.2.2)), (a_p1, .inr (4, [.ref a_p1_words, .int p1_length, .int p1_urgency])), (a_p1_words, .inl (cI, 12, .inl p1_words))])) ([.ref a_t, .ref a_p1] : List Value).toArray s 0 0 A) (F0 m 16 ls [])) ∧ (∀ (x2 : Int32) (t_size : Int32) (t_words : Nat → Int32) (t_lengths : Nat → Int32) (t_urgencies : Nat → Int32) (H : Heap) (locs : List Loc) (hf : rX7_add p1_length p1_urgency p1_words n 2 x2 t_size t_words t_lengths t_urgencies = some res) (hP : va_P G vwCl [(a_t, .inr (7, [.ref a_t_words, .ref a_t_lengths, .ref a_t_urgencies, .int t_size])), (a_t_words, .inl (cI, 96, .inl t_words)), (a_t_lengths, .inl (cI, 8, .inl t_lengths)), (a_t_urgencies, .inl (cI, 8, .inl t_urgencies)), (a_p1, .inr (4, [.ref a_p1_words, .int p1_length, .int p1_urgency])), (a_p1_words, .inl (cI, 12, .inl p1_words))] H) (hD : va_D A [(a_t, .inr (7, [.ref a_t_words, .ref a_t_lengths, .ref a_t_urgencies, .int t_size])), (a_t_words, .inl (cI, 96, .inl t_words)), (a_t_lengths, .inl (cI, 8, .inl t_lengths)), (a_t_urgencies, .inl (cI, 8, .inl t_urgencies)), (a_p1, .inr (4, [.ref a_p1_words, .int p1_length, .int p1_urgency])), (a_p1_words, .inl (cI, 12, .inl p1_words))]) (hS : va_S A s.heap H locs) (ls : Array Slot) (hl : lv_has ls 3 [(0, .ref a_t), (1, .ref a_p1), (2, .int x2)]), W p l e ({ frames := 2, cells := 0, slots := 0, locals := 70 } : Room) s m ([.ref a_t, .ref a_p1] : List Value).toArray below meth c H locs 0 0 (MQ below (mQi G [(cI, .int)] A (fun _ : Unit => res.1) (fun _ => [(a_t, .inr (7, [.ref a_t_words, .ref a_t_lengths, .ref a_t_urgencies, .int res.2.1])), (a_t_words, .inl (cI, 96, .inl res.2.2.1)), (a_t_lengths, .inl (cI, 8, .inl res.2.2.2.1)), (a_t_urgencies, .inl (cI, 8, .inl res.2.2.2.2)), (a_p1, .inr (4, [.ref a_p1_words, .int p1_length, .int p1_urgency])), (a_p1_words, .inl (cI, 12, .inl p1_words))])) ([.ref a_t, .ref a_p1] : List Value).toArray s 0 0 A) (F0 m 49 ls [])) := by
    intro n
    induction n with
    | zero => exact ⟨(fun _ _ _ _ _ H locs hf => (by cases hf)), (fun _ _ _ _ _ H locs hf => (by cases hf))⟩
    | succ n ih =>
      refine ⟨?_, ?_⟩
      · intro  x2 t_size t_words t_lengths t_urgencies H locs hf hP hD hS ls hl
        replace hf : bX7_add_1 p1_length p1_urgency p1_words (rX7_add p1_length p1_urgency p1_words n) x2 t_size t_words t_lengths t_urgencies = some res := hf
        unfold bX7_add_1 at hf
        refine lv_iload_n hx hb dX7_add_16 rfl (lv_at hl 2 rfl) ?_
        refine lv_if_le (tgt := 49) hx hb dX7_add_17 (by decide) (fun c1 => ?_) (fun c1 => ?_)
        · have hf := pf_t hf c1
          exact ih.2 x2 t_size t_words t_lengths t_urgencies H locs hf hP hD hS ls (lv_sub hl [0, 1, 2] rfl)
        · have hf := pf_f hf c1
          refine lv_aload_n hx hb dX7_add_20 rfl (lv_at hl 0 rfl) ?_
          refine va_get (D := G) (ci := 7) (v := .ref a_t_urgencies) (C := RX7) (T := TX7) (N := 4) hx hb hts iwX7_add_X7 hown hK hP 0 rfl rfl 2 (by decide) k1 (fun _ h9 => h9) rfl dX7_add_21 ?_
          refine lv_iload_n hx hb dX7_add_24 rfl (lv_at hl 2 rfl) ?_
          refine lv_iconst (v := 1) hx hb dX7_add_25 (by decide) ?_
          refine lv_isub hx hb dX7_add_26 ?_
          obtain ⟨q2, hf⟩ := pf_k hf
          refine va_iald hx hb hK hP 3 0 rfl rfl q2 dX7_add_27 ?_
          refine lv_aload_n hx hb dX7_add_28 rfl (lv_at hl 1 rfl) ?_
          refine va_get (D := G) (ci := 4) (v := .int p1_urgency) (C := RX4) (T := TX4) (N := 3) hx hb hts iwX7_add_X4 hown hK hP 4 rfl rfl 2 (by decide) k2 (fun _ h9 => h9) rfl dX7_add_29 ?_
          refine lv_icmp_ge (tgt := 49) hx hb dX7_add_32 (by decide) (fun c3 => ?_) (fun c3 => ?_)
          · have hf := pf_t hf c3
            exact ih.2 x2 t_size t_words t_lengths t_urgencies H locs hf hP hD hS ls (lv_sub hl [0, 1, 2] rfl)
          · have hf := pf_f hf c3
            refine lv_aload_n hx hb dX7_add_35 rfl (lv_at hl 0 rfl) ?_
            refine lv_iload_n hx hb dX7_add_36 rfl (lv_at hl 2 rfl) ?_
            refine lv_iconst (v := 1) hx hb dX7_add_37 (by decide) ?_
            refine lv_isub hx hb dX7_add_38 ?_
            refine lv_iload_n hx hb dX7_add_39 rfl (lv_at hl 2 rfl) ?_
            obtain ⟨u4, hu4, hf⟩ := pf_b hf
            refine mCallV_v (As := [.int (x2 - (1 : Int32)), .int x2]) ⟨hx, hb, hml, hown, hts⟩ (mX7_copyPlace l G cI a_t a_t_words a_t_lengths a_t_urgencies H.size t_size t_words t_lengths t_urgencies (x2 - (1 : Int32)) x2 _ hu4) (cwV 2 hts gX7_add_X7_copyPlace rfl rfl rfl (by decide +kernel) ⟨Nat.le_of_ble_eq_true rfl, Nat.le_of_ble_eq_true rfl⟩) hP hD hS hA hK [0, 1, 2, 3] rfl (by decide) 0 7 rfl rfl rfl hK [a_t, a_t_words, a_t_lengths, a_t_urgencies] (fun _ => rfl) rfl (fun _ => [(a_t, .inr (7, [.ref a_t_words, .ref a_t_lengths, .ref a_t_urgencies, .int t_size])), (a_t_words, .inl (cI, 96, .inl u4.1)), (a_t_lengths, .inl (cI, 8, .inl u4.2.1)), (a_t_urgencies, .inl (cI, 8, .inl u4.2.2)), (a_p1, .inr (4, [.ref a_p1_words, .int p1_length, .int p1_urgency])), (a_p1_words, .inl (cI, 12, .inl p1_words))]) [a_t, a_t_words, a_t_lengths, a_t_urgencies, a_p1, a_p1_words] (fun _ => rfl) rfl (fun _ => rfl) [4, 5] [(a_p1, .inr (4, [.ref a_p1_words, .int p1_length, .int p1_urgency])), (a_p1_words, .inl (cI, 12, .inl p1_words))] (fun _ => rfl) rfl 6 rfl rfl rfl hl.1 rfl (lv_room (Nat.le_of_ble_eq_true rfl)) dX7_add_40 ⟨Nat.zero_le _, Nat.zero_le _⟩ (fun _ H locs hP hD hS => ?_)
            have hP : va_P G vwCl [(a_t, .inr (7, [.ref a_t_words, .ref a_t_lengths, .ref a_t_urgencies, .int t_size])), (a_t_words, .inl (cI, 96, .inl u4.1)), (a_t_lengths, .inl (cI, 8, .inl u4.2.1)), (a_t_urgencies, .inl (cI, 8, .inl u4.2.2)), (a_p1, .inr (4, [.ref a_p1_words, .int p1_length, .int p1_urgency])), (a_p1_words, .inl (cI, 12, .inl p1_words))] H := hP
            have hD : va_D A [(a_t, .inr (7, [.ref a_t_words, .ref a_t_lengths, .ref a_t_urgencies, .int t_size])), (a_t_words, .inl (cI, 96, .inl u4.1)), (a_t_lengths, .inl (cI, 8, .inl u4.2.1)), (a_t_urgencies, .inl (cI, 8, .inl u4.2.2)), (a_p1, .inr (4, [.ref a_p1_words, .int p1_length, .int p1_urgency])), (a_p1_words, .inl (cI, 12, .inl p1_words))] := hD
            refine lv_iinc (v := x2 + (-1)) (lv' := [(2, .int (x2 + (-1))), (0, .ref a_t), (1, .ref a_p1)]) hx hb dX7_add_43 hl (k := 2) rfl rfl (by decide) rfl (fun ls hl => ?_)
            refine lv_goto (tgt := 16) hx hb dX7_add_46 (by decide) ?_
            exact ih.1 (x2 + (-1)) t_size u4.1 u4.2.1 u4.2.2 H locs hf hP hD hS ls (lv_sub hl [1, 2, 0] rfl)
      · intro  x2 t_size t_words t_lengths t_urgencies H locs hf hP hD hS ls hl
        replace hf : bX7_add_2 p1_length p1_urgency p1_words (rX7_add p1_length p1_urgency p1_words n) x2 t_size t_words t_lengths t_urgencies = some res := hf
        unfold bX7_add_2 at hf
        refine lv_aload_n hx hb dX7_add_49 rfl (lv_at hl 1 rfl) ?_
        refine va_get (D := G) (ci := 4) (v := .ref a_p1_words) (C := RX4) (T := TX4) (N := 3) hx hb hts iwX7_add_X4 hown hK hP 4 rfl rfl 0 (by decide) k3 (fun _ h9 => h9) rfl dX7_add_50 ?_
        refine lv_iconst (v := 0) hx hb dX7_add_53 (by decide) ?_
        refine lv_aload_n hx hb dX7_add_54 rfl (lv_at hl 0 rfl) ?_
        refine va_get (D := G) (ci := 7) (v := .ref a_t_words) (C := RX7) (T := TX7) (N := 4) hx hb hts iwX7_add_X7 hown hK hP 0 rfl rfl 0 (by decide) k4 (fun _ h9 => h9) rfl dX7_add_55 ?_
        refine lv_iload_n hx hb dX7_add_58 rfl (lv_at hl 2 rfl) ?_
        refine lv_bipush (v := 12) hx hb dX7_add_59 (by decide) ?_
        refine lv_imul hx hb dX7_add_61 ?_
        refine lv_bipush (v := 12) hx hb dX7_add_62 (by decide) ?_
        obtain ⟨q5, hf⟩ := pf_k hf
        obtain ⟨q6, hf⟩ := pf_k hf
        refine va_copyi hx hb (hml.trans hl.1.symm) hown k5 k6 k7 k8 hK hP hD hS 5 1 0 0 rfl rfl rfl rfl rfl (by decide) q5 (by decide) (by decide +kernel) (Nat.not_lt.mp q6) (fun _ _ => rfl) (Nat.le_of_ble_eq_true rfl) (Nat.le_of_ble_eq_true rfl) dX7_add_64 (fun H locs hP hD hS => ?_)
        obtain ⟨f7, ef7⟩ : ∃ z : Nat → Int32, z = va_cpy p1_words t_words (0 : Int32).toNatClampNeg (x2 * (12 : Int32)).toNatClampNeg (12 : Int32).toNatClampNeg := ⟨_, rfl⟩
        have hf := pf_l hf f7 ef7
        have hP : va_P G vwCl [(a_t, .inr (7, [.ref a_t_words, .ref a_t_lengths, .ref a_t_urgencies, .int t_size])), (a_t_words, .inl (cI, 96, .inl f7)), (a_t_lengths, .inl (cI, 8, .inl t_lengths)), (a_t_urgencies, .inl (cI, 8, .inl t_urgencies)), (a_p1, .inr (4, [.ref a_p1_words, .int p1_length, .int p1_urgency])), (a_p1_words, .inl (cI, 12, .inl p1_words))] H := by rw [ef7]; exact hP
        have hD : va_D A [(a_t, .inr (7, [.ref a_t_words, .ref a_t_lengths, .ref a_t_urgencies, .int t_size])), (a_t_words, .inl (cI, 96, .inl f7)), (a_t_lengths, .inl (cI, 8, .inl t_lengths)), (a_t_urgencies, .inl (cI, 8, .inl t_urgencies)), (a_p1, .inr (4, [.ref a_p1_words, .int p1_length, .int p1_urgency])), (a_p1_words, .inl (cI, 12, .inl p1_words))] := by rw [ef7]; exact hD
        refine lv_aload_n hx hb dX7_add_67 rfl (lv_at hl 0 rfl) ?_
        refine va_get (D := G) (ci := 7) (v := .ref a_t_lengths) (C := RX7) (T := TX7) (N := 4) hx hb hts iwX7_add_X7 hown hK hP 0 rfl rfl 1 (by decide) k9 (fun _ h9 => h9) rfl dX7_add_68 ?_
        refine lv_iload_n hx hb dX7_add_71 rfl (lv_at hl 2 rfl) ?_
        refine lv_aload_n hx hb dX7_add_72 rfl (lv_at hl 1 rfl) ?_
        refine va_get (D := G) (ci := 4) (v := .int p1_length) (C := RX4) (T := TX4) (N := 3) hx hb hts iwX7_add_X4 hown hK hP 4 rfl rfl 1 (by decide) k10 (fun _ h9 => h9) rfl dX7_add_73 ?_
        obtain ⟨q8, hf⟩ := pf_k hf
        refine va_iast hx hb hK hP hD hS 2 0 rfl rfl q8 dX7_add_76 (fun H locs hP hD hS => ?_)
        obtain ⟨f9, ef9⟩ : ∃ z : Nat → Int32, z = upd t_lengths x2.toNatClampNeg p1_length := ⟨_, rfl⟩
        have hf := pf_l hf f9 ef9
        have hP : va_P G vwCl [(a_t, .inr (7, [.ref a_t_words, .ref a_t_lengths, .ref a_t_urgencies, .int t_size])), (a_t_words, .inl (cI, 96, .inl f7)), (a_t_lengths, .inl (cI, 8, .inl f9)), (a_t_urgencies, .inl (cI, 8, .inl t_urgencies)), (a_p1, .inr (4, [.ref a_p1_words, .int p1_length, .int p1_urgency])), (a_p1_words, .inl (cI, 12, .inl p1_words))] H := by rw [ef9]; exact hP
        have hD : va_D A [(a_t, .inr (7, [.ref a_t_words, .ref a_t_lengths, .ref a_t_urgencies, .int t_size])), (a_t_words, .inl (cI, 96, .inl f7)), (a_t_lengths, .inl (cI, 8, .inl f9)), (a_t_urgencies, .inl (cI, 8, .inl t_urgencies)), (a_p1, .inr (4, [.ref a_p1_words, .int p1_length, .int p1_urgency])), (a_p1_words, .inl (cI, 12, .inl p1_words))] := by rw [ef9]; exact hD
        refine lv_aload_n hx hb dX7_add_77 rfl (lv_at hl 0 rfl) ?_
        refine va_get (D := G) (ci := 7) (v := .ref a_t_urgencies) (C := RX7) (T := TX7) (N := 4) hx hb hts iwX7_add_X7 hown hK hP 0 rfl rfl 2 (by decide) k1 (fun _ h9 => h9) rfl dX7_add_78 ?_
        refine lv_iload_n hx hb dX7_add_81 rfl (lv_at hl 2 rfl) ?_
        refine lv_aload_n hx hb dX7_add_82 rfl (lv_at hl 1 rfl) ?_
        refine va_get (D := G) (ci := 4) (v := .int p1_urgency) (C := RX4) (T := TX4) (N := 3) hx hb hts iwX7_add_X4 hown hK hP 4 rfl rfl 2 (by decide) k2 (fun _ h9 => h9) rfl dX7_add_83 ?_
        obtain ⟨q10, hf⟩ := pf_k hf
        refine va_iast hx hb hK hP hD hS 3 0 rfl rfl q10 dX7_add_86 (fun H locs hP hD hS => ?_)
        obtain ⟨f11, ef11⟩ : ∃ z : Nat → Int32, z = upd t_urgencies x2.toNatClampNeg p1_urgency := ⟨_, rfl⟩
        have hf := pf_l hf f11 ef11
        have hP : va_P G vwCl [(a_t, .inr (7, [.ref a_t_words, .ref a_t_lengths, .ref a_t_urgencies, .int t_size])), (a_t_words, .inl (cI, 96, .inl f7)), (a_t_lengths, .inl (cI, 8, .inl f9)), (a_t_urgencies, .inl (cI, 8, .inl f11)), (a_p1, .inr (4, [.ref a_p1_words, .int p1_length, .int p1_urgency])), (a_p1_words, .inl (cI, 12, .inl p1_words))] H := by rw [ef11]; exact hP
        have hD : va_D A [(a_t, .inr (7, [.ref a_t_words, .ref a_t_lengths, .ref a_t_urgencies, .int t_size])), (a_t_words, .inl (cI, 96, .inl f7)), (a_t_lengths, .inl (cI, 8, .inl f9)), (a_t_urgencies, .inl (cI, 8, .inl f11)), (a_p1, .inr (4, [.ref a_p1_words, .int p1_length, .int p1_urgency])), (a_p1_words, .inl (cI, 12, .inl p1_words))] := by rw [ef11]; exact hD
        refine lv_aload_n hx hb dX7_add_87 rfl (lv_at hl 0 rfl) ?_
        refine lv_dup hx hb dX7_add_88 rfl ?_
        refine va_get (D := G) (ci := 7) (v := .int t_size) (C := RX7) (T := TX7) (N := 4) hx hb hts iwX7_add_X7 hown hK hP 0 rfl rfl 3 (by decide) k11 (fun _ h9 => h9) rfl dX7_add_89 ?_
        refine lv_iconst (v := 1) hx hb dX7_add_92 (by decide) ?_
        refine lv_iadd hx hb dX7_add_93 ?_
        refine va_put (D := G) (ci := 7) (v := .int (t_size + (1 : Int32))) (ty := .int) (C := RX7) (T := TX7) (N := 4) hx hb hts iwX7_add_X7 tyX7 tyX7_ok nmX7 hown hK hP hD hS 0 rfl rfl 3 (by decide) k11 (fun _ h9 => h9) rfl (by decide +kernel) rfl rfl (Nat.le_of_ble_eq_true rfl) dX7_add_94 (fun H locs hP hD hS => ?_)
        have hP : va_P G vwCl [(a_t, .inr (7, [.ref a_t_words, .ref a_t_lengths, .ref a_t_urgencies, .int (t_size + (1 : Int32))])), (a_t_words, .inl (cI, 96, .inl f7)), (a_t_lengths, .inl (cI, 8, .inl f9)), (a_t_urgencies, .inl (cI, 8, .inl f11)), (a_p1, .inr (4, [.ref a_p1_words, .int p1_length, .int p1_urgency])), (a_p1_words, .inl (cI, 12, .inl p1_words))] H := hP
        have hD : va_D A [(a_t, .inr (7, [.ref a_t_words, .ref a_t_lengths, .ref a_t_urgencies, .int (t_size + (1 : Int32))])), (a_t_words, .inl (cI, 96, .inl f7)), (a_t_lengths, .inl (cI, 8, .inl f9)), (a_t_urgencies, .inl (cI, 8, .inl f11)), (a_p1, .inr (4, [.ref a_p1_words, .int p1_length, .int p1_urgency])), (a_p1_words, .inl (cI, 12, .inl p1_words))] := hD
        refine lv_iconst (v := 1) hx hb dX7_add_97 (by decide) ?_
        obtain rfl := Option.some.inj hf
        exact mEnd_z () hx hb hr rfl hlocks hP hK hD hS rfl rfl (Nat.le_refl _) (Nat.le_refl _) dX7_add_98
  unfold fX7_add eX7_add at hf
  obtain ⟨H, hH⟩ : ∃ H : Heap, H = s.heap := ⟨_, rfl⟩
  obtain ⟨locs, hlc⟩ : ∃ z : List Loc, z = [] := ⟨_, rfl⟩
  rw [← hlc, ← hH]
  have hP : va_P G vwCl [(a_t, .inr (7, [.ref a_t_words, .ref a_t_lengths, .ref a_t_urgencies, .int t_size])), (a_t_words, .inl (cI, 96, .inl t_words)), (a_t_lengths, .inl (cI, 8, .inl t_lengths)), (a_t_urgencies, .inl (cI, 8, .inl t_urgencies)), (a_p1, .inr (4, [.ref a_p1_words, .int p1_length, .int p1_urgency])), (a_p1_words, .inl (cI, 12, .inl p1_words))] H := by rw [hH]; exact hP
  have hS : va_S A s.heap H locs := by rw [hlc, hH]; exact hS
  refine lv_aload_n hx hb dX7_add_0 rfl (lv_at hl 0 rfl) ?_
  refine va_get (D := G) (ci := 7) (v := .int t_size) (C := RX7) (T := TX7) (N := 4) hx hb hts iwX7_add_X7 hown hK hP 0 rfl rfl 3 (by decide) k11 (fun _ h9 => h9) rfl dX7_add_1 ?_
  refine lv_bipush (v := 8) hx hb dX7_add_4 (by decide) ?_
  refine lv_icmp_lt (tgt := 11) hx hb dX7_add_6 (by decide) (fun c12 => ?_) (fun c12 => ?_)
  · have hf := pf_t hf c12
    refine lv_aload_n hx hb dX7_add_11 rfl (lv_at hl 0 rfl) ?_
    refine va_get (D := G) (ci := 7) (v := .int t_size) (C := RX7) (T := TX7) (N := 4) hx hb hts iwX7_add_X7 hown hK hP 0 rfl rfl 3 (by decide) k11 (fun _ h9 => h9) rfl dX7_add_12 ?_
    refine lv_istore_n (lv' := [(2, .int t_size), (0, .ref a_t), (1, .ref a_p1)]) hx hb dX7_add_15 rfl hl (by decide) rfl (fun ls hl => ?_)
    exact (key fuelN).1 t_size t_size t_words t_lengths t_urgencies H locs hf hP hD hS ls (lv_sub hl [1, 2, 0] rfl)
  · have hf := pf_f hf c12
    refine lv_iconst (v := 0) hx hb dX7_add_9 (by decide) ?_
    obtain rfl := Option.some.inj hf
    exact mEnd_z () hx hb hr rfl hlocks hP hK hD hS rfl rfl (Nat.le_refl _) (Nat.le_refl _) dX7_add_10
def fX7_readInto (p2 : Int32) (t_size : Int32) (t_words : Nat → Int32) (t_lengths : Nat → Int32) (t_urgencies : Nat → Int32) (p1_length : Int32) (p1_urgency : Int32) (p1_words : Nat → Int32) : Option (Int32 × Int32 × (Nat → Int32)) :=
  (if p2 < 0 then some (p1_length, p1_urgency, p1_words) else (if t_size ≤ p2 then some (p1_length, p1_urgency, p1_words) else (if (p2 * (12 : Int32)) < 0 then none else (if 96 < (p2 * (12 : Int32)).toNatClampNeg + (12 : Int32).toNatClampNeg then none else (lt (va_cpy t_words p1_words (p2 * (12 : Int32)).toNatClampNeg (0 : Int32).toNatClampNeg (12 : Int32).toNatClampNeg) fun (f5 : Nat → Int32) => (if p2 < 0 ∨ 8 ≤ p2.toNatClampNeg then none else (if p2 < 0 ∨ 8 ≤ p2.toNatClampNeg then none else some ((t_lengths p2.toNatClampNeg), (t_urgencies p2.toNatClampNeg), f5))))))))
theorem iwX7_readInto_X4 : ∀ w ∈ u_ws RX4 TX4 3, w ∈ wsX7_readInto := by decide +kernel
theorem iwX7_readInto_X7 : ∀ w ∈ u_ws RX7 TX7 4, w ∈ wsX7_readInto := by decide +kernel
set_option maxHeartbeats 4000000 in
set_option maxRecDepth 100000 in
theorem mX7_readInto (l : Launch) (G : va_G) (cI : ClassId) (a_t a_t_words a_t_lengths a_t_urgencies a_p1 a_p1_words : Nat) (sz : Nat)  (t_size : Int32) (t_words : Nat → Int32) (t_lengths : Nat → Int32) (t_urgencies : Nat → Int32) (p1_length : Int32) (p1_urgency : Int32) (p1_words : Nat → Int32) (p2 : Int32) (res : Int32 × Int32 × (Nat → Int32)) (hf : fX7_readInto p2 t_size t_words t_lengths t_urgencies p1_length p1_urgency p1_words = some res) : Met l yX7_readInto wsX7_readInto ({ frames := 1, cells := 0, slots := 0, locals := 48 }) (mPc G [(cI, .int)] [.ref a_t, .ref a_p1, .int p2] sz [(a_t, .inr (7, [.ref a_t_words, .ref a_t_lengths, .ref a_t_urgencies, .int t_size])), (a_t_words, .inl (cI, 96, .inl t_words)), (a_t_lengths, .inl (cI, 8, .inl t_lengths)), (a_t_urgencies, .inl (cI, 8, .inl t_urgencies)), (a_p1, .inr (4, [.ref a_p1_words, .int p1_length, .int p1_urgency])), (a_p1_words, .inl (cI, 12, .inl p1_words))]) (mQv G [(cI, .int)] (va_A [(a_t, .inr (7, [.ref a_t_words, .ref a_t_lengths, .ref a_t_urgencies, .int t_size])), (a_t_words, .inl (cI, 96, .inl t_words)), (a_t_lengths, .inl (cI, 8, .inl t_lengths)), (a_t_urgencies, .inl (cI, 8, .inl t_urgencies)), (a_p1, .inr (4, [.ref a_p1_words, .int p1_length, .int p1_urgency])), (a_p1_words, .inl (cI, 12, .inl p1_words))] sz) (fun u9 : Unit => [(a_t, .inr (7, [.ref a_t_words, .ref a_t_lengths, .ref a_t_urgencies, .int t_size])), (a_t_words, .inl (cI, 96, .inl t_words)), (a_t_lengths, .inl (cI, 8, .inl t_lengths)), (a_t_urgencies, .inl (cI, 8, .inl t_urgencies)), (a_p1, .inr (4, [.ref a_p1_words, .int res.1, .int res.2.1])), (a_p1_words, .inl (cI, 12, .inl res.2.2))])) 0 0 (va_A [(a_t, .inr (7, [.ref a_t_words, .ref a_t_lengths, .ref a_t_urgencies, .int t_size])), (a_t_words, .inl (cI, 96, .inl t_words)), (a_t_lengths, .inl (cI, 8, .inl t_lengths)), (a_t_urgencies, .inl (cI, 8, .inl t_urgencies)), (a_p1, .inr (4, [.ref a_p1_words, .int p1_length, .int p1_urgency])), (a_p1_words, .inl (cI, 12, .inl p1_words))] sz) := by
  refine mStart (cc := cX7_readInto) (maxL := 3) (ret := none) (by decide) rfl (Nat.le_of_ble_eq_true rfl) ?_
  intro p e s m below meth c A ls hx hb hml hr hts hown hlocks hnm hA hsz hAe hP hK hD hS hl
  have hl : lv_has ls 3 [(0, .ref a_t), (1, .ref a_p1), (2, .int p2)] := hl
  rw [hAe]
  have k1 := hts (.fieldLink RX7 27 "DeafChain$Waiting" "size" "I") (by decide +kernel)
  have k2 := hts (.fieldLink RX7 9 "DeafChain$Waiting" "words" "[I") (by decide +kernel)
  have k3 := hts (.fieldLink RX7 40 "DeafChain$Sentence" "words" "[I") (by decide +kernel)
  have k4 := hts (.methodLink RX7 21 arraycopyName) (by decide +kernel)
  have k5 := hts (.native arraycopyName) (by decide +kernel)
  have k6 := hts (.static arraycopyName) (by decide +kernel)
  have k7 := hts (.initialized "java/lang/System") (by decide +kernel)
  have k8 := hts (.fieldLink RX7 15 "DeafChain$Waiting" "lengths" "[I") (by decide +kernel)
  have k9 := hts (.fieldLink RX7 41 "DeafChain$Sentence" "length" "I") (by decide +kernel)
  have k10 := hts (.fieldLink RX7 18 "DeafChain$Waiting" "urgencies" "[I") (by decide +kernel)
  have k11 := hts (.fieldLink RX7 31 "DeafChain$Sentence" "urgency" "I") (by decide +kernel)
  unfold fX7_readInto at hf
  obtain ⟨H, hH⟩ : ∃ H : Heap, H = s.heap := ⟨_, rfl⟩
  obtain ⟨locs, hlc⟩ : ∃ z : List Loc, z = [] := ⟨_, rfl⟩
  rw [← hlc, ← hH]
  have hP : va_P G vwCl [(a_t, .inr (7, [.ref a_t_words, .ref a_t_lengths, .ref a_t_urgencies, .int t_size])), (a_t_words, .inl (cI, 96, .inl t_words)), (a_t_lengths, .inl (cI, 8, .inl t_lengths)), (a_t_urgencies, .inl (cI, 8, .inl t_urgencies)), (a_p1, .inr (4, [.ref a_p1_words, .int p1_length, .int p1_urgency])), (a_p1_words, .inl (cI, 12, .inl p1_words))] H := by rw [hH]; exact hP
  have hS : va_S A s.heap H locs := by rw [hlc, hH]; exact hS
  refine lv_iload_n hx hb dX7_readInto_0 rfl (lv_at hl 2 rfl) ?_
  refine lv_if_lt (tgt := 50) hx hb dX7_readInto_1 (by decide) (fun c1 => ?_) (fun c1 => ?_)
  · have hf := pf_t hf c1
    obtain rfl := Option.some.inj hf
    exact mEnd_v () hx hb hr hlocks hP hK hD hS rfl (Nat.le_of_ble_eq_true rfl) (Nat.le_of_ble_eq_true rfl) dX7_readInto_50
  · have hf := pf_f hf c1
    refine lv_iload_n hx hb dX7_readInto_4 rfl (lv_at hl 2 rfl) ?_
    refine lv_aload_n hx hb dX7_readInto_5 rfl (lv_at hl 0 rfl) ?_
    refine va_get (D := G) (ci := 7) (v := .int t_size) (C := RX7) (T := TX7) (N := 4) hx hb hts iwX7_readInto_X7 hown hK hP 0 rfl rfl 3 (by decide) k1 (fun _ h9 => h9) rfl dX7_readInto_6 ?_
    refine lv_icmp_ge (tgt := 50) hx hb dX7_readInto_9 (by decide) (fun c2 => ?_) (fun c2 => ?_)
    · have hf := pf_t hf c2
      obtain rfl := Option.some.inj hf
      exact mEnd_v () hx hb hr hlocks hP hK hD hS rfl (Nat.le_of_ble_eq_true rfl) (Nat.le_of_ble_eq_true rfl) dX7_readInto_50
    · have hf := pf_f hf c2
      refine lv_aload_n hx hb dX7_readInto_12 rfl (lv_at hl 0 rfl) ?_
      refine va_get (D := G) (ci := 7) (v := .ref a_t_words) (C := RX7) (T := TX7) (N := 4) hx hb hts iwX7_readInto_X7 hown hK hP 0 rfl rfl 0 (by decide) k2 (fun _ h9 => h9) rfl dX7_readInto_13 ?_
      refine lv_iload_n hx hb dX7_readInto_16 rfl (lv_at hl 2 rfl) ?_
      refine lv_bipush (v := 12) hx hb dX7_readInto_17 (by decide) ?_
      refine lv_imul hx hb dX7_readInto_19 ?_
      refine lv_aload_n hx hb dX7_readInto_20 rfl (lv_at hl 1 rfl) ?_
      refine va_get (D := G) (ci := 4) (v := .ref a_p1_words) (C := RX4) (T := TX4) (N := 3) hx hb hts iwX7_readInto_X4 hown hK hP 4 rfl rfl 0 (by decide) k3 (fun _ h9 => h9) rfl dX7_readInto_21 ?_
      refine lv_iconst (v := 0) hx hb dX7_readInto_24 (by decide) ?_
      refine lv_bipush (v := 12) hx hb dX7_readInto_25 (by decide) ?_
      obtain ⟨q3, hf⟩ := pf_k hf
      obtain ⟨q4, hf⟩ := pf_k hf
      refine va_copyi hx hb (hml.trans hl.1.symm) hown k4 k5 k6 k7 hK hP hD hS 1 5 0 0 rfl rfl rfl rfl rfl q3 (by decide) (by decide) (Nat.not_lt.mp q4) (by decide +kernel) (fun _ _ => rfl) (Nat.le_of_ble_eq_true rfl) (Nat.le_of_ble_eq_true rfl) dX7_readInto_27 (fun H locs hP hD hS => ?_)
      obtain ⟨f5, ef5⟩ : ∃ z : Nat → Int32, z = va_cpy t_words p1_words (p2 * (12 : Int32)).toNatClampNeg (0 : Int32).toNatClampNeg (12 : Int32).toNatClampNeg := ⟨_, rfl⟩
      have hf := pf_l hf f5 ef5
      have hP : va_P G vwCl [(a_t, .inr (7, [.ref a_t_words, .ref a_t_lengths, .ref a_t_urgencies, .int t_size])), (a_t_words, .inl (cI, 96, .inl t_words)), (a_t_lengths, .inl (cI, 8, .inl t_lengths)), (a_t_urgencies, .inl (cI, 8, .inl t_urgencies)), (a_p1, .inr (4, [.ref a_p1_words, .int p1_length, .int p1_urgency])), (a_p1_words, .inl (cI, 12, .inl f5))] H := by rw [ef5]; exact hP
      have hD : va_D A [(a_t, .inr (7, [.ref a_t_words, .ref a_t_lengths, .ref a_t_urgencies, .int t_size])), (a_t_words, .inl (cI, 96, .inl t_words)), (a_t_lengths, .inl (cI, 8, .inl t_lengths)), (a_t_urgencies, .inl (cI, 8, .inl t_urgencies)), (a_p1, .inr (4, [.ref a_p1_words, .int p1_length, .int p1_urgency])), (a_p1_words, .inl (cI, 12, .inl f5))] := by rw [ef5]; exact hD
      refine lv_aload_n hx hb dX7_readInto_30 rfl (lv_at hl 1 rfl) ?_
      refine lv_aload_n hx hb dX7_readInto_31 rfl (lv_at hl 0 rfl) ?_
      refine va_get (D := G) (ci := 7) (v := .ref a_t_lengths) (C := RX7) (T := TX7) (N := 4) hx hb hts iwX7_readInto_X7 hown hK hP 0 rfl rfl 1 (by decide) k8 (fun _ h9 => h9) rfl dX7_readInto_32 ?_
      refine lv_iload_n hx hb dX7_readInto_35 rfl (lv_at hl 2 rfl) ?_
      obtain ⟨q6, hf⟩ := pf_k hf
      refine va_iald hx hb hK hP 2 0 rfl rfl q6 dX7_readInto_36 ?_
      refine va_put (D := G) (ci := 4) (v := .int (t_lengths p2.toNatClampNeg)) (ty := .int) (C := RX4) (T := TX4) (N := 3) hx hb hts iwX7_readInto_X4 tyX4 tyX4_ok nmX4 hown hK hP hD hS 4 rfl rfl 1 (by decide) k9 (fun _ h9 => h9) rfl (by decide +kernel) rfl rfl (Nat.le_of_ble_eq_true rfl) dX7_readInto_37 (fun H locs hP hD hS => ?_)
      have hP : va_P G vwCl [(a_t, .inr (7, [.ref a_t_words, .ref a_t_lengths, .ref a_t_urgencies, .int t_size])), (a_t_words, .inl (cI, 96, .inl t_words)), (a_t_lengths, .inl (cI, 8, .inl t_lengths)), (a_t_urgencies, .inl (cI, 8, .inl t_urgencies)), (a_p1, .inr (4, [.ref a_p1_words, .int (t_lengths p2.toNatClampNeg), .int p1_urgency])), (a_p1_words, .inl (cI, 12, .inl f5))] H := hP
      have hD : va_D A [(a_t, .inr (7, [.ref a_t_words, .ref a_t_lengths, .ref a_t_urgencies, .int t_size])), (a_t_words, .inl (cI, 96, .inl t_words)), (a_t_lengths, .inl (cI, 8, .inl t_lengths)), (a_t_urgencies, .inl (cI, 8, .inl t_urgencies)), (a_p1, .inr (4, [.ref a_p1_words, .int (t_lengths p2.toNatClampNeg), .int p1_urgency])), (a_p1_words, .inl (cI, 12, .inl f5))] := hD
      refine lv_aload_n hx hb dX7_readInto_40 rfl (lv_at hl 1 rfl) ?_
      refine lv_aload_n hx hb dX7_readInto_41 rfl (lv_at hl 0 rfl) ?_
      refine va_get (D := G) (ci := 7) (v := .ref a_t_urgencies) (C := RX7) (T := TX7) (N := 4) hx hb hts iwX7_readInto_X7 hown hK hP 0 rfl rfl 2 (by decide) k10 (fun _ h9 => h9) rfl dX7_readInto_42 ?_
      refine lv_iload_n hx hb dX7_readInto_45 rfl (lv_at hl 2 rfl) ?_
      obtain ⟨q7, hf⟩ := pf_k hf
      refine va_iald hx hb hK hP 3 0 rfl rfl q7 dX7_readInto_46 ?_
      refine va_put (D := G) (ci := 4) (v := .int (t_urgencies p2.toNatClampNeg)) (ty := .int) (C := RX4) (T := TX4) (N := 3) hx hb hts iwX7_readInto_X4 tyX4 tyX4_ok nmX4 hown hK hP hD hS 4 rfl rfl 2 (by decide) k11 (fun _ h9 => h9) rfl (by decide +kernel) rfl rfl (Nat.le_of_ble_eq_true rfl) dX7_readInto_47 (fun H locs hP hD hS => ?_)
      have hP : va_P G vwCl [(a_t, .inr (7, [.ref a_t_words, .ref a_t_lengths, .ref a_t_urgencies, .int t_size])), (a_t_words, .inl (cI, 96, .inl t_words)), (a_t_lengths, .inl (cI, 8, .inl t_lengths)), (a_t_urgencies, .inl (cI, 8, .inl t_urgencies)), (a_p1, .inr (4, [.ref a_p1_words, .int (t_lengths p2.toNatClampNeg), .int (t_urgencies p2.toNatClampNeg)])), (a_p1_words, .inl (cI, 12, .inl f5))] H := hP
      have hD : va_D A [(a_t, .inr (7, [.ref a_t_words, .ref a_t_lengths, .ref a_t_urgencies, .int t_size])), (a_t_words, .inl (cI, 96, .inl t_words)), (a_t_lengths, .inl (cI, 8, .inl t_lengths)), (a_t_urgencies, .inl (cI, 8, .inl t_urgencies)), (a_p1, .inr (4, [.ref a_p1_words, .int (t_lengths p2.toNatClampNeg), .int (t_urgencies p2.toNatClampNeg)])), (a_p1_words, .inl (cI, 12, .inl f5))] := hD
      obtain rfl := Option.some.inj hf
      exact mEnd_v () hx hb hr hlocks hP hK hD hS rfl (Nat.le_of_ble_eq_true rfl) (Nat.le_of_ble_eq_true rfl) dX7_readInto_50
def bX7_removeFirst_1  (k : Nat → Int32 → Int32 → (Nat → Int32) → (Nat → Int32) → (Nat → Int32) → Option (Int32 × (Nat → Int32) × (Nat → Int32) × (Nat → Int32))) (x1 : Int32) (t_size : Int32) (t_words : Nat → Int32) (t_lengths : Nat → Int32) (t_urgencies : Nat → Int32) : Option (Int32 × (Nat → Int32) × (Nat → Int32) × (Nat → Int32)) :=
  (if t_size ≤ x1 then (if t_size ≤ 0 then some (t_size, t_words, t_lengths, t_urgencies) else some ((t_size - (1 : Int32)), t_words, t_lengths, t_urgencies)) else ((fX7_copyPlace x1 (x1 - (1 : Int32)) t_words t_lengths t_urgencies).bind fun (u3 : (Nat → Int32) × (Nat → Int32) × (Nat → Int32)) => k 1 (x1 + 1) t_size u3.1 u3.2.1 u3.2.2))
def sX7_removeFirst  (k : Nat → Int32 → Int32 → (Nat → Int32) → (Nat → Int32) → (Nat → Int32) → Option (Int32 × (Nat → Int32) × (Nat → Int32) × (Nat → Int32))) (b : Nat) (x1 : Int32) (t_size : Int32) (t_words : Nat → Int32) (t_lengths : Nat → Int32) (t_urgencies : Nat → Int32) : Option (Int32 × (Nat → Int32) × (Nat → Int32) × (Nat → Int32)) := match b with
  | 1 => bX7_removeFirst_1  k x1 t_size t_words t_lengths t_urgencies
  | _ => none
def rX7_removeFirst  : Nat → Nat → Int32 → Int32 → (Nat → Int32) → (Nat → Int32) → (Nat → Int32) → Option (Int32 × (Nat → Int32) × (Nat → Int32) × (Nat → Int32))
  | 0 => fun _ _ _ _ _ _ => none
  | n + 1 => sX7_removeFirst  (rX7_removeFirst  n)
def eX7_removeFirst (t_size : Int32) (t_words : Nat → Int32) (t_lengths : Nat → Int32) (t_urgencies : Nat → Int32) (k : Nat → Int32 → Int32 → (Nat → Int32) → (Nat → Int32) → (Nat → Int32) → Option (Int32 × (Nat → Int32) × (Nat → Int32) × (Nat → Int32))) : Option (Int32 × (Nat → Int32) × (Nat → Int32) × (Nat → Int32)) :=
  k 1 (1 : Int32) t_size t_words t_lengths t_urgencies
def fX7_removeFirst (t_size : Int32) (t_words : Nat → Int32) (t_lengths : Nat → Int32) (t_urgencies : Nat → Int32) : Option (Int32 × (Nat → Int32) × (Nat → Int32) × (Nat → Int32)) := eX7_removeFirst t_size t_words t_lengths t_urgencies (rX7_removeFirst  fuelN)
theorem iwX7_removeFirst_X7 : ∀ w ∈ u_ws RX7 TX7 4, w ∈ wsX7_removeFirst := by decide +kernel
set_option maxHeartbeats 4000000 in
set_option maxRecDepth 100000 in
theorem mX7_removeFirst (l : Launch) (G : va_G) (cI : ClassId) (a_t a_t_words a_t_lengths a_t_urgencies : Nat) (sz : Nat)  (t_size : Int32) (t_words : Nat → Int32) (t_lengths : Nat → Int32) (t_urgencies : Nat → Int32)  (res : Int32 × (Nat → Int32) × (Nat → Int32) × (Nat → Int32)) (hf : fX7_removeFirst t_size t_words t_lengths t_urgencies = some res) : Met l yX7_removeFirst wsX7_removeFirst ({ frames := 2, cells := 0, slots := 0, locals := 70 }) (mPc G [(cI, .int)] [.ref a_t] sz [(a_t, .inr (7, [.ref a_t_words, .ref a_t_lengths, .ref a_t_urgencies, .int t_size])), (a_t_words, .inl (cI, 96, .inl t_words)), (a_t_lengths, .inl (cI, 8, .inl t_lengths)), (a_t_urgencies, .inl (cI, 8, .inl t_urgencies))]) (mQv G [(cI, .int)] (va_A [(a_t, .inr (7, [.ref a_t_words, .ref a_t_lengths, .ref a_t_urgencies, .int t_size])), (a_t_words, .inl (cI, 96, .inl t_words)), (a_t_lengths, .inl (cI, 8, .inl t_lengths)), (a_t_urgencies, .inl (cI, 8, .inl t_urgencies))] sz) (fun u9 : Unit => [(a_t, .inr (7, [.ref a_t_words, .ref a_t_lengths, .ref a_t_urgencies, .int res.1])), (a_t_words, .inl (cI, 96, .inl res.2.1)), (a_t_lengths, .inl (cI, 8, .inl res.2.2.1)), (a_t_urgencies, .inl (cI, 8, .inl res.2.2.2))])) 0 0 (va_A [(a_t, .inr (7, [.ref a_t_words, .ref a_t_lengths, .ref a_t_urgencies, .int t_size])), (a_t_words, .inl (cI, 96, .inl t_words)), (a_t_lengths, .inl (cI, 8, .inl t_lengths)), (a_t_urgencies, .inl (cI, 8, .inl t_urgencies))] sz) := by
  refine mStart (cc := cX7_removeFirst) (maxL := 2) (ret := none) (by decide) rfl (Nat.le_of_ble_eq_true rfl) ?_
  intro p e s m below meth c A ls hx hb hml hr hts hown hlocks hnm hA hsz hAe hP hK hD hS hl
  have hl : lv_has ls 2 [(0, .ref a_t)] := hl
  rw [hAe]
  have k1 := hts (.fieldLink RX7 27 "DeafChain$Waiting" "size" "I") (by decide +kernel)
  have key : ∀ n : Nat, (∀ (x1 : Int32) (t_size : Int32) (t_words : Nat → Int32) (t_lengths : Nat → Int32) (t_urgencies : Nat → Int32) (H : Heap) (locs : List Loc) (hf : rX7_removeFirst  n 1 x1 t_size t_words t_lengths t_urgencies = some res) (hP : va_P G vwCl [(a_t, .inr (7, [.ref a_t_words, .ref a_t_lengths, .ref a_t_urgencies, .int t_size])), (a_t_words, .inl (cI, 96, .inl t_words)), (a_t_lengths, .inl (cI, 8, .inl t_lengths)), (a_t_urgencies, .inl (cI, 8, .inl t_urgencies))] H) (hD : va_D A [(a_t, .inr (7, [.ref a_t_words, .ref a_t_lengths, .ref a_t_urgencies, .int t_size])), (a_t_words, .inl (cI, 96, .inl t_words)), (a_t_lengths, .inl (cI, 8, .inl t_lengths)), (a_t_urgencies, .inl (cI, 8, .inl t_urgencies))]) (hS : va_S A s.heap H locs) (ls : Array Slot) (hl : lv_has ls 2 [(0, .ref a_t), (1, .int x1)]), W p l e ({ frames := 2, cells := 0, slots := 0, locals := 70 } : Room) s m ([.ref a_t] : List Value).toArray below meth c H locs 0 0 (MQ below (mQv G [(cI, .int)] A (fun u9 : Unit => [(a_t, .inr (7, [.ref a_t_words, .ref a_t_lengths, .ref a_t_urgencies, .int res.1])), (a_t_words, .inl (cI, 96, .inl res.2.1)), (a_t_lengths, .inl (cI, 8, .inl res.2.2.1)), (a_t_urgencies, .inl (cI, 8, .inl res.2.2.2))])) ([.ref a_t] : List Value).toArray s 0 0 A) (F0 m 2 ls [])) := by
    intro n
    induction n with
    | zero => exact (fun _ _ _ _ _ H locs hf => (by cases hf))
    | succ n ih =>
      · intro  x1 t_size t_words t_lengths t_urgencies H locs hf hP hD hS ls hl
        replace hf : bX7_removeFirst_1  (rX7_removeFirst  n) x1 t_size t_words t_lengths t_urgencies = some res := hf
        unfold bX7_removeFirst_1 at hf
        refine lv_iload_n hx hb dX7_removeFirst_2 rfl (lv_at hl 1 rfl) ?_
        refine lv_aload_n hx hb dX7_removeFirst_3 rfl (lv_at hl 0 rfl) ?_
        refine va_get (D := G) (ci := 7) (v := .int t_size) (C := RX7) (T := TX7) (N := 4) hx hb hts iwX7_removeFirst_X7 hown hK hP 0 rfl rfl 3 (by decide) k1 (fun _ h9 => h9) rfl dX7_removeFirst_4 ?_
        refine lv_icmp_ge (tgt := 24) hx hb dX7_removeFirst_7 (by decide) (fun c1 => ?_) (fun c1 => ?_)
        · have hf := pf_t hf c1
          refine lv_aload_n hx hb dX7_removeFirst_24 rfl (lv_at hl 0 rfl) ?_
          refine va_get (D := G) (ci := 7) (v := .int t_size) (C := RX7) (T := TX7) (N := 4) hx hb hts iwX7_removeFirst_X7 hown hK hP 0 rfl rfl 3 (by decide) k1 (fun _ h9 => h9) rfl dX7_removeFirst_25 ?_
          refine lv_if_le (tgt := 41) hx hb dX7_removeFirst_28 (by decide) (fun c2 => ?_) (fun c2 => ?_)
          · have hf := pf_t hf c2
            obtain rfl := Option.some.inj hf
            exact mEnd_v () hx hb hr hlocks hP hK hD hS rfl (Nat.le_of_ble_eq_true rfl) (Nat.le_of_ble_eq_true rfl) dX7_removeFirst_41
          · have hf := pf_f hf c2
            refine lv_aload_n hx hb dX7_removeFirst_31 rfl (lv_at hl 0 rfl) ?_
            refine lv_dup hx hb dX7_removeFirst_32 rfl ?_
            refine va_get (D := G) (ci := 7) (v := .int t_size) (C := RX7) (T := TX7) (N := 4) hx hb hts iwX7_removeFirst_X7 hown hK hP 0 rfl rfl 3 (by decide) k1 (fun _ h9 => h9) rfl dX7_removeFirst_33 ?_
            refine lv_iconst (v := 1) hx hb dX7_removeFirst_36 (by decide) ?_
            refine lv_isub hx hb dX7_removeFirst_37 ?_
            refine va_put (D := G) (ci := 7) (v := .int (t_size - (1 : Int32))) (ty := .int) (C := RX7) (T := TX7) (N := 4) hx hb hts iwX7_removeFirst_X7 tyX7 tyX7_ok nmX7 hown hK hP hD hS 0 rfl rfl 3 (by decide) k1 (fun _ h9 => h9) rfl (by decide +kernel) rfl rfl (Nat.le_of_ble_eq_true rfl) dX7_removeFirst_38 (fun H locs hP hD hS => ?_)
            have hP : va_P G vwCl [(a_t, .inr (7, [.ref a_t_words, .ref a_t_lengths, .ref a_t_urgencies, .int (t_size - (1 : Int32))])), (a_t_words, .inl (cI, 96, .inl t_words)), (a_t_lengths, .inl (cI, 8, .inl t_lengths)), (a_t_urgencies, .inl (cI, 8, .inl t_urgencies))] H := hP
            have hD : va_D A [(a_t, .inr (7, [.ref a_t_words, .ref a_t_lengths, .ref a_t_urgencies, .int (t_size - (1 : Int32))])), (a_t_words, .inl (cI, 96, .inl t_words)), (a_t_lengths, .inl (cI, 8, .inl t_lengths)), (a_t_urgencies, .inl (cI, 8, .inl t_urgencies))] := hD
            obtain rfl := Option.some.inj hf
            exact mEnd_v () hx hb hr hlocks hP hK hD hS rfl (Nat.le_of_ble_eq_true rfl) (Nat.le_of_ble_eq_true rfl) dX7_removeFirst_41
        · have hf := pf_f hf c1
          refine lv_aload_n hx hb dX7_removeFirst_10 rfl (lv_at hl 0 rfl) ?_
          refine lv_iload_n hx hb dX7_removeFirst_11 rfl (lv_at hl 1 rfl) ?_
          refine lv_iload_n hx hb dX7_removeFirst_12 rfl (lv_at hl 1 rfl) ?_
          refine lv_iconst (v := 1) hx hb dX7_removeFirst_13 (by decide) ?_
          refine lv_isub hx hb dX7_removeFirst_14 ?_
          obtain ⟨u3, hu3, hf⟩ := pf_b hf
          refine mCallV_v (As := [.int x1, .int (x1 - (1 : Int32))]) ⟨hx, hb, hml, hown, hts⟩ (mX7_copyPlace l G cI a_t a_t_words a_t_lengths a_t_urgencies H.size t_size t_words t_lengths t_urgencies x1 (x1 - (1 : Int32)) _ hu3) (cwV 2 hts gX7_removeFirst_X7_copyPlace rfl rfl rfl (by decide +kernel) ⟨Nat.le_of_ble_eq_true rfl, Nat.le_of_ble_eq_true rfl⟩) hP hD hS hA hK [0, 1, 2, 3] rfl (by decide) 0 7 rfl rfl rfl hK [a_t, a_t_words, a_t_lengths, a_t_urgencies] (fun _ => rfl) rfl (fun _ => [(a_t, .inr (7, [.ref a_t_words, .ref a_t_lengths, .ref a_t_urgencies, .int t_size])), (a_t_words, .inl (cI, 96, .inl u3.1)), (a_t_lengths, .inl (cI, 8, .inl u3.2.1)), (a_t_urgencies, .inl (cI, 8, .inl u3.2.2))]) [a_t, a_t_words, a_t_lengths, a_t_urgencies] (fun _ => rfl) rfl (fun _ => rfl) [] [] (fun _ => rfl) rfl 4 rfl rfl rfl hl.1 rfl (lv_room (Nat.le_of_ble_eq_true rfl)) dX7_removeFirst_15 ⟨Nat.zero_le _, Nat.zero_le _⟩ (fun _ H locs hP hD hS => ?_)
          have hP : va_P G vwCl [(a_t, .inr (7, [.ref a_t_words, .ref a_t_lengths, .ref a_t_urgencies, .int t_size])), (a_t_words, .inl (cI, 96, .inl u3.1)), (a_t_lengths, .inl (cI, 8, .inl u3.2.1)), (a_t_urgencies, .inl (cI, 8, .inl u3.2.2))] H := hP
          have hD : va_D A [(a_t, .inr (7, [.ref a_t_words, .ref a_t_lengths, .ref a_t_urgencies, .int t_size])), (a_t_words, .inl (cI, 96, .inl u3.1)), (a_t_lengths, .inl (cI, 8, .inl u3.2.1)), (a_t_urgencies, .inl (cI, 8, .inl u3.2.2))] := hD
          refine lv_iinc (v := x1 + 1) (lv' := [(1, .int (x1 + 1)), (0, .ref a_t)]) hx hb dX7_removeFirst_18 hl (k := 1) rfl rfl (by decide) rfl (fun ls hl => ?_)
          refine lv_goto (tgt := 2) hx hb dX7_removeFirst_21 (by decide) ?_
          exact ih (x1 + 1) t_size u3.1 u3.2.1 u3.2.2 H locs hf hP hD hS ls (lv_sub hl [1, 0] rfl)
  unfold fX7_removeFirst eX7_removeFirst at hf
  obtain ⟨H, hH⟩ : ∃ H : Heap, H = s.heap := ⟨_, rfl⟩
  obtain ⟨locs, hlc⟩ : ∃ z : List Loc, z = [] := ⟨_, rfl⟩
  rw [← hlc, ← hH]
  have hP : va_P G vwCl [(a_t, .inr (7, [.ref a_t_words, .ref a_t_lengths, .ref a_t_urgencies, .int t_size])), (a_t_words, .inl (cI, 96, .inl t_words)), (a_t_lengths, .inl (cI, 8, .inl t_lengths)), (a_t_urgencies, .inl (cI, 8, .inl t_urgencies))] H := by rw [hH]; exact hP
  have hS : va_S A s.heap H locs := by rw [hlc, hH]; exact hS
  refine lv_iconst (v := 1) hx hb dX7_removeFirst_0 (by decide) ?_
  refine lv_istore_n (lv' := [(1, .int 1), (0, .ref a_t)]) hx hb dX7_removeFirst_1 rfl hl (by decide) rfl (fun ls hl => ?_)
  exact (key fuelN) (1 : Int32) t_size t_words t_lengths t_urgencies H locs hf hP hD hS ls (lv_sub hl [1, 0] rfl)
def fX0_copyFrom (t_size : Int32) (t_words : Nat → Int32) (t_facts : Nat → Int32) (p1_size : Int32) (p1_words : Nat → Int32) (p1_facts : Nat → Int32) : Option (Int32 × (Nat → Int32) × (Nat → Int32)) :=
  (lt (va_cpy p1_words t_words (0 : Int32).toNatClampNeg (0 : Int32).toNatClampNeg (72 : Int32).toNatClampNeg) fun (f1 : Nat → Int32) => (lt (va_cpy p1_facts t_facts (0 : Int32).toNatClampNeg (0 : Int32).toNatClampNeg (36 : Int32).toNatClampNeg) fun (f2 : Nat → Int32) => some (p1_size, f1, f2)))
theorem iwX0_copyFrom_X0 : ∀ w ∈ u_ws RX0 TX0 3, w ∈ wsX0_copyFrom := by decide +kernel
set_option maxHeartbeats 4000000 in
set_option maxRecDepth 100000 in
theorem mX0_copyFrom (l : Launch) (G : va_G) (cI : ClassId) (a_t a_t_words a_t_facts a_p1 a_p1_words a_p1_facts : Nat) (sz : Nat)  (t_size : Int32) (t_words : Nat → Int32) (t_facts : Nat → Int32) (p1_size : Int32) (p1_words : Nat → Int32) (p1_facts : Nat → Int32)  (res : Int32 × (Nat → Int32) × (Nat → Int32)) (hf : fX0_copyFrom t_size t_words t_facts p1_size p1_words p1_facts = some res) : Met l yX0_copyFrom wsX0_copyFrom ({ frames := 1, cells := 0, slots := 0, locals := 48 }) (mPc G [(cI, .int)] [.ref a_t, .ref a_p1] sz [(a_t, .inr (0, [.ref a_t_words, .ref a_t_facts, .int t_size])), (a_t_words, .inl (cI, 72, .inl t_words)), (a_t_facts, .inl (cI, 36, .inl t_facts)), (a_p1, .inr (0, [.ref a_p1_words, .ref a_p1_facts, .int p1_size])), (a_p1_words, .inl (cI, 72, .inl p1_words)), (a_p1_facts, .inl (cI, 36, .inl p1_facts))]) (mQv G [(cI, .int)] (va_A [(a_t, .inr (0, [.ref a_t_words, .ref a_t_facts, .int t_size])), (a_t_words, .inl (cI, 72, .inl t_words)), (a_t_facts, .inl (cI, 36, .inl t_facts)), (a_p1, .inr (0, [.ref a_p1_words, .ref a_p1_facts, .int p1_size])), (a_p1_words, .inl (cI, 72, .inl p1_words)), (a_p1_facts, .inl (cI, 36, .inl p1_facts))] sz) (fun u9 : Unit => [(a_t, .inr (0, [.ref a_t_words, .ref a_t_facts, .int res.1])), (a_t_words, .inl (cI, 72, .inl res.2.1)), (a_t_facts, .inl (cI, 36, .inl res.2.2)), (a_p1, .inr (0, [.ref a_p1_words, .ref a_p1_facts, .int p1_size])), (a_p1_words, .inl (cI, 72, .inl p1_words)), (a_p1_facts, .inl (cI, 36, .inl p1_facts))])) 0 0 (va_A [(a_t, .inr (0, [.ref a_t_words, .ref a_t_facts, .int t_size])), (a_t_words, .inl (cI, 72, .inl t_words)), (a_t_facts, .inl (cI, 36, .inl t_facts)), (a_p1, .inr (0, [.ref a_p1_words, .ref a_p1_facts, .int p1_size])), (a_p1_words, .inl (cI, 72, .inl p1_words)), (a_p1_facts, .inl (cI, 36, .inl p1_facts))] sz) := by
  refine mStart (cc := cX0_copyFrom) (maxL := 2) (ret := none) (by decide) rfl (Nat.le_of_ble_eq_true rfl) ?_
  intro p e s m below meth c A ls hx hb hml hr hts hown hlocks hnm hA hsz hAe hP hK hD hS hl
  have hl : lv_has ls 2 [(0, .ref a_t), (1, .ref a_p1)] := hl
  rw [hAe]
  have k1 := hts (.fieldLink RX0 9 "DeafChain$Arrivals" "words" "[I") (by decide +kernel)
  have k2 := hts (.methodLink RX0 18 arraycopyName) (by decide +kernel)
  have k3 := hts (.native arraycopyName) (by decide +kernel)
  have k4 := hts (.static arraycopyName) (by decide +kernel)
  have k5 := hts (.initialized "java/lang/System") (by decide +kernel)
  have k6 := hts (.fieldLink RX0 15 "DeafChain$Arrivals" "facts" "[I") (by decide +kernel)
  have k7 := hts (.fieldLink RX0 24 "DeafChain$Arrivals" "size" "I") (by decide +kernel)
  unfold fX0_copyFrom at hf
  obtain ⟨H, hH⟩ : ∃ H : Heap, H = s.heap := ⟨_, rfl⟩
  obtain ⟨locs, hlc⟩ : ∃ z : List Loc, z = [] := ⟨_, rfl⟩
  rw [← hlc, ← hH]
  have hP : va_P G vwCl [(a_t, .inr (0, [.ref a_t_words, .ref a_t_facts, .int t_size])), (a_t_words, .inl (cI, 72, .inl t_words)), (a_t_facts, .inl (cI, 36, .inl t_facts)), (a_p1, .inr (0, [.ref a_p1_words, .ref a_p1_facts, .int p1_size])), (a_p1_words, .inl (cI, 72, .inl p1_words)), (a_p1_facts, .inl (cI, 36, .inl p1_facts))] H := by rw [hH]; exact hP
  have hS : va_S A s.heap H locs := by rw [hlc, hH]; exact hS
  refine lv_aload_n hx hb dX0_copyFrom_0 rfl (lv_at hl 1 rfl) ?_
  refine va_get (D := G) (ci := 0) (v := .ref a_p1_words) (C := RX0) (T := TX0) (N := 3) hx hb hts iwX0_copyFrom_X0 hown hK hP 3 rfl rfl 0 (by decide) k1 (fun _ h9 => h9) rfl dX0_copyFrom_1 ?_
  refine lv_iconst (v := 0) hx hb dX0_copyFrom_4 (by decide) ?_
  refine lv_aload_n hx hb dX0_copyFrom_5 rfl (lv_at hl 0 rfl) ?_
  refine va_get (D := G) (ci := 0) (v := .ref a_t_words) (C := RX0) (T := TX0) (N := 3) hx hb hts iwX0_copyFrom_X0 hown hK hP 0 rfl rfl 0 (by decide) k1 (fun _ h9 => h9) rfl dX0_copyFrom_6 ?_
  refine lv_iconst (v := 0) hx hb dX0_copyFrom_9 (by decide) ?_
  refine lv_bipush (v := 72) hx hb dX0_copyFrom_10 (by decide) ?_
  refine va_copyi hx hb (hml.trans hl.1.symm) hown k2 k3 k4 k5 hK hP hD hS 4 1 0 0 rfl rfl rfl rfl rfl (by decide) (by decide) (by decide) (by decide +kernel) (by decide +kernel) (fun _ _ => rfl) (Nat.le_of_ble_eq_true rfl) (Nat.le_of_ble_eq_true rfl) dX0_copyFrom_12 (fun H locs hP hD hS => ?_)
  obtain ⟨f1, ef1⟩ : ∃ z : Nat → Int32, z = va_cpy p1_words t_words (0 : Int32).toNatClampNeg (0 : Int32).toNatClampNeg (72 : Int32).toNatClampNeg := ⟨_, rfl⟩
  have hf := pf_l hf f1 ef1
  have hP : va_P G vwCl [(a_t, .inr (0, [.ref a_t_words, .ref a_t_facts, .int t_size])), (a_t_words, .inl (cI, 72, .inl f1)), (a_t_facts, .inl (cI, 36, .inl t_facts)), (a_p1, .inr (0, [.ref a_p1_words, .ref a_p1_facts, .int p1_size])), (a_p1_words, .inl (cI, 72, .inl p1_words)), (a_p1_facts, .inl (cI, 36, .inl p1_facts))] H := by rw [ef1]; exact hP
  have hD : va_D A [(a_t, .inr (0, [.ref a_t_words, .ref a_t_facts, .int t_size])), (a_t_words, .inl (cI, 72, .inl f1)), (a_t_facts, .inl (cI, 36, .inl t_facts)), (a_p1, .inr (0, [.ref a_p1_words, .ref a_p1_facts, .int p1_size])), (a_p1_words, .inl (cI, 72, .inl p1_words)), (a_p1_facts, .inl (cI, 36, .inl p1_facts))] := by rw [ef1]; exact hD
  refine lv_aload_n hx hb dX0_copyFrom_15 rfl (lv_at hl 1 rfl) ?_
  refine va_get (D := G) (ci := 0) (v := .ref a_p1_facts) (C := RX0) (T := TX0) (N := 3) hx hb hts iwX0_copyFrom_X0 hown hK hP 3 rfl rfl 1 (by decide) k6 (fun _ h9 => h9) rfl dX0_copyFrom_16 ?_
  refine lv_iconst (v := 0) hx hb dX0_copyFrom_19 (by decide) ?_
  refine lv_aload_n hx hb dX0_copyFrom_20 rfl (lv_at hl 0 rfl) ?_
  refine va_get (D := G) (ci := 0) (v := .ref a_t_facts) (C := RX0) (T := TX0) (N := 3) hx hb hts iwX0_copyFrom_X0 hown hK hP 0 rfl rfl 1 (by decide) k6 (fun _ h9 => h9) rfl dX0_copyFrom_21 ?_
  refine lv_iconst (v := 0) hx hb dX0_copyFrom_24 (by decide) ?_
  refine lv_bipush (v := 36) hx hb dX0_copyFrom_25 (by decide) ?_
  refine va_copyi hx hb (hml.trans hl.1.symm) hown k2 k3 k4 k5 hK hP hD hS 5 2 0 0 rfl rfl rfl rfl rfl (by decide) (by decide) (by decide) (by decide +kernel) (by decide +kernel) (fun _ _ => rfl) (Nat.le_of_ble_eq_true rfl) (Nat.le_of_ble_eq_true rfl) dX0_copyFrom_27 (fun H locs hP hD hS => ?_)
  obtain ⟨f2, ef2⟩ : ∃ z : Nat → Int32, z = va_cpy p1_facts t_facts (0 : Int32).toNatClampNeg (0 : Int32).toNatClampNeg (36 : Int32).toNatClampNeg := ⟨_, rfl⟩
  have hf := pf_l hf f2 ef2
  have hP : va_P G vwCl [(a_t, .inr (0, [.ref a_t_words, .ref a_t_facts, .int t_size])), (a_t_words, .inl (cI, 72, .inl f1)), (a_t_facts, .inl (cI, 36, .inl f2)), (a_p1, .inr (0, [.ref a_p1_words, .ref a_p1_facts, .int p1_size])), (a_p1_words, .inl (cI, 72, .inl p1_words)), (a_p1_facts, .inl (cI, 36, .inl p1_facts))] H := by rw [ef2]; exact hP
  have hD : va_D A [(a_t, .inr (0, [.ref a_t_words, .ref a_t_facts, .int t_size])), (a_t_words, .inl (cI, 72, .inl f1)), (a_t_facts, .inl (cI, 36, .inl f2)), (a_p1, .inr (0, [.ref a_p1_words, .ref a_p1_facts, .int p1_size])), (a_p1_words, .inl (cI, 72, .inl p1_words)), (a_p1_facts, .inl (cI, 36, .inl p1_facts))] := by rw [ef2]; exact hD
  refine lv_aload_n hx hb dX0_copyFrom_30 rfl (lv_at hl 0 rfl) ?_
  refine lv_aload_n hx hb dX0_copyFrom_31 rfl (lv_at hl 1 rfl) ?_
  refine va_get (D := G) (ci := 0) (v := .int p1_size) (C := RX0) (T := TX0) (N := 3) hx hb hts iwX0_copyFrom_X0 hown hK hP 3 rfl rfl 2 (by decide) k7 (fun _ h9 => h9) rfl dX0_copyFrom_32 ?_
  refine va_put (D := G) (ci := 0) (v := .int p1_size) (ty := .int) (C := RX0) (T := TX0) (N := 3) hx hb hts iwX0_copyFrom_X0 tyX0 tyX0_ok nmX0 hown hK hP hD hS 0 rfl rfl 2 (by decide) k7 (fun _ h9 => h9) rfl (by decide +kernel) rfl rfl (Nat.le_of_ble_eq_true rfl) dX0_copyFrom_35 (fun H locs hP hD hS => ?_)
  have hP : va_P G vwCl [(a_t, .inr (0, [.ref a_t_words, .ref a_t_facts, .int p1_size])), (a_t_words, .inl (cI, 72, .inl f1)), (a_t_facts, .inl (cI, 36, .inl f2)), (a_p1, .inr (0, [.ref a_p1_words, .ref a_p1_facts, .int p1_size])), (a_p1_words, .inl (cI, 72, .inl p1_words)), (a_p1_facts, .inl (cI, 36, .inl p1_facts))] H := hP
  have hD : va_D A [(a_t, .inr (0, [.ref a_t_words, .ref a_t_facts, .int p1_size])), (a_t_words, .inl (cI, 72, .inl f1)), (a_t_facts, .inl (cI, 36, .inl f2)), (a_p1, .inr (0, [.ref a_p1_words, .ref a_p1_facts, .int p1_size])), (a_p1_words, .inl (cI, 72, .inl p1_words)), (a_p1_facts, .inl (cI, 36, .inl p1_facts))] := hD
  obtain rfl := Option.some.inj hf
  exact mEnd_v () hx hb hr hlocks hP hK hD hS rfl (Nat.le_of_ble_eq_true rfl) (Nat.le_of_ble_eq_true rfl) dX0_copyFrom_38
def fX0_copyBack (p1 : Int32) (p2 : Int32) (t_words : Nat → Int32) (t_facts : Nat → Int32) : Option ((Nat → Int32) × (Nat → Int32)) :=
  (if (p1 * (12 : Int32)) < 0 then none else (if (p2 * (12 : Int32)) < 0 then none else (if 72 < (p1 * (12 : Int32)).toNatClampNeg + (12 : Int32).toNatClampNeg then none else (if 72 < (p2 * (12 : Int32)).toNatClampNeg + (12 : Int32).toNatClampNeg then none else (lt (va_cpy t_words t_words (p1 * (12 : Int32)).toNatClampNeg (p2 * (12 : Int32)).toNatClampNeg (12 : Int32).toNatClampNeg) fun (f5 : Nat → Int32) => (if (p1 * (6 : Int32)) < 0 then none else (if (p2 * (6 : Int32)) < 0 then none else (if 36 < (p1 * (6 : Int32)).toNatClampNeg + (6 : Int32).toNatClampNeg then none else (if 36 < (p2 * (6 : Int32)).toNatClampNeg + (6 : Int32).toNatClampNeg then none else (lt (va_cpy t_facts t_facts (p1 * (6 : Int32)).toNatClampNeg (p2 * (6 : Int32)).toNatClampNeg (6 : Int32).toNatClampNeg) fun (f10 : Nat → Int32) => some (f5, f10)))))))))))
theorem iwX0_copyBack_X0 : ∀ w ∈ u_ws RX0 TX0 3, w ∈ wsX0_copyBack := by decide +kernel
set_option maxHeartbeats 4000000 in
set_option maxRecDepth 100000 in
theorem mX0_copyBack (l : Launch) (G : va_G) (cI : ClassId) (a_t a_t_words a_t_facts : Nat) (sz : Nat)  (t_size : Int32) (t_words : Nat → Int32) (t_facts : Nat → Int32) (p1 : Int32) (p2 : Int32) (res : (Nat → Int32) × (Nat → Int32)) (hf : fX0_copyBack p1 p2 t_words t_facts = some res) : Met l yX0_copyBack wsX0_copyBack ({ frames := 1, cells := 0, slots := 0, locals := 48 }) (mPc G [(cI, .int)] [.ref a_t, .int p1, .int p2] sz [(a_t, .inr (0, [.ref a_t_words, .ref a_t_facts, .int t_size])), (a_t_words, .inl (cI, 72, .inl t_words)), (a_t_facts, .inl (cI, 36, .inl t_facts))]) (mQv G [(cI, .int)] (va_A [(a_t, .inr (0, [.ref a_t_words, .ref a_t_facts, .int t_size])), (a_t_words, .inl (cI, 72, .inl t_words)), (a_t_facts, .inl (cI, 36, .inl t_facts))] sz) (fun u9 : Unit => [(a_t, .inr (0, [.ref a_t_words, .ref a_t_facts, .int t_size])), (a_t_words, .inl (cI, 72, .inl res.1)), (a_t_facts, .inl (cI, 36, .inl res.2))])) 0 0 (va_A [(a_t, .inr (0, [.ref a_t_words, .ref a_t_facts, .int t_size])), (a_t_words, .inl (cI, 72, .inl t_words)), (a_t_facts, .inl (cI, 36, .inl t_facts))] sz) := by
  refine mStart (cc := cX0_copyBack) (maxL := 3) (ret := none) (by decide) rfl (Nat.le_of_ble_eq_true rfl) ?_
  intro p e s m below meth c A ls hx hb hml hr hts hown hlocks hnm hA hsz hAe hP hK hD hS hl
  have hl : lv_has ls 3 [(0, .ref a_t), (1, .int p1), (2, .int p2)] := hl
  rw [hAe]
  have k1 := hts (.fieldLink RX0 9 "DeafChain$Arrivals" "words" "[I") (by decide +kernel)
  have k2 := hts (.methodLink RX0 18 arraycopyName) (by decide +kernel)
  have k3 := hts (.native arraycopyName) (by decide +kernel)
  have k4 := hts (.static arraycopyName) (by decide +kernel)
  have k5 := hts (.initialized "java/lang/System") (by decide +kernel)
  have k6 := hts (.fieldLink RX0 15 "DeafChain$Arrivals" "facts" "[I") (by decide +kernel)
  unfold fX0_copyBack at hf
  obtain ⟨H, hH⟩ : ∃ H : Heap, H = s.heap := ⟨_, rfl⟩
  obtain ⟨locs, hlc⟩ : ∃ z : List Loc, z = [] := ⟨_, rfl⟩
  rw [← hlc, ← hH]
  have hP : va_P G vwCl [(a_t, .inr (0, [.ref a_t_words, .ref a_t_facts, .int t_size])), (a_t_words, .inl (cI, 72, .inl t_words)), (a_t_facts, .inl (cI, 36, .inl t_facts))] H := by rw [hH]; exact hP
  have hS : va_S A s.heap H locs := by rw [hlc, hH]; exact hS
  refine lv_aload_n hx hb dX0_copyBack_0 rfl (lv_at hl 0 rfl) ?_
  refine va_get (D := G) (ci := 0) (v := .ref a_t_words) (C := RX0) (T := TX0) (N := 3) hx hb hts iwX0_copyBack_X0 hown hK hP 0 rfl rfl 0 (by decide) k1 (fun _ h9 => h9) rfl dX0_copyBack_1 ?_
  refine lv_iload_n hx hb dX0_copyBack_4 rfl (lv_at hl 1 rfl) ?_
  refine lv_bipush (v := 12) hx hb dX0_copyBack_5 (by decide) ?_
  refine lv_imul hx hb dX0_copyBack_7 ?_
  refine lv_aload_n hx hb dX0_copyBack_8 rfl (lv_at hl 0 rfl) ?_
  refine va_get (D := G) (ci := 0) (v := .ref a_t_words) (C := RX0) (T := TX0) (N := 3) hx hb hts iwX0_copyBack_X0 hown hK hP 0 rfl rfl 0 (by decide) k1 (fun _ h9 => h9) rfl dX0_copyBack_9 ?_
  refine lv_iload_n hx hb dX0_copyBack_12 rfl (lv_at hl 2 rfl) ?_
  refine lv_bipush (v := 12) hx hb dX0_copyBack_13 (by decide) ?_
  refine lv_imul hx hb dX0_copyBack_15 ?_
  refine lv_bipush (v := 12) hx hb dX0_copyBack_16 (by decide) ?_
  obtain ⟨q1, hf⟩ := pf_k hf
  obtain ⟨q2, hf⟩ := pf_k hf
  obtain ⟨q3, hf⟩ := pf_k hf
  obtain ⟨q4, hf⟩ := pf_k hf
  refine va_copyi hx hb (hml.trans hl.1.symm) hown k2 k3 k4 k5 hK hP hD hS 1 1 0 0 rfl rfl rfl rfl rfl q1 q2 (by decide) (Nat.not_lt.mp q3) (Nat.not_lt.mp q4) (fun _ _ => rfl) (Nat.le_of_ble_eq_true rfl) (Nat.le_of_ble_eq_true rfl) dX0_copyBack_18 (fun H locs hP hD hS => ?_)
  obtain ⟨f5, ef5⟩ : ∃ z : Nat → Int32, z = va_cpy t_words t_words (p1 * (12 : Int32)).toNatClampNeg (p2 * (12 : Int32)).toNatClampNeg (12 : Int32).toNatClampNeg := ⟨_, rfl⟩
  have hf := pf_l hf f5 ef5
  have hP : va_P G vwCl [(a_t, .inr (0, [.ref a_t_words, .ref a_t_facts, .int t_size])), (a_t_words, .inl (cI, 72, .inl f5)), (a_t_facts, .inl (cI, 36, .inl t_facts))] H := by rw [ef5]; exact hP
  have hD : va_D A [(a_t, .inr (0, [.ref a_t_words, .ref a_t_facts, .int t_size])), (a_t_words, .inl (cI, 72, .inl f5)), (a_t_facts, .inl (cI, 36, .inl t_facts))] := by rw [ef5]; exact hD
  refine lv_aload_n hx hb dX0_copyBack_21 rfl (lv_at hl 0 rfl) ?_
  refine va_get (D := G) (ci := 0) (v := .ref a_t_facts) (C := RX0) (T := TX0) (N := 3) hx hb hts iwX0_copyBack_X0 hown hK hP 0 rfl rfl 1 (by decide) k6 (fun _ h9 => h9) rfl dX0_copyBack_22 ?_
  refine lv_iload_n hx hb dX0_copyBack_25 rfl (lv_at hl 1 rfl) ?_
  refine lv_bipush (v := 6) hx hb dX0_copyBack_26 (by decide) ?_
  refine lv_imul hx hb dX0_copyBack_28 ?_
  refine lv_aload_n hx hb dX0_copyBack_29 rfl (lv_at hl 0 rfl) ?_
  refine va_get (D := G) (ci := 0) (v := .ref a_t_facts) (C := RX0) (T := TX0) (N := 3) hx hb hts iwX0_copyBack_X0 hown hK hP 0 rfl rfl 1 (by decide) k6 (fun _ h9 => h9) rfl dX0_copyBack_30 ?_
  refine lv_iload_n hx hb dX0_copyBack_33 rfl (lv_at hl 2 rfl) ?_
  refine lv_bipush (v := 6) hx hb dX0_copyBack_34 (by decide) ?_
  refine lv_imul hx hb dX0_copyBack_36 ?_
  refine lv_bipush (v := 6) hx hb dX0_copyBack_37 (by decide) ?_
  obtain ⟨q6, hf⟩ := pf_k hf
  obtain ⟨q7, hf⟩ := pf_k hf
  obtain ⟨q8, hf⟩ := pf_k hf
  obtain ⟨q9, hf⟩ := pf_k hf
  refine va_copyi hx hb (hml.trans hl.1.symm) hown k2 k3 k4 k5 hK hP hD hS 2 2 0 0 rfl rfl rfl rfl rfl q6 q7 (by decide) (Nat.not_lt.mp q8) (Nat.not_lt.mp q9) (fun _ _ => rfl) (Nat.le_of_ble_eq_true rfl) (Nat.le_of_ble_eq_true rfl) dX0_copyBack_39 (fun H locs hP hD hS => ?_)
  obtain ⟨f10, ef10⟩ : ∃ z : Nat → Int32, z = va_cpy t_facts t_facts (p1 * (6 : Int32)).toNatClampNeg (p2 * (6 : Int32)).toNatClampNeg (6 : Int32).toNatClampNeg := ⟨_, rfl⟩
  have hf := pf_l hf f10 ef10
  have hP : va_P G vwCl [(a_t, .inr (0, [.ref a_t_words, .ref a_t_facts, .int t_size])), (a_t_words, .inl (cI, 72, .inl f5)), (a_t_facts, .inl (cI, 36, .inl f10))] H := by rw [ef10]; exact hP
  have hD : va_D A [(a_t, .inr (0, [.ref a_t_words, .ref a_t_facts, .int t_size])), (a_t_words, .inl (cI, 72, .inl f5)), (a_t_facts, .inl (cI, 36, .inl f10))] := by rw [ef10]; exact hD
  obtain rfl := Option.some.inj hf
  exact mEnd_v () hx hb hr hlocks hP hK hD hS rfl (Nat.le_of_ble_eq_true rfl) (Nat.le_of_ble_eq_true rfl) dX0_copyBack_42
def fX0_fact (p1 : Int32) (p2 : Int32) (t_size : Int32) (t_facts : Nat → Int32) : Option (Int32) :=
  (if p1 < 0 then some (((-1) : Int32)) else (if t_size ≤ p1 then some (((-1) : Int32)) else (if p2 < 0 then some (((-1) : Int32)) else (if p2 < (6 : Int32) then (if ((p1 * (6 : Int32)) + p2) < 0 ∨ 36 ≤ ((p1 * (6 : Int32)) + p2).toNatClampNeg then none else some ((t_facts ((p1 * (6 : Int32)) + p2).toNatClampNeg))) else some (((-1) : Int32))))))
theorem iwX0_fact_X0 : ∀ w ∈ u_ws RX0 TX0 3, w ∈ wsX0_fact := by decide +kernel
set_option maxHeartbeats 4000000 in
set_option maxRecDepth 100000 in
theorem mX0_fact (l : Launch) (G : va_G) (cI : ClassId) (a_t a_t_facts : Nat) (sz : Nat) (vt_words : Value) (t_size : Int32) (t_facts : Nat → Int32) (p1 : Int32) (p2 : Int32) (res : Int32) (hf : fX0_fact p1 p2 t_size t_facts = some res) : Met l yX0_fact wsX0_fact ({ frames := 0, cells := 0, slots := 0, locals := 0 }) (mPc G [(cI, .int)] [.ref a_t, .int p1, .int p2] sz [(a_t, .inr (0, [vt_words, .ref a_t_facts, .int t_size])), (a_t_facts, .inl (cI, 36, .inl t_facts))]) (mQi G [(cI, .int)] (va_A [(a_t, .inr (0, [vt_words, .ref a_t_facts, .int t_size])), (a_t_facts, .inl (cI, 36, .inl t_facts))] sz) (fun _ : Unit => res) (fun _ => [(a_t, .inr (0, [vt_words, .ref a_t_facts, .int t_size])), (a_t_facts, .inl (cI, 36, .inl t_facts))])) 0 0 (va_A [(a_t, .inr (0, [vt_words, .ref a_t_facts, .int t_size])), (a_t_facts, .inl (cI, 36, .inl t_facts))] sz) := by
  refine mStart (cc := cX0_fact) (maxL := 3) (ret := (some .int)) (by decide) rfl (Nat.le_of_ble_eq_true rfl) ?_
  intro p e s m below meth c A ls hx hb hml hr hts hown hlocks hnm hA hsz hAe hP hK hD hS hl
  have hl : lv_has ls 3 [(0, .ref a_t), (1, .int p1), (2, .int p2)] := hl
  rw [hAe]
  have k1 := hts (.fieldLink RX0 24 "DeafChain$Arrivals" "size" "I") (by decide +kernel)
  have k2 := hts (.fieldLink RX0 15 "DeafChain$Arrivals" "facts" "[I") (by decide +kernel)
  unfold fX0_fact at hf
  obtain ⟨H, hH⟩ : ∃ H : Heap, H = s.heap := ⟨_, rfl⟩
  obtain ⟨locs, hlc⟩ : ∃ z : List Loc, z = [] := ⟨_, rfl⟩
  rw [← hlc, ← hH]
  have hP : va_P G vwCl [(a_t, .inr (0, [vt_words, .ref a_t_facts, .int t_size])), (a_t_facts, .inl (cI, 36, .inl t_facts))] H := by rw [hH]; exact hP
  have hS : va_S A s.heap H locs := by rw [hlc, hH]; exact hS
  refine lv_iload_n hx hb dX0_fact_0 rfl (lv_at hl 1 rfl) ?_
  refine lv_if_lt (tgt := 22) hx hb dX0_fact_1 (by decide) (fun c1 => ?_) (fun c1 => ?_)
  · have hf := pf_t hf c1
    refine lv_iconst (v := (-1)) hx hb dX0_fact_22 (by decide) ?_
    obtain rfl := Option.some.inj hf
    exact mEnd_i () hx hb hr hlocks hP hK hD hS rfl rfl (Nat.le_refl _) (Nat.le_refl _) dX0_fact_23
  · have hf := pf_f hf c1
    refine lv_iload_n hx hb dX0_fact_4 rfl (lv_at hl 1 rfl) ?_
    refine lv_aload_n hx hb dX0_fact_5 rfl (lv_at hl 0 rfl) ?_
    refine va_get (D := G) (ci := 0) (v := .int t_size) (C := RX0) (T := TX0) (N := 3) hx hb hts iwX0_fact_X0 hown hK hP 0 rfl rfl 2 (by decide) k1 (fun _ h9 => h9) rfl dX0_fact_6 ?_
    refine lv_icmp_ge (tgt := 22) hx hb dX0_fact_9 (by decide) (fun c2 => ?_) (fun c2 => ?_)
    · have hf := pf_t hf c2
      refine lv_iconst (v := (-1)) hx hb dX0_fact_22 (by decide) ?_
      obtain rfl := Option.some.inj hf
      exact mEnd_i () hx hb hr hlocks hP hK hD hS rfl rfl (Nat.le_refl _) (Nat.le_refl _) dX0_fact_23
    · have hf := pf_f hf c2
      refine lv_iload_n hx hb dX0_fact_12 rfl (lv_at hl 2 rfl) ?_
      refine lv_if_lt (tgt := 22) hx hb dX0_fact_13 (by decide) (fun c3 => ?_) (fun c3 => ?_)
      · have hf := pf_t hf c3
        refine lv_iconst (v := (-1)) hx hb dX0_fact_22 (by decide) ?_
        obtain rfl := Option.some.inj hf
        exact mEnd_i () hx hb hr hlocks hP hK hD hS rfl rfl (Nat.le_refl _) (Nat.le_refl _) dX0_fact_23
      · have hf := pf_f hf c3
        refine lv_iload_n hx hb dX0_fact_16 rfl (lv_at hl 2 rfl) ?_
        refine lv_bipush (v := 6) hx hb dX0_fact_17 (by decide) ?_
        refine lv_icmp_lt (tgt := 24) hx hb dX0_fact_19 (by decide) (fun c4 => ?_) (fun c4 => ?_)
        · have hf := pf_t hf c4
          refine lv_aload_n hx hb dX0_fact_24 rfl (lv_at hl 0 rfl) ?_
          refine va_get (D := G) (ci := 0) (v := .ref a_t_facts) (C := RX0) (T := TX0) (N := 3) hx hb hts iwX0_fact_X0 hown hK hP 0 rfl rfl 1 (by decide) k2 (fun _ h9 => h9) rfl dX0_fact_25 ?_
          refine lv_iload_n hx hb dX0_fact_28 rfl (lv_at hl 1 rfl) ?_
          refine lv_bipush (v := 6) hx hb dX0_fact_29 (by decide) ?_
          refine lv_imul hx hb dX0_fact_31 ?_
          refine lv_iload_n hx hb dX0_fact_32 rfl (lv_at hl 2 rfl) ?_
          refine lv_iadd hx hb dX0_fact_33 ?_
          obtain ⟨q5, hf⟩ := pf_k hf
          refine va_iald hx hb hK hP 1 0 rfl rfl q5 dX0_fact_34 ?_
          obtain rfl := Option.some.inj hf
          exact mEnd_i () hx hb hr hlocks hP hK hD hS rfl rfl (Nat.le_refl _) (Nat.le_refl _) dX0_fact_35
        · have hf := pf_f hf c4
          refine lv_iconst (v := (-1)) hx hb dX0_fact_22 (by decide) ?_
          obtain rfl := Option.some.inj hf
          exact mEnd_i () hx hb hr hlocks hP hK hD hS rfl rfl (Nat.le_refl _) (Nat.le_refl _) dX0_fact_23
def fX0_wordAt (p1 : Int32) (p2 : Int32) (t_size : Int32) (t_words : Nat → Int32) : Option (Int32) :=
  (if p1 < 0 then some ((30 : Int32)) else (if t_size ≤ p1 then some ((30 : Int32)) else (if p2 < 0 then some ((30 : Int32)) else (if p2 < (12 : Int32) then (if ((p1 * (12 : Int32)) + p2) < 0 ∨ 72 ≤ ((p1 * (12 : Int32)) + p2).toNatClampNeg then none else some ((t_words ((p1 * (12 : Int32)) + p2).toNatClampNeg))) else some ((30 : Int32))))))
theorem iwX0_wordAt_X0 : ∀ w ∈ u_ws RX0 TX0 3, w ∈ wsX0_wordAt := by decide +kernel
set_option maxHeartbeats 4000000 in
set_option maxRecDepth 100000 in
theorem mX0_wordAt (l : Launch) (G : va_G) (cI : ClassId) (a_t a_t_words : Nat) (sz : Nat) (vt_facts : Value) (t_size : Int32) (t_words : Nat → Int32) (p1 : Int32) (p2 : Int32) (res : Int32) (hf : fX0_wordAt p1 p2 t_size t_words = some res) : Met l yX0_wordAt wsX0_wordAt ({ frames := 0, cells := 0, slots := 0, locals := 0 }) (mPc G [(cI, .int)] [.ref a_t, .int p1, .int p2] sz [(a_t, .inr (0, [.ref a_t_words, vt_facts, .int t_size])), (a_t_words, .inl (cI, 72, .inl t_words))]) (mQi G [(cI, .int)] (va_A [(a_t, .inr (0, [.ref a_t_words, vt_facts, .int t_size])), (a_t_words, .inl (cI, 72, .inl t_words))] sz) (fun _ : Unit => res) (fun _ => [(a_t, .inr (0, [.ref a_t_words, vt_facts, .int t_size])), (a_t_words, .inl (cI, 72, .inl t_words))])) 0 0 (va_A [(a_t, .inr (0, [.ref a_t_words, vt_facts, .int t_size])), (a_t_words, .inl (cI, 72, .inl t_words))] sz) := by
  refine mStart (cc := cX0_wordAt) (maxL := 3) (ret := (some .int)) (by decide) rfl (Nat.le_of_ble_eq_true rfl) ?_
  intro p e s m below meth c A ls hx hb hml hr hts hown hlocks hnm hA hsz hAe hP hK hD hS hl
  have hl : lv_has ls 3 [(0, .ref a_t), (1, .int p1), (2, .int p2)] := hl
  rw [hAe]
  have k1 := hts (.fieldLink RX0 24 "DeafChain$Arrivals" "size" "I") (by decide +kernel)
  have k2 := hts (.fieldLink RX0 9 "DeafChain$Arrivals" "words" "[I") (by decide +kernel)
  unfold fX0_wordAt at hf
  obtain ⟨H, hH⟩ : ∃ H : Heap, H = s.heap := ⟨_, rfl⟩
  obtain ⟨locs, hlc⟩ : ∃ z : List Loc, z = [] := ⟨_, rfl⟩
  rw [← hlc, ← hH]
  have hP : va_P G vwCl [(a_t, .inr (0, [.ref a_t_words, vt_facts, .int t_size])), (a_t_words, .inl (cI, 72, .inl t_words))] H := by rw [hH]; exact hP
  have hS : va_S A s.heap H locs := by rw [hlc, hH]; exact hS
  refine lv_iload_n hx hb dX0_wordAt_0 rfl (lv_at hl 1 rfl) ?_
  refine lv_if_lt (tgt := 22) hx hb dX0_wordAt_1 (by decide) (fun c1 => ?_) (fun c1 => ?_)
  · have hf := pf_t hf c1
    refine lv_bipush (v := 30) hx hb dX0_wordAt_22 (by decide) ?_
    obtain rfl := Option.some.inj hf
    exact mEnd_i () hx hb hr hlocks hP hK hD hS rfl rfl (Nat.le_refl _) (Nat.le_refl _) dX0_wordAt_24
  · have hf := pf_f hf c1
    refine lv_iload_n hx hb dX0_wordAt_4 rfl (lv_at hl 1 rfl) ?_
    refine lv_aload_n hx hb dX0_wordAt_5 rfl (lv_at hl 0 rfl) ?_
    refine va_get (D := G) (ci := 0) (v := .int t_size) (C := RX0) (T := TX0) (N := 3) hx hb hts iwX0_wordAt_X0 hown hK hP 0 rfl rfl 2 (by decide) k1 (fun _ h9 => h9) rfl dX0_wordAt_6 ?_
    refine lv_icmp_ge (tgt := 22) hx hb dX0_wordAt_9 (by decide) (fun c2 => ?_) (fun c2 => ?_)
    · have hf := pf_t hf c2
      refine lv_bipush (v := 30) hx hb dX0_wordAt_22 (by decide) ?_
      obtain rfl := Option.some.inj hf
      exact mEnd_i () hx hb hr hlocks hP hK hD hS rfl rfl (Nat.le_refl _) (Nat.le_refl _) dX0_wordAt_24
    · have hf := pf_f hf c2
      refine lv_iload_n hx hb dX0_wordAt_12 rfl (lv_at hl 2 rfl) ?_
      refine lv_if_lt (tgt := 22) hx hb dX0_wordAt_13 (by decide) (fun c3 => ?_) (fun c3 => ?_)
      · have hf := pf_t hf c3
        refine lv_bipush (v := 30) hx hb dX0_wordAt_22 (by decide) ?_
        obtain rfl := Option.some.inj hf
        exact mEnd_i () hx hb hr hlocks hP hK hD hS rfl rfl (Nat.le_refl _) (Nat.le_refl _) dX0_wordAt_24
      · have hf := pf_f hf c3
        refine lv_iload_n hx hb dX0_wordAt_16 rfl (lv_at hl 2 rfl) ?_
        refine lv_bipush (v := 12) hx hb dX0_wordAt_17 (by decide) ?_
        refine lv_icmp_lt (tgt := 25) hx hb dX0_wordAt_19 (by decide) (fun c4 => ?_) (fun c4 => ?_)
        · have hf := pf_t hf c4
          refine lv_aload_n hx hb dX0_wordAt_25 rfl (lv_at hl 0 rfl) ?_
          refine va_get (D := G) (ci := 0) (v := .ref a_t_words) (C := RX0) (T := TX0) (N := 3) hx hb hts iwX0_wordAt_X0 hown hK hP 0 rfl rfl 0 (by decide) k2 (fun _ h9 => h9) rfl dX0_wordAt_26 ?_
          refine lv_iload_n hx hb dX0_wordAt_29 rfl (lv_at hl 1 rfl) ?_
          refine lv_bipush (v := 12) hx hb dX0_wordAt_30 (by decide) ?_
          refine lv_imul hx hb dX0_wordAt_32 ?_
          refine lv_iload_n hx hb dX0_wordAt_33 rfl (lv_at hl 2 rfl) ?_
          refine lv_iadd hx hb dX0_wordAt_34 ?_
          obtain ⟨q5, hf⟩ := pf_k hf
          refine va_iald hx hb hK hP 1 0 rfl rfl q5 dX0_wordAt_35 ?_
          obtain rfl := Option.some.inj hf
          exact mEnd_i () hx hb hr hlocks hP hK hD hS rfl rfl (Nat.le_refl _) (Nat.le_refl _) dX0_wordAt_36
        · have hf := pf_f hf c4
          refine lv_bipush (v := 30) hx hb dX0_wordAt_22 (by decide) ?_
          obtain rfl := Option.some.inj hf
          exact mEnd_i () hx hb hr hlocks hP hK hD hS rfl rfl (Nat.le_refl _) (Nat.le_refl _) dX0_wordAt_24
def fX0_widthOf (p1 : Int32) : Option (Int32) :=
  (if p1 = (30 : Int32) then some ((1 : Int32)) else (if (10 : Int32) ≤ p1 then some ((2 : Int32)) else some ((1 : Int32))))
set_option maxHeartbeats 4000000 in
set_option maxRecDepth 100000 in
theorem mX0_widthOf (l : Launch) (G : va_G) (cI : ClassId)  (sz : Nat)   (p1 : Int32) (res : Int32) (hf : fX0_widthOf p1 = some res) : Met l yX0_widthOf wsX0_widthOf ({ frames := 0, cells := 0, slots := 0, locals := 0 }) (mPc G [(cI, .int)] [.int p1] sz []) (mQi G [(cI, .int)] (va_A [] sz) (fun _ : Unit => res) (fun _ => [])) 0 0 (va_A [] sz) := by
  refine mStart (cc := cX0_widthOf) (maxL := 1) (ret := (some .int)) (by decide) rfl (Nat.le_of_ble_eq_true rfl) ?_
  intro p e s m below meth c A ls hx hb hml hr hts hown hlocks hnm hA hsz hAe hP hK hD hS hl
  have hl : lv_has ls 1 [(0, .int p1)] := hl
  rw [hAe]
  unfold fX0_widthOf at hf
  obtain ⟨H, hH⟩ : ∃ H : Heap, H = s.heap := ⟨_, rfl⟩
  obtain ⟨locs, hlc⟩ : ∃ z : List Loc, z = [] := ⟨_, rfl⟩
  rw [← hlc, ← hH]
  have hP : va_P G vwCl [] H := by rw [hH]; exact hP
  have hS : va_S A s.heap H locs := by rw [hlc, hH]; exact hS
  refine lv_iload_n hx hb dX0_widthOf_0 rfl (lv_at hl 0 rfl) ?_
  refine lv_bipush (v := 30) hx hb dX0_widthOf_1 (by decide) ?_
  refine lv_icmp_eq (tgt := 12) hx hb dX0_widthOf_3 (by decide) (fun c1 => ?_) (fun c1 => ?_)
  · have hf := pf_t hf c1
    refine lv_iconst (v := 1) hx hb dX0_widthOf_12 (by decide) ?_
    refine lv_goto (tgt := 17) hx hb dX0_widthOf_13 (by decide) ?_
    obtain rfl := Option.some.inj hf
    exact mEnd_i () hx hb hr hlocks hP hK hD hS rfl rfl (Nat.le_refl _) (Nat.le_refl _) dX0_widthOf_17
  · have hf := pf_f hf c1
    refine lv_iload_n hx hb dX0_widthOf_6 rfl (lv_at hl 0 rfl) ?_
    refine lv_bipush (v := 10) hx hb dX0_widthOf_7 (by decide) ?_
    refine lv_icmp_ge (tgt := 16) hx hb dX0_widthOf_9 (by decide) (fun c2 => ?_) (fun c2 => ?_)
    · have hf := pf_t hf c2
      refine lv_iconst (v := 2) hx hb dX0_widthOf_16 (by decide) ?_
      obtain rfl := Option.some.inj hf
      exact mEnd_i () hx hb hr hlocks hP hK hD hS rfl rfl (Nat.le_refl _) (Nat.le_refl _) dX0_widthOf_17
    · have hf := pf_f hf c2
      refine lv_iconst (v := 1) hx hb dX0_widthOf_12 (by decide) ?_
      refine lv_goto (tgt := 17) hx hb dX0_widthOf_13 (by decide) ?_
      obtain rfl := Option.some.inj hf
      exact mEnd_i () hx hb hr hlocks hP hK hD hS rfl rfl (Nat.le_refl _) (Nat.le_refl _) dX0_widthOf_17
def bX0_textLength_1 (p1 : Int32) (t_size : Int32) (t_words : Nat → Int32) (t_facts : Nat → Int32) (k : Nat → Int32 → Int32 → Option (Int32)) (x2 : Int32) (x3 : Int32) : Option (Int32) :=
  ((fX0_fact p1 (0 : Int32) t_size t_facts).bind fun (u1 : Int32) => (if u1 ≤ x3 then (lt (if x2 < (0 : Int32) then (0 : Int32) else x2) fun (y3 : Int32) => some (y3)) else ((fX0_wordAt p1 x3 t_size t_words).bind fun (u4 : Int32) => ((fX0_widthOf u4).bind fun (u5 : Int32) => k 1 (x2 + ((1 : Int32) + u5)) (x3 + 1)))))
def sX0_textLength (p1 : Int32) (t_size : Int32) (t_words : Nat → Int32) (t_facts : Nat → Int32) (k : Nat → Int32 → Int32 → Option (Int32)) (b : Nat) (x2 : Int32) (x3 : Int32) : Option (Int32) := match b with
  | 1 => bX0_textLength_1 p1 t_size t_words t_facts k x2 x3
  | _ => none
def rX0_textLength (p1 : Int32) (t_size : Int32) (t_words : Nat → Int32) (t_facts : Nat → Int32) : Nat → Nat → Int32 → Int32 → Option (Int32)
  | 0 => fun _ _ _ => none
  | n + 1 => sX0_textLength p1 t_size t_words t_facts (rX0_textLength p1 t_size t_words t_facts n)
def eX0_textLength (p1 : Int32) (t_size : Int32) (t_words : Nat → Int32) (t_facts : Nat → Int32) (k : Nat → Int32 → Int32 → Option (Int32)) : Option (Int32) :=
  k 1 ((-1) : Int32) (0 : Int32)
def fX0_textLength (p1 : Int32) (t_size : Int32) (t_words : Nat → Int32) (t_facts : Nat → Int32) : Option (Int32) := eX0_textLength p1 t_size t_words t_facts (rX0_textLength p1 t_size t_words t_facts fuelN)
set_option maxHeartbeats 4000000 in
set_option maxRecDepth 100000 in
theorem mX0_textLength (l : Launch) (G : va_G) (cI : ClassId) (a_t a_t_words a_t_facts : Nat) (sz : Nat)  (t_size : Int32) (t_words : Nat → Int32) (t_facts : Nat → Int32) (p1 : Int32) (res : Int32) (hf : fX0_textLength p1 t_size t_words t_facts = some res) : Met l yX0_textLength wsX0_textLength ({ frames := 1, cells := 0, slots := 0, locals := 22 }) (mPc G [(cI, .int)] [.ref a_t, .int p1] sz [(a_t, .inr (0, [.ref a_t_words, .ref a_t_facts, .int t_size])), (a_t_words, .inl (cI, 72, .inl t_words)), (a_t_facts, .inl (cI, 36, .inl t_facts))]) (mQi G [(cI, .int)] (va_A [(a_t, .inr (0, [.ref a_t_words, .ref a_t_facts, .int t_size])), (a_t_words, .inl (cI, 72, .inl t_words)), (a_t_facts, .inl (cI, 36, .inl t_facts))] sz) (fun _ : Unit => res) (fun _ => [(a_t, .inr (0, [.ref a_t_words, .ref a_t_facts, .int t_size])), (a_t_words, .inl (cI, 72, .inl t_words)), (a_t_facts, .inl (cI, 36, .inl t_facts))])) 0 0 (va_A [(a_t, .inr (0, [.ref a_t_words, .ref a_t_facts, .int t_size])), (a_t_words, .inl (cI, 72, .inl t_words)), (a_t_facts, .inl (cI, 36, .inl t_facts))] sz) := by
  refine mStart (cc := cX0_textLength) (maxL := 4) (ret := (some .int)) (by decide) rfl (Nat.le_of_ble_eq_true rfl) ?_
  intro p e s m below meth c A ls hx hb hml hr hts hown hlocks hnm hA hsz hAe hP hK hD hS hl
  have hl : lv_has ls 4 [(0, .ref a_t), (1, .int p1)] := hl
  rw [hAe]
  have k1 := hts (.methodLink RX0 71 Lib.Math.max.name) (by decide +kernel)
  have k2 := hts (.static Lib.Math.max.name) (by decide +kernel)
  have k3 := hts (.initialized "java/lang/Math") (by decide +kernel)
  have k4 := hts (.code Lib.Math.max.name Lib.Math.max.code 2 (some .int)) (by decide +kernel)
  have key : ∀ n : Nat, (∀ (x2 : Int32) (x3 : Int32) (H : Heap) (locs : List Loc) (hf : rX0_textLength p1 t_size t_words t_facts n 1 x2 x3 = some res) (hP : va_P G vwCl [(a_t, .inr (0, [.ref a_t_words, .ref a_t_facts, .int t_size])), (a_t_words, .inl (cI, 72, .inl t_words)), (a_t_facts, .inl (cI, 36, .inl t_facts))] H) (hD : va_D A [(a_t, .inr (0, [.ref a_t_words, .ref a_t_facts, .int t_size])), (a_t_words, .inl (cI, 72, .inl t_words)), (a_t_facts, .inl (cI, 36, .inl t_facts))]) (hS : va_S A s.heap H locs) (ls : Array Slot) (hl : lv_has ls 4 [(0, .ref a_t), (1, .int p1), (2, .int x2), (3, .int x3)]), W p l e ({ frames := 1, cells := 0, slots := 0, locals := 22 } : Room) s m ([.ref a_t, .int p1] : List Value).toArray below meth c H locs 0 0 (MQ below (mQi G [(cI, .int)] A (fun _ : Unit => res) (fun _ => [(a_t, .inr (0, [.ref a_t_words, .ref a_t_facts, .int t_size])), (a_t_words, .inl (cI, 72, .inl t_words)), (a_t_facts, .inl (cI, 36, .inl t_facts))])) ([.ref a_t, .int p1] : List Value).toArray s 0 0 A) (F0 m 4 ls [])) := by
    intro n
    induction n with
    | zero => exact (fun _ _ H locs hf => (by cases hf))
    | succ n ih =>
      · intro  x2 x3 H locs hf hP hD hS ls hl
        replace hf : bX0_textLength_1 p1 t_size t_words t_facts (rX0_textLength p1 t_size t_words t_facts n) x2 x3 = some res := hf
        unfold bX0_textLength_1 at hf
        refine lv_iload_n hx hb dX0_textLength_4 rfl (lv_at hl 3 rfl) ?_
        refine lv_aload_n hx hb dX0_textLength_5 rfl (lv_at hl 0 rfl) ?_
        refine lv_iload_n hx hb dX0_textLength_6 rfl (lv_at hl 1 rfl) ?_
        refine lv_iconst (v := 0) hx hb dX0_textLength_7 (by decide) ?_
        obtain ⟨u1, hu1, hf⟩ := pf_b hf
        refine mCallV_i (As := [.int p1, .int 0]) ⟨hx, hb, hml, hown, hts⟩ (mX0_fact l G cI a_t a_t_facts H.size (.ref a_t_words) t_size t_facts p1 (0 : Int32) _ hu1) (cwV 2 hts gX0_textLength_X0_fact rfl rfl rfl (by decide +kernel) ⟨Nat.le_of_ble_eq_true rfl, Nat.le_of_ble_eq_true rfl⟩) hP hD hS hA hK [0, 2] rfl (by decide) 0 0 rfl rfl rfl hK [a_t, a_t_facts] (fun _ => rfl) rfl (fun _ => [(a_t, .inr (0, [.ref a_t_words, .ref a_t_facts, .int t_size])), (a_t_words, .inl (cI, 72, .inl t_words)), (a_t_facts, .inl (cI, 36, .inl t_facts))]) [a_t, a_t_words, a_t_facts] (fun _ => rfl) rfl (fun _ => rfl) [1] [(a_t_words, .inl (cI, 72, .inl t_words))] (fun _ => rfl) rfl 3 rfl rfl rfl hl.1 rfl (lv_room (Nat.le_of_ble_eq_true rfl)) dX0_textLength_8 ⟨Nat.zero_le _, Nat.zero_le _⟩ (fun _ H locs hP hD hS => ?_)
        have hP : va_P G vwCl [(a_t, .inr (0, [.ref a_t_words, .ref a_t_facts, .int t_size])), (a_t_words, .inl (cI, 72, .inl t_words)), (a_t_facts, .inl (cI, 36, .inl t_facts))] H := hP
        have hD : va_D A [(a_t, .inr (0, [.ref a_t_words, .ref a_t_facts, .int t_size])), (a_t_words, .inl (cI, 72, .inl t_words)), (a_t_facts, .inl (cI, 36, .inl t_facts))] := hD
        refine lv_icmp_ge (tgt := 34) hx hb dX0_textLength_11 (by decide) (fun c2 => ?_) (fun c2 => ?_)
        · have hf := pf_t hf c2
          refine lv_iload_n hx hb dX0_textLength_34 rfl (lv_at hl 2 rfl) ?_
          refine lv_iconst (v := 0) hx hb dX0_textLength_35 (by decide) ?_
          refine va_mmax hx hb (hml.trans hl.1.symm) hown k1 k2 k3 k4 (Nat.le_of_ble_eq_true rfl) (Nat.le_of_ble_eq_true rfl) (Nat.zero_le _) (Nat.zero_le _) dX0_textLength_36 ?_
          refine lv_topi (fun y3 ey3 => ?_)
          have hf := pf_l hf y3 ey3
          obtain rfl := Option.some.inj hf
          exact mEnd_i () hx hb hr hlocks hP hK hD hS rfl rfl (Nat.le_refl _) (Nat.le_refl _) dX0_textLength_39
        · have hf := pf_f hf c2
          refine lv_iload_n hx hb dX0_textLength_14 rfl (lv_at hl 2 rfl) ?_
          refine lv_iconst (v := 1) hx hb dX0_textLength_15 (by decide) ?_
          refine lv_aload_n hx hb dX0_textLength_16 rfl (lv_at hl 0 rfl) ?_
          refine lv_iload_n hx hb dX0_textLength_17 rfl (lv_at hl 1 rfl) ?_
          refine lv_iload_n hx hb dX0_textLength_18 rfl (lv_at hl 3 rfl) ?_
          obtain ⟨u4, hu4, hf⟩ := pf_b hf
          refine mCallV_i (As := [.int p1, .int x3]) ⟨hx, hb, hml, hown, hts⟩ (mX0_wordAt l G cI a_t a_t_words H.size (.ref a_t_facts) t_size t_words p1 x3 _ hu4) (cwV 2 hts gX0_textLength_X0_wordAt rfl rfl rfl (by decide +kernel) ⟨Nat.le_of_ble_eq_true rfl, Nat.le_of_ble_eq_true rfl⟩) hP hD hS hA hK [0, 1] rfl (by decide) 0 0 rfl rfl rfl hK [a_t, a_t_words] (fun _ => rfl) rfl (fun _ => [(a_t, .inr (0, [.ref a_t_words, .ref a_t_facts, .int t_size])), (a_t_words, .inl (cI, 72, .inl t_words)), (a_t_facts, .inl (cI, 36, .inl t_facts))]) [a_t, a_t_words, a_t_facts] (fun _ => rfl) rfl (fun _ => rfl) [2] [(a_t_facts, .inl (cI, 36, .inl t_facts))] (fun _ => rfl) rfl 3 rfl rfl rfl hl.1 rfl (lv_room (Nat.le_of_ble_eq_true rfl)) dX0_textLength_19 ⟨Nat.zero_le _, Nat.zero_le _⟩ (fun _ H locs hP hD hS => ?_)
          have hP : va_P G vwCl [(a_t, .inr (0, [.ref a_t_words, .ref a_t_facts, .int t_size])), (a_t_words, .inl (cI, 72, .inl t_words)), (a_t_facts, .inl (cI, 36, .inl t_facts))] H := hP
          have hD : va_D A [(a_t, .inr (0, [.ref a_t_words, .ref a_t_facts, .int t_size])), (a_t_words, .inl (cI, 72, .inl t_words)), (a_t_facts, .inl (cI, 36, .inl t_facts))] := hD
          obtain ⟨u5, hu5, hf⟩ := pf_b hf
          refine mCallS_i (As := [.int u4]) ⟨hx, hb, hml, hown, hts⟩ (mX0_widthOf l G cI H.size u4 _ hu5) (va_cwS 1 hts gX0_textLength_X0_widthOf rfl rfl rfl (by decide +kernel) ⟨Nat.le_of_ble_eq_true rfl, Nat.le_of_ble_eq_true rfl⟩) hP hD hS hA hK [] rfl (by decide) [] (fun _ => rfl) rfl (fun _ => [(a_t, .inr (0, [.ref a_t_words, .ref a_t_facts, .int t_size])), (a_t_words, .inl (cI, 72, .inl t_words)), (a_t_facts, .inl (cI, 36, .inl t_facts))]) [a_t, a_t_words, a_t_facts] (fun _ => rfl) rfl (fun _ => rfl) [0, 1, 2] [(a_t, .inr (0, [.ref a_t_words, .ref a_t_facts, .int t_size])), (a_t_words, .inl (cI, 72, .inl t_words)), (a_t_facts, .inl (cI, 36, .inl t_facts))] (fun _ => rfl) rfl 3 rfl rfl rfl hl.1 rfl (lv_room (Nat.le_of_ble_eq_true rfl)) dX0_textLength_22 ⟨Nat.zero_le _, Nat.zero_le _⟩ (fun _ H locs hP hD hS => ?_)
          have hP : va_P G vwCl [(a_t, .inr (0, [.ref a_t_words, .ref a_t_facts, .int t_size])), (a_t_words, .inl (cI, 72, .inl t_words)), (a_t_facts, .inl (cI, 36, .inl t_facts))] H := hP
          have hD : va_D A [(a_t, .inr (0, [.ref a_t_words, .ref a_t_facts, .int t_size])), (a_t_words, .inl (cI, 72, .inl t_words)), (a_t_facts, .inl (cI, 36, .inl t_facts))] := hD
          refine lv_iadd hx hb dX0_textLength_25 ?_
          refine lv_iadd hx hb dX0_textLength_26 ?_
          refine lv_istore_n (lv' := [(2, .int (x2 + ((1 : Int32) + u5))), (0, .ref a_t), (1, .int p1), (3, .int x3)]) hx hb dX0_textLength_27 rfl hl (by decide) rfl (fun ls hl => ?_)
          refine lv_iinc (v := x3 + 1) (lv' := [(3, .int (x3 + 1)), (2, .int (x2 + ((1 : Int32) + u5))), (0, .ref a_t), (1, .int p1)]) hx hb dX0_textLength_28 hl (k := 3) rfl rfl (by decide) rfl (fun ls hl => ?_)
          refine lv_goto (tgt := 4) hx hb dX0_textLength_31 (by decide) ?_
          exact ih (x2 + ((1 : Int32) + u5)) (x3 + 1) H locs hf hP hD hS ls (lv_sub hl [2, 3, 1, 0] rfl)
  unfold fX0_textLength eX0_textLength at hf
  obtain ⟨H, hH⟩ : ∃ H : Heap, H = s.heap := ⟨_, rfl⟩
  obtain ⟨locs, hlc⟩ : ∃ z : List Loc, z = [] := ⟨_, rfl⟩
  rw [← hlc, ← hH]
  have hP : va_P G vwCl [(a_t, .inr (0, [.ref a_t_words, .ref a_t_facts, .int t_size])), (a_t_words, .inl (cI, 72, .inl t_words)), (a_t_facts, .inl (cI, 36, .inl t_facts))] H := by rw [hH]; exact hP
  have hS : va_S A s.heap H locs := by rw [hlc, hH]; exact hS
  refine lv_iconst (v := (-1)) hx hb dX0_textLength_0 (by decide) ?_
  refine lv_istore_n (lv' := [(2, .int (-1)), (0, .ref a_t), (1, .int p1)]) hx hb dX0_textLength_1 rfl hl (by decide) rfl (fun ls hl => ?_)
  refine lv_iconst (v := 0) hx hb dX0_textLength_2 (by decide) ?_
  refine lv_istore_n (lv' := [(3, .int 0), (2, .int (-1)), (0, .ref a_t), (1, .int p1)]) hx hb dX0_textLength_3 rfl hl (by decide) rfl (fun ls hl => ?_)
  exact (key fuelN) ((-1) : Int32) (0 : Int32) H locs hf hP hD hS ls (lv_sub hl [2, 3, 1, 0] rfl)
def fX0_codeOf (p1 : Int32) (p2 : Int32) : Option (Int32) :=
  (if p1 = (30 : Int32) then some ((63 : Int32)) else (if p2 = 0 then some (((48 : Int32) + (p1 / (10 : Int32)))) else some (((48 : Int32) + (p1 - p1 / (10 : Int32) * (10 : Int32))))))
set_option maxHeartbeats 4000000 in
set_option maxRecDepth 100000 in
theorem mX0_codeOf (l : Launch) (G : va_G) (cI : ClassId)  (sz : Nat)   (p1 : Int32) (p2 : Int32) (res : Int32) (hf : fX0_codeOf p1 p2 = some res) : Met l yX0_codeOf wsX0_codeOf ({ frames := 0, cells := 0, slots := 0, locals := 0 }) (mPc G [(cI, .int)] [.int p1, .int p2] sz []) (mQi G [(cI, .int)] (va_A [] sz) (fun _ : Unit => res) (fun _ => [])) 0 0 (va_A [] sz) := by
  refine mStart (cc := cX0_codeOf) (maxL := 2) (ret := (some .int)) (by decide) rfl (Nat.le_of_ble_eq_true rfl) ?_
  intro p e s m below meth c A ls hx hb hml hr hts hown hlocks hnm hA hsz hAe hP hK hD hS hl
  have hl : lv_has ls 2 [(0, .int p1), (1, .int p2)] := hl
  rw [hAe]
  unfold fX0_codeOf at hf
  obtain ⟨H, hH⟩ : ∃ H : Heap, H = s.heap := ⟨_, rfl⟩
  obtain ⟨locs, hlc⟩ : ∃ z : List Loc, z = [] := ⟨_, rfl⟩
  rw [← hlc, ← hH]
  have hP : va_P G vwCl [] H := by rw [hH]; exact hP
  have hS : va_S A s.heap H locs := by rw [hlc, hH]; exact hS
  refine lv_iload_n hx hb dX0_codeOf_0 rfl (lv_at hl 0 rfl) ?_
  refine lv_bipush (v := 30) hx hb dX0_codeOf_1 (by decide) ?_
  refine lv_icmp_ne (tgt := 9) hx hb dX0_codeOf_3 (by decide) (fun c1 => ?_) (fun c1 => ?_)
  · have hf := pf_f hf c1
    refine lv_bipush (v := 48) hx hb dX0_codeOf_9 (by decide) ?_
    refine lv_iload_n hx hb dX0_codeOf_11 rfl (lv_at hl 1 rfl) ?_
    refine lv_if_eq (tgt := 22) hx hb dX0_codeOf_12 (by decide) (fun c2 => ?_) (fun c2 => ?_)
    · have hf := pf_t hf c2
      refine lv_iload_n hx hb dX0_codeOf_22 rfl (lv_at hl 0 rfl) ?_
      refine lv_bipush (v := 10) hx hb dX0_codeOf_23 (by decide) ?_
      refine lv_idiv hx hb dX0_codeOf_25 (by decide) ?_
      refine lv_iadd hx hb dX0_codeOf_26 ?_
      obtain rfl := Option.some.inj hf
      exact mEnd_i () hx hb hr hlocks hP hK hD hS rfl rfl (Nat.le_refl _) (Nat.le_refl _) dX0_codeOf_27
    · have hf := pf_f hf c2
      refine lv_iload_n hx hb dX0_codeOf_15 rfl (lv_at hl 0 rfl) ?_
      refine lv_bipush (v := 10) hx hb dX0_codeOf_16 (by decide) ?_
      refine lv_irem hx hb dX0_codeOf_18 (by decide) ?_
      refine lv_goto (tgt := 26) hx hb dX0_codeOf_19 (by decide) ?_
      refine lv_iadd hx hb dX0_codeOf_26 ?_
      obtain rfl := Option.some.inj hf
      exact mEnd_i () hx hb hr hlocks hP hK hD hS rfl rfl (Nat.le_refl _) (Nat.le_refl _) dX0_codeOf_27
  · have hf := pf_t hf c1
    refine lv_bipush (v := 63) hx hb dX0_codeOf_6 (by decide) ?_
    obtain rfl := Option.some.inj hf
    exact mEnd_i () hx hb hr hlocks hP hK hD hS rfl rfl (Nat.le_refl _) (Nat.le_refl _) dX0_codeOf_8
def bX0_codeAt_1 (p1 : Int32) (p2 : Int32) (t_size : Int32) (t_words : Nat → Int32) (t_facts : Nat → Int32) (k : Nat → Int32 → Int32 → Int32 → Int32 → Option (Int32)) (x3 : Int32) (x4 : Int32) (s0 : Int32) (s1 : Int32) : Option (Int32) :=
  ((fX0_fact p1 (0 : Int32) t_size t_facts).bind fun (u1 : Int32) => (if u1 ≤ x4 then some (((-1) : Int32)) else (if x4 ≤ 0 then k 2 x3 x4 0 0 else (if p2 = (x3 - (1 : Int32)) then some ((44 : Int32)) else k 2 x3 x4 0 0))))
def bX0_codeAt_2 (p1 : Int32) (p2 : Int32) (t_size : Int32) (t_words : Nat → Int32) (t_facts : Nat → Int32) (k : Nat → Int32 → Int32 → Int32 → Int32 → Option (Int32)) (x3 : Int32) (x4 : Int32) (s0 : Int32) (s1 : Int32) : Option (Int32) :=
  ((fX0_wordAt p1 x4 t_size t_words).bind fun (u5 : Int32) => ((fX0_widthOf u5).bind fun (u6 : Int32) => (if (x3 + u6) ≤ p2 then k 1 ((x3 + u6) + (1 : Int32)) (x4 + 1) 0 0 else (if p2 = ((x3 + u6) - (1 : Int32)) then k 3 0 0 (1 : Int32) u5 else k 3 0 0 (0 : Int32) u5))))
def bX0_codeAt_3 (p1 : Int32) (p2 : Int32) (t_size : Int32) (t_words : Nat → Int32) (t_facts : Nat → Int32) (k : Nat → Int32 → Int32 → Int32 → Int32 → Option (Int32)) (x3 : Int32) (x4 : Int32) (s0 : Int32) (s1 : Int32) : Option (Int32) :=
  ((fX0_codeOf s1 s0).bind fun (u9 : Int32) => some (u9))
def sX0_codeAt (p1 : Int32) (p2 : Int32) (t_size : Int32) (t_words : Nat → Int32) (t_facts : Nat → Int32) (k : Nat → Int32 → Int32 → Int32 → Int32 → Option (Int32)) (b : Nat) (x3 : Int32) (x4 : Int32) (s0 : Int32) (s1 : Int32) : Option (Int32) := match b with
  | 1 => bX0_codeAt_1 p1 p2 t_size t_words t_facts k x3 x4 s0 s1
  | 2 => bX0_codeAt_2 p1 p2 t_size t_words t_facts k x3 x4 s0 s1
  | 3 => bX0_codeAt_3 p1 p2 t_size t_words t_facts k x3 x4 s0 s1
  | _ => none
def rX0_codeAt (p1 : Int32) (p2 : Int32) (t_size : Int32) (t_words : Nat → Int32) (t_facts : Nat → Int32) : Nat → Nat → Int32 → Int32 → Int32 → Int32 → Option (Int32)
  | 0 => fun _ _ _ _ _ => none
  | n + 1 => sX0_codeAt p1 p2 t_size t_words t_facts (rX0_codeAt p1 p2 t_size t_words t_facts n)
def eX0_codeAt (p1 : Int32) (p2 : Int32) (t_size : Int32) (t_words : Nat → Int32) (t_facts : Nat → Int32) (k : Nat → Int32 → Int32 → Int32 → Int32 → Option (Int32)) : Option (Int32) :=
  k 1 (0 : Int32) (0 : Int32) 0 0
def fX0_codeAt (p1 : Int32) (p2 : Int32) (t_size : Int32) (t_words : Nat → Int32) (t_facts : Nat → Int32) : Option (Int32) := eX0_codeAt p1 p2 t_size t_words t_facts (rX0_codeAt p1 p2 t_size t_words t_facts fuelN)
set_option maxHeartbeats 4000000 in
set_option maxRecDepth 100000 in
theorem mX0_codeAt (l : Launch) (G : va_G) (cI : ClassId) (a_t a_t_words a_t_facts : Nat) (sz : Nat)  (t_size : Int32) (t_words : Nat → Int32) (t_facts : Nat → Int32) (p1 : Int32) (p2 : Int32) (res : Int32) (hf : fX0_codeAt p1 p2 t_size t_words t_facts = some res) : Met l yX0_codeAt wsX0_codeAt ({ frames := 1, cells := 0, slots := 0, locals := 22 }) (mPc G [(cI, .int)] [.ref a_t, .int p1, .int p2] sz [(a_t, .inr (0, [.ref a_t_words, .ref a_t_facts, .int t_size])), (a_t_words, .inl (cI, 72, .inl t_words)), (a_t_facts, .inl (cI, 36, .inl t_facts))]) (mQi G [(cI, .int)] (va_A [(a_t, .inr (0, [.ref a_t_words, .ref a_t_facts, .int t_size])), (a_t_words, .inl (cI, 72, .inl t_words)), (a_t_facts, .inl (cI, 36, .inl t_facts))] sz) (fun _ : Unit => res) (fun _ => [(a_t, .inr (0, [.ref a_t_words, .ref a_t_facts, .int t_size])), (a_t_words, .inl (cI, 72, .inl t_words)), (a_t_facts, .inl (cI, 36, .inl t_facts))])) 0 0 (va_A [(a_t, .inr (0, [.ref a_t_words, .ref a_t_facts, .int t_size])), (a_t_words, .inl (cI, 72, .inl t_words)), (a_t_facts, .inl (cI, 36, .inl t_facts))] sz) := by
  refine mStart (cc := cX0_codeAt) (maxL := 7) (ret := (some .int)) (by decide) rfl (Nat.le_of_ble_eq_true rfl) ?_
  intro p e s m below meth c A ls hx hb hml hr hts hown hlocks hnm hA hsz hAe hP hK hD hS hl
  have hl : lv_has ls 7 [(0, .ref a_t), (1, .int p1), (2, .int p2)] := hl
  rw [hAe]
  have key : ∀ n : Nat, (∀ (x3 : Int32) (x4 : Int32) (H : Heap) (locs : List Loc) (hf : rX0_codeAt p1 p2 t_size t_words t_facts n 1 x3 x4 0 0 = some res) (hP : va_P G vwCl [(a_t, .inr (0, [.ref a_t_words, .ref a_t_facts, .int t_size])), (a_t_words, .inl (cI, 72, .inl t_words)), (a_t_facts, .inl (cI, 36, .inl t_facts))] H) (hD : va_D A [(a_t, .inr (0, [.ref a_t_words, .ref a_t_facts, .int t_size])), (a_t_words, .inl (cI, 72, .inl t_words)), (a_t_facts, .inl (cI, 36, .inl t_facts))]) (hS : va_S A s.heap H locs) (ls : Array Slot) (hl : lv_has ls 7 [(0, .ref a_t), (1, .int p1), (2, .int p2), (3, .int x3), (4, .int x4)]), W p l e ({ frames := 1, cells := 0, slots := 0, locals := 22 } : Room) s m ([.ref a_t, .int p1, .int p2] : List Value).toArray below meth c H locs 0 0 (MQ below (mQi G [(cI, .int)] A (fun _ : Unit => res) (fun _ => [(a_t, .inr (0, [.ref a_t_words, .ref a_t_facts, .int t_size])), (a_t_words, .inl (cI, 72, .inl t_words)), (a_t_facts, .inl (cI, 36, .inl t_facts))])) ([.ref a_t, .int p1, .int p2] : List Value).toArray s 0 0 A) (F0 m 5 ls [])) ∧ (∀ (x3 : Int32) (x4 : Int32) (H : Heap) (locs : List Loc) (hf : rX0_codeAt p1 p2 t_size t_words t_facts n 2 x3 x4 0 0 = some res) (hP : va_P G vwCl [(a_t, .inr (0, [.ref a_t_words, .ref a_t_facts, .int t_size])), (a_t_words, .inl (cI, 72, .inl t_words)), (a_t_facts, .inl (cI, 36, .inl t_facts))] H) (hD : va_D A [(a_t, .inr (0, [.ref a_t_words, .ref a_t_facts, .int t_size])), (a_t_words, .inl (cI, 72, .inl t_words)), (a_t_facts, .inl (cI, 36, .inl t_facts))]) (hS : va_S A s.heap H locs) (ls : Array Slot) (hl : lv_has ls 7 [(0, .ref a_t), (1, .int p1), (2, .int p2), (3, .int x3), (4, .int x4)]), W p l e ({ frames := 1, cells := 0, slots := 0, locals := 22 } : Room) s m ([.ref a_t, .int p1, .int p2] : List Value).toArray below meth c H locs 0 0 (MQ below (mQi G [(cI, .int)] A (fun _ : Unit => res) (fun _ => [(a_t, .inr (0, [.ref a_t_words, .ref a_t_facts, .int t_size])), (a_t_words, .inl (cI, 72, .inl t_words)), (a_t_facts, .inl (cI, 36, .inl t_facts))])) ([.ref a_t, .int p1, .int p2] : List Value).toArray s 0 0 A) (F0 m 31 ls [])) ∧ (∀ (s0 : Int32) (s1 : Int32) (H : Heap) (locs : List Loc) (hf : rX0_codeAt p1 p2 t_size t_words t_facts n 3 0 0 s0 s1 = some res) (hP : va_P G vwCl [(a_t, .inr (0, [.ref a_t_words, .ref a_t_facts, .int t_size])), (a_t_words, .inl (cI, 72, .inl t_words)), (a_t_facts, .inl (cI, 36, .inl t_facts))] H) (hD : va_D A [(a_t, .inr (0, [.ref a_t_words, .ref a_t_facts, .int t_size])), (a_t_words, .inl (cI, 72, .inl t_words)), (a_t_facts, .inl (cI, 36, .inl t_facts))]) (hS : va_S A s.heap H locs) (ls : Array Slot) (hl : lv_has ls 7 []), W p l e ({ frames := 1, cells := 0, slots := 0, locals := 22 } : Room) s m ([.ref a_t, .int p1, .int p2] : List Value).toArray below meth c H locs 0 0 (MQ below (mQi G [(cI, .int)] A (fun _ : Unit => res) (fun _ => [(a_t, .inr (0, [.ref a_t_words, .ref a_t_facts, .int t_size])), (a_t_words, .inl (cI, 72, .inl t_words)), (a_t_facts, .inl (cI, 36, .inl t_facts))])) ([.ref a_t, .int p1, .int p2] : List Value).toArray s 0 0 A) (F0 m 70 ls [.int s0, .int s1])) := by
    intro n
    induction n with
    | zero => exact ⟨(fun _ _ H locs hf => (by cases hf)), (fun _ _ H locs hf => (by cases hf)), (fun _ _ H locs hf => (by cases hf))⟩
    | succ n ih =>
      refine ⟨?_, ?_, ?_⟩
      · intro  x3 x4 H locs hf hP hD hS ls hl
        replace hf : bX0_codeAt_1 p1 p2 t_size t_words t_facts (rX0_codeAt p1 p2 t_size t_words t_facts n) x3 x4 0 0 = some res := hf
        unfold bX0_codeAt_1 at hf
        refine lv_iload hx hb dX0_codeAt_5 (lv_at hl 4 rfl) ?_
        refine lv_aload_n hx hb dX0_codeAt_7 rfl (lv_at hl 0 rfl) ?_
        refine lv_iload_n hx hb dX0_codeAt_8 rfl (lv_at hl 1 rfl) ?_
        refine lv_iconst (v := 0) hx hb dX0_codeAt_9 (by decide) ?_
        obtain ⟨u1, hu1, hf⟩ := pf_b hf
        refine mCallV_i (As := [.int p1, .int 0]) ⟨hx, hb, hml, hown, hts⟩ (mX0_fact l G cI a_t a_t_facts H.size (.ref a_t_words) t_size t_facts p1 (0 : Int32) _ hu1) (cwV 2 hts gX0_codeAt_X0_fact rfl rfl rfl (by decide +kernel) ⟨Nat.le_of_ble_eq_true rfl, Nat.le_of_ble_eq_true rfl⟩) hP hD hS hA hK [0, 2] rfl (by decide) 0 0 rfl rfl rfl hK [a_t, a_t_facts] (fun _ => rfl) rfl (fun _ => [(a_t, .inr (0, [.ref a_t_words, .ref a_t_facts, .int t_size])), (a_t_words, .inl (cI, 72, .inl t_words)), (a_t_facts, .inl (cI, 36, .inl t_facts))]) [a_t, a_t_words, a_t_facts] (fun _ => rfl) rfl (fun _ => rfl) [1] [(a_t_words, .inl (cI, 72, .inl t_words))] (fun _ => rfl) rfl 3 rfl rfl rfl hl.1 rfl (lv_room (Nat.le_of_ble_eq_true rfl)) dX0_codeAt_10 ⟨Nat.zero_le _, Nat.zero_le _⟩ (fun _ H locs hP hD hS => ?_)
        have hP : va_P G vwCl [(a_t, .inr (0, [.ref a_t_words, .ref a_t_facts, .int t_size])), (a_t_words, .inl (cI, 72, .inl t_words)), (a_t_facts, .inl (cI, 36, .inl t_facts))] H := hP
        have hD : va_D A [(a_t, .inr (0, [.ref a_t_words, .ref a_t_facts, .int t_size])), (a_t_words, .inl (cI, 72, .inl t_words)), (a_t_facts, .inl (cI, 36, .inl t_facts))] := hD
        refine lv_icmp_ge (tgt := 85) hx hb dX0_codeAt_13 (by decide) (fun c2 => ?_) (fun c2 => ?_)
        · have hf := pf_t hf c2
          refine lv_iconst (v := (-1)) hx hb dX0_codeAt_85 (by decide) ?_
          obtain rfl := Option.some.inj hf
          exact mEnd_i () hx hb hr hlocks hP hK hD hS rfl rfl (Nat.le_refl _) (Nat.le_refl _) dX0_codeAt_86
        · have hf := pf_f hf c2
          refine lv_iload hx hb dX0_codeAt_16 (lv_at hl 4 rfl) ?_
          refine lv_if_le (tgt := 31) hx hb dX0_codeAt_18 (by decide) (fun c3 => ?_) (fun c3 => ?_)
          · have hf := pf_t hf c3
            exact ih.2.1 x3 x4 H locs hf hP hD hS ls (lv_sub hl [0, 1, 2, 3, 4] rfl)
          · have hf := pf_f hf c3
            refine lv_iload_n hx hb dX0_codeAt_21 rfl (lv_at hl 2 rfl) ?_
            refine lv_iload_n hx hb dX0_codeAt_22 rfl (lv_at hl 3 rfl) ?_
            refine lv_iconst (v := 1) hx hb dX0_codeAt_23 (by decide) ?_
            refine lv_isub hx hb dX0_codeAt_24 ?_
            refine lv_icmp_ne (tgt := 31) hx hb dX0_codeAt_25 (by decide) (fun c4 => ?_) (fun c4 => ?_)
            · have hf := pf_f hf c4
              exact ih.2.1 x3 x4 H locs hf hP hD hS ls (lv_sub hl [0, 1, 2, 3, 4] rfl)
            · have hf := pf_t hf c4
              refine lv_bipush (v := 44) hx hb dX0_codeAt_28 (by decide) ?_
              obtain rfl := Option.some.inj hf
              exact mEnd_i () hx hb hr hlocks hP hK hD hS rfl rfl (Nat.le_refl _) (Nat.le_refl _) dX0_codeAt_30
      · intro  x3 x4 H locs hf hP hD hS ls hl
        replace hf : bX0_codeAt_2 p1 p2 t_size t_words t_facts (rX0_codeAt p1 p2 t_size t_words t_facts n) x3 x4 0 0 = some res := hf
        unfold bX0_codeAt_2 at hf
        refine lv_aload_n hx hb dX0_codeAt_31 rfl (lv_at hl 0 rfl) ?_
        refine lv_iload_n hx hb dX0_codeAt_32 rfl (lv_at hl 1 rfl) ?_
        refine lv_iload hx hb dX0_codeAt_33 (lv_at hl 4 rfl) ?_
        obtain ⟨u5, hu5, hf⟩ := pf_b hf
        refine mCallV_i (As := [.int p1, .int x4]) ⟨hx, hb, hml, hown, hts⟩ (mX0_wordAt l G cI a_t a_t_words H.size (.ref a_t_facts) t_size t_words p1 x4 _ hu5) (cwV 2 hts gX0_codeAt_X0_wordAt rfl rfl rfl (by decide +kernel) ⟨Nat.le_of_ble_eq_true rfl, Nat.le_of_ble_eq_true rfl⟩) hP hD hS hA hK [0, 1] rfl (by decide) 0 0 rfl rfl rfl hK [a_t, a_t_words] (fun _ => rfl) rfl (fun _ => [(a_t, .inr (0, [.ref a_t_words, .ref a_t_facts, .int t_size])), (a_t_words, .inl (cI, 72, .inl t_words)), (a_t_facts, .inl (cI, 36, .inl t_facts))]) [a_t, a_t_words, a_t_facts] (fun _ => rfl) rfl (fun _ => rfl) [2] [(a_t_facts, .inl (cI, 36, .inl t_facts))] (fun _ => rfl) rfl 3 rfl rfl rfl hl.1 rfl (lv_room (Nat.le_of_ble_eq_true rfl)) dX0_codeAt_35 ⟨Nat.zero_le _, Nat.zero_le _⟩ (fun _ H locs hP hD hS => ?_)
        have hP : va_P G vwCl [(a_t, .inr (0, [.ref a_t_words, .ref a_t_facts, .int t_size])), (a_t_words, .inl (cI, 72, .inl t_words)), (a_t_facts, .inl (cI, 36, .inl t_facts))] H := hP
        have hD : va_D A [(a_t, .inr (0, [.ref a_t_words, .ref a_t_facts, .int t_size])), (a_t_words, .inl (cI, 72, .inl t_words)), (a_t_facts, .inl (cI, 36, .inl t_facts))] := hD
        refine lv_istore (lv' := [(5, .int u5), (0, .ref a_t), (1, .int p1), (2, .int p2), (3, .int x3), (4, .int x4)]) hx hb dX0_codeAt_38 hl (by decide) rfl (fun ls hl => ?_)
        refine lv_iload_n hx hb dX0_codeAt_40 rfl (lv_at hl 4 rfl) ?_
        refine lv_iload hx hb dX0_codeAt_41 (lv_at hl 0 rfl) ?_
        obtain ⟨u6, hu6, hf⟩ := pf_b hf
        refine mCallS_i (As := [.int u5]) ⟨hx, hb, hml, hown, hts⟩ (mX0_widthOf l G cI H.size u5 _ hu6) (va_cwS 1 hts gX0_codeAt_X0_widthOf rfl rfl rfl (by decide +kernel) ⟨Nat.le_of_ble_eq_true rfl, Nat.le_of_ble_eq_true rfl⟩) hP hD hS hA hK [] rfl (by decide) [] (fun _ => rfl) rfl (fun _ => [(a_t, .inr (0, [.ref a_t_words, .ref a_t_facts, .int t_size])), (a_t_words, .inl (cI, 72, .inl t_words)), (a_t_facts, .inl (cI, 36, .inl t_facts))]) [a_t, a_t_words, a_t_facts] (fun _ => rfl) rfl (fun _ => rfl) [0, 1, 2] [(a_t, .inr (0, [.ref a_t_words, .ref a_t_facts, .int t_size])), (a_t_words, .inl (cI, 72, .inl t_words)), (a_t_facts, .inl (cI, 36, .inl t_facts))] (fun _ => rfl) rfl 3 rfl rfl rfl hl.1 rfl (lv_room (Nat.le_of_ble_eq_true rfl)) dX0_codeAt_43 ⟨Nat.zero_le _, Nat.zero_le _⟩ (fun _ H locs hP hD hS => ?_)
        have hP : va_P G vwCl [(a_t, .inr (0, [.ref a_t_words, .ref a_t_facts, .int t_size])), (a_t_words, .inl (cI, 72, .inl t_words)), (a_t_facts, .inl (cI, 36, .inl t_facts))] H := hP
        have hD : va_D A [(a_t, .inr (0, [.ref a_t_words, .ref a_t_facts, .int t_size])), (a_t_words, .inl (cI, 72, .inl t_words)), (a_t_facts, .inl (cI, 36, .inl t_facts))] := hD
        refine lv_iadd hx hb dX0_codeAt_46 ?_
        refine lv_istore (lv' := [(6, .int (x3 + u6)), (5, .int u5), (0, .ref a_t), (1, .int p1), (2, .int p2), (3, .int x3), (4, .int x4)]) hx hb dX0_codeAt_47 hl (by decide) rfl (fun ls hl => ?_)
        refine lv_iload_n hx hb dX0_codeAt_49 rfl (lv_at hl 4 rfl) ?_
        refine lv_iload hx hb dX0_codeAt_50 (lv_at hl 0 rfl) ?_
        refine lv_icmp_ge (tgt := 74) hx hb dX0_codeAt_52 (by decide) (fun c7 => ?_) (fun c7 => ?_)
        · have hf := pf_t hf c7
          refine lv_iload hx hb dX0_codeAt_74 (lv_at hl 0 rfl) ?_
          refine lv_iconst (v := 1) hx hb dX0_codeAt_76 (by decide) ?_
          refine lv_iadd hx hb dX0_codeAt_77 ?_
          refine lv_istore_n (lv' := [(3, .int ((x3 + u6) + (1 : Int32))), (6, .int (x3 + u6)), (5, .int u5), (0, .ref a_t), (1, .int p1), (2, .int p2), (4, .int x4)]) hx hb dX0_codeAt_78 rfl hl (by decide) rfl (fun ls hl => ?_)
          refine lv_iinc (v := x4 + 1) (lv' := [(4, .int (x4 + 1)), (3, .int ((x3 + u6) + (1 : Int32))), (6, .int (x3 + u6)), (5, .int u5), (0, .ref a_t), (1, .int p1), (2, .int p2)]) hx hb dX0_codeAt_79 hl (k := 6) rfl rfl (by decide) rfl (fun ls hl => ?_)
          refine lv_goto (tgt := 5) hx hb dX0_codeAt_82 (by decide) ?_
          exact ih.1 ((x3 + u6) + (1 : Int32)) (x4 + 1) H locs hf hP hD hS ls (lv_sub hl [4, 5, 6, 1, 0] rfl)
        · have hf := pf_f hf c7
          refine lv_iload hx hb dX0_codeAt_55 (lv_at hl 1 rfl) ?_
          refine lv_iload_n hx hb dX0_codeAt_57 rfl (lv_at hl 4 rfl) ?_
          refine lv_iload hx hb dX0_codeAt_58 (lv_at hl 0 rfl) ?_
          refine lv_iconst (v := 1) hx hb dX0_codeAt_60 (by decide) ?_
          refine lv_isub hx hb dX0_codeAt_61 ?_
          refine lv_icmp_ne (tgt := 69) hx hb dX0_codeAt_62 (by decide) (fun c8 => ?_) (fun c8 => ?_)
          · have hf := pf_f hf c8
            refine lv_iconst (v := 0) hx hb dX0_codeAt_69 (by decide) ?_
            exact ih.2.2 (0 : Int32) u5 H locs hf hP hD hS ls (lv_sub hl [] rfl)
          · have hf := pf_t hf c8
            refine lv_iconst (v := 1) hx hb dX0_codeAt_65 (by decide) ?_
            refine lv_goto (tgt := 70) hx hb dX0_codeAt_66 (by decide) ?_
            exact ih.2.2 (1 : Int32) u5 H locs hf hP hD hS ls (lv_sub hl [] rfl)
      · intro  s0 s1 H locs hf hP hD hS ls hl
        replace hf : bX0_codeAt_3 p1 p2 t_size t_words t_facts (rX0_codeAt p1 p2 t_size t_words t_facts n) 0 0 s0 s1 = some res := hf
        unfold bX0_codeAt_3 at hf
        obtain ⟨u9, hu9, hf⟩ := pf_b hf
        refine mCallS_i (As := [.int s1, .int s0]) ⟨hx, hb, hml, hown, hts⟩ (mX0_codeOf l G cI H.size s1 s0 _ hu9) (va_cwS 2 hts gX0_codeAt_X0_codeOf rfl rfl rfl (by decide +kernel) ⟨Nat.le_of_ble_eq_true rfl, Nat.le_of_ble_eq_true rfl⟩) hP hD hS hA hK [] rfl (by decide) [] (fun _ => rfl) rfl (fun _ => [(a_t, .inr (0, [.ref a_t_words, .ref a_t_facts, .int t_size])), (a_t_words, .inl (cI, 72, .inl t_words)), (a_t_facts, .inl (cI, 36, .inl t_facts))]) [a_t, a_t_words, a_t_facts] (fun _ => rfl) rfl (fun _ => rfl) [0, 1, 2] [(a_t, .inr (0, [.ref a_t_words, .ref a_t_facts, .int t_size])), (a_t_words, .inl (cI, 72, .inl t_words)), (a_t_facts, .inl (cI, 36, .inl t_facts))] (fun _ => rfl) rfl 3 rfl rfl rfl hl.1 rfl (lv_room (Nat.le_of_ble_eq_true rfl)) dX0_codeAt_70 ⟨Nat.zero_le _, Nat.zero_le _⟩ (fun _ H locs hP hD hS => ?_)
        have hP : va_P G vwCl [(a_t, .inr (0, [.ref a_t_words, .ref a_t_facts, .int t_size])), (a_t_words, .inl (cI, 72, .inl t_words)), (a_t_facts, .inl (cI, 36, .inl t_facts))] H := hP
        have hD : va_D A [(a_t, .inr (0, [.ref a_t_words, .ref a_t_facts, .int t_size])), (a_t_words, .inl (cI, 72, .inl t_words)), (a_t_facts, .inl (cI, 36, .inl t_facts))] := hD
        obtain rfl := Option.some.inj hf
        exact mEnd_i () hx hb hr hlocks hP hK hD hS rfl rfl (Nat.le_refl _) (Nat.le_refl _) dX0_codeAt_73
  unfold fX0_codeAt eX0_codeAt at hf
  obtain ⟨H, hH⟩ : ∃ H : Heap, H = s.heap := ⟨_, rfl⟩
  obtain ⟨locs, hlc⟩ : ∃ z : List Loc, z = [] := ⟨_, rfl⟩
  rw [← hlc, ← hH]
  have hP : va_P G vwCl [(a_t, .inr (0, [.ref a_t_words, .ref a_t_facts, .int t_size])), (a_t_words, .inl (cI, 72, .inl t_words)), (a_t_facts, .inl (cI, 36, .inl t_facts))] H := by rw [hH]; exact hP
  have hS : va_S A s.heap H locs := by rw [hlc, hH]; exact hS
  refine lv_iconst (v := 0) hx hb dX0_codeAt_0 (by decide) ?_
  refine lv_istore_n (lv' := [(3, .int 0), (0, .ref a_t), (1, .int p1), (2, .int p2)]) hx hb dX0_codeAt_1 rfl hl (by decide) rfl (fun ls hl => ?_)
  refine lv_iconst (v := 0) hx hb dX0_codeAt_2 (by decide) ?_
  refine lv_istore (lv' := [(4, .int 0), (3, .int 0), (0, .ref a_t), (1, .int p1), (2, .int p2)]) hx hb dX0_codeAt_3 hl (by decide) rfl (fun ls hl => ?_)
  exact (key fuelN).1 (0 : Int32) (0 : Int32) H locs hf hP hD hS ls (lv_sub hl [2, 3, 4, 1, 0] rfl)
def fX6_misses (p1 : Int32) (p2 : Int32) : Option (Int32) :=
  (if p1 ≤ 0 then some ((0 : Int32)) else (if (p1 + (1 : Int32)) = 0 then none else (if (p2 - p2 / (p1 + (1 : Int32)) * (p1 + (1 : Int32))) = 0 then some ((1 : Int32)) else some ((0 : Int32)))))
set_option maxHeartbeats 4000000 in
set_option maxRecDepth 100000 in
theorem mX6_misses (l : Launch) (G : va_G) (cI : ClassId)  (sz : Nat)   (p1 : Int32) (p2 : Int32) (res : Int32) (hf : fX6_misses p1 p2 = some res) : Met l yX6_misses wsX6_misses ({ frames := 0, cells := 0, slots := 0, locals := 0 }) (mPc G [(cI, .int)] [.int p1, .int p2] sz []) (mQi G [(cI, .int)] (va_A [] sz) (fun _ : Unit => res) (fun _ => [])) 0 0 (va_A [] sz) := by
  refine mStart (cc := cX6_misses) (maxL := 2) (ret := (some .boolean)) (by decide) rfl (Nat.le_of_ble_eq_true rfl) ?_
  intro p e s m below meth c A ls hx hb hml hr hts hown hlocks hnm hA hsz hAe hP hK hD hS hl
  have hl : lv_has ls 2 [(0, .int p1), (1, .int p2)] := hl
  rw [hAe]
  unfold fX6_misses at hf
  obtain ⟨H, hH⟩ : ∃ H : Heap, H = s.heap := ⟨_, rfl⟩
  obtain ⟨locs, hlc⟩ : ∃ z : List Loc, z = [] := ⟨_, rfl⟩
  rw [← hlc, ← hH]
  have hP : va_P G vwCl [] H := by rw [hH]; exact hP
  have hS : va_S A s.heap H locs := by rw [hlc, hH]; exact hS
  refine lv_iload_n hx hb dX6_misses_0 rfl (lv_at hl 0 rfl) ?_
  refine lv_if_le (tgt := 16) hx hb dX6_misses_1 (by decide) (fun c1 => ?_) (fun c1 => ?_)
  · have hf := pf_t hf c1
    refine lv_iconst (v := 0) hx hb dX6_misses_16 (by decide) ?_
    obtain rfl := Option.some.inj hf
    exact mEnd_z () hx hb hr rfl hlocks hP hK hD hS rfl rfl (Nat.le_refl _) (Nat.le_refl _) dX6_misses_17
  · have hf := pf_f hf c1
    refine lv_iload_n hx hb dX6_misses_4 rfl (lv_at hl 1 rfl) ?_
    refine lv_iload_n hx hb dX6_misses_5 rfl (lv_at hl 0 rfl) ?_
    refine lv_iconst (v := 1) hx hb dX6_misses_6 (by decide) ?_
    refine lv_iadd hx hb dX6_misses_7 ?_
    obtain ⟨q2, hf⟩ := pf_k hf
    refine lv_irem hx hb dX6_misses_8 q2 ?_
    refine lv_if_ne (tgt := 16) hx hb dX6_misses_9 (by decide) (fun c3 => ?_) (fun c3 => ?_)
    · have hf := pf_f hf c3
      refine lv_iconst (v := 0) hx hb dX6_misses_16 (by decide) ?_
      obtain rfl := Option.some.inj hf
      exact mEnd_z () hx hb hr rfl hlocks hP hK hD hS rfl rfl (Nat.le_refl _) (Nat.le_refl _) dX6_misses_17
    · have hf := pf_t hf c3
      refine lv_iconst (v := 1) hx hb dX6_misses_12 (by decide) ?_
      refine lv_goto (tgt := 17) hx hb dX6_misses_13 (by decide) ?_
      obtain rfl := Option.some.inj hf
      exact mEnd_z () hx hb hr rfl hlocks hP hK hD hS rfl rfl (Nat.le_refl _) (Nat.le_refl _) dX6_misses_17
def bX6_send_1 (p3 : Int32) (p1_length : Int32) (p1_words : Nat → Int32) (p2_meanings : Nat → Int32) (p2_ears : Nat → Int32) (k : Nat → Int32 → Int32 → Int32 → Int32 → Int32 → Int32 → Int32 → (Nat → Int32) → (Nat → Int32) → Option ((Nat → Int32) × (Nat → Int32))) (x4 : Int32) (x5 : Int32) (x6 : Int32) (x7 : Int32) (x8 : Int32) (x9 : Int32) (s0 : Int32) (t_rows : Nat → Int32) (t_lengths : Nat → Int32) : Option ((Nat → Int32) × (Nat → Int32)) :=
  (if (6 : Int32) ≤ x4 then some (t_rows, t_lengths) else (if x4 = p3 then k 2 x4 0 0 0 0 0 (0 : Int32) t_rows t_lengths else (if x4 < 0 ∨ 6 ≤ x4.toNatClampNeg then none else k 2 x4 0 0 0 0 0 (p2_ears x4.toNatClampNeg) t_rows t_lengths)))
def bX6_send_2 (p3 : Int32) (p1_length : Int32) (p1_words : Nat → Int32) (p2_meanings : Nat → Int32) (p2_ears : Nat → Int32) (k : Nat → Int32 → Int32 → Int32 → Int32 → Int32 → Int32 → Int32 → (Nat → Int32) → (Nat → Int32) → Option ((Nat → Int32) × (Nat → Int32))) (x4 : Int32) (x5 : Int32) (x6 : Int32) (x7 : Int32) (x8 : Int32) (x9 : Int32) (s0 : Int32) (t_rows : Nat → Int32) (t_lengths : Nat → Int32) : Option ((Nat → Int32) × (Nat → Int32)) :=
  (lt ((x4 * (12 : Int32)) + (12 : Int32)) fun (y4 : Int32) => k 3 x4 s0 (x4 * (12 : Int32)) y4 (0 : Int32) (0 : Int32) 0 t_rows t_lengths)
def bX6_send_3 (p3 : Int32) (p1_length : Int32) (p1_words : Nat → Int32) (p2_meanings : Nat → Int32) (p2_ears : Nat → Int32) (k : Nat → Int32 → Int32 → Int32 → Int32 → Int32 → Int32 → Int32 → (Nat → Int32) → (Nat → Int32) → Option ((Nat → Int32) × (Nat → Int32))) (x4 : Int32) (x5 : Int32) (x6 : Int32) (x7 : Int32) (x8 : Int32) (x9 : Int32) (s0 : Int32) (t_rows : Nat → Int32) (t_lengths : Nat → Int32) : Option ((Nat → Int32) × (Nat → Int32)) :=
  (if x4 < 0 ∨ 7 ≤ x4.toNatClampNeg then none else (if (t_lengths x4.toNatClampNeg) ≤ x9 then (if (x4 + (1 : Int32)) < 0 ∨ 7 ≤ (x4 + (1 : Int32)).toNatClampNeg then none else (lt (upd t_lengths (x4 + (1 : Int32)).toNatClampNeg x8) fun (f8 : Nat → Int32) => k 1 (x4 + 1) 0 0 0 0 0 0 t_rows f8)) else ((fX6_misses x5 (x9 + (1 : Int32))).bind fun (u9 : Int32) => (if u9 = 0 then (if (x6 + x9) < 0 ∨ 84 ≤ (x6 + x9).toNatClampNeg then none else ((fX2_saidFor x4 (t_rows (x6 + x9).toNatClampNeg) p2_meanings).bind fun (u12 : Int32) => (if (x7 + x8) < 0 ∨ 84 ≤ (x7 + x8).toNatClampNeg then none else (lt (upd t_rows (x7 + x8).toNatClampNeg u12) fun (f14 : Nat → Int32) => k 3 x4 x5 x6 x7 (x8 + 1) (x9 + 1) 0 f14 t_lengths)))) else k 3 x4 x5 x6 x7 x8 (x9 + 1) 0 t_rows t_lengths))))
def sX6_send (p3 : Int32) (p1_length : Int32) (p1_words : Nat → Int32) (p2_meanings : Nat → Int32) (p2_ears : Nat → Int32) (k : Nat → Int32 → Int32 → Int32 → Int32 → Int32 → Int32 → Int32 → (Nat → Int32) → (Nat → Int32) → Option ((Nat → Int32) × (Nat → Int32))) (b : Nat) (x4 : Int32) (x5 : Int32) (x6 : Int32) (x7 : Int32) (x8 : Int32) (x9 : Int32) (s0 : Int32) (t_rows : Nat → Int32) (t_lengths : Nat → Int32) : Option ((Nat → Int32) × (Nat → Int32)) := match b with
  | 1 => bX6_send_1 p3 p1_length p1_words p2_meanings p2_ears k x4 x5 x6 x7 x8 x9 s0 t_rows t_lengths
  | 2 => bX6_send_2 p3 p1_length p1_words p2_meanings p2_ears k x4 x5 x6 x7 x8 x9 s0 t_rows t_lengths
  | 3 => bX6_send_3 p3 p1_length p1_words p2_meanings p2_ears k x4 x5 x6 x7 x8 x9 s0 t_rows t_lengths
  | _ => none
def rX6_send (p3 : Int32) (p1_length : Int32) (p1_words : Nat → Int32) (p2_meanings : Nat → Int32) (p2_ears : Nat → Int32) : Nat → Nat → Int32 → Int32 → Int32 → Int32 → Int32 → Int32 → Int32 → (Nat → Int32) → (Nat → Int32) → Option ((Nat → Int32) × (Nat → Int32))
  | 0 => fun _ _ _ _ _ _ _ _ _ _ => none
  | n + 1 => sX6_send p3 p1_length p1_words p2_meanings p2_ears (rX6_send p3 p1_length p1_words p2_meanings p2_ears n)
def eX6_send (p3 : Int32) (t_rows : Nat → Int32) (t_lengths : Nat → Int32) (p1_length : Int32) (p1_words : Nat → Int32) (p2_meanings : Nat → Int32) (p2_ears : Nat → Int32) (k : Nat → Int32 → Int32 → Int32 → Int32 → Int32 → Int32 → Int32 → (Nat → Int32) → (Nat → Int32) → Option ((Nat → Int32) × (Nat → Int32))) : Option ((Nat → Int32) × (Nat → Int32)) :=
  (lt (va_cpy p1_words t_rows (0 : Int32).toNatClampNeg (0 : Int32).toNatClampNeg (12 : Int32).toNatClampNeg) fun (f15 : Nat → Int32) => (lt (upd t_lengths (0 : Int32).toNatClampNeg p1_length) fun (f16 : Nat → Int32) => k 1 (0 : Int32) 0 0 0 0 0 0 f15 f16))
def fX6_send (p3 : Int32) (t_rows : Nat → Int32) (t_lengths : Nat → Int32) (p1_length : Int32) (p1_words : Nat → Int32) (p2_meanings : Nat → Int32) (p2_ears : Nat → Int32) : Option ((Nat → Int32) × (Nat → Int32)) := eX6_send p3 t_rows t_lengths p1_length p1_words p2_meanings p2_ears (rX6_send p3 p1_length p1_words p2_meanings p2_ears fuelN)
theorem iwX6_send_X2 : ∀ w ∈ u_ws RX2 TX2 6, w ∈ wsX6_send := by decide +kernel
theorem iwX6_send_X4 : ∀ w ∈ u_ws RX4 TX4 3, w ∈ wsX6_send := by decide +kernel
theorem iwX6_send_X6 : ∀ w ∈ u_ws RX6 TX6 3, w ∈ wsX6_send := by decide +kernel
set_option maxHeartbeats 4000000 in
set_option maxRecDepth 100000 in
theorem mX6_send (l : Launch) (G : va_G) (cI : ClassId) (a_t a_t_rows a_t_lengths a_p1 a_p1_words a_p2 a_p2_meanings a_p2_ears : Nat) (sz : Nat) (vt_back vp2_fees vp2_missed vp2_paid vp2_losses : Value) (t_rows : Nat → Int32) (t_lengths : Nat → Int32) (p1_length : Int32) (p1_urgency : Int32) (p1_words : Nat → Int32) (p2_meanings : Nat → Int32) (p2_ears : Nat → Int32) (p3 : Int32) (res : (Nat → Int32) × (Nat → Int32)) (hf : fX6_send p3 t_rows t_lengths p1_length p1_words p2_meanings p2_ears = some res) : Met l yX6_send wsX6_send ({ frames := 2, cells := 0, slots := 0, locals := 48 }) (mPc G [(cI, .int)] [.ref a_t, .ref a_p1, .ref a_p2, .int p3] sz [(a_t, .inr (6, [.ref a_t_rows, .ref a_t_lengths, vt_back])), (a_t_rows, .inl (cI, 84, .inl t_rows)), (a_t_lengths, .inl (cI, 7, .inl t_lengths)), (a_p1, .inr (4, [.ref a_p1_words, .int p1_length, .int p1_urgency])), (a_p1_words, .inl (cI, 12, .inl p1_words)), (a_p2, .inr (2, [.ref a_p2_meanings, .ref a_p2_ears, vp2_fees, vp2_missed, vp2_paid, vp2_losses])), (a_p2_meanings, .inl (cI, 180, .inl p2_meanings)), (a_p2_ears, .inl (cI, 6, .inl p2_ears))]) (mQv G [(cI, .int)] (va_A [(a_t, .inr (6, [.ref a_t_rows, .ref a_t_lengths, vt_back])), (a_t_rows, .inl (cI, 84, .inl t_rows)), (a_t_lengths, .inl (cI, 7, .inl t_lengths)), (a_p1, .inr (4, [.ref a_p1_words, .int p1_length, .int p1_urgency])), (a_p1_words, .inl (cI, 12, .inl p1_words)), (a_p2, .inr (2, [.ref a_p2_meanings, .ref a_p2_ears, vp2_fees, vp2_missed, vp2_paid, vp2_losses])), (a_p2_meanings, .inl (cI, 180, .inl p2_meanings)), (a_p2_ears, .inl (cI, 6, .inl p2_ears))] sz) (fun u9 : Unit => [(a_t, .inr (6, [.ref a_t_rows, .ref a_t_lengths, vt_back])), (a_t_rows, .inl (cI, 84, .inl res.1)), (a_t_lengths, .inl (cI, 7, .inl res.2)), (a_p1, .inr (4, [.ref a_p1_words, .int p1_length, .int p1_urgency])), (a_p1_words, .inl (cI, 12, .inl p1_words)), (a_p2, .inr (2, [.ref a_p2_meanings, .ref a_p2_ears, vp2_fees, vp2_missed, vp2_paid, vp2_losses])), (a_p2_meanings, .inl (cI, 180, .inl p2_meanings)), (a_p2_ears, .inl (cI, 6, .inl p2_ears))])) 0 0 (va_A [(a_t, .inr (6, [.ref a_t_rows, .ref a_t_lengths, vt_back])), (a_t_rows, .inl (cI, 84, .inl t_rows)), (a_t_lengths, .inl (cI, 7, .inl t_lengths)), (a_p1, .inr (4, [.ref a_p1_words, .int p1_length, .int p1_urgency])), (a_p1_words, .inl (cI, 12, .inl p1_words)), (a_p2, .inr (2, [.ref a_p2_meanings, .ref a_p2_ears, vp2_fees, vp2_missed, vp2_paid, vp2_losses])), (a_p2_meanings, .inl (cI, 180, .inl p2_meanings)), (a_p2_ears, .inl (cI, 6, .inl p2_ears))] sz) := by
  refine mStart (cc := cX6_send) (maxL := 10) (ret := none) (by decide) rfl (Nat.le_of_ble_eq_true rfl) ?_
  intro p e s m below meth c A ls hx hb hml hr hts hown hlocks hnm hA hsz hAe hP hK hD hS hl
  have hl : lv_has ls 10 [(0, .ref a_t), (1, .ref a_p1), (2, .ref a_p2), (3, .int p3)] := hl
  rw [hAe]
  have k1 := hts (.fieldLink RX6 36 "DeafChain$Links" "ears" "[I") (by decide +kernel)
  have k2 := hts (.fieldLink RX6 15 "DeafChain$Trip" "lengths" "[I") (by decide +kernel)
  have k3 := hts (.fieldLink RX6 9 "DeafChain$Trip" "rows" "[I") (by decide +kernel)
  have k4 := hts (.fieldLink RX6 21 "DeafChain$Sentence" "words" "[I") (by decide +kernel)
  have k5 := hts (.methodLink RX6 26 arraycopyName) (by decide +kernel)
  have k6 := hts (.native arraycopyName) (by decide +kernel)
  have k7 := hts (.static arraycopyName) (by decide +kernel)
  have k8 := hts (.initialized "java/lang/System") (by decide +kernel)
  have k9 := hts (.fieldLink RX6 32 "DeafChain$Sentence" "length" "I") (by decide +kernel)
  have key : ∀ n : Nat, (∀ (x4 : Int32) (t_rows : Nat → Int32) (t_lengths : Nat → Int32) (H : Heap) (locs : List Loc) (hf : rX6_send p3 p1_length p1_words p2_meanings p2_ears n 1 x4 0 0 0 0 0 0 t_rows t_lengths = some res) (hP : va_P G vwCl [(a_t, .inr (6, [.ref a_t_rows, .ref a_t_lengths, vt_back])), (a_t_rows, .inl (cI, 84, .inl t_rows)), (a_t_lengths, .inl (cI, 7, .inl t_lengths)), (a_p1, .inr (4, [.ref a_p1_words, .int p1_length, .int p1_urgency])), (a_p1_words, .inl (cI, 12, .inl p1_words)), (a_p2, .inr (2, [.ref a_p2_meanings, .ref a_p2_ears, vp2_fees, vp2_missed, vp2_paid, vp2_losses])), (a_p2_meanings, .inl (cI, 180, .inl p2_meanings)), (a_p2_ears, .inl (cI, 6, .inl p2_ears))] H) (hD : va_D A [(a_t, .inr (6, [.ref a_t_rows, .ref a_t_lengths, vt_back])), (a_t_rows, .inl (cI, 84, .inl t_rows)), (a_t_lengths, .inl (cI, 7, .inl t_lengths)), (a_p1, .inr (4, [.ref a_p1_words, .int p1_length, .int p1_urgency])), (a_p1_words, .inl (cI, 12, .inl p1_words)), (a_p2, .inr (2, [.ref a_p2_meanings, .ref a_p2_ears, vp2_fees, vp2_missed, vp2_paid, vp2_losses])), (a_p2_meanings, .inl (cI, 180, .inl p2_meanings)), (a_p2_ears, .inl (cI, 6, .inl p2_ears))]) (hS : va_S A s.heap H locs) (ls : Array Slot) (hl : lv_has ls 10 [(0, .ref a_t), (2, .ref a_p2), (3, .int p3), (4, .int x4)]), W p l e ({ frames := 2, cells := 0, slots := 0, locals := 48 } : Room) s m ([.ref a_t, .ref a_p1, .ref a_p2, .int p3] : List Value).toArray below meth c H locs 0 0 (MQ below (mQv G [(cI, .int)] A (fun u9 : Unit => [(a_t, .inr (6, [.ref a_t_rows, .ref a_t_lengths, vt_back])), (a_t_rows, .inl (cI, 84, .inl res.1)), (a_t_lengths, .inl (cI, 7, .inl res.2)), (a_p1, .inr (4, [.ref a_p1_words, .int p1_length, .int p1_urgency])), (a_p1_words, .inl (cI, 12, .inl p1_words)), (a_p2, .inr (2, [.ref a_p2_meanings, .ref a_p2_ears, vp2_fees, vp2_missed, vp2_paid, vp2_losses])), (a_p2_meanings, .inl (cI, 180, .inl p2_meanings)), (a_p2_ears, .inl (cI, 6, .inl p2_ears))])) ([.ref a_t, .ref a_p1, .ref a_p2, .int p3] : List Value).toArray s 0 0 A) (F0 m 28 ls [])) ∧ (∀ (x4 : Int32) (s0 : Int32) (t_rows : Nat → Int32) (t_lengths : Nat → Int32) (H : Heap) (locs : List Loc) (hf : rX6_send p3 p1_length p1_words p2_meanings p2_ears n 2 x4 0 0 0 0 0 s0 t_rows t_lengths = some res) (hP : va_P G vwCl [(a_t, .inr (6, [.ref a_t_rows, .ref a_t_lengths, vt_back])), (a_t_rows, .inl (cI, 84, .inl t_rows)), (a_t_lengths, .inl (cI, 7, .inl t_lengths)), (a_p1, .inr (4, [.ref a_p1_words, .int p1_length, .int p1_urgency])), (a_p1_words, .inl (cI, 12, .inl p1_words)), (a_p2, .inr (2, [.ref a_p2_meanings, .ref a_p2_ears, vp2_fees, vp2_missed, vp2_paid, vp2_losses])), (a_p2_meanings, .inl (cI, 180, .inl p2_meanings)), (a_p2_ears, .inl (cI, 6, .inl p2_ears))] H) (hD : va_D A [(a_t, .inr (6, [.ref a_t_rows, .ref a_t_lengths, vt_back])), (a_t_rows, .inl (cI, 84, .inl t_rows)), (a_t_lengths, .inl (cI, 7, .inl t_lengths)), (a_p1, .inr (4, [.ref a_p1_words, .int p1_length, .int p1_urgency])), (a_p1_words, .inl (cI, 12, .inl p1_words)), (a_p2, .inr (2, [.ref a_p2_meanings, .ref a_p2_ears, vp2_fees, vp2_missed, vp2_paid, vp2_losses])), (a_p2_meanings, .inl (cI, 180, .inl p2_meanings)), (a_p2_ears, .inl (cI, 6, .inl p2_ears))]) (hS : va_S A s.heap H locs) (ls : Array Slot) (hl : lv_has ls 10 [(0, .ref a_t), (2, .ref a_p2), (3, .int p3), (4, .int x4)]), W p l e ({ frames := 2, cells := 0, slots := 0, locals := 48 } : Room) s m ([.ref a_t, .ref a_p1, .ref a_p2, .int p3] : List Value).toArray below meth c H locs 0 0 (MQ below (mQv G [(cI, .int)] A (fun u9 : Unit => [(a_t, .inr (6, [.ref a_t_rows, .ref a_t_lengths, vt_back])), (a_t_rows, .inl (cI, 84, .inl res.1)), (a_t_lengths, .inl (cI, 7, .inl res.2)), (a_p1, .inr (4, [.ref a_p1_words, .int p1_length, .int p1_urgency])), (a_p1_words, .inl (cI, 12, .inl p1_words)), (a_p2, .inr (2, [.ref a_p2_meanings, .ref a_p2_ears, vp2_fees, vp2_missed, vp2_paid, vp2_losses])), (a_p2_meanings, .inl (cI, 180, .inl p2_meanings)), (a_p2_ears, .inl (cI, 6, .inl p2_ears))])) ([.ref a_t, .ref a_p1, .ref a_p2, .int p3] : List Value).toArray s 0 0 A) (F0 m 52 ls [.int s0])) ∧ (∀ (x4 : Int32) (x5 : Int32) (x6 : Int32) (x7 : Int32) (x8 : Int32) (x9 : Int32) (t_rows : Nat → Int32) (t_lengths : Nat → Int32) (H : Heap) (locs : List Loc) (hf : rX6_send p3 p1_length p1_words p2_meanings p2_ears n 3 x4 x5 x6 x7 x8 x9 0 t_rows t_lengths = some res) (hP : va_P G vwCl [(a_t, .inr (6, [.ref a_t_rows, .ref a_t_lengths, vt_back])), (a_t_rows, .inl (cI, 84, .inl t_rows)), (a_t_lengths, .inl (cI, 7, .inl t_lengths)), (a_p1, .inr (4, [.ref a_p1_words, .int p1_length, .int p1_urgency])), (a_p1_words, .inl (cI, 12, .inl p1_words)), (a_p2, .inr (2, [.ref a_p2_meanings, .ref a_p2_ears, vp2_fees, vp2_missed, vp2_paid, vp2_losses])), (a_p2_meanings, .inl (cI, 180, .inl p2_meanings)), (a_p2_ears, .inl (cI, 6, .inl p2_ears))] H) (hD : va_D A [(a_t, .inr (6, [.ref a_t_rows, .ref a_t_lengths, vt_back])), (a_t_rows, .inl (cI, 84, .inl t_rows)), (a_t_lengths, .inl (cI, 7, .inl t_lengths)), (a_p1, .inr (4, [.ref a_p1_words, .int p1_length, .int p1_urgency])), (a_p1_words, .inl (cI, 12, .inl p1_words)), (a_p2, .inr (2, [.ref a_p2_meanings, .ref a_p2_ears, vp2_fees, vp2_missed, vp2_paid, vp2_losses])), (a_p2_meanings, .inl (cI, 180, .inl p2_meanings)), (a_p2_ears, .inl (cI, 6, .inl p2_ears))]) (hS : va_S A s.heap H locs) (ls : Array Slot) (hl : lv_has ls 10 [(0, .ref a_t), (2, .ref a_p2), (3, .int p3), (4, .int x4), (5, .int x5), (6, .int x6), (7, .int x7), (8, .int x8), (9, .int x9)]), W p l e ({ frames := 2, cells := 0, slots := 0, locals := 48 } : Room) s m ([.ref a_t, .ref a_p1, .ref a_p2, .int p3] : List Value).toArray below meth c H locs 0 0 (MQ below (mQv G [(cI, .int)] A (fun u9 : Unit => [(a_t, .inr (6, [.ref a_t_rows, .ref a_t_lengths, vt_back])), (a_t_rows, .inl (cI, 84, .inl res.1)), (a_t_lengths, .inl (cI, 7, .inl res.2)), (a_p1, .inr (4, [.ref a_p1_words, .int p1_length, .int p1_urgency])), (a_p1_words, .inl (cI, 12, .inl p1_words)), (a_p2, .inr (2, [.ref a_p2_meanings, .ref a_p2_ears, vp2_fees, vp2_missed, vp2_paid, vp2_losses])), (a_p2_meanings, .inl (cI, 180, .inl p2_meanings)), (a_p2_ears, .inl (cI, 6, .inl p2_ears))])) ([.ref a_t, .ref a_p1, .ref a_p2, .int p3] : List Value).toArray s 0 0 A) (F0 m 74 ls [])) := by
    intro n
    induction n with
    | zero => exact ⟨(fun _ _ _ H locs hf => (by cases hf)), (fun _ _ _ _ H locs hf => (by cases hf)), (fun _ _ _ _ _ _ _ _ H locs hf => (by cases hf))⟩
    | succ n ih =>
      refine ⟨?_, ?_, ?_⟩
      · intro  x4 t_rows t_lengths H locs hf hP hD hS ls hl
        replace hf : bX6_send_1 p3 p1_length p1_words p2_meanings p2_ears (rX6_send p3 p1_length p1_words p2_meanings p2_ears n) x4 0 0 0 0 0 0 t_rows t_lengths = some res := hf
        unfold bX6_send_1 at hf
        refine lv_iload hx hb dX6_send_28 (lv_at hl 3 rfl) ?_
        refine lv_bipush (v := 6) hx hb dX6_send_30 (by decide) ?_
        refine lv_icmp_ge (tgt := 150) hx hb dX6_send_32 (by decide) (fun c1 => ?_) (fun c1 => ?_)
        · have hf := pf_t hf c1
          obtain rfl := Option.some.inj hf
          exact mEnd_v () hx hb hr hlocks hP hK hD hS rfl (Nat.le_of_ble_eq_true rfl) (Nat.le_of_ble_eq_true rfl) dX6_send_150
        · have hf := pf_f hf c1
          refine lv_iload hx hb dX6_send_35 (lv_at hl 3 rfl) ?_
          refine lv_iload_n hx hb dX6_send_37 rfl (lv_at hl 2 rfl) ?_
          refine lv_icmp_ne (tgt := 45) hx hb dX6_send_38 (by decide) (fun c2 => ?_) (fun c2 => ?_)
          · have hf := pf_f hf c2
            refine lv_aload_n hx hb dX6_send_45 rfl (lv_at hl 1 rfl) ?_
            refine va_get (D := G) (ci := 2) (v := .ref a_p2_ears) (C := RX2) (T := TX2) (N := 6) hx hb hts iwX6_send_X2 hown hK hP 5 rfl rfl 1 (by decide) k1 (fun _ h9 => h9) rfl dX6_send_46 ?_
            refine lv_iload hx hb dX6_send_49 (lv_at hl 3 rfl) ?_
            obtain ⟨q3, hf⟩ := pf_k hf
            refine va_iald hx hb hK hP 7 0 rfl rfl q3 dX6_send_51 ?_
            exact ih.2.1 x4 (p2_ears x4.toNatClampNeg) t_rows t_lengths H locs hf hP hD hS ls (lv_sub hl [0, 1, 2, 3] rfl)
          · have hf := pf_t hf c2
            refine lv_iconst (v := 0) hx hb dX6_send_41 (by decide) ?_
            refine lv_goto (tgt := 52) hx hb dX6_send_42 (by decide) ?_
            exact ih.2.1 x4 (0 : Int32) t_rows t_lengths H locs hf hP hD hS ls (lv_sub hl [0, 1, 2, 3] rfl)
      · intro  x4 s0 t_rows t_lengths H locs hf hP hD hS ls hl
        replace hf : bX6_send_2 p3 p1_length p1_words p2_meanings p2_ears (rX6_send p3 p1_length p1_words p2_meanings p2_ears n) x4 0 0 0 0 0 s0 t_rows t_lengths = some res := hf
        unfold bX6_send_2 at hf
        refine lv_istore (lv' := [(5, .int s0), (0, .ref a_t), (2, .ref a_p2), (3, .int p3), (4, .int x4)]) hx hb dX6_send_52 hl (by decide) rfl (fun ls hl => ?_)
        refine lv_iload hx hb dX6_send_54 (lv_at hl 4 rfl) ?_
        refine lv_bipush (v := 12) hx hb dX6_send_56 (by decide) ?_
        refine lv_imul hx hb dX6_send_58 ?_
        refine lv_istore (lv' := [(6, .int (x4 * (12 : Int32))), (5, .int s0), (0, .ref a_t), (2, .ref a_p2), (3, .int p3), (4, .int x4)]) hx hb dX6_send_59 hl (by decide) rfl (fun ls hl => ?_)
        refine lv_iload hx hb dX6_send_61 (lv_at hl 0 rfl) ?_
        refine lv_bipush (v := 12) hx hb dX6_send_63 (by decide) ?_
        refine lv_iadd hx hb dX6_send_65 ?_
        refine lv_topi (fun y4 ey4 => ?_)
        have hf := pf_l hf y4 ey4
        refine lv_istore (lv' := [(7, .int y4), (6, .int (x4 * (12 : Int32))), (5, .int s0), (0, .ref a_t), (2, .ref a_p2), (3, .int p3), (4, .int x4)]) hx hb dX6_send_66 hl (by decide) rfl (fun ls hl => ?_)
        refine lv_iconst (v := 0) hx hb dX6_send_68 (by decide) ?_
        refine lv_istore (lv' := [(8, .int 0), (7, .int y4), (6, .int (x4 * (12 : Int32))), (5, .int s0), (0, .ref a_t), (2, .ref a_p2), (3, .int p3), (4, .int x4)]) hx hb dX6_send_69 hl (by decide) rfl (fun ls hl => ?_)
        refine lv_iconst (v := 0) hx hb dX6_send_71 (by decide) ?_
        refine lv_istore (lv' := [(9, .int 0), (8, .int 0), (7, .int y4), (6, .int (x4 * (12 : Int32))), (5, .int s0), (0, .ref a_t), (2, .ref a_p2), (3, .int p3), (4, .int x4)]) hx hb dX6_send_72 hl (by decide) rfl (fun ls hl => ?_)
        exact ih.2.2 x4 s0 (x4 * (12 : Int32)) y4 (0 : Int32) (0 : Int32) t_rows t_lengths H locs hf hP hD hS ls (lv_sub hl [5, 6, 7, 8, 4, 3, 2, 1, 0] rfl)
      · intro  x4 x5 x6 x7 x8 x9 t_rows t_lengths H locs hf hP hD hS ls hl
        replace hf : bX6_send_3 p3 p1_length p1_words p2_meanings p2_ears (rX6_send p3 p1_length p1_words p2_meanings p2_ears n) x4 x5 x6 x7 x8 x9 0 t_rows t_lengths = some res := hf
        unfold bX6_send_3 at hf
        refine lv_iload hx hb dX6_send_74 (lv_at hl 8 rfl) ?_
        refine lv_aload_n hx hb dX6_send_76 rfl (lv_at hl 0 rfl) ?_
        refine va_get (D := G) (ci := 6) (v := .ref a_t_lengths) (C := RX6) (T := TX6) (N := 3) hx hb hts iwX6_send_X6 hown hK hP 0 rfl rfl 1 (by decide) k2 (fun _ h9 => h9) rfl dX6_send_77 ?_
        refine lv_iload hx hb dX6_send_80 (lv_at hl 3 rfl) ?_
        obtain ⟨q5, hf⟩ := pf_k hf
        refine va_iald hx hb hK hP 2 0 rfl rfl q5 dX6_send_82 ?_
        refine lv_icmp_ge (tgt := 133) hx hb dX6_send_83 (by decide) (fun c6 => ?_) (fun c6 => ?_)
        · have hf := pf_t hf c6
          refine lv_aload_n hx hb dX6_send_133 rfl (lv_at hl 0 rfl) ?_
          refine va_get (D := G) (ci := 6) (v := .ref a_t_lengths) (C := RX6) (T := TX6) (N := 3) hx hb hts iwX6_send_X6 hown hK hP 0 rfl rfl 1 (by decide) k2 (fun _ h9 => h9) rfl dX6_send_134 ?_
          refine lv_iload hx hb dX6_send_137 (lv_at hl 3 rfl) ?_
          refine lv_iconst (v := 1) hx hb dX6_send_139 (by decide) ?_
          refine lv_iadd hx hb dX6_send_140 ?_
          refine lv_iload hx hb dX6_send_141 (lv_at hl 7 rfl) ?_
          obtain ⟨q7, hf⟩ := pf_k hf
          refine va_iast hx hb hK hP hD hS 2 0 rfl rfl q7 dX6_send_143 (fun H locs hP hD hS => ?_)
          obtain ⟨f8, ef8⟩ : ∃ z : Nat → Int32, z = upd t_lengths (x4 + (1 : Int32)).toNatClampNeg x8 := ⟨_, rfl⟩
          have hf := pf_l hf f8 ef8
          have hP : va_P G vwCl [(a_t, .inr (6, [.ref a_t_rows, .ref a_t_lengths, vt_back])), (a_t_rows, .inl (cI, 84, .inl t_rows)), (a_t_lengths, .inl (cI, 7, .inl f8)), (a_p1, .inr (4, [.ref a_p1_words, .int p1_length, .int p1_urgency])), (a_p1_words, .inl (cI, 12, .inl p1_words)), (a_p2, .inr (2, [.ref a_p2_meanings, .ref a_p2_ears, vp2_fees, vp2_missed, vp2_paid, vp2_losses])), (a_p2_meanings, .inl (cI, 180, .inl p2_meanings)), (a_p2_ears, .inl (cI, 6, .inl p2_ears))] H := by rw [ef8]; exact hP
          have hD : va_D A [(a_t, .inr (6, [.ref a_t_rows, .ref a_t_lengths, vt_back])), (a_t_rows, .inl (cI, 84, .inl t_rows)), (a_t_lengths, .inl (cI, 7, .inl f8)), (a_p1, .inr (4, [.ref a_p1_words, .int p1_length, .int p1_urgency])), (a_p1_words, .inl (cI, 12, .inl p1_words)), (a_p2, .inr (2, [.ref a_p2_meanings, .ref a_p2_ears, vp2_fees, vp2_missed, vp2_paid, vp2_losses])), (a_p2_meanings, .inl (cI, 180, .inl p2_meanings)), (a_p2_ears, .inl (cI, 6, .inl p2_ears))] := by rw [ef8]; exact hD
          refine lv_iinc (v := x4 + 1) (lv' := [(4, .int (x4 + 1)), (0, .ref a_t), (2, .ref a_p2), (3, .int p3), (5, .int x5), (6, .int x6), (7, .int x7), (8, .int x8), (9, .int x9)]) hx hb dX6_send_144 hl (k := 3) rfl rfl (by decide) rfl (fun ls hl => ?_)
          refine lv_goto (tgt := 28) hx hb dX6_send_147 (by decide) ?_
          exact ih.1 (x4 + 1) t_rows f8 H locs hf hP hD hS ls (lv_sub hl [1, 2, 3, 0] rfl)
        · have hf := pf_f hf c6
          refine lv_iload hx hb dX6_send_86 (lv_at hl 4 rfl) ?_
          refine lv_iload hx hb dX6_send_88 (lv_at hl 8 rfl) ?_
          refine lv_iconst (v := 1) hx hb dX6_send_90 (by decide) ?_
          refine lv_iadd hx hb dX6_send_91 ?_
          obtain ⟨u9, hu9, hf⟩ := pf_b hf
          refine mCallS_i (As := [.int x5, .int (x9 + (1 : Int32))]) ⟨hx, hb, hml, hown, hts⟩ (mX6_misses l G cI H.size x5 (x9 + (1 : Int32)) _ hu9) (va_cwS 2 hts gX6_send_X6_misses rfl rfl rfl (by decide +kernel) ⟨Nat.le_of_ble_eq_true rfl, Nat.le_of_ble_eq_true rfl⟩) hP hD hS hA hK [] rfl (by decide) [] (fun _ => rfl) rfl (fun _ => [(a_t, .inr (6, [.ref a_t_rows, .ref a_t_lengths, vt_back])), (a_t_rows, .inl (cI, 84, .inl t_rows)), (a_t_lengths, .inl (cI, 7, .inl t_lengths)), (a_p1, .inr (4, [.ref a_p1_words, .int p1_length, .int p1_urgency])), (a_p1_words, .inl (cI, 12, .inl p1_words)), (a_p2, .inr (2, [.ref a_p2_meanings, .ref a_p2_ears, vp2_fees, vp2_missed, vp2_paid, vp2_losses])), (a_p2_meanings, .inl (cI, 180, .inl p2_meanings)), (a_p2_ears, .inl (cI, 6, .inl p2_ears))]) [a_t, a_t_rows, a_t_lengths, a_p1, a_p1_words, a_p2, a_p2_meanings, a_p2_ears] (fun _ => rfl) rfl (fun _ => rfl) [0, 1, 2, 3, 4, 5, 6, 7] [(a_t, .inr (6, [.ref a_t_rows, .ref a_t_lengths, vt_back])), (a_t_rows, .inl (cI, 84, .inl t_rows)), (a_t_lengths, .inl (cI, 7, .inl t_lengths)), (a_p1, .inr (4, [.ref a_p1_words, .int p1_length, .int p1_urgency])), (a_p1_words, .inl (cI, 12, .inl p1_words)), (a_p2, .inr (2, [.ref a_p2_meanings, .ref a_p2_ears, vp2_fees, vp2_missed, vp2_paid, vp2_losses])), (a_p2_meanings, .inl (cI, 180, .inl p2_meanings)), (a_p2_ears, .inl (cI, 6, .inl p2_ears))] (fun _ => rfl) rfl 8 rfl rfl rfl hl.1 rfl (lv_room (Nat.le_of_ble_eq_true rfl)) dX6_send_92 ⟨Nat.zero_le _, Nat.zero_le _⟩ (fun _ H locs hP hD hS => ?_)
          have hP : va_P G vwCl [(a_t, .inr (6, [.ref a_t_rows, .ref a_t_lengths, vt_back])), (a_t_rows, .inl (cI, 84, .inl t_rows)), (a_t_lengths, .inl (cI, 7, .inl t_lengths)), (a_p1, .inr (4, [.ref a_p1_words, .int p1_length, .int p1_urgency])), (a_p1_words, .inl (cI, 12, .inl p1_words)), (a_p2, .inr (2, [.ref a_p2_meanings, .ref a_p2_ears, vp2_fees, vp2_missed, vp2_paid, vp2_losses])), (a_p2_meanings, .inl (cI, 180, .inl p2_meanings)), (a_p2_ears, .inl (cI, 6, .inl p2_ears))] H := hP
          have hD : va_D A [(a_t, .inr (6, [.ref a_t_rows, .ref a_t_lengths, vt_back])), (a_t_rows, .inl (cI, 84, .inl t_rows)), (a_t_lengths, .inl (cI, 7, .inl t_lengths)), (a_p1, .inr (4, [.ref a_p1_words, .int p1_length, .int p1_urgency])), (a_p1_words, .inl (cI, 12, .inl p1_words)), (a_p2, .inr (2, [.ref a_p2_meanings, .ref a_p2_ears, vp2_fees, vp2_missed, vp2_paid, vp2_losses])), (a_p2_meanings, .inl (cI, 180, .inl p2_meanings)), (a_p2_ears, .inl (cI, 6, .inl p2_ears))] := hD
          refine lv_if_ne (tgt := 127) hx hb dX6_send_95 (by decide) (fun c10 => ?_) (fun c10 => ?_)
          · have hf := pf_f hf c10
            refine lv_iinc (v := x9 + 1) (lv' := [(9, .int (x9 + 1)), (0, .ref a_t), (2, .ref a_p2), (3, .int p3), (4, .int x4), (5, .int x5), (6, .int x6), (7, .int x7), (8, .int x8)]) hx hb dX6_send_127 hl (k := 8) rfl rfl (by decide) rfl (fun ls hl => ?_)
            refine lv_goto (tgt := 74) hx hb dX6_send_130 (by decide) ?_
            exact ih.2.2 x4 x5 x6 x7 x8 (x9 + 1) t_rows t_lengths H locs hf hP hD hS ls (lv_sub hl [1, 2, 3, 4, 5, 6, 7, 8, 0] rfl)
          · have hf := pf_t hf c10
            refine lv_aload_n hx hb dX6_send_98 rfl (lv_at hl 0 rfl) ?_
            refine va_get (D := G) (ci := 6) (v := .ref a_t_rows) (C := RX6) (T := TX6) (N := 3) hx hb hts iwX6_send_X6 hown hK hP 0 rfl rfl 0 (by decide) k3 (fun _ h9 => h9) rfl dX6_send_99 ?_
            refine lv_iload hx hb dX6_send_102 (lv_at hl 6 rfl) ?_
            refine lv_iload hx hb dX6_send_104 (lv_at hl 7 rfl) ?_
            refine lv_iadd hx hb dX6_send_106 ?_
            refine lv_aload_n hx hb dX6_send_107 rfl (lv_at hl 1 rfl) ?_
            refine lv_iload hx hb dX6_send_108 (lv_at hl 3 rfl) ?_
            refine lv_aload_n hx hb dX6_send_110 rfl (lv_at hl 0 rfl) ?_
            refine va_get (D := G) (ci := 6) (v := .ref a_t_rows) (C := RX6) (T := TX6) (N := 3) hx hb hts iwX6_send_X6 hown hK hP 0 rfl rfl 0 (by decide) k3 (fun _ h9 => h9) rfl dX6_send_111 ?_
            refine lv_iload hx hb dX6_send_114 (lv_at hl 5 rfl) ?_
            refine lv_iload hx hb dX6_send_116 (lv_at hl 8 rfl) ?_
            refine lv_iadd hx hb dX6_send_118 ?_
            obtain ⟨q11, hf⟩ := pf_k hf
            refine va_iald hx hb hK hP 1 0 rfl rfl q11 dX6_send_119 ?_
            obtain ⟨u12, hu12, hf⟩ := pf_b hf
            refine mCallV_i (As := [.int x4, .int (t_rows (x6 + x9).toNatClampNeg)]) ⟨hx, hb, hml, hown, hts⟩ (mX2_saidFor l G cI a_p2 a_p2_meanings H.size (.ref a_p2_ears) vp2_fees vp2_missed vp2_paid vp2_losses p2_meanings x4 (t_rows (x6 + x9).toNatClampNeg) _ hu12) (cwV 2 hts gX6_send_X2_saidFor rfl rfl rfl (by decide +kernel) ⟨Nat.le_of_ble_eq_true rfl, Nat.le_of_ble_eq_true rfl⟩) hP hD hS hA hK [5, 6] rfl (by decide) 5 2 rfl rfl rfl hK [a_p2, a_p2_meanings] (fun _ => rfl) rfl (fun _ => [(a_t, .inr (6, [.ref a_t_rows, .ref a_t_lengths, vt_back])), (a_t_rows, .inl (cI, 84, .inl t_rows)), (a_t_lengths, .inl (cI, 7, .inl t_lengths)), (a_p1, .inr (4, [.ref a_p1_words, .int p1_length, .int p1_urgency])), (a_p1_words, .inl (cI, 12, .inl p1_words)), (a_p2, .inr (2, [.ref a_p2_meanings, .ref a_p2_ears, vp2_fees, vp2_missed, vp2_paid, vp2_losses])), (a_p2_meanings, .inl (cI, 180, .inl p2_meanings)), (a_p2_ears, .inl (cI, 6, .inl p2_ears))]) [a_t, a_t_rows, a_t_lengths, a_p1, a_p1_words, a_p2, a_p2_meanings, a_p2_ears] (fun _ => rfl) rfl (fun _ => rfl) [0, 1, 2, 3, 4, 7] [(a_t, .inr (6, [.ref a_t_rows, .ref a_t_lengths, vt_back])), (a_t_rows, .inl (cI, 84, .inl t_rows)), (a_t_lengths, .inl (cI, 7, .inl t_lengths)), (a_p1, .inr (4, [.ref a_p1_words, .int p1_length, .int p1_urgency])), (a_p1_words, .inl (cI, 12, .inl p1_words)), (a_p2_ears, .inl (cI, 6, .inl p2_ears))] (fun _ => rfl) rfl 8 rfl rfl rfl hl.1 rfl (lv_room (Nat.le_of_ble_eq_true rfl)) dX6_send_120 ⟨Nat.zero_le _, Nat.zero_le _⟩ (fun _ H locs hP hD hS => ?_)
            have hP : va_P G vwCl [(a_t, .inr (6, [.ref a_t_rows, .ref a_t_lengths, vt_back])), (a_t_rows, .inl (cI, 84, .inl t_rows)), (a_t_lengths, .inl (cI, 7, .inl t_lengths)), (a_p1, .inr (4, [.ref a_p1_words, .int p1_length, .int p1_urgency])), (a_p1_words, .inl (cI, 12, .inl p1_words)), (a_p2, .inr (2, [.ref a_p2_meanings, .ref a_p2_ears, vp2_fees, vp2_missed, vp2_paid, vp2_losses])), (a_p2_meanings, .inl (cI, 180, .inl p2_meanings)), (a_p2_ears, .inl (cI, 6, .inl p2_ears))] H := hP
            have hD : va_D A [(a_t, .inr (6, [.ref a_t_rows, .ref a_t_lengths, vt_back])), (a_t_rows, .inl (cI, 84, .inl t_rows)), (a_t_lengths, .inl (cI, 7, .inl t_lengths)), (a_p1, .inr (4, [.ref a_p1_words, .int p1_length, .int p1_urgency])), (a_p1_words, .inl (cI, 12, .inl p1_words)), (a_p2, .inr (2, [.ref a_p2_meanings, .ref a_p2_ears, vp2_fees, vp2_missed, vp2_paid, vp2_losses])), (a_p2_meanings, .inl (cI, 180, .inl p2_meanings)), (a_p2_ears, .inl (cI, 6, .inl p2_ears))] := hD
            obtain ⟨q13, hf⟩ := pf_k hf
            refine va_iast hx hb hK hP hD hS 1 0 rfl rfl q13 dX6_send_123 (fun H locs hP hD hS => ?_)
            obtain ⟨f14, ef14⟩ : ∃ z : Nat → Int32, z = upd t_rows (x7 + x8).toNatClampNeg u12 := ⟨_, rfl⟩
            have hf := pf_l hf f14 ef14
            have hP : va_P G vwCl [(a_t, .inr (6, [.ref a_t_rows, .ref a_t_lengths, vt_back])), (a_t_rows, .inl (cI, 84, .inl f14)), (a_t_lengths, .inl (cI, 7, .inl t_lengths)), (a_p1, .inr (4, [.ref a_p1_words, .int p1_length, .int p1_urgency])), (a_p1_words, .inl (cI, 12, .inl p1_words)), (a_p2, .inr (2, [.ref a_p2_meanings, .ref a_p2_ears, vp2_fees, vp2_missed, vp2_paid, vp2_losses])), (a_p2_meanings, .inl (cI, 180, .inl p2_meanings)), (a_p2_ears, .inl (cI, 6, .inl p2_ears))] H := by rw [ef14]; exact hP
            have hD : va_D A [(a_t, .inr (6, [.ref a_t_rows, .ref a_t_lengths, vt_back])), (a_t_rows, .inl (cI, 84, .inl f14)), (a_t_lengths, .inl (cI, 7, .inl t_lengths)), (a_p1, .inr (4, [.ref a_p1_words, .int p1_length, .int p1_urgency])), (a_p1_words, .inl (cI, 12, .inl p1_words)), (a_p2, .inr (2, [.ref a_p2_meanings, .ref a_p2_ears, vp2_fees, vp2_missed, vp2_paid, vp2_losses])), (a_p2_meanings, .inl (cI, 180, .inl p2_meanings)), (a_p2_ears, .inl (cI, 6, .inl p2_ears))] := by rw [ef14]; exact hD
            refine lv_iinc (v := x8 + 1) (lv' := [(8, .int (x8 + 1)), (0, .ref a_t), (2, .ref a_p2), (3, .int p3), (4, .int x4), (5, .int x5), (6, .int x6), (7, .int x7), (9, .int x9)]) hx hb dX6_send_124 hl (k := 7) rfl rfl (by decide) rfl (fun ls hl => ?_)
            refine lv_iinc (v := x9 + 1) (lv' := [(9, .int (x9 + 1)), (8, .int (x8 + 1)), (0, .ref a_t), (2, .ref a_p2), (3, .int p3), (4, .int x4), (5, .int x5), (6, .int x6), (7, .int x7)]) hx hb dX6_send_127 hl (k := 8) rfl rfl (by decide) rfl (fun ls hl => ?_)
            refine lv_goto (tgt := 74) hx hb dX6_send_130 (by decide) ?_
            exact ih.2.2 x4 x5 x6 x7 (x8 + 1) (x9 + 1) f14 t_lengths H locs hf hP hD hS ls (lv_sub hl [2, 3, 4, 5, 6, 7, 8, 1, 0] rfl)
  unfold fX6_send eX6_send at hf
  obtain ⟨H, hH⟩ : ∃ H : Heap, H = s.heap := ⟨_, rfl⟩
  obtain ⟨locs, hlc⟩ : ∃ z : List Loc, z = [] := ⟨_, rfl⟩
  rw [← hlc, ← hH]
  have hP : va_P G vwCl [(a_t, .inr (6, [.ref a_t_rows, .ref a_t_lengths, vt_back])), (a_t_rows, .inl (cI, 84, .inl t_rows)), (a_t_lengths, .inl (cI, 7, .inl t_lengths)), (a_p1, .inr (4, [.ref a_p1_words, .int p1_length, .int p1_urgency])), (a_p1_words, .inl (cI, 12, .inl p1_words)), (a_p2, .inr (2, [.ref a_p2_meanings, .ref a_p2_ears, vp2_fees, vp2_missed, vp2_paid, vp2_losses])), (a_p2_meanings, .inl (cI, 180, .inl p2_meanings)), (a_p2_ears, .inl (cI, 6, .inl p2_ears))] H := by rw [hH]; exact hP
  have hS : va_S A s.heap H locs := by rw [hlc, hH]; exact hS
  refine lv_aload_n hx hb dX6_send_0 rfl (lv_at hl 1 rfl) ?_
  refine va_get (D := G) (ci := 4) (v := .ref a_p1_words) (C := RX4) (T := TX4) (N := 3) hx hb hts iwX6_send_X4 hown hK hP 3 rfl rfl 0 (by decide) k4 (fun _ h9 => h9) rfl dX6_send_1 ?_
  refine lv_iconst (v := 0) hx hb dX6_send_4 (by decide) ?_
  refine lv_aload_n hx hb dX6_send_5 rfl (lv_at hl 0 rfl) ?_
  refine va_get (D := G) (ci := 6) (v := .ref a_t_rows) (C := RX6) (T := TX6) (N := 3) hx hb hts iwX6_send_X6 hown hK hP 0 rfl rfl 0 (by decide) k3 (fun _ h9 => h9) rfl dX6_send_6 ?_
  refine lv_iconst (v := 0) hx hb dX6_send_9 (by decide) ?_
  refine lv_bipush (v := 12) hx hb dX6_send_10 (by decide) ?_
  refine va_copyi hx hb (hml.trans hl.1.symm) hown k5 k6 k7 k8 hK hP hD hS 4 1 0 0 rfl rfl rfl rfl rfl (by decide) (by decide) (by decide) (by decide +kernel) (by decide +kernel) (fun _ _ => rfl) (Nat.le_of_ble_eq_true rfl) (Nat.le_of_ble_eq_true rfl) dX6_send_12 (fun H locs hP hD hS => ?_)
  obtain ⟨f15, ef15⟩ : ∃ z : Nat → Int32, z = va_cpy p1_words t_rows (0 : Int32).toNatClampNeg (0 : Int32).toNatClampNeg (12 : Int32).toNatClampNeg := ⟨_, rfl⟩
  have hf := pf_l hf f15 ef15
  have hP : va_P G vwCl [(a_t, .inr (6, [.ref a_t_rows, .ref a_t_lengths, vt_back])), (a_t_rows, .inl (cI, 84, .inl f15)), (a_t_lengths, .inl (cI, 7, .inl t_lengths)), (a_p1, .inr (4, [.ref a_p1_words, .int p1_length, .int p1_urgency])), (a_p1_words, .inl (cI, 12, .inl p1_words)), (a_p2, .inr (2, [.ref a_p2_meanings, .ref a_p2_ears, vp2_fees, vp2_missed, vp2_paid, vp2_losses])), (a_p2_meanings, .inl (cI, 180, .inl p2_meanings)), (a_p2_ears, .inl (cI, 6, .inl p2_ears))] H := by rw [ef15]; exact hP
  have hD : va_D A [(a_t, .inr (6, [.ref a_t_rows, .ref a_t_lengths, vt_back])), (a_t_rows, .inl (cI, 84, .inl f15)), (a_t_lengths, .inl (cI, 7, .inl t_lengths)), (a_p1, .inr (4, [.ref a_p1_words, .int p1_length, .int p1_urgency])), (a_p1_words, .inl (cI, 12, .inl p1_words)), (a_p2, .inr (2, [.ref a_p2_meanings, .ref a_p2_ears, vp2_fees, vp2_missed, vp2_paid, vp2_losses])), (a_p2_meanings, .inl (cI, 180, .inl p2_meanings)), (a_p2_ears, .inl (cI, 6, .inl p2_ears))] := by rw [ef15]; exact hD
  refine lv_aload_n hx hb dX6_send_15 rfl (lv_at hl 0 rfl) ?_
  refine va_get (D := G) (ci := 6) (v := .ref a_t_lengths) (C := RX6) (T := TX6) (N := 3) hx hb hts iwX6_send_X6 hown hK hP 0 rfl rfl 1 (by decide) k2 (fun _ h9 => h9) rfl dX6_send_16 ?_
  refine lv_iconst (v := 0) hx hb dX6_send_19 (by decide) ?_
  refine lv_aload_n hx hb dX6_send_20 rfl (lv_at hl 1 rfl) ?_
  refine va_get (D := G) (ci := 4) (v := .int p1_length) (C := RX4) (T := TX4) (N := 3) hx hb hts iwX6_send_X4 hown hK hP 3 rfl rfl 1 (by decide) k9 (fun _ h9 => h9) rfl dX6_send_21 ?_
  refine va_iast hx hb hK hP hD hS 2 0 rfl rfl (vp_lit (by decide +kernel)) dX6_send_24 (fun H locs hP hD hS => ?_)
  obtain ⟨f16, ef16⟩ : ∃ z : Nat → Int32, z = upd t_lengths (0 : Int32).toNatClampNeg p1_length := ⟨_, rfl⟩
  have hf := pf_l hf f16 ef16
  have hP : va_P G vwCl [(a_t, .inr (6, [.ref a_t_rows, .ref a_t_lengths, vt_back])), (a_t_rows, .inl (cI, 84, .inl f15)), (a_t_lengths, .inl (cI, 7, .inl f16)), (a_p1, .inr (4, [.ref a_p1_words, .int p1_length, .int p1_urgency])), (a_p1_words, .inl (cI, 12, .inl p1_words)), (a_p2, .inr (2, [.ref a_p2_meanings, .ref a_p2_ears, vp2_fees, vp2_missed, vp2_paid, vp2_losses])), (a_p2_meanings, .inl (cI, 180, .inl p2_meanings)), (a_p2_ears, .inl (cI, 6, .inl p2_ears))] H := by rw [ef16]; exact hP
  have hD : va_D A [(a_t, .inr (6, [.ref a_t_rows, .ref a_t_lengths, vt_back])), (a_t_rows, .inl (cI, 84, .inl f15)), (a_t_lengths, .inl (cI, 7, .inl f16)), (a_p1, .inr (4, [.ref a_p1_words, .int p1_length, .int p1_urgency])), (a_p1_words, .inl (cI, 12, .inl p1_words)), (a_p2, .inr (2, [.ref a_p2_meanings, .ref a_p2_ears, vp2_fees, vp2_missed, vp2_paid, vp2_losses])), (a_p2_meanings, .inl (cI, 180, .inl p2_meanings)), (a_p2_ears, .inl (cI, 6, .inl p2_ears))] := by rw [ef16]; exact hD
  refine lv_iconst (v := 0) hx hb dX6_send_25 (by decide) ?_
  refine lv_istore (lv' := [(4, .int 0), (0, .ref a_t), (1, .ref a_p1), (2, .ref a_p2), (3, .int p3)]) hx hb dX6_send_26 hl (by decide) rfl (fun ls hl => ?_)
  exact (key fuelN).1 (0 : Int32) f15 f16 H locs hf hP hD hS ls (lv_sub hl [1, 3, 4, 0] rfl)
def fX6_sentWords (t_lengths : Nat → Int32) : Option (Int32) :=
  some ((t_lengths (0 : Int32).toNatClampNeg))
theorem iwX6_sentWords_X6 : ∀ w ∈ u_ws RX6 TX6 3, w ∈ wsX6_sentWords := by decide +kernel
set_option maxHeartbeats 4000000 in
set_option maxRecDepth 100000 in
theorem mX6_sentWords (l : Launch) (G : va_G) (cI : ClassId) (a_t a_t_lengths : Nat) (sz : Nat) (vt_rows vt_back : Value) (t_lengths : Nat → Int32)  (res : Int32) (hf : fX6_sentWords t_lengths = some res) : Met l yX6_sentWords wsX6_sentWords ({ frames := 0, cells := 0, slots := 0, locals := 0 }) (mPc G [(cI, .int)] [.ref a_t] sz [(a_t, .inr (6, [vt_rows, .ref a_t_lengths, vt_back])), (a_t_lengths, .inl (cI, 7, .inl t_lengths))]) (mQi G [(cI, .int)] (va_A [(a_t, .inr (6, [vt_rows, .ref a_t_lengths, vt_back])), (a_t_lengths, .inl (cI, 7, .inl t_lengths))] sz) (fun _ : Unit => res) (fun _ => [(a_t, .inr (6, [vt_rows, .ref a_t_lengths, vt_back])), (a_t_lengths, .inl (cI, 7, .inl t_lengths))])) 0 0 (va_A [(a_t, .inr (6, [vt_rows, .ref a_t_lengths, vt_back])), (a_t_lengths, .inl (cI, 7, .inl t_lengths))] sz) := by
  refine mStart (cc := cX6_sentWords) (maxL := 1) (ret := (some .int)) (by decide) rfl (Nat.le_of_ble_eq_true rfl) ?_
  intro p e s m below meth c A ls hx hb hml hr hts hown hlocks hnm hA hsz hAe hP hK hD hS hl
  have hl : lv_has ls 1 [(0, .ref a_t)] := hl
  rw [hAe]
  have k1 := hts (.fieldLink RX6 15 "DeafChain$Trip" "lengths" "[I") (by decide +kernel)
  unfold fX6_sentWords at hf
  obtain ⟨H, hH⟩ : ∃ H : Heap, H = s.heap := ⟨_, rfl⟩
  obtain ⟨locs, hlc⟩ : ∃ z : List Loc, z = [] := ⟨_, rfl⟩
  rw [← hlc, ← hH]
  have hP : va_P G vwCl [(a_t, .inr (6, [vt_rows, .ref a_t_lengths, vt_back])), (a_t_lengths, .inl (cI, 7, .inl t_lengths))] H := by rw [hH]; exact hP
  have hS : va_S A s.heap H locs := by rw [hlc, hH]; exact hS
  refine lv_aload_n hx hb dX6_sentWords_0 rfl (lv_at hl 0 rfl) ?_
  refine va_get (D := G) (ci := 6) (v := .ref a_t_lengths) (C := RX6) (T := TX6) (N := 3) hx hb hts iwX6_sentWords_X6 hown hK hP 0 rfl rfl 1 (by decide) k1 (fun _ h9 => h9) rfl dX6_sentWords_1 ?_
  refine lv_iconst (v := 0) hx hb dX6_sentWords_4 (by decide) ?_
  refine va_iald hx hb hK hP 1 0 rfl rfl (vp_lit (by decide +kernel)) dX6_sentWords_5 ?_
  obtain rfl := Option.some.inj hf
  exact mEnd_i () hx hb hr hlocks hP hK hD hS rfl rfl (Nat.le_refl _) (Nat.le_refl _) dX6_sentWords_6
def fX6_arrivedWords (t_lengths : Nat → Int32) : Option (Int32) :=
  some ((t_lengths (6 : Int32).toNatClampNeg))
theorem iwX6_arrivedWords_X6 : ∀ w ∈ u_ws RX6 TX6 3, w ∈ wsX6_arrivedWords := by decide +kernel
set_option maxHeartbeats 4000000 in
set_option maxRecDepth 100000 in
theorem mX6_arrivedWords (l : Launch) (G : va_G) (cI : ClassId) (a_t a_t_lengths : Nat) (sz : Nat) (vt_rows vt_back : Value) (t_lengths : Nat → Int32)  (res : Int32) (hf : fX6_arrivedWords t_lengths = some res) : Met l yX6_arrivedWords wsX6_arrivedWords ({ frames := 0, cells := 0, slots := 0, locals := 0 }) (mPc G [(cI, .int)] [.ref a_t] sz [(a_t, .inr (6, [vt_rows, .ref a_t_lengths, vt_back])), (a_t_lengths, .inl (cI, 7, .inl t_lengths))]) (mQi G [(cI, .int)] (va_A [(a_t, .inr (6, [vt_rows, .ref a_t_lengths, vt_back])), (a_t_lengths, .inl (cI, 7, .inl t_lengths))] sz) (fun _ : Unit => res) (fun _ => [(a_t, .inr (6, [vt_rows, .ref a_t_lengths, vt_back])), (a_t_lengths, .inl (cI, 7, .inl t_lengths))])) 0 0 (va_A [(a_t, .inr (6, [vt_rows, .ref a_t_lengths, vt_back])), (a_t_lengths, .inl (cI, 7, .inl t_lengths))] sz) := by
  refine mStart (cc := cX6_arrivedWords) (maxL := 1) (ret := (some .int)) (by decide) rfl (Nat.le_of_ble_eq_true rfl) ?_
  intro p e s m below meth c A ls hx hb hml hr hts hown hlocks hnm hA hsz hAe hP hK hD hS hl
  have hl : lv_has ls 1 [(0, .ref a_t)] := hl
  rw [hAe]
  have k1 := hts (.fieldLink RX6 15 "DeafChain$Trip" "lengths" "[I") (by decide +kernel)
  unfold fX6_arrivedWords at hf
  obtain ⟨H, hH⟩ : ∃ H : Heap, H = s.heap := ⟨_, rfl⟩
  obtain ⟨locs, hlc⟩ : ∃ z : List Loc, z = [] := ⟨_, rfl⟩
  rw [← hlc, ← hH]
  have hP : va_P G vwCl [(a_t, .inr (6, [vt_rows, .ref a_t_lengths, vt_back])), (a_t_lengths, .inl (cI, 7, .inl t_lengths))] H := by rw [hH]; exact hP
  have hS : va_S A s.heap H locs := by rw [hlc, hH]; exact hS
  refine lv_aload_n hx hb dX6_arrivedWords_0 rfl (lv_at hl 0 rfl) ?_
  refine va_get (D := G) (ci := 6) (v := .ref a_t_lengths) (C := RX6) (T := TX6) (N := 3) hx hb hts iwX6_arrivedWords_X6 hown hK hP 0 rfl rfl 1 (by decide) k1 (fun _ h9 => h9) rfl dX6_arrivedWords_1 ?_
  refine lv_bipush (v := 6) hx hb dX6_arrivedWords_4 (by decide) ?_
  refine va_iald hx hb hK hP 1 0 rfl rfl (vp_lit (by decide +kernel)) dX6_arrivedWords_6 ?_
  obtain rfl := Option.some.inj hf
  exact mEnd_i () hx hb hr hlocks hP hK hD hS rfl rfl (Nat.le_refl _) (Nat.le_refl _) dX6_arrivedWords_7
def fX6_copyArrived (t_rows : Nat → Int32) (p1 : Nat → Int32) : Option ((Nat → Int32)) :=
  (lt (va_cpy t_rows p1 (72 : Int32).toNatClampNeg (0 : Int32).toNatClampNeg (12 : Int32).toNatClampNeg) fun (f1 : Nat → Int32) => some (f1))
theorem iwX6_copyArrived_X6 : ∀ w ∈ u_ws RX6 TX6 3, w ∈ wsX6_copyArrived := by decide +kernel
set_option maxHeartbeats 4000000 in
set_option maxRecDepth 100000 in
theorem mX6_copyArrived (l : Launch) (G : va_G) (cI : ClassId) (a_t a_t_rows a_p1 : Nat) (sz : Nat) (vt_lengths vt_back : Value) (t_rows : Nat → Int32) (p1 : Nat → Int32)  (res : (Nat → Int32)) (hf : fX6_copyArrived t_rows p1 = some res) : Met l yX6_copyArrived wsX6_copyArrived ({ frames := 1, cells := 0, slots := 0, locals := 48 }) (mPc G [(cI, .int)] [.ref a_t, .ref a_p1] sz [(a_t, .inr (6, [.ref a_t_rows, vt_lengths, vt_back])), (a_t_rows, .inl (cI, 84, .inl t_rows)), (a_p1, .inl (cI, 72, .inl p1))]) (mQv G [(cI, .int)] (va_A [(a_t, .inr (6, [.ref a_t_rows, vt_lengths, vt_back])), (a_t_rows, .inl (cI, 84, .inl t_rows)), (a_p1, .inl (cI, 72, .inl p1))] sz) (fun u9 : Unit => [(a_t, .inr (6, [.ref a_t_rows, vt_lengths, vt_back])), (a_t_rows, .inl (cI, 84, .inl t_rows)), (a_p1, .inl (cI, 72, .inl res))])) 0 0 (va_A [(a_t, .inr (6, [.ref a_t_rows, vt_lengths, vt_back])), (a_t_rows, .inl (cI, 84, .inl t_rows)), (a_p1, .inl (cI, 72, .inl p1))] sz) := by
  refine mStart (cc := cX6_copyArrived) (maxL := 2) (ret := none) (by decide) rfl (Nat.le_of_ble_eq_true rfl) ?_
  intro p e s m below meth c A ls hx hb hml hr hts hown hlocks hnm hA hsz hAe hP hK hD hS hl
  have hl : lv_has ls 2 [(0, .ref a_t), (1, .ref a_p1)] := hl
  rw [hAe]
  have k1 := hts (.fieldLink RX6 9 "DeafChain$Trip" "rows" "[I") (by decide +kernel)
  have k2 := hts (.methodLink RX6 26 arraycopyName) (by decide +kernel)
  have k3 := hts (.native arraycopyName) (by decide +kernel)
  have k4 := hts (.static arraycopyName) (by decide +kernel)
  have k5 := hts (.initialized "java/lang/System") (by decide +kernel)
  unfold fX6_copyArrived at hf
  obtain ⟨H, hH⟩ : ∃ H : Heap, H = s.heap := ⟨_, rfl⟩
  obtain ⟨locs, hlc⟩ : ∃ z : List Loc, z = [] := ⟨_, rfl⟩
  rw [← hlc, ← hH]
  have hP : va_P G vwCl [(a_t, .inr (6, [.ref a_t_rows, vt_lengths, vt_back])), (a_t_rows, .inl (cI, 84, .inl t_rows)), (a_p1, .inl (cI, 72, .inl p1))] H := by rw [hH]; exact hP
  have hS : va_S A s.heap H locs := by rw [hlc, hH]; exact hS
  refine lv_aload_n hx hb dX6_copyArrived_0 rfl (lv_at hl 0 rfl) ?_
  refine va_get (D := G) (ci := 6) (v := .ref a_t_rows) (C := RX6) (T := TX6) (N := 3) hx hb hts iwX6_copyArrived_X6 hown hK hP 0 rfl rfl 0 (by decide) k1 (fun _ h9 => h9) rfl dX6_copyArrived_1 ?_
  refine lv_bipush (v := 72) hx hb dX6_copyArrived_4 (by decide) ?_
  refine lv_aload_n hx hb dX6_copyArrived_6 rfl (lv_at hl 1 rfl) ?_
  refine lv_iconst (v := 0) hx hb dX6_copyArrived_7 (by decide) ?_
  refine lv_bipush (v := 12) hx hb dX6_copyArrived_8 (by decide) ?_
  refine va_copyi hx hb (hml.trans hl.1.symm) hown k2 k3 k4 k5 hK hP hD hS 1 2 0 0 rfl rfl rfl rfl rfl (by decide) (by decide) (by decide) (by decide +kernel) (by decide +kernel) (fun _ _ => rfl) (Nat.le_of_ble_eq_true rfl) (Nat.le_of_ble_eq_true rfl) dX6_copyArrived_10 (fun H locs hP hD hS => ?_)
  obtain ⟨f1, ef1⟩ : ∃ z : Nat → Int32, z = va_cpy t_rows p1 (72 : Int32).toNatClampNeg (0 : Int32).toNatClampNeg (12 : Int32).toNatClampNeg := ⟨_, rfl⟩
  have hf := pf_l hf f1 ef1
  have hP : va_P G vwCl [(a_t, .inr (6, [.ref a_t_rows, vt_lengths, vt_back])), (a_t_rows, .inl (cI, 84, .inl t_rows)), (a_p1, .inl (cI, 72, .inl f1))] H := by rw [ef1]; exact hP
  have hD : va_D A [(a_t, .inr (6, [.ref a_t_rows, vt_lengths, vt_back])), (a_t_rows, .inl (cI, 84, .inl t_rows)), (a_p1, .inl (cI, 72, .inl f1))] := by rw [ef1]; exact hD
  obtain rfl := Option.some.inj hf
  exact mEnd_v () hx hb hr hlocks hP hK hD hS rfl (Nat.le_of_ble_eq_true rfl) (Nat.le_of_ble_eq_true rfl) dX6_copyArrived_13
def fX6_wordsBehind (p1 : Int32) (t_lengths : Nat → Int32) : Option (Int32) :=
  (if (p1 + (1 : Int32)) < 0 ∨ 7 ≤ (p1 + (1 : Int32)).toNatClampNeg then none else some ((t_lengths (p1 + (1 : Int32)).toNatClampNeg)))
theorem iwX6_wordsBehind_X6 : ∀ w ∈ u_ws RX6 TX6 3, w ∈ wsX6_wordsBehind := by decide +kernel
set_option maxHeartbeats 4000000 in
set_option maxRecDepth 100000 in
theorem mX6_wordsBehind (l : Launch) (G : va_G) (cI : ClassId) (a_t a_t_lengths : Nat) (sz : Nat) (vt_rows vt_back : Value) (t_lengths : Nat → Int32) (p1 : Int32) (res : Int32) (hf : fX6_wordsBehind p1 t_lengths = some res) : Met l yX6_wordsBehind wsX6_wordsBehind ({ frames := 0, cells := 0, slots := 0, locals := 0 }) (mPc G [(cI, .int)] [.ref a_t, .int p1] sz [(a_t, .inr (6, [vt_rows, .ref a_t_lengths, vt_back])), (a_t_lengths, .inl (cI, 7, .inl t_lengths))]) (mQi G [(cI, .int)] (va_A [(a_t, .inr (6, [vt_rows, .ref a_t_lengths, vt_back])), (a_t_lengths, .inl (cI, 7, .inl t_lengths))] sz) (fun _ : Unit => res) (fun _ => [(a_t, .inr (6, [vt_rows, .ref a_t_lengths, vt_back])), (a_t_lengths, .inl (cI, 7, .inl t_lengths))])) 0 0 (va_A [(a_t, .inr (6, [vt_rows, .ref a_t_lengths, vt_back])), (a_t_lengths, .inl (cI, 7, .inl t_lengths))] sz) := by
  refine mStart (cc := cX6_wordsBehind) (maxL := 2) (ret := (some .int)) (by decide) rfl (Nat.le_of_ble_eq_true rfl) ?_
  intro p e s m below meth c A ls hx hb hml hr hts hown hlocks hnm hA hsz hAe hP hK hD hS hl
  have hl : lv_has ls 2 [(0, .ref a_t), (1, .int p1)] := hl
  rw [hAe]
  have k1 := hts (.fieldLink RX6 15 "DeafChain$Trip" "lengths" "[I") (by decide +kernel)
  unfold fX6_wordsBehind at hf
  obtain ⟨H, hH⟩ : ∃ H : Heap, H = s.heap := ⟨_, rfl⟩
  obtain ⟨locs, hlc⟩ : ∃ z : List Loc, z = [] := ⟨_, rfl⟩
  rw [← hlc, ← hH]
  have hP : va_P G vwCl [(a_t, .inr (6, [vt_rows, .ref a_t_lengths, vt_back])), (a_t_lengths, .inl (cI, 7, .inl t_lengths))] H := by rw [hH]; exact hP
  have hS : va_S A s.heap H locs := by rw [hlc, hH]; exact hS
  refine lv_aload_n hx hb dX6_wordsBehind_0 rfl (lv_at hl 0 rfl) ?_
  refine va_get (D := G) (ci := 6) (v := .ref a_t_lengths) (C := RX6) (T := TX6) (N := 3) hx hb hts iwX6_wordsBehind_X6 hown hK hP 0 rfl rfl 1 (by decide) k1 (fun _ h9 => h9) rfl dX6_wordsBehind_1 ?_
  refine lv_iload_n hx hb dX6_wordsBehind_4 rfl (lv_at hl 1 rfl) ?_
  refine lv_iconst (v := 1) hx hb dX6_wordsBehind_5 (by decide) ?_
  refine lv_iadd hx hb dX6_wordsBehind_6 ?_
  obtain ⟨q1, hf⟩ := pf_k hf
  refine va_iald hx hb hK hP 1 0 rfl rfl q1 dX6_wordsBehind_7 ?_
  obtain rfl := Option.some.inj hf
  exact mEnd_i () hx hb hr hlocks hP hK hD hS rfl rfl (Nat.le_refl _) (Nat.le_refl _) dX6_wordsBehind_8
def bX6_mumblesBehind_1 (p1 : Int32) (t_rows : Nat → Int32) (t_lengths : Nat → Int32) (k : Nat → Int32 → Int32 → Int32 → Option (Int32)) (x2 : Int32) (x3 : Int32) (x4 : Int32) : Option (Int32) :=
  (if (p1 + (1 : Int32)) < 0 ∨ 7 ≤ (p1 + (1 : Int32)).toNatClampNeg then none else (if (t_lengths (p1 + (1 : Int32)).toNatClampNeg) ≤ x4 then some (x3) else (if (x2 + x4) < 0 ∨ 84 ≤ (x2 + x4).toNatClampNeg then none else (if (t_rows (x2 + x4).toNatClampNeg) = (30 : Int32) then k 1 x2 (x3 + 1) (x4 + 1) else k 1 x2 x3 (x4 + 1)))))
def sX6_mumblesBehind (p1 : Int32) (t_rows : Nat → Int32) (t_lengths : Nat → Int32) (k : Nat → Int32 → Int32 → Int32 → Option (Int32)) (b : Nat) (x2 : Int32) (x3 : Int32) (x4 : Int32) : Option (Int32) := match b with
  | 1 => bX6_mumblesBehind_1 p1 t_rows t_lengths k x2 x3 x4
  | _ => none
def rX6_mumblesBehind (p1 : Int32) (t_rows : Nat → Int32) (t_lengths : Nat → Int32) : Nat → Nat → Int32 → Int32 → Int32 → Option (Int32)
  | 0 => fun _ _ _ _ => none
  | n + 1 => sX6_mumblesBehind p1 t_rows t_lengths (rX6_mumblesBehind p1 t_rows t_lengths n)
def eX6_mumblesBehind (p1 : Int32) (t_rows : Nat → Int32) (t_lengths : Nat → Int32) (k : Nat → Int32 → Int32 → Int32 → Option (Int32)) : Option (Int32) :=
  (lt ((p1 + (1 : Int32)) * (12 : Int32)) fun (y5 : Int32) => k 1 y5 (0 : Int32) (0 : Int32))
def fX6_mumblesBehind (p1 : Int32) (t_rows : Nat → Int32) (t_lengths : Nat → Int32) : Option (Int32) := eX6_mumblesBehind p1 t_rows t_lengths (rX6_mumblesBehind p1 t_rows t_lengths fuelN)
theorem iwX6_mumblesBehind_X6 : ∀ w ∈ u_ws RX6 TX6 3, w ∈ wsX6_mumblesBehind := by decide +kernel
set_option maxHeartbeats 4000000 in
set_option maxRecDepth 100000 in
theorem mX6_mumblesBehind (l : Launch) (G : va_G) (cI : ClassId) (a_t a_t_rows a_t_lengths : Nat) (sz : Nat) (vt_back : Value) (t_rows : Nat → Int32) (t_lengths : Nat → Int32) (p1 : Int32) (res : Int32) (hf : fX6_mumblesBehind p1 t_rows t_lengths = some res) : Met l yX6_mumblesBehind wsX6_mumblesBehind ({ frames := 0, cells := 0, slots := 0, locals := 0 }) (mPc G [(cI, .int)] [.ref a_t, .int p1] sz [(a_t, .inr (6, [.ref a_t_rows, .ref a_t_lengths, vt_back])), (a_t_rows, .inl (cI, 84, .inl t_rows)), (a_t_lengths, .inl (cI, 7, .inl t_lengths))]) (mQi G [(cI, .int)] (va_A [(a_t, .inr (6, [.ref a_t_rows, .ref a_t_lengths, vt_back])), (a_t_rows, .inl (cI, 84, .inl t_rows)), (a_t_lengths, .inl (cI, 7, .inl t_lengths))] sz) (fun _ : Unit => res) (fun _ => [(a_t, .inr (6, [.ref a_t_rows, .ref a_t_lengths, vt_back])), (a_t_rows, .inl (cI, 84, .inl t_rows)), (a_t_lengths, .inl (cI, 7, .inl t_lengths))])) 0 0 (va_A [(a_t, .inr (6, [.ref a_t_rows, .ref a_t_lengths, vt_back])), (a_t_rows, .inl (cI, 84, .inl t_rows)), (a_t_lengths, .inl (cI, 7, .inl t_lengths))] sz) := by
  refine mStart (cc := cX6_mumblesBehind) (maxL := 5) (ret := (some .int)) (by decide) rfl (Nat.le_of_ble_eq_true rfl) ?_
  intro p e s m below meth c A ls hx hb hml hr hts hown hlocks hnm hA hsz hAe hP hK hD hS hl
  have hl : lv_has ls 5 [(0, .ref a_t), (1, .int p1)] := hl
  rw [hAe]
  have k1 := hts (.fieldLink RX6 15 "DeafChain$Trip" "lengths" "[I") (by decide +kernel)
  have k2 := hts (.fieldLink RX6 9 "DeafChain$Trip" "rows" "[I") (by decide +kernel)
  have key : ∀ n : Nat, (∀ (x2 : Int32) (x3 : Int32) (x4 : Int32) (H : Heap) (locs : List Loc) (hf : rX6_mumblesBehind p1 t_rows t_lengths n 1 x2 x3 x4 = some res) (hP : va_P G vwCl [(a_t, .inr (6, [.ref a_t_rows, .ref a_t_lengths, vt_back])), (a_t_rows, .inl (cI, 84, .inl t_rows)), (a_t_lengths, .inl (cI, 7, .inl t_lengths))] H) (hD : va_D A [(a_t, .inr (6, [.ref a_t_rows, .ref a_t_lengths, vt_back])), (a_t_rows, .inl (cI, 84, .inl t_rows)), (a_t_lengths, .inl (cI, 7, .inl t_lengths))]) (hS : va_S A s.heap H locs) (ls : Array Slot) (hl : lv_has ls 5 [(0, .ref a_t), (1, .int p1), (2, .int x2), (3, .int x3), (4, .int x4)]), W p l e ({ frames := 0, cells := 0, slots := 0, locals := 0 } : Room) s m ([.ref a_t, .int p1] : List Value).toArray below meth c H locs 0 0 (MQ below (mQi G [(cI, .int)] A (fun _ : Unit => res) (fun _ => [(a_t, .inr (6, [.ref a_t_rows, .ref a_t_lengths, vt_back])), (a_t_rows, .inl (cI, 84, .inl t_rows)), (a_t_lengths, .inl (cI, 7, .inl t_lengths))])) ([.ref a_t, .int p1] : List Value).toArray s 0 0 A) (F0 m 12 ls [])) := by
    intro n
    induction n with
    | zero => exact (fun _ _ _ H locs hf => (by cases hf))
    | succ n ih =>
      · intro  x2 x3 x4 H locs hf hP hD hS ls hl
        replace hf : bX6_mumblesBehind_1 p1 t_rows t_lengths (rX6_mumblesBehind p1 t_rows t_lengths n) x2 x3 x4 = some res := hf
        unfold bX6_mumblesBehind_1 at hf
        refine lv_iload hx hb dX6_mumblesBehind_12 (lv_at hl 4 rfl) ?_
        refine lv_aload_n hx hb dX6_mumblesBehind_14 rfl (lv_at hl 0 rfl) ?_
        refine va_get (D := G) (ci := 6) (v := .ref a_t_lengths) (C := RX6) (T := TX6) (N := 3) hx hb hts iwX6_mumblesBehind_X6 hown hK hP 0 rfl rfl 1 (by decide) k1 (fun _ h9 => h9) rfl dX6_mumblesBehind_15 ?_
        refine lv_iload_n hx hb dX6_mumblesBehind_18 rfl (lv_at hl 1 rfl) ?_
        refine lv_iconst (v := 1) hx hb dX6_mumblesBehind_19 (by decide) ?_
        refine lv_iadd hx hb dX6_mumblesBehind_20 ?_
        obtain ⟨q1, hf⟩ := pf_k hf
        refine va_iald hx hb hK hP 2 0 rfl rfl q1 dX6_mumblesBehind_21 ?_
        refine lv_icmp_ge (tgt := 48) hx hb dX6_mumblesBehind_22 (by decide) (fun c2 => ?_) (fun c2 => ?_)
        · have hf := pf_t hf c2
          refine lv_iload_n hx hb dX6_mumblesBehind_48 rfl (lv_at hl 3 rfl) ?_
          obtain rfl := Option.some.inj hf
          exact mEnd_i () hx hb hr hlocks hP hK hD hS rfl rfl (Nat.le_refl _) (Nat.le_refl _) dX6_mumblesBehind_49
        · have hf := pf_f hf c2
          refine lv_aload_n hx hb dX6_mumblesBehind_25 rfl (lv_at hl 0 rfl) ?_
          refine va_get (D := G) (ci := 6) (v := .ref a_t_rows) (C := RX6) (T := TX6) (N := 3) hx hb hts iwX6_mumblesBehind_X6 hown hK hP 0 rfl rfl 0 (by decide) k2 (fun _ h9 => h9) rfl dX6_mumblesBehind_26 ?_
          refine lv_iload_n hx hb dX6_mumblesBehind_29 rfl (lv_at hl 2 rfl) ?_
          refine lv_iload hx hb dX6_mumblesBehind_30 (lv_at hl 4 rfl) ?_
          refine lv_iadd hx hb dX6_mumblesBehind_32 ?_
          obtain ⟨q3, hf⟩ := pf_k hf
          refine va_iald hx hb hK hP 1 0 rfl rfl q3 dX6_mumblesBehind_33 ?_
          refine lv_bipush (v := 30) hx hb dX6_mumblesBehind_34 (by decide) ?_
          refine lv_icmp_ne (tgt := 42) hx hb dX6_mumblesBehind_36 (by decide) (fun c4 => ?_) (fun c4 => ?_)
          · have hf := pf_f hf c4
            refine lv_iinc (v := x4 + 1) (lv' := [(4, .int (x4 + 1)), (0, .ref a_t), (1, .int p1), (2, .int x2), (3, .int x3)]) hx hb dX6_mumblesBehind_42 hl (k := 4) rfl rfl (by decide) rfl (fun ls hl => ?_)
            refine lv_goto (tgt := 12) hx hb dX6_mumblesBehind_45 (by decide) ?_
            exact ih x2 x3 (x4 + 1) H locs hf hP hD hS ls (lv_sub hl [1, 2, 3, 4, 0] rfl)
          · have hf := pf_t hf c4
            refine lv_iinc (v := x3 + 1) (lv' := [(3, .int (x3 + 1)), (0, .ref a_t), (1, .int p1), (2, .int x2), (4, .int x4)]) hx hb dX6_mumblesBehind_39 hl (k := 3) rfl rfl (by decide) rfl (fun ls hl => ?_)
            refine lv_iinc (v := x4 + 1) (lv' := [(4, .int (x4 + 1)), (3, .int (x3 + 1)), (0, .ref a_t), (1, .int p1), (2, .int x2)]) hx hb dX6_mumblesBehind_42 hl (k := 4) rfl rfl (by decide) rfl (fun ls hl => ?_)
            refine lv_goto (tgt := 12) hx hb dX6_mumblesBehind_45 (by decide) ?_
            exact ih x2 (x3 + 1) (x4 + 1) H locs hf hP hD hS ls (lv_sub hl [2, 3, 4, 1, 0] rfl)
  unfold fX6_mumblesBehind eX6_mumblesBehind at hf
  obtain ⟨H, hH⟩ : ∃ H : Heap, H = s.heap := ⟨_, rfl⟩
  obtain ⟨locs, hlc⟩ : ∃ z : List Loc, z = [] := ⟨_, rfl⟩
  rw [← hlc, ← hH]
  have hP : va_P G vwCl [(a_t, .inr (6, [.ref a_t_rows, .ref a_t_lengths, vt_back])), (a_t_rows, .inl (cI, 84, .inl t_rows)), (a_t_lengths, .inl (cI, 7, .inl t_lengths))] H := by rw [hH]; exact hP
  have hS : va_S A s.heap H locs := by rw [hlc, hH]; exact hS
  refine lv_iload_n hx hb dX6_mumblesBehind_0 rfl (lv_at hl 1 rfl) ?_
  refine lv_iconst (v := 1) hx hb dX6_mumblesBehind_1 (by decide) ?_
  refine lv_iadd hx hb dX6_mumblesBehind_2 ?_
  refine lv_bipush (v := 12) hx hb dX6_mumblesBehind_3 (by decide) ?_
  refine lv_imul hx hb dX6_mumblesBehind_5 ?_
  refine lv_topi (fun y5 ey5 => ?_)
  have hf := pf_l hf y5 ey5
  refine lv_istore_n (lv' := [(2, .int y5), (0, .ref a_t), (1, .int p1)]) hx hb dX6_mumblesBehind_6 rfl hl (by decide) rfl (fun ls hl => ?_)
  refine lv_iconst (v := 0) hx hb dX6_mumblesBehind_7 (by decide) ?_
  refine lv_istore_n (lv' := [(3, .int 0), (2, .int y5), (0, .ref a_t), (1, .int p1)]) hx hb dX6_mumblesBehind_8 rfl hl (by decide) rfl (fun ls hl => ?_)
  refine lv_iconst (v := 0) hx hb dX6_mumblesBehind_9 (by decide) ?_
  refine lv_istore (lv' := [(4, .int 0), (3, .int 0), (2, .int y5), (0, .ref a_t), (1, .int p1)]) hx hb dX6_mumblesBehind_10 hl (by decide) rfl (fun ls hl => ?_)
  exact (key fuelN) y5 (0 : Int32) (0 : Int32) H locs hf hP hD hS ls (lv_sub hl [3, 4, 2, 1, 0] rfl)
def fX6_missedBy (p1 : Int32) (t_lengths : Nat → Int32) : Option (Int32) :=
  (if p1 < 0 ∨ 7 ≤ p1.toNatClampNeg then none else (if (p1 + (1 : Int32)) < 0 ∨ 7 ≤ (p1 + (1 : Int32)).toNatClampNeg then none else some (((t_lengths p1.toNatClampNeg) - (t_lengths (p1 + (1 : Int32)).toNatClampNeg)))))
theorem iwX6_missedBy_X6 : ∀ w ∈ u_ws RX6 TX6 3, w ∈ wsX6_missedBy := by decide +kernel
set_option maxHeartbeats 4000000 in
set_option maxRecDepth 100000 in
theorem mX6_missedBy (l : Launch) (G : va_G) (cI : ClassId) (a_t a_t_lengths : Nat) (sz : Nat) (vt_rows vt_back : Value) (t_lengths : Nat → Int32) (p1 : Int32) (res : Int32) (hf : fX6_missedBy p1 t_lengths = some res) : Met l yX6_missedBy wsX6_missedBy ({ frames := 0, cells := 0, slots := 0, locals := 0 }) (mPc G [(cI, .int)] [.ref a_t, .int p1] sz [(a_t, .inr (6, [vt_rows, .ref a_t_lengths, vt_back])), (a_t_lengths, .inl (cI, 7, .inl t_lengths))]) (mQi G [(cI, .int)] (va_A [(a_t, .inr (6, [vt_rows, .ref a_t_lengths, vt_back])), (a_t_lengths, .inl (cI, 7, .inl t_lengths))] sz) (fun _ : Unit => res) (fun _ => [(a_t, .inr (6, [vt_rows, .ref a_t_lengths, vt_back])), (a_t_lengths, .inl (cI, 7, .inl t_lengths))])) 0 0 (va_A [(a_t, .inr (6, [vt_rows, .ref a_t_lengths, vt_back])), (a_t_lengths, .inl (cI, 7, .inl t_lengths))] sz) := by
  refine mStart (cc := cX6_missedBy) (maxL := 2) (ret := (some .int)) (by decide) rfl (Nat.le_of_ble_eq_true rfl) ?_
  intro p e s m below meth c A ls hx hb hml hr hts hown hlocks hnm hA hsz hAe hP hK hD hS hl
  have hl : lv_has ls 2 [(0, .ref a_t), (1, .int p1)] := hl
  rw [hAe]
  have k1 := hts (.fieldLink RX6 15 "DeafChain$Trip" "lengths" "[I") (by decide +kernel)
  unfold fX6_missedBy at hf
  obtain ⟨H, hH⟩ : ∃ H : Heap, H = s.heap := ⟨_, rfl⟩
  obtain ⟨locs, hlc⟩ : ∃ z : List Loc, z = [] := ⟨_, rfl⟩
  rw [← hlc, ← hH]
  have hP : va_P G vwCl [(a_t, .inr (6, [vt_rows, .ref a_t_lengths, vt_back])), (a_t_lengths, .inl (cI, 7, .inl t_lengths))] H := by rw [hH]; exact hP
  have hS : va_S A s.heap H locs := by rw [hlc, hH]; exact hS
  refine lv_aload_n hx hb dX6_missedBy_0 rfl (lv_at hl 0 rfl) ?_
  refine va_get (D := G) (ci := 6) (v := .ref a_t_lengths) (C := RX6) (T := TX6) (N := 3) hx hb hts iwX6_missedBy_X6 hown hK hP 0 rfl rfl 1 (by decide) k1 (fun _ h9 => h9) rfl dX6_missedBy_1 ?_
  refine lv_iload_n hx hb dX6_missedBy_4 rfl (lv_at hl 1 rfl) ?_
  obtain ⟨q1, hf⟩ := pf_k hf
  refine va_iald hx hb hK hP 1 0 rfl rfl q1 dX6_missedBy_5 ?_
  refine lv_aload_n hx hb dX6_missedBy_6 rfl (lv_at hl 0 rfl) ?_
  refine va_get (D := G) (ci := 6) (v := .ref a_t_lengths) (C := RX6) (T := TX6) (N := 3) hx hb hts iwX6_missedBy_X6 hown hK hP 0 rfl rfl 1 (by decide) k1 (fun _ h9 => h9) rfl dX6_missedBy_7 ?_
  refine lv_iload_n hx hb dX6_missedBy_10 rfl (lv_at hl 1 rfl) ?_
  refine lv_iconst (v := 1) hx hb dX6_missedBy_11 (by decide) ?_
  refine lv_iadd hx hb dX6_missedBy_12 ?_
  obtain ⟨q2, hf⟩ := pf_k hf
  refine va_iald hx hb hK hP 1 0 rfl rfl q2 dX6_missedBy_13 ?_
  refine lv_isub hx hb dX6_missedBy_14 ?_
  obtain rfl := Option.some.inj hf
  exact mEnd_i () hx hb hr hlocks hP hK hD hS rfl rfl (Nat.le_refl _) (Nat.le_refl _) dX6_missedBy_15
def fX6_payOf (p1 : Int32) (t_lengths : Nat → Int32) (p2_fees : Nat → Int32) : Option (Int32) :=
  (if (p1 + (1 : Int32)) < 0 ∨ 7 ≤ (p1 + (1 : Int32)).toNatClampNeg then none else (if p1 < 0 ∨ 6 ≤ p1.toNatClampNeg then none else some (((t_lengths (p1 + (1 : Int32)).toNatClampNeg) * (p2_fees p1.toNatClampNeg)))))
theorem iwX6_payOf_X2 : ∀ w ∈ u_ws RX2 TX2 6, w ∈ wsX6_payOf := by decide +kernel
theorem iwX6_payOf_X6 : ∀ w ∈ u_ws RX6 TX6 3, w ∈ wsX6_payOf := by decide +kernel
set_option maxHeartbeats 4000000 in
set_option maxRecDepth 100000 in
theorem mX6_payOf (l : Launch) (G : va_G) (cI : ClassId) (a_t a_t_lengths a_p2 a_p2_fees : Nat) (sz : Nat) (vt_rows vt_back vp2_meanings vp2_ears vp2_missed vp2_paid vp2_losses : Value) (t_lengths : Nat → Int32) (p2_fees : Nat → Int32) (p1 : Int32) (res : Int32) (hf : fX6_payOf p1 t_lengths p2_fees = some res) : Met l yX6_payOf wsX6_payOf ({ frames := 0, cells := 0, slots := 0, locals := 0 }) (mPc G [(cI, .int)] [.ref a_t, .int p1, .ref a_p2] sz [(a_t, .inr (6, [vt_rows, .ref a_t_lengths, vt_back])), (a_t_lengths, .inl (cI, 7, .inl t_lengths)), (a_p2, .inr (2, [vp2_meanings, vp2_ears, .ref a_p2_fees, vp2_missed, vp2_paid, vp2_losses])), (a_p2_fees, .inl (cI, 6, .inl p2_fees))]) (mQi G [(cI, .int)] (va_A [(a_t, .inr (6, [vt_rows, .ref a_t_lengths, vt_back])), (a_t_lengths, .inl (cI, 7, .inl t_lengths)), (a_p2, .inr (2, [vp2_meanings, vp2_ears, .ref a_p2_fees, vp2_missed, vp2_paid, vp2_losses])), (a_p2_fees, .inl (cI, 6, .inl p2_fees))] sz) (fun _ : Unit => res) (fun _ => [(a_t, .inr (6, [vt_rows, .ref a_t_lengths, vt_back])), (a_t_lengths, .inl (cI, 7, .inl t_lengths)), (a_p2, .inr (2, [vp2_meanings, vp2_ears, .ref a_p2_fees, vp2_missed, vp2_paid, vp2_losses])), (a_p2_fees, .inl (cI, 6, .inl p2_fees))])) 0 0 (va_A [(a_t, .inr (6, [vt_rows, .ref a_t_lengths, vt_back])), (a_t_lengths, .inl (cI, 7, .inl t_lengths)), (a_p2, .inr (2, [vp2_meanings, vp2_ears, .ref a_p2_fees, vp2_missed, vp2_paid, vp2_losses])), (a_p2_fees, .inl (cI, 6, .inl p2_fees))] sz) := by
  refine mStart (cc := cX6_payOf) (maxL := 3) (ret := (some .int)) (by decide) rfl (Nat.le_of_ble_eq_true rfl) ?_
  intro p e s m below meth c A ls hx hb hml hr hts hown hlocks hnm hA hsz hAe hP hK hD hS hl
  have hl : lv_has ls 3 [(0, .ref a_t), (1, .int p1), (2, .ref a_p2)] := hl
  rw [hAe]
  have k1 := hts (.fieldLink RX6 15 "DeafChain$Trip" "lengths" "[I") (by decide +kernel)
  have k2 := hts (.fieldLink RX6 49 "DeafChain$Links" "fees" "[I") (by decide +kernel)
  unfold fX6_payOf at hf
  obtain ⟨H, hH⟩ : ∃ H : Heap, H = s.heap := ⟨_, rfl⟩
  obtain ⟨locs, hlc⟩ : ∃ z : List Loc, z = [] := ⟨_, rfl⟩
  rw [← hlc, ← hH]
  have hP : va_P G vwCl [(a_t, .inr (6, [vt_rows, .ref a_t_lengths, vt_back])), (a_t_lengths, .inl (cI, 7, .inl t_lengths)), (a_p2, .inr (2, [vp2_meanings, vp2_ears, .ref a_p2_fees, vp2_missed, vp2_paid, vp2_losses])), (a_p2_fees, .inl (cI, 6, .inl p2_fees))] H := by rw [hH]; exact hP
  have hS : va_S A s.heap H locs := by rw [hlc, hH]; exact hS
  refine lv_aload_n hx hb dX6_payOf_0 rfl (lv_at hl 0 rfl) ?_
  refine va_get (D := G) (ci := 6) (v := .ref a_t_lengths) (C := RX6) (T := TX6) (N := 3) hx hb hts iwX6_payOf_X6 hown hK hP 0 rfl rfl 1 (by decide) k1 (fun _ h9 => h9) rfl dX6_payOf_1 ?_
  refine lv_iload_n hx hb dX6_payOf_4 rfl (lv_at hl 1 rfl) ?_
  refine lv_iconst (v := 1) hx hb dX6_payOf_5 (by decide) ?_
  refine lv_iadd hx hb dX6_payOf_6 ?_
  obtain ⟨q1, hf⟩ := pf_k hf
  refine va_iald hx hb hK hP 1 0 rfl rfl q1 dX6_payOf_7 ?_
  refine lv_aload_n hx hb dX6_payOf_8 rfl (lv_at hl 2 rfl) ?_
  refine va_get (D := G) (ci := 2) (v := .ref a_p2_fees) (C := RX2) (T := TX2) (N := 6) hx hb hts iwX6_payOf_X2 hown hK hP 2 rfl rfl 2 (by decide) k2 (fun _ h9 => h9) rfl dX6_payOf_9 ?_
  refine lv_iload_n hx hb dX6_payOf_12 rfl (lv_at hl 1 rfl) ?_
  obtain ⟨q2, hf⟩ := pf_k hf
  refine va_iald hx hb hK hP 3 0 rfl rfl q2 dX6_payOf_13 ?_
  refine lv_imul hx hb dX6_payOf_14 ?_
  obtain rfl := Option.some.inj hf
  exact mEnd_i () hx hb hr hlocks hP hK hD hS rfl rfl (Nat.le_refl _) (Nat.le_refl _) dX6_payOf_15
def bX6_payOfAll_1 (t_lengths : Nat → Int32) (p1_fees : Nat → Int32) (k : Nat → Int32 → Int32 → Option (Int32)) (x2 : Int32) (x3 : Int32) : Option (Int32) :=
  (if (6 : Int32) ≤ x3 then some (x2) else ((fX6_payOf x3 t_lengths p1_fees).bind fun (u2 : Int32) => k 1 (x2 + u2) (x3 + 1)))
def sX6_payOfAll (t_lengths : Nat → Int32) (p1_fees : Nat → Int32) (k : Nat → Int32 → Int32 → Option (Int32)) (b : Nat) (x2 : Int32) (x3 : Int32) : Option (Int32) := match b with
  | 1 => bX6_payOfAll_1 t_lengths p1_fees k x2 x3
  | _ => none
def rX6_payOfAll (t_lengths : Nat → Int32) (p1_fees : Nat → Int32) : Nat → Nat → Int32 → Int32 → Option (Int32)
  | 0 => fun _ _ _ => none
  | n + 1 => sX6_payOfAll t_lengths p1_fees (rX6_payOfAll t_lengths p1_fees n)
def eX6_payOfAll (t_lengths : Nat → Int32) (p1_fees : Nat → Int32) (k : Nat → Int32 → Int32 → Option (Int32)) : Option (Int32) :=
  k 1 (0 : Int32) (0 : Int32)
def fX6_payOfAll (t_lengths : Nat → Int32) (p1_fees : Nat → Int32) : Option (Int32) := eX6_payOfAll t_lengths p1_fees (rX6_payOfAll t_lengths p1_fees fuelN)
set_option maxHeartbeats 4000000 in
set_option maxRecDepth 100000 in
theorem mX6_payOfAll (l : Launch) (G : va_G) (cI : ClassId) (a_t a_t_lengths a_p1 a_p1_fees : Nat) (sz : Nat) (vt_rows vt_back vp1_meanings vp1_ears vp1_missed vp1_paid vp1_losses : Value) (t_lengths : Nat → Int32) (p1_fees : Nat → Int32)  (res : Int32) (hf : fX6_payOfAll t_lengths p1_fees = some res) : Met l yX6_payOfAll wsX6_payOfAll ({ frames := 1, cells := 0, slots := 0, locals := 22 }) (mPc G [(cI, .int)] [.ref a_t, .ref a_p1] sz [(a_t, .inr (6, [vt_rows, .ref a_t_lengths, vt_back])), (a_t_lengths, .inl (cI, 7, .inl t_lengths)), (a_p1, .inr (2, [vp1_meanings, vp1_ears, .ref a_p1_fees, vp1_missed, vp1_paid, vp1_losses])), (a_p1_fees, .inl (cI, 6, .inl p1_fees))]) (mQi G [(cI, .int)] (va_A [(a_t, .inr (6, [vt_rows, .ref a_t_lengths, vt_back])), (a_t_lengths, .inl (cI, 7, .inl t_lengths)), (a_p1, .inr (2, [vp1_meanings, vp1_ears, .ref a_p1_fees, vp1_missed, vp1_paid, vp1_losses])), (a_p1_fees, .inl (cI, 6, .inl p1_fees))] sz) (fun _ : Unit => res) (fun _ => [(a_t, .inr (6, [vt_rows, .ref a_t_lengths, vt_back])), (a_t_lengths, .inl (cI, 7, .inl t_lengths)), (a_p1, .inr (2, [vp1_meanings, vp1_ears, .ref a_p1_fees, vp1_missed, vp1_paid, vp1_losses])), (a_p1_fees, .inl (cI, 6, .inl p1_fees))])) 0 0 (va_A [(a_t, .inr (6, [vt_rows, .ref a_t_lengths, vt_back])), (a_t_lengths, .inl (cI, 7, .inl t_lengths)), (a_p1, .inr (2, [vp1_meanings, vp1_ears, .ref a_p1_fees, vp1_missed, vp1_paid, vp1_losses])), (a_p1_fees, .inl (cI, 6, .inl p1_fees))] sz) := by
  refine mStart (cc := cX6_payOfAll) (maxL := 4) (ret := (some .int)) (by decide) rfl (Nat.le_of_ble_eq_true rfl) ?_
  intro p e s m below meth c A ls hx hb hml hr hts hown hlocks hnm hA hsz hAe hP hK hD hS hl
  have hl : lv_has ls 4 [(0, .ref a_t), (1, .ref a_p1)] := hl
  rw [hAe]
  have key : ∀ n : Nat, (∀ (x2 : Int32) (x3 : Int32) (H : Heap) (locs : List Loc) (hf : rX6_payOfAll t_lengths p1_fees n 1 x2 x3 = some res) (hP : va_P G vwCl [(a_t, .inr (6, [vt_rows, .ref a_t_lengths, vt_back])), (a_t_lengths, .inl (cI, 7, .inl t_lengths)), (a_p1, .inr (2, [vp1_meanings, vp1_ears, .ref a_p1_fees, vp1_missed, vp1_paid, vp1_losses])), (a_p1_fees, .inl (cI, 6, .inl p1_fees))] H) (hD : va_D A [(a_t, .inr (6, [vt_rows, .ref a_t_lengths, vt_back])), (a_t_lengths, .inl (cI, 7, .inl t_lengths)), (a_p1, .inr (2, [vp1_meanings, vp1_ears, .ref a_p1_fees, vp1_missed, vp1_paid, vp1_losses])), (a_p1_fees, .inl (cI, 6, .inl p1_fees))]) (hS : va_S A s.heap H locs) (ls : Array Slot) (hl : lv_has ls 4 [(0, .ref a_t), (1, .ref a_p1), (2, .int x2), (3, .int x3)]), W p l e ({ frames := 1, cells := 0, slots := 0, locals := 22 } : Room) s m ([.ref a_t, .ref a_p1] : List Value).toArray below meth c H locs 0 0 (MQ below (mQi G [(cI, .int)] A (fun _ : Unit => res) (fun _ => [(a_t, .inr (6, [vt_rows, .ref a_t_lengths, vt_back])), (a_t_lengths, .inl (cI, 7, .inl t_lengths)), (a_p1, .inr (2, [vp1_meanings, vp1_ears, .ref a_p1_fees, vp1_missed, vp1_paid, vp1_losses])), (a_p1_fees, .inl (cI, 6, .inl p1_fees))])) ([.ref a_t, .ref a_p1] : List Value).toArray s 0 0 A) (F0 m 4 ls [])) := by
    intro n
    induction n with
    | zero => exact (fun _ _ H locs hf => (by cases hf))
    | succ n ih =>
      · intro  x2 x3 H locs hf hP hD hS ls hl
        replace hf : bX6_payOfAll_1 t_lengths p1_fees (rX6_payOfAll t_lengths p1_fees n) x2 x3 = some res := hf
        unfold bX6_payOfAll_1 at hf
        refine lv_iload_n hx hb dX6_payOfAll_4 rfl (lv_at hl 3 rfl) ?_
        refine lv_bipush (v := 6) hx hb dX6_payOfAll_5 (by decide) ?_
        refine lv_icmp_ge (tgt := 25) hx hb dX6_payOfAll_7 (by decide) (fun c1 => ?_) (fun c1 => ?_)
        · have hf := pf_t hf c1
          refine lv_iload_n hx hb dX6_payOfAll_25 rfl (lv_at hl 2 rfl) ?_
          obtain rfl := Option.some.inj hf
          exact mEnd_i () hx hb hr hlocks hP hK hD hS rfl rfl (Nat.le_refl _) (Nat.le_refl _) dX6_payOfAll_26
        · have hf := pf_f hf c1
          refine lv_iload_n hx hb dX6_payOfAll_10 rfl (lv_at hl 2 rfl) ?_
          refine lv_aload_n hx hb dX6_payOfAll_11 rfl (lv_at hl 0 rfl) ?_
          refine lv_iload_n hx hb dX6_payOfAll_12 rfl (lv_at hl 3 rfl) ?_
          refine lv_aload_n hx hb dX6_payOfAll_13 rfl (lv_at hl 1 rfl) ?_
          obtain ⟨u2, hu2, hf⟩ := pf_b hf
          refine mCallV_i (As := [.int x3, .ref a_p1]) ⟨hx, hb, hml, hown, hts⟩ (mX6_payOf l G cI a_t a_t_lengths a_p1 a_p1_fees H.size vt_rows vt_back vp1_meanings vp1_ears vp1_missed vp1_paid vp1_losses t_lengths p1_fees x3 _ hu2) (cwV 2 hts gX6_payOfAll_X6_payOf rfl rfl rfl (by decide +kernel) ⟨Nat.le_of_ble_eq_true rfl, Nat.le_of_ble_eq_true rfl⟩) hP hD hS hA hK [0, 1, 2, 3] rfl (by decide) 0 6 rfl rfl rfl hK [a_t, a_t_lengths, a_p1, a_p1_fees] (fun _ => rfl) rfl (fun _ => [(a_t, .inr (6, [vt_rows, .ref a_t_lengths, vt_back])), (a_t_lengths, .inl (cI, 7, .inl t_lengths)), (a_p1, .inr (2, [vp1_meanings, vp1_ears, .ref a_p1_fees, vp1_missed, vp1_paid, vp1_losses])), (a_p1_fees, .inl (cI, 6, .inl p1_fees))]) [a_t, a_t_lengths, a_p1, a_p1_fees] (fun _ => rfl) rfl (fun _ => rfl) [] [] (fun _ => rfl) rfl 4 rfl rfl rfl hl.1 rfl (lv_room (Nat.le_of_ble_eq_true rfl)) dX6_payOfAll_14 ⟨Nat.zero_le _, Nat.zero_le _⟩ (fun _ H locs hP hD hS => ?_)
          have hP : va_P G vwCl [(a_t, .inr (6, [vt_rows, .ref a_t_lengths, vt_back])), (a_t_lengths, .inl (cI, 7, .inl t_lengths)), (a_p1, .inr (2, [vp1_meanings, vp1_ears, .ref a_p1_fees, vp1_missed, vp1_paid, vp1_losses])), (a_p1_fees, .inl (cI, 6, .inl p1_fees))] H := hP
          have hD : va_D A [(a_t, .inr (6, [vt_rows, .ref a_t_lengths, vt_back])), (a_t_lengths, .inl (cI, 7, .inl t_lengths)), (a_p1, .inr (2, [vp1_meanings, vp1_ears, .ref a_p1_fees, vp1_missed, vp1_paid, vp1_losses])), (a_p1_fees, .inl (cI, 6, .inl p1_fees))] := hD
          refine lv_iadd hx hb dX6_payOfAll_17 ?_
          refine lv_istore_n (lv' := [(2, .int (x2 + u2)), (0, .ref a_t), (1, .ref a_p1), (3, .int x3)]) hx hb dX6_payOfAll_18 rfl hl (by decide) rfl (fun ls hl => ?_)
          refine lv_iinc (v := x3 + 1) (lv' := [(3, .int (x3 + 1)), (2, .int (x2 + u2)), (0, .ref a_t), (1, .ref a_p1)]) hx hb dX6_payOfAll_19 hl (k := 3) rfl rfl (by decide) rfl (fun ls hl => ?_)
          refine lv_goto (tgt := 4) hx hb dX6_payOfAll_22 (by decide) ?_
          exact ih (x2 + u2) (x3 + 1) H locs hf hP hD hS ls (lv_sub hl [2, 3, 1, 0] rfl)
  unfold fX6_payOfAll eX6_payOfAll at hf
  obtain ⟨H, hH⟩ : ∃ H : Heap, H = s.heap := ⟨_, rfl⟩
  obtain ⟨locs, hlc⟩ : ∃ z : List Loc, z = [] := ⟨_, rfl⟩
  rw [← hlc, ← hH]
  have hP : va_P G vwCl [(a_t, .inr (6, [vt_rows, .ref a_t_lengths, vt_back])), (a_t_lengths, .inl (cI, 7, .inl t_lengths)), (a_p1, .inr (2, [vp1_meanings, vp1_ears, .ref a_p1_fees, vp1_missed, vp1_paid, vp1_losses])), (a_p1_fees, .inl (cI, 6, .inl p1_fees))] H := by rw [hH]; exact hP
  have hS : va_S A s.heap H locs := by rw [hlc, hH]; exact hS
  refine lv_iconst (v := 0) hx hb dX6_payOfAll_0 (by decide) ?_
  refine lv_istore_n (lv' := [(2, .int 0), (0, .ref a_t), (1, .ref a_p1)]) hx hb dX6_payOfAll_1 rfl hl (by decide) rfl (fun ls hl => ?_)
  refine lv_iconst (v := 0) hx hb dX6_payOfAll_2 (by decide) ?_
  refine lv_istore_n (lv' := [(3, .int 0), (2, .int 0), (0, .ref a_t), (1, .ref a_p1)]) hx hb dX6_payOfAll_3 rfl hl (by decide) rfl (fun ls hl => ?_)
  exact (key fuelN) (0 : Int32) (0 : Int32) H locs hf hP hD hS ls (lv_sub hl [2, 3, 1, 0] rfl)
def bX6_losesSomeWord_1 (p1 : Int32) (t_rows : Nat → Int32) (t_lengths : Nat → Int32) (p2_meanings : Nat → Int32) (k : Nat → Int32 → Int32 → Option (Int32)) (x3 : Int32) (x4 : Int32) : Option (Int32) :=
  (if p1 < 0 ∨ 7 ≤ p1.toNatClampNeg then none else (if (t_lengths p1.toNatClampNeg) ≤ x4 then some ((0 : Int32)) else (if (x3 + x4) < 0 ∨ 84 ≤ (x3 + x4).toNatClampNeg then none else ((fX2_backFor p1 (t_rows (x3 + x4).toNatClampNeg) p2_meanings).bind fun (u4 : Int32) => (if (x3 + x4) < 0 ∨ 84 ≤ (x3 + x4).toNatClampNeg then none else (if u4 = (t_rows (x3 + x4).toNatClampNeg) then k 1 x3 (x4 + 1) else some ((1 : Int32))))))))
def sX6_losesSomeWord (p1 : Int32) (t_rows : Nat → Int32) (t_lengths : Nat → Int32) (p2_meanings : Nat → Int32) (k : Nat → Int32 → Int32 → Option (Int32)) (b : Nat) (x3 : Int32) (x4 : Int32) : Option (Int32) := match b with
  | 1 => bX6_losesSomeWord_1 p1 t_rows t_lengths p2_meanings k x3 x4
  | _ => none
def rX6_losesSomeWord (p1 : Int32) (t_rows : Nat → Int32) (t_lengths : Nat → Int32) (p2_meanings : Nat → Int32) : Nat → Nat → Int32 → Int32 → Option (Int32)
  | 0 => fun _ _ _ => none
  | n + 1 => sX6_losesSomeWord p1 t_rows t_lengths p2_meanings (rX6_losesSomeWord p1 t_rows t_lengths p2_meanings n)
def eX6_losesSomeWord (p1 : Int32) (t_rows : Nat → Int32) (t_lengths : Nat → Int32) (p2_meanings : Nat → Int32) (k : Nat → Int32 → Int32 → Option (Int32)) : Option (Int32) :=
  k 1 (p1 * (12 : Int32)) (0 : Int32)
def fX6_losesSomeWord (p1 : Int32) (t_rows : Nat → Int32) (t_lengths : Nat → Int32) (p2_meanings : Nat → Int32) : Option (Int32) := eX6_losesSomeWord p1 t_rows t_lengths p2_meanings (rX6_losesSomeWord p1 t_rows t_lengths p2_meanings fuelN)
theorem iwX6_losesSomeWord_X6 : ∀ w ∈ u_ws RX6 TX6 3, w ∈ wsX6_losesSomeWord := by decide +kernel
set_option maxHeartbeats 4000000 in
set_option maxRecDepth 100000 in
theorem mX6_losesSomeWord (l : Launch) (G : va_G) (cI : ClassId) (a_t a_t_rows a_t_lengths a_p2 a_p2_meanings : Nat) (sz : Nat) (vt_back vp2_ears vp2_fees vp2_missed vp2_paid vp2_losses : Value) (t_rows : Nat → Int32) (t_lengths : Nat → Int32) (p2_meanings : Nat → Int32) (p1 : Int32) (res : Int32) (hf : fX6_losesSomeWord p1 t_rows t_lengths p2_meanings = some res) : Met l yX6_losesSomeWord wsX6_losesSomeWord ({ frames := 2, cells := 0, slots := 0, locals := 46 }) (mPc G [(cI, .int)] [.ref a_t, .int p1, .ref a_p2] sz [(a_t, .inr (6, [.ref a_t_rows, .ref a_t_lengths, vt_back])), (a_t_rows, .inl (cI, 84, .inl t_rows)), (a_t_lengths, .inl (cI, 7, .inl t_lengths)), (a_p2, .inr (2, [.ref a_p2_meanings, vp2_ears, vp2_fees, vp2_missed, vp2_paid, vp2_losses])), (a_p2_meanings, .inl (cI, 180, .inl p2_meanings))]) (mQi G [(cI, .int)] (va_A [(a_t, .inr (6, [.ref a_t_rows, .ref a_t_lengths, vt_back])), (a_t_rows, .inl (cI, 84, .inl t_rows)), (a_t_lengths, .inl (cI, 7, .inl t_lengths)), (a_p2, .inr (2, [.ref a_p2_meanings, vp2_ears, vp2_fees, vp2_missed, vp2_paid, vp2_losses])), (a_p2_meanings, .inl (cI, 180, .inl p2_meanings))] sz) (fun _ : Unit => res) (fun _ => [(a_t, .inr (6, [.ref a_t_rows, .ref a_t_lengths, vt_back])), (a_t_rows, .inl (cI, 84, .inl t_rows)), (a_t_lengths, .inl (cI, 7, .inl t_lengths)), (a_p2, .inr (2, [.ref a_p2_meanings, vp2_ears, vp2_fees, vp2_missed, vp2_paid, vp2_losses])), (a_p2_meanings, .inl (cI, 180, .inl p2_meanings))])) 0 0 (va_A [(a_t, .inr (6, [.ref a_t_rows, .ref a_t_lengths, vt_back])), (a_t_rows, .inl (cI, 84, .inl t_rows)), (a_t_lengths, .inl (cI, 7, .inl t_lengths)), (a_p2, .inr (2, [.ref a_p2_meanings, vp2_ears, vp2_fees, vp2_missed, vp2_paid, vp2_losses])), (a_p2_meanings, .inl (cI, 180, .inl p2_meanings))] sz) := by
  refine mStart (cc := cX6_losesSomeWord) (maxL := 5) (ret := (some .boolean)) (by decide) rfl (Nat.le_of_ble_eq_true rfl) ?_
  intro p e s m below meth c A ls hx hb hml hr hts hown hlocks hnm hA hsz hAe hP hK hD hS hl
  have hl : lv_has ls 5 [(0, .ref a_t), (1, .int p1), (2, .ref a_p2)] := hl
  rw [hAe]
  have k1 := hts (.fieldLink RX6 15 "DeafChain$Trip" "lengths" "[I") (by decide +kernel)
  have k2 := hts (.fieldLink RX6 9 "DeafChain$Trip" "rows" "[I") (by decide +kernel)
  have key : ∀ n : Nat, (∀ (x3 : Int32) (x4 : Int32) (H : Heap) (locs : List Loc) (hf : rX6_losesSomeWord p1 t_rows t_lengths p2_meanings n 1 x3 x4 = some res) (hP : va_P G vwCl [(a_t, .inr (6, [.ref a_t_rows, .ref a_t_lengths, vt_back])), (a_t_rows, .inl (cI, 84, .inl t_rows)), (a_t_lengths, .inl (cI, 7, .inl t_lengths)), (a_p2, .inr (2, [.ref a_p2_meanings, vp2_ears, vp2_fees, vp2_missed, vp2_paid, vp2_losses])), (a_p2_meanings, .inl (cI, 180, .inl p2_meanings))] H) (hD : va_D A [(a_t, .inr (6, [.ref a_t_rows, .ref a_t_lengths, vt_back])), (a_t_rows, .inl (cI, 84, .inl t_rows)), (a_t_lengths, .inl (cI, 7, .inl t_lengths)), (a_p2, .inr (2, [.ref a_p2_meanings, vp2_ears, vp2_fees, vp2_missed, vp2_paid, vp2_losses])), (a_p2_meanings, .inl (cI, 180, .inl p2_meanings))]) (hS : va_S A s.heap H locs) (ls : Array Slot) (hl : lv_has ls 5 [(0, .ref a_t), (1, .int p1), (2, .ref a_p2), (3, .int x3), (4, .int x4)]), W p l e ({ frames := 2, cells := 0, slots := 0, locals := 46 } : Room) s m ([.ref a_t, .int p1, .ref a_p2] : List Value).toArray below meth c H locs 0 0 (MQ below (mQi G [(cI, .int)] A (fun _ : Unit => res) (fun _ => [(a_t, .inr (6, [.ref a_t_rows, .ref a_t_lengths, vt_back])), (a_t_rows, .inl (cI, 84, .inl t_rows)), (a_t_lengths, .inl (cI, 7, .inl t_lengths)), (a_p2, .inr (2, [.ref a_p2_meanings, vp2_ears, vp2_fees, vp2_missed, vp2_paid, vp2_losses])), (a_p2_meanings, .inl (cI, 180, .inl p2_meanings))])) ([.ref a_t, .int p1, .ref a_p2] : List Value).toArray s 0 0 A) (F0 m 8 ls [])) := by
    intro n
    induction n with
    | zero => exact (fun _ _ H locs hf => (by cases hf))
    | succ n ih =>
      · intro  x3 x4 H locs hf hP hD hS ls hl
        replace hf : bX6_losesSomeWord_1 p1 t_rows t_lengths p2_meanings (rX6_losesSomeWord p1 t_rows t_lengths p2_meanings n) x3 x4 = some res := hf
        unfold bX6_losesSomeWord_1 at hf
        refine lv_iload hx hb dX6_losesSomeWord_8 (lv_at hl 4 rfl) ?_
        refine lv_aload_n hx hb dX6_losesSomeWord_10 rfl (lv_at hl 0 rfl) ?_
        refine va_get (D := G) (ci := 6) (v := .ref a_t_lengths) (C := RX6) (T := TX6) (N := 3) hx hb hts iwX6_losesSomeWord_X6 hown hK hP 0 rfl rfl 1 (by decide) k1 (fun _ h9 => h9) rfl dX6_losesSomeWord_11 ?_
        refine lv_iload_n hx hb dX6_losesSomeWord_14 rfl (lv_at hl 1 rfl) ?_
        obtain ⟨q1, hf⟩ := pf_k hf
        refine va_iald hx hb hK hP 2 0 rfl rfl q1 dX6_losesSomeWord_15 ?_
        refine lv_icmp_ge (tgt := 53) hx hb dX6_losesSomeWord_16 (by decide) (fun c2 => ?_) (fun c2 => ?_)
        · have hf := pf_t hf c2
          refine lv_iconst (v := 0) hx hb dX6_losesSomeWord_53 (by decide) ?_
          obtain rfl := Option.some.inj hf
          exact mEnd_z () hx hb hr rfl hlocks hP hK hD hS rfl rfl (Nat.le_refl _) (Nat.le_refl _) dX6_losesSomeWord_54
        · have hf := pf_f hf c2
          refine lv_aload_n hx hb dX6_losesSomeWord_19 rfl (lv_at hl 2 rfl) ?_
          refine lv_iload_n hx hb dX6_losesSomeWord_20 rfl (lv_at hl 1 rfl) ?_
          refine lv_aload_n hx hb dX6_losesSomeWord_21 rfl (lv_at hl 0 rfl) ?_
          refine va_get (D := G) (ci := 6) (v := .ref a_t_rows) (C := RX6) (T := TX6) (N := 3) hx hb hts iwX6_losesSomeWord_X6 hown hK hP 0 rfl rfl 0 (by decide) k2 (fun _ h9 => h9) rfl dX6_losesSomeWord_22 ?_
          refine lv_iload_n hx hb dX6_losesSomeWord_25 rfl (lv_at hl 3 rfl) ?_
          refine lv_iload hx hb dX6_losesSomeWord_26 (lv_at hl 4 rfl) ?_
          refine lv_iadd hx hb dX6_losesSomeWord_28 ?_
          obtain ⟨q3, hf⟩ := pf_k hf
          refine va_iald hx hb hK hP 1 0 rfl rfl q3 dX6_losesSomeWord_29 ?_
          obtain ⟨u4, hu4, hf⟩ := pf_b hf
          refine mCallV_i (As := [.int p1, .int (t_rows (x3 + x4).toNatClampNeg)]) ⟨hx, hb, hml, hown, hts⟩ (mX2_backFor l G cI a_p2 a_p2_meanings H.size vp2_ears vp2_fees vp2_missed vp2_paid vp2_losses p2_meanings p1 (t_rows (x3 + x4).toNatClampNeg) _ hu4) (cwV 2 hts gX6_losesSomeWord_X2_backFor rfl rfl rfl (by decide +kernel) ⟨Nat.le_of_ble_eq_true rfl, Nat.le_of_ble_eq_true rfl⟩) hP hD hS hA hK [3, 4] rfl (by decide) 3 2 rfl rfl rfl hK [a_p2, a_p2_meanings] (fun _ => rfl) rfl (fun _ => [(a_t, .inr (6, [.ref a_t_rows, .ref a_t_lengths, vt_back])), (a_t_rows, .inl (cI, 84, .inl t_rows)), (a_t_lengths, .inl (cI, 7, .inl t_lengths)), (a_p2, .inr (2, [.ref a_p2_meanings, vp2_ears, vp2_fees, vp2_missed, vp2_paid, vp2_losses])), (a_p2_meanings, .inl (cI, 180, .inl p2_meanings))]) [a_t, a_t_rows, a_t_lengths, a_p2, a_p2_meanings] (fun _ => rfl) rfl (fun _ => rfl) [0, 1, 2] [(a_t, .inr (6, [.ref a_t_rows, .ref a_t_lengths, vt_back])), (a_t_rows, .inl (cI, 84, .inl t_rows)), (a_t_lengths, .inl (cI, 7, .inl t_lengths))] (fun _ => rfl) rfl 5 rfl rfl rfl hl.1 rfl (lv_room (Nat.le_of_ble_eq_true rfl)) dX6_losesSomeWord_30 ⟨Nat.zero_le _, Nat.zero_le _⟩ (fun _ H locs hP hD hS => ?_)
          have hP : va_P G vwCl [(a_t, .inr (6, [.ref a_t_rows, .ref a_t_lengths, vt_back])), (a_t_rows, .inl (cI, 84, .inl t_rows)), (a_t_lengths, .inl (cI, 7, .inl t_lengths)), (a_p2, .inr (2, [.ref a_p2_meanings, vp2_ears, vp2_fees, vp2_missed, vp2_paid, vp2_losses])), (a_p2_meanings, .inl (cI, 180, .inl p2_meanings))] H := hP
          have hD : va_D A [(a_t, .inr (6, [.ref a_t_rows, .ref a_t_lengths, vt_back])), (a_t_rows, .inl (cI, 84, .inl t_rows)), (a_t_lengths, .inl (cI, 7, .inl t_lengths)), (a_p2, .inr (2, [.ref a_p2_meanings, vp2_ears, vp2_fees, vp2_missed, vp2_paid, vp2_losses])), (a_p2_meanings, .inl (cI, 180, .inl p2_meanings))] := hD
          refine lv_aload_n hx hb dX6_losesSomeWord_33 rfl (lv_at hl 0 rfl) ?_
          refine va_get (D := G) (ci := 6) (v := .ref a_t_rows) (C := RX6) (T := TX6) (N := 3) hx hb hts iwX6_losesSomeWord_X6 hown hK hP 0 rfl rfl 0 (by decide) k2 (fun _ h9 => h9) rfl dX6_losesSomeWord_34 ?_
          refine lv_iload_n hx hb dX6_losesSomeWord_37 rfl (lv_at hl 3 rfl) ?_
          refine lv_iload hx hb dX6_losesSomeWord_38 (lv_at hl 4 rfl) ?_
          refine lv_iadd hx hb dX6_losesSomeWord_40 ?_
          obtain ⟨q5, hf⟩ := pf_k hf
          refine va_iald hx hb hK hP 1 0 rfl rfl q5 dX6_losesSomeWord_41 ?_
          refine lv_icmp_eq (tgt := 47) hx hb dX6_losesSomeWord_42 (by decide) (fun c6 => ?_) (fun c6 => ?_)
          · have hf := pf_t hf c6
            refine lv_iinc (v := x4 + 1) (lv' := [(4, .int (x4 + 1)), (0, .ref a_t), (1, .int p1), (2, .ref a_p2), (3, .int x3)]) hx hb dX6_losesSomeWord_47 hl (k := 4) rfl rfl (by decide) rfl (fun ls hl => ?_)
            refine lv_goto (tgt := 8) hx hb dX6_losesSomeWord_50 (by decide) ?_
            exact ih x3 (x4 + 1) H locs hf hP hD hS ls (lv_sub hl [1, 2, 3, 4, 0] rfl)
          · have hf := pf_f hf c6
            refine lv_iconst (v := 1) hx hb dX6_losesSomeWord_45 (by decide) ?_
            obtain rfl := Option.some.inj hf
            exact mEnd_z () hx hb hr rfl hlocks hP hK hD hS rfl rfl (Nat.le_refl _) (Nat.le_refl _) dX6_losesSomeWord_46
  unfold fX6_losesSomeWord eX6_losesSomeWord at hf
  obtain ⟨H, hH⟩ : ∃ H : Heap, H = s.heap := ⟨_, rfl⟩
  obtain ⟨locs, hlc⟩ : ∃ z : List Loc, z = [] := ⟨_, rfl⟩
  rw [← hlc, ← hH]
  have hP : va_P G vwCl [(a_t, .inr (6, [.ref a_t_rows, .ref a_t_lengths, vt_back])), (a_t_rows, .inl (cI, 84, .inl t_rows)), (a_t_lengths, .inl (cI, 7, .inl t_lengths)), (a_p2, .inr (2, [.ref a_p2_meanings, vp2_ears, vp2_fees, vp2_missed, vp2_paid, vp2_losses])), (a_p2_meanings, .inl (cI, 180, .inl p2_meanings))] H := by rw [hH]; exact hP
  have hS : va_S A s.heap H locs := by rw [hlc, hH]; exact hS
  refine lv_iload_n hx hb dX6_losesSomeWord_0 rfl (lv_at hl 1 rfl) ?_
  refine lv_bipush (v := 12) hx hb dX6_losesSomeWord_1 (by decide) ?_
  refine lv_imul hx hb dX6_losesSomeWord_3 ?_
  refine lv_istore_n (lv' := [(3, .int (p1 * (12 : Int32))), (0, .ref a_t), (1, .int p1), (2, .ref a_p2)]) hx hb dX6_losesSomeWord_4 rfl hl (by decide) rfl (fun ls hl => ?_)
  refine lv_iconst (v := 0) hx hb dX6_losesSomeWord_5 (by decide) ?_
  refine lv_istore (lv' := [(4, .int 0), (3, .int (p1 * (12 : Int32))), (0, .ref a_t), (1, .int p1), (2, .ref a_p2)]) hx hb dX6_losesSomeWord_6 hl (by decide) rfl (fun ls hl => ?_)
  exact (key fuelN) (p1 * (12 : Int32)) (0 : Int32) H locs hf hP hD hS ls (lv_sub hl [2, 3, 4, 1, 0] rfl)
def bX6_lossByRules_1 (t_rows : Nat → Int32) (t_lengths : Nat → Int32) (p1_meanings : Nat → Int32) (k : Nat → Int32 → Option (Int32)) (x2 : Int32) : Option (Int32) :=
  (if (6 : Int32) ≤ x2 then some (((-1) : Int32)) else ((fX6_missedBy x2 t_lengths).bind fun (u2 : Int32) => (if 0 < u2 then some (x2) else ((fX6_losesSomeWord x2 t_rows t_lengths p1_meanings).bind fun (u4 : Int32) => (if u4 = 0 then k 1 (x2 + 1) else some (x2))))))
def sX6_lossByRules (t_rows : Nat → Int32) (t_lengths : Nat → Int32) (p1_meanings : Nat → Int32) (k : Nat → Int32 → Option (Int32)) (b : Nat) (x2 : Int32) : Option (Int32) := match b with
  | 1 => bX6_lossByRules_1 t_rows t_lengths p1_meanings k x2
  | _ => none
def rX6_lossByRules (t_rows : Nat → Int32) (t_lengths : Nat → Int32) (p1_meanings : Nat → Int32) : Nat → Nat → Int32 → Option (Int32)
  | 0 => fun _ _ => none
  | n + 1 => sX6_lossByRules t_rows t_lengths p1_meanings (rX6_lossByRules t_rows t_lengths p1_meanings n)
def eX6_lossByRules (t_rows : Nat → Int32) (t_lengths : Nat → Int32) (p1_meanings : Nat → Int32) (k : Nat → Int32 → Option (Int32)) : Option (Int32) :=
  k 1 (0 : Int32)
def fX6_lossByRules (t_rows : Nat → Int32) (t_lengths : Nat → Int32) (p1_meanings : Nat → Int32) : Option (Int32) := eX6_lossByRules t_rows t_lengths p1_meanings (rX6_lossByRules t_rows t_lengths p1_meanings fuelN)
set_option maxHeartbeats 4000000 in
set_option maxRecDepth 100000 in
theorem mX6_lossByRules (l : Launch) (G : va_G) (cI : ClassId) (a_t a_t_rows a_t_lengths a_p1 a_p1_meanings : Nat) (sz : Nat) (vt_back vp1_ears vp1_fees vp1_missed vp1_paid vp1_losses : Value) (t_rows : Nat → Int32) (t_lengths : Nat → Int32) (p1_meanings : Nat → Int32)  (res : Int32) (hf : fX6_lossByRules t_rows t_lengths p1_meanings = some res) : Met l yX6_lossByRules wsX6_lossByRules ({ frames := 3, cells := 0, slots := 0, locals := 70 }) (mPc G [(cI, .int)] [.ref a_t, .ref a_p1] sz [(a_t, .inr (6, [.ref a_t_rows, .ref a_t_lengths, vt_back])), (a_t_rows, .inl (cI, 84, .inl t_rows)), (a_t_lengths, .inl (cI, 7, .inl t_lengths)), (a_p1, .inr (2, [.ref a_p1_meanings, vp1_ears, vp1_fees, vp1_missed, vp1_paid, vp1_losses])), (a_p1_meanings, .inl (cI, 180, .inl p1_meanings))]) (mQi G [(cI, .int)] (va_A [(a_t, .inr (6, [.ref a_t_rows, .ref a_t_lengths, vt_back])), (a_t_rows, .inl (cI, 84, .inl t_rows)), (a_t_lengths, .inl (cI, 7, .inl t_lengths)), (a_p1, .inr (2, [.ref a_p1_meanings, vp1_ears, vp1_fees, vp1_missed, vp1_paid, vp1_losses])), (a_p1_meanings, .inl (cI, 180, .inl p1_meanings))] sz) (fun _ : Unit => res) (fun _ => [(a_t, .inr (6, [.ref a_t_rows, .ref a_t_lengths, vt_back])), (a_t_rows, .inl (cI, 84, .inl t_rows)), (a_t_lengths, .inl (cI, 7, .inl t_lengths)), (a_p1, .inr (2, [.ref a_p1_meanings, vp1_ears, vp1_fees, vp1_missed, vp1_paid, vp1_losses])), (a_p1_meanings, .inl (cI, 180, .inl p1_meanings))])) 0 0 (va_A [(a_t, .inr (6, [.ref a_t_rows, .ref a_t_lengths, vt_back])), (a_t_rows, .inl (cI, 84, .inl t_rows)), (a_t_lengths, .inl (cI, 7, .inl t_lengths)), (a_p1, .inr (2, [.ref a_p1_meanings, vp1_ears, vp1_fees, vp1_missed, vp1_paid, vp1_losses])), (a_p1_meanings, .inl (cI, 180, .inl p1_meanings))] sz) := by
  refine mStart (cc := cX6_lossByRules) (maxL := 3) (ret := (some .int)) (by decide) rfl (Nat.le_of_ble_eq_true rfl) ?_
  intro p e s m below meth c A ls hx hb hml hr hts hown hlocks hnm hA hsz hAe hP hK hD hS hl
  have hl : lv_has ls 3 [(0, .ref a_t), (1, .ref a_p1)] := hl
  rw [hAe]
  have key : ∀ n : Nat, (∀ (x2 : Int32) (H : Heap) (locs : List Loc) (hf : rX6_lossByRules t_rows t_lengths p1_meanings n 1 x2 = some res) (hP : va_P G vwCl [(a_t, .inr (6, [.ref a_t_rows, .ref a_t_lengths, vt_back])), (a_t_rows, .inl (cI, 84, .inl t_rows)), (a_t_lengths, .inl (cI, 7, .inl t_lengths)), (a_p1, .inr (2, [.ref a_p1_meanings, vp1_ears, vp1_fees, vp1_missed, vp1_paid, vp1_losses])), (a_p1_meanings, .inl (cI, 180, .inl p1_meanings))] H) (hD : va_D A [(a_t, .inr (6, [.ref a_t_rows, .ref a_t_lengths, vt_back])), (a_t_rows, .inl (cI, 84, .inl t_rows)), (a_t_lengths, .inl (cI, 7, .inl t_lengths)), (a_p1, .inr (2, [.ref a_p1_meanings, vp1_ears, vp1_fees, vp1_missed, vp1_paid, vp1_losses])), (a_p1_meanings, .inl (cI, 180, .inl p1_meanings))]) (hS : va_S A s.heap H locs) (ls : Array Slot) (hl : lv_has ls 3 [(0, .ref a_t), (1, .ref a_p1), (2, .int x2)]), W p l e ({ frames := 3, cells := 0, slots := 0, locals := 70 } : Room) s m ([.ref a_t, .ref a_p1] : List Value).toArray below meth c H locs 0 0 (MQ below (mQi G [(cI, .int)] A (fun _ : Unit => res) (fun _ => [(a_t, .inr (6, [.ref a_t_rows, .ref a_t_lengths, vt_back])), (a_t_rows, .inl (cI, 84, .inl t_rows)), (a_t_lengths, .inl (cI, 7, .inl t_lengths)), (a_p1, .inr (2, [.ref a_p1_meanings, vp1_ears, vp1_fees, vp1_missed, vp1_paid, vp1_losses])), (a_p1_meanings, .inl (cI, 180, .inl p1_meanings))])) ([.ref a_t, .ref a_p1] : List Value).toArray s 0 0 A) (F0 m 2 ls [])) := by
    intro n
    induction n with
    | zero => exact (fun _ H locs hf => (by cases hf))
    | succ n ih =>
      · intro  x2 H locs hf hP hD hS ls hl
        replace hf : bX6_lossByRules_1 t_rows t_lengths p1_meanings (rX6_lossByRules t_rows t_lengths p1_meanings n) x2 = some res := hf
        unfold bX6_lossByRules_1 at hf
        refine lv_iload_n hx hb dX6_lossByRules_2 rfl (lv_at hl 2 rfl) ?_
        refine lv_bipush (v := 6) hx hb dX6_lossByRules_3 (by decide) ?_
        refine lv_icmp_ge (tgt := 33) hx hb dX6_lossByRules_5 (by decide) (fun c1 => ?_) (fun c1 => ?_)
        · have hf := pf_t hf c1
          refine lv_iconst (v := (-1)) hx hb dX6_lossByRules_33 (by decide) ?_
          obtain rfl := Option.some.inj hf
          exact mEnd_i () hx hb hr hlocks hP hK hD hS rfl rfl (Nat.le_refl _) (Nat.le_refl _) dX6_lossByRules_34
        · have hf := pf_f hf c1
          refine lv_aload_n hx hb dX6_lossByRules_8 rfl (lv_at hl 0 rfl) ?_
          refine lv_iload_n hx hb dX6_lossByRules_9 rfl (lv_at hl 2 rfl) ?_
          obtain ⟨u2, hu2, hf⟩ := pf_b hf
          refine mCallV_i (As := [.int x2]) ⟨hx, hb, hml, hown, hts⟩ (mX6_missedBy l G cI a_t a_t_lengths H.size (.ref a_t_rows) vt_back t_lengths x2 _ hu2) (cwV 1 hts gX6_lossByRules_X6_missedBy rfl rfl rfl (by decide +kernel) ⟨Nat.le_of_ble_eq_true rfl, Nat.le_of_ble_eq_true rfl⟩) hP hD hS hA hK [0, 2] rfl (by decide) 0 6 rfl rfl rfl hK [a_t, a_t_lengths] (fun _ => rfl) rfl (fun _ => [(a_t, .inr (6, [.ref a_t_rows, .ref a_t_lengths, vt_back])), (a_t_rows, .inl (cI, 84, .inl t_rows)), (a_t_lengths, .inl (cI, 7, .inl t_lengths)), (a_p1, .inr (2, [.ref a_p1_meanings, vp1_ears, vp1_fees, vp1_missed, vp1_paid, vp1_losses])), (a_p1_meanings, .inl (cI, 180, .inl p1_meanings))]) [a_t, a_t_rows, a_t_lengths, a_p1, a_p1_meanings] (fun _ => rfl) rfl (fun _ => rfl) [1, 3, 4] [(a_t_rows, .inl (cI, 84, .inl t_rows)), (a_p1, .inr (2, [.ref a_p1_meanings, vp1_ears, vp1_fees, vp1_missed, vp1_paid, vp1_losses])), (a_p1_meanings, .inl (cI, 180, .inl p1_meanings))] (fun _ => rfl) rfl 5 rfl rfl rfl hl.1 rfl (lv_room (Nat.le_of_ble_eq_true rfl)) dX6_lossByRules_10 ⟨Nat.zero_le _, Nat.zero_le _⟩ (fun _ H locs hP hD hS => ?_)
          have hP : va_P G vwCl [(a_t, .inr (6, [.ref a_t_rows, .ref a_t_lengths, vt_back])), (a_t_rows, .inl (cI, 84, .inl t_rows)), (a_t_lengths, .inl (cI, 7, .inl t_lengths)), (a_p1, .inr (2, [.ref a_p1_meanings, vp1_ears, vp1_fees, vp1_missed, vp1_paid, vp1_losses])), (a_p1_meanings, .inl (cI, 180, .inl p1_meanings))] H := hP
          have hD : va_D A [(a_t, .inr (6, [.ref a_t_rows, .ref a_t_lengths, vt_back])), (a_t_rows, .inl (cI, 84, .inl t_rows)), (a_t_lengths, .inl (cI, 7, .inl t_lengths)), (a_p1, .inr (2, [.ref a_p1_meanings, vp1_ears, vp1_fees, vp1_missed, vp1_paid, vp1_losses])), (a_p1_meanings, .inl (cI, 180, .inl p1_meanings))] := hD
          refine lv_if_gt (tgt := 25) hx hb dX6_lossByRules_13 (by decide) (fun c3 => ?_) (fun c3 => ?_)
          · have hf := pf_t hf c3
            refine lv_iload_n hx hb dX6_lossByRules_25 rfl (lv_at hl 2 rfl) ?_
            obtain rfl := Option.some.inj hf
            exact mEnd_i () hx hb hr hlocks hP hK hD hS rfl rfl (Nat.le_refl _) (Nat.le_refl _) dX6_lossByRules_26
          · have hf := pf_f hf c3
            refine lv_aload_n hx hb dX6_lossByRules_16 rfl (lv_at hl 0 rfl) ?_
            refine lv_iload_n hx hb dX6_lossByRules_17 rfl (lv_at hl 2 rfl) ?_
            refine lv_aload_n hx hb dX6_lossByRules_18 rfl (lv_at hl 1 rfl) ?_
            obtain ⟨u4, hu4, hf⟩ := pf_b hf
            refine mCallV_i (As := [.int x2, .ref a_p1]) ⟨hx, hb, hml, hown, hts⟩ (mX6_losesSomeWord l G cI a_t a_t_rows a_t_lengths a_p1 a_p1_meanings H.size vt_back vp1_ears vp1_fees vp1_missed vp1_paid vp1_losses t_rows t_lengths p1_meanings x2 _ hu4) (cwV 2 hts gX6_lossByRules_X6_losesSomeWord rfl rfl rfl (by decide +kernel) ⟨Nat.le_of_ble_eq_true rfl, Nat.le_of_ble_eq_true rfl⟩) hP hD hS hA hK [0, 1, 2, 3, 4] rfl (by decide) 0 6 rfl rfl rfl hK [a_t, a_t_rows, a_t_lengths, a_p1, a_p1_meanings] (fun _ => rfl) rfl (fun _ => [(a_t, .inr (6, [.ref a_t_rows, .ref a_t_lengths, vt_back])), (a_t_rows, .inl (cI, 84, .inl t_rows)), (a_t_lengths, .inl (cI, 7, .inl t_lengths)), (a_p1, .inr (2, [.ref a_p1_meanings, vp1_ears, vp1_fees, vp1_missed, vp1_paid, vp1_losses])), (a_p1_meanings, .inl (cI, 180, .inl p1_meanings))]) [a_t, a_t_rows, a_t_lengths, a_p1, a_p1_meanings] (fun _ => rfl) rfl (fun _ => rfl) [] [] (fun _ => rfl) rfl 5 rfl rfl rfl hl.1 rfl (lv_room (Nat.le_of_ble_eq_true rfl)) dX6_lossByRules_19 ⟨Nat.zero_le _, Nat.zero_le _⟩ (fun _ H locs hP hD hS => ?_)
            have hP : va_P G vwCl [(a_t, .inr (6, [.ref a_t_rows, .ref a_t_lengths, vt_back])), (a_t_rows, .inl (cI, 84, .inl t_rows)), (a_t_lengths, .inl (cI, 7, .inl t_lengths)), (a_p1, .inr (2, [.ref a_p1_meanings, vp1_ears, vp1_fees, vp1_missed, vp1_paid, vp1_losses])), (a_p1_meanings, .inl (cI, 180, .inl p1_meanings))] H := hP
            have hD : va_D A [(a_t, .inr (6, [.ref a_t_rows, .ref a_t_lengths, vt_back])), (a_t_rows, .inl (cI, 84, .inl t_rows)), (a_t_lengths, .inl (cI, 7, .inl t_lengths)), (a_p1, .inr (2, [.ref a_p1_meanings, vp1_ears, vp1_fees, vp1_missed, vp1_paid, vp1_losses])), (a_p1_meanings, .inl (cI, 180, .inl p1_meanings))] := hD
            refine lv_if_eq (tgt := 27) hx hb dX6_lossByRules_22 (by decide) (fun c5 => ?_) (fun c5 => ?_)
            · have hf := pf_t hf c5
              refine lv_iinc (v := x2 + 1) (lv' := [(2, .int (x2 + 1)), (0, .ref a_t), (1, .ref a_p1)]) hx hb dX6_lossByRules_27 hl (k := 2) rfl rfl (by decide) rfl (fun ls hl => ?_)
              refine lv_goto (tgt := 2) hx hb dX6_lossByRules_30 (by decide) ?_
              exact ih (x2 + 1) H locs hf hP hD hS ls (lv_sub hl [1, 2, 0] rfl)
            · have hf := pf_f hf c5
              refine lv_iload_n hx hb dX6_lossByRules_25 rfl (lv_at hl 2 rfl) ?_
              obtain rfl := Option.some.inj hf
              exact mEnd_i () hx hb hr hlocks hP hK hD hS rfl rfl (Nat.le_refl _) (Nat.le_refl _) dX6_lossByRules_26
  unfold fX6_lossByRules eX6_lossByRules at hf
  obtain ⟨H, hH⟩ : ∃ H : Heap, H = s.heap := ⟨_, rfl⟩
  obtain ⟨locs, hlc⟩ : ∃ z : List Loc, z = [] := ⟨_, rfl⟩
  rw [← hlc, ← hH]
  have hP : va_P G vwCl [(a_t, .inr (6, [.ref a_t_rows, .ref a_t_lengths, vt_back])), (a_t_rows, .inl (cI, 84, .inl t_rows)), (a_t_lengths, .inl (cI, 7, .inl t_lengths)), (a_p1, .inr (2, [.ref a_p1_meanings, vp1_ears, vp1_fees, vp1_missed, vp1_paid, vp1_losses])), (a_p1_meanings, .inl (cI, 180, .inl p1_meanings))] H := by rw [hH]; exact hP
  have hS : va_S A s.heap H locs := by rw [hlc, hH]; exact hS
  refine lv_iconst (v := 0) hx hb dX6_lossByRules_0 (by decide) ?_
  refine lv_istore_n (lv' := [(2, .int 0), (0, .ref a_t), (1, .ref a_p1)]) hx hb dX6_lossByRules_1 rfl hl (by decide) rfl (fun ls hl => ?_)
  exact (key fuelN) (0 : Int32) H locs hf hP hD hS ls (lv_sub hl [1, 2, 0] rfl)
def bX6_comesBackFrom_1 (p1 : Int32) (t_rows : Nat → Int32) (t_lengths : Nat → Int32) (p2_meanings : Nat → Int32) (k : Nat → Int32 → Int32 → Int32 → (Nat → Int32) → Option (Int32 × (Nat → Int32))) (x3 : Int32) (x4 : Int32) (x5 : Int32) (t_back : Nat → Int32) : Option (Int32 × (Nat → Int32)) :=
  (if x4 < 0 then k 3 x3 (0 : Int32) 0 t_back else k 2 x3 x4 (0 : Int32) t_back)
def bX6_comesBackFrom_2 (p1 : Int32) (t_rows : Nat → Int32) (t_lengths : Nat → Int32) (p2_meanings : Nat → Int32) (k : Nat → Int32 → Int32 → Int32 → (Nat → Int32) → Option (Int32 × (Nat → Int32))) (x3 : Int32) (x4 : Int32) (x5 : Int32) (t_back : Nat → Int32) : Option (Int32 × (Nat → Int32)) :=
  (if x3 ≤ x5 then k 1 x3 (x4 + (-1)) 0 t_back else (if x5 < 0 ∨ 12 ≤ x5.toNatClampNeg then none else ((fX2_lowestWith x4 (t_back x5.toNatClampNeg) p2_meanings).bind fun (u4 : Int32) => (if x5 < 0 ∨ 12 ≤ x5.toNatClampNeg then none else (lt (upd t_back x5.toNatClampNeg u4) fun (f6 : Nat → Int32) => k 2 x3 x4 (x5 + 1) f6)))))
def bX6_comesBackFrom_3 (p1 : Int32) (t_rows : Nat → Int32) (t_lengths : Nat → Int32) (p2_meanings : Nat → Int32) (k : Nat → Int32 → Int32 → Int32 → (Nat → Int32) → Option (Int32 × (Nat → Int32))) (x3 : Int32) (x4 : Int32) (x5 : Int32) (t_back : Nat → Int32) : Option (Int32 × (Nat → Int32)) :=
  (if x3 ≤ x4 then some ((1 : Int32), t_back) else (if x4 < 0 ∨ 12 ≤ x4.toNatClampNeg then none else (if x4 < 0 ∨ 84 ≤ x4.toNatClampNeg then none else (if (t_back x4.toNatClampNeg) = (t_rows x4.toNatClampNeg) then k 3 x3 (x4 + 1) 0 t_back else some ((0 : Int32), t_back)))))
def sX6_comesBackFrom (p1 : Int32) (t_rows : Nat → Int32) (t_lengths : Nat → Int32) (p2_meanings : Nat → Int32) (k : Nat → Int32 → Int32 → Int32 → (Nat → Int32) → Option (Int32 × (Nat → Int32))) (b : Nat) (x3 : Int32) (x4 : Int32) (x5 : Int32) (t_back : Nat → Int32) : Option (Int32 × (Nat → Int32)) := match b with
  | 1 => bX6_comesBackFrom_1 p1 t_rows t_lengths p2_meanings k x3 x4 x5 t_back
  | 2 => bX6_comesBackFrom_2 p1 t_rows t_lengths p2_meanings k x3 x4 x5 t_back
  | 3 => bX6_comesBackFrom_3 p1 t_rows t_lengths p2_meanings k x3 x4 x5 t_back
  | _ => none
def rX6_comesBackFrom (p1 : Int32) (t_rows : Nat → Int32) (t_lengths : Nat → Int32) (p2_meanings : Nat → Int32) : Nat → Nat → Int32 → Int32 → Int32 → (Nat → Int32) → Option (Int32 × (Nat → Int32))
  | 0 => fun _ _ _ _ _ => none
  | n + 1 => sX6_comesBackFrom p1 t_rows t_lengths p2_meanings (rX6_comesBackFrom p1 t_rows t_lengths p2_meanings n)
def eX6_comesBackFrom (p1 : Int32) (t_rows : Nat → Int32) (t_lengths : Nat → Int32) (t_back : Nat → Int32) (p2_meanings : Nat → Int32) (k : Nat → Int32 → Int32 → Int32 → (Nat → Int32) → Option (Int32 × (Nat → Int32))) : Option (Int32 × (Nat → Int32)) :=
  (if (p1 + (1 : Int32)) < 0 ∨ 7 ≤ (p1 + (1 : Int32)).toNatClampNeg then none else (lt (t_lengths (p1 + (1 : Int32)).toNatClampNeg) fun (y12 : Int32) => (if y12 = (t_lengths (0 : Int32).toNatClampNeg) then (if ((p1 + (1 : Int32)) * (12 : Int32)) < 0 then none else (if 84 < ((p1 + (1 : Int32)) * (12 : Int32)).toNatClampNeg + (12 : Int32).toNatClampNeg then none else (lt (va_cpy t_rows t_back ((p1 + (1 : Int32)) * (12 : Int32)).toNatClampNeg (0 : Int32).toNatClampNeg (12 : Int32).toNatClampNeg) fun (f16 : Nat → Int32) => k 1 y12 p1 0 f16))) else some ((0 : Int32), t_back))))
def fX6_comesBackFrom (p1 : Int32) (t_rows : Nat → Int32) (t_lengths : Nat → Int32) (t_back : Nat → Int32) (p2_meanings : Nat → Int32) : Option (Int32 × (Nat → Int32)) := eX6_comesBackFrom p1 t_rows t_lengths t_back p2_meanings (rX6_comesBackFrom p1 t_rows t_lengths p2_meanings fuelN)
theorem iwX6_comesBackFrom_X6 : ∀ w ∈ u_ws RX6 TX6 3, w ∈ wsX6_comesBackFrom := by decide +kernel
set_option maxHeartbeats 4000000 in
set_option maxRecDepth 100000 in
theorem mX6_comesBackFrom (l : Launch) (G : va_G) (cI : ClassId) (a_t a_t_rows a_t_lengths a_t_back a_p2 a_p2_meanings : Nat) (sz : Nat) (vp2_ears vp2_fees vp2_missed vp2_paid vp2_losses : Value) (t_rows : Nat → Int32) (t_lengths : Nat → Int32) (t_back : Nat → Int32) (p2_meanings : Nat → Int32) (p1 : Int32) (res : Int32 × (Nat → Int32)) (hf : fX6_comesBackFrom p1 t_rows t_lengths t_back p2_meanings = some res) : Met l yX6_comesBackFrom wsX6_comesBackFrom ({ frames := 1, cells := 0, slots := 0, locals := 48 }) (mPc G [(cI, .int)] [.ref a_t, .int p1, .ref a_p2] sz [(a_t, .inr (6, [.ref a_t_rows, .ref a_t_lengths, .ref a_t_back])), (a_t_rows, .inl (cI, 84, .inl t_rows)), (a_t_lengths, .inl (cI, 7, .inl t_lengths)), (a_t_back, .inl (cI, 12, .inl t_back)), (a_p2, .inr (2, [.ref a_p2_meanings, vp2_ears, vp2_fees, vp2_missed, vp2_paid, vp2_losses])), (a_p2_meanings, .inl (cI, 180, .inl p2_meanings))]) (mQi G [(cI, .int)] (va_A [(a_t, .inr (6, [.ref a_t_rows, .ref a_t_lengths, .ref a_t_back])), (a_t_rows, .inl (cI, 84, .inl t_rows)), (a_t_lengths, .inl (cI, 7, .inl t_lengths)), (a_t_back, .inl (cI, 12, .inl t_back)), (a_p2, .inr (2, [.ref a_p2_meanings, vp2_ears, vp2_fees, vp2_missed, vp2_paid, vp2_losses])), (a_p2_meanings, .inl (cI, 180, .inl p2_meanings))] sz) (fun _ : Unit => res.1) (fun _ => [(a_t, .inr (6, [.ref a_t_rows, .ref a_t_lengths, .ref a_t_back])), (a_t_rows, .inl (cI, 84, .inl t_rows)), (a_t_lengths, .inl (cI, 7, .inl t_lengths)), (a_t_back, .inl (cI, 12, .inl res.2)), (a_p2, .inr (2, [.ref a_p2_meanings, vp2_ears, vp2_fees, vp2_missed, vp2_paid, vp2_losses])), (a_p2_meanings, .inl (cI, 180, .inl p2_meanings))])) 0 0 (va_A [(a_t, .inr (6, [.ref a_t_rows, .ref a_t_lengths, .ref a_t_back])), (a_t_rows, .inl (cI, 84, .inl t_rows)), (a_t_lengths, .inl (cI, 7, .inl t_lengths)), (a_t_back, .inl (cI, 12, .inl t_back)), (a_p2, .inr (2, [.ref a_p2_meanings, vp2_ears, vp2_fees, vp2_missed, vp2_paid, vp2_losses])), (a_p2_meanings, .inl (cI, 180, .inl p2_meanings))] sz) := by
  refine mStart (cc := cX6_comesBackFrom) (maxL := 6) (ret := (some .boolean)) (by decide) rfl (Nat.le_of_ble_eq_true rfl) ?_
  intro p e s m below meth c A ls hx hb hml hr hts hown hlocks hnm hA hsz hAe hP hK hD hS hl
  have hl : lv_has ls 6 [(0, .ref a_t), (1, .int p1), (2, .ref a_p2)] := hl
  rw [hAe]
  have k1 := hts (.fieldLink RX6 18 "DeafChain$Trip" "back" "[I") (by decide +kernel)
  have k2 := hts (.fieldLink RX6 9 "DeafChain$Trip" "rows" "[I") (by decide +kernel)
  have k3 := hts (.fieldLink RX6 15 "DeafChain$Trip" "lengths" "[I") (by decide +kernel)
  have k4 := hts (.methodLink RX6 26 arraycopyName) (by decide +kernel)
  have k5 := hts (.native arraycopyName) (by decide +kernel)
  have k6 := hts (.static arraycopyName) (by decide +kernel)
  have k7 := hts (.initialized "java/lang/System") (by decide +kernel)
  have key : ∀ n : Nat, (∀ (x3 : Int32) (x4 : Int32) (t_back : Nat → Int32) (H : Heap) (locs : List Loc) (hf : rX6_comesBackFrom p1 t_rows t_lengths p2_meanings n 1 x3 x4 0 t_back = some res) (hP : va_P G vwCl [(a_t, .inr (6, [.ref a_t_rows, .ref a_t_lengths, .ref a_t_back])), (a_t_rows, .inl (cI, 84, .inl t_rows)), (a_t_lengths, .inl (cI, 7, .inl t_lengths)), (a_t_back, .inl (cI, 12, .inl t_back)), (a_p2, .inr (2, [.ref a_p2_meanings, vp2_ears, vp2_fees, vp2_missed, vp2_paid, vp2_losses])), (a_p2_meanings, .inl (cI, 180, .inl p2_meanings))] H) (hD : va_D A [(a_t, .inr (6, [.ref a_t_rows, .ref a_t_lengths, .ref a_t_back])), (a_t_rows, .inl (cI, 84, .inl t_rows)), (a_t_lengths, .inl (cI, 7, .inl t_lengths)), (a_t_back, .inl (cI, 12, .inl t_back)), (a_p2, .inr (2, [.ref a_p2_meanings, vp2_ears, vp2_fees, vp2_missed, vp2_paid, vp2_losses])), (a_p2_meanings, .inl (cI, 180, .inl p2_meanings))]) (hS : va_S A s.heap H locs) (ls : Array Slot) (hl : lv_has ls 6 [(0, .ref a_t), (2, .ref a_p2), (3, .int x3), (4, .int x4)]), W p l e ({ frames := 1, cells := 0, slots := 0, locals := 48 } : Room) s m ([.ref a_t, .int p1, .ref a_p2] : List Value).toArray below meth c H locs 0 0 (MQ below (mQi G [(cI, .int)] A (fun _ : Unit => res.1) (fun _ => [(a_t, .inr (6, [.ref a_t_rows, .ref a_t_lengths, .ref a_t_back])), (a_t_rows, .inl (cI, 84, .inl t_rows)), (a_t_lengths, .inl (cI, 7, .inl t_lengths)), (a_t_back, .inl (cI, 12, .inl res.2)), (a_p2, .inr (2, [.ref a_p2_meanings, vp2_ears, vp2_fees, vp2_missed, vp2_paid, vp2_losses])), (a_p2_meanings, .inl (cI, 180, .inl p2_meanings))])) ([.ref a_t, .int p1, .ref a_p2] : List Value).toArray s 0 0 A) (F0 m 44 ls [])) ∧ (∀ (x3 : Int32) (x4 : Int32) (x5 : Int32) (t_back : Nat → Int32) (H : Heap) (locs : List Loc) (hf : rX6_comesBackFrom p1 t_rows t_lengths p2_meanings n 2 x3 x4 x5 t_back = some res) (hP : va_P G vwCl [(a_t, .inr (6, [.ref a_t_rows, .ref a_t_lengths, .ref a_t_back])), (a_t_rows, .inl (cI, 84, .inl t_rows)), (a_t_lengths, .inl (cI, 7, .inl t_lengths)), (a_t_back, .inl (cI, 12, .inl t_back)), (a_p2, .inr (2, [.ref a_p2_meanings, vp2_ears, vp2_fees, vp2_missed, vp2_paid, vp2_losses])), (a_p2_meanings, .inl (cI, 180, .inl p2_meanings))] H) (hD : va_D A [(a_t, .inr (6, [.ref a_t_rows, .ref a_t_lengths, .ref a_t_back])), (a_t_rows, .inl (cI, 84, .inl t_rows)), (a_t_lengths, .inl (cI, 7, .inl t_lengths)), (a_t_back, .inl (cI, 12, .inl t_back)), (a_p2, .inr (2, [.ref a_p2_meanings, vp2_ears, vp2_fees, vp2_missed, vp2_paid, vp2_losses])), (a_p2_meanings, .inl (cI, 180, .inl p2_meanings))]) (hS : va_S A s.heap H locs) (ls : Array Slot) (hl : lv_has ls 6 [(0, .ref a_t), (2, .ref a_p2), (3, .int x3), (4, .int x4), (5, .int x5)]), W p l e ({ frames := 1, cells := 0, slots := 0, locals := 48 } : Room) s m ([.ref a_t, .int p1, .ref a_p2] : List Value).toArray below meth c H locs 0 0 (MQ below (mQi G [(cI, .int)] A (fun _ : Unit => res.1) (fun _ => [(a_t, .inr (6, [.ref a_t_rows, .ref a_t_lengths, .ref a_t_back])), (a_t_rows, .inl (cI, 84, .inl t_rows)), (a_t_lengths, .inl (cI, 7, .inl t_lengths)), (a_t_back, .inl (cI, 12, .inl res.2)), (a_p2, .inr (2, [.ref a_p2_meanings, vp2_ears, vp2_fees, vp2_missed, vp2_paid, vp2_losses])), (a_p2_meanings, .inl (cI, 180, .inl p2_meanings))])) ([.ref a_t, .int p1, .ref a_p2] : List Value).toArray s 0 0 A) (F0 m 52 ls [])) ∧ (∀ (x3 : Int32) (x4 : Int32) (t_back : Nat → Int32) (H : Heap) (locs : List Loc) (hf : rX6_comesBackFrom p1 t_rows t_lengths p2_meanings n 3 x3 x4 0 t_back = some res) (hP : va_P G vwCl [(a_t, .inr (6, [.ref a_t_rows, .ref a_t_lengths, .ref a_t_back])), (a_t_rows, .inl (cI, 84, .inl t_rows)), (a_t_lengths, .inl (cI, 7, .inl t_lengths)), (a_t_back, .inl (cI, 12, .inl t_back)), (a_p2, .inr (2, [.ref a_p2_meanings, vp2_ears, vp2_fees, vp2_missed, vp2_paid, vp2_losses])), (a_p2_meanings, .inl (cI, 180, .inl p2_meanings))] H) (hD : va_D A [(a_t, .inr (6, [.ref a_t_rows, .ref a_t_lengths, .ref a_t_back])), (a_t_rows, .inl (cI, 84, .inl t_rows)), (a_t_lengths, .inl (cI, 7, .inl t_lengths)), (a_t_back, .inl (cI, 12, .inl t_back)), (a_p2, .inr (2, [.ref a_p2_meanings, vp2_ears, vp2_fees, vp2_missed, vp2_paid, vp2_losses])), (a_p2_meanings, .inl (cI, 180, .inl p2_meanings))]) (hS : va_S A s.heap H locs) (ls : Array Slot) (hl : lv_has ls 6 [(0, .ref a_t), (3, .int x3), (4, .int x4)]), W p l e ({ frames := 1, cells := 0, slots := 0, locals := 48 } : Room) s m ([.ref a_t, .int p1, .ref a_p2] : List Value).toArray below meth c H locs 0 0 (MQ below (mQi G [(cI, .int)] A (fun _ : Unit => res.1) (fun _ => [(a_t, .inr (6, [.ref a_t_rows, .ref a_t_lengths, .ref a_t_back])), (a_t_rows, .inl (cI, 84, .inl t_rows)), (a_t_lengths, .inl (cI, 7, .inl t_lengths)), (a_t_back, .inl (cI, 12, .inl res.2)), (a_p2, .inr (2, [.ref a_p2_meanings, vp2_ears, vp2_fees, vp2_missed, vp2_paid, vp2_losses])), (a_p2_meanings, .inl (cI, 180, .inl p2_meanings))])) ([.ref a_t, .int p1, .ref a_p2] : List Value).toArray s 0 0 A) (F0 m 93 ls [])) := by
    intro n
    induction n with
    | zero => exact ⟨(fun _ _ _ H locs hf => (by cases hf)), (fun _ _ _ _ H locs hf => (by cases hf)), (fun _ _ _ H locs hf => (by cases hf))⟩
    | succ n ih =>
      refine ⟨?_, ?_, ?_⟩
      · intro  x3 x4 t_back H locs hf hP hD hS ls hl
        replace hf : bX6_comesBackFrom_1 p1 t_rows t_lengths p2_meanings (rX6_comesBackFrom p1 t_rows t_lengths p2_meanings n) x3 x4 0 t_back = some res := hf
        unfold bX6_comesBackFrom_1 at hf
        refine lv_iload hx hb dX6_comesBackFrom_44 (lv_at hl 3 rfl) ?_
        refine lv_if_lt (tgt := 90) hx hb dX6_comesBackFrom_46 (by decide) (fun c1 => ?_) (fun c1 => ?_)
        · have hf := pf_t hf c1
          refine lv_iconst (v := 0) hx hb dX6_comesBackFrom_90 (by decide) ?_
          refine lv_istore (lv' := [(4, .int 0), (0, .ref a_t), (2, .ref a_p2), (3, .int x3)]) hx hb dX6_comesBackFrom_91 hl (by decide) rfl (fun ls hl => ?_)
          exact ih.2.2 x3 (0 : Int32) t_back H locs hf hP hD hS ls (lv_sub hl [1, 3, 0] rfl)
        · have hf := pf_f hf c1
          refine lv_iconst (v := 0) hx hb dX6_comesBackFrom_49 (by decide) ?_
          refine lv_istore (lv' := [(5, .int 0), (0, .ref a_t), (2, .ref a_p2), (3, .int x3), (4, .int x4)]) hx hb dX6_comesBackFrom_50 hl (by decide) rfl (fun ls hl => ?_)
          exact ih.2.1 x3 x4 (0 : Int32) t_back H locs hf hP hD hS ls (lv_sub hl [1, 2, 3, 4, 0] rfl)
      · intro  x3 x4 x5 t_back H locs hf hP hD hS ls hl
        replace hf : bX6_comesBackFrom_2 p1 t_rows t_lengths p2_meanings (rX6_comesBackFrom p1 t_rows t_lengths p2_meanings n) x3 x4 x5 t_back = some res := hf
        unfold bX6_comesBackFrom_2 at hf
        refine lv_iload hx hb dX6_comesBackFrom_52 (lv_at hl 4 rfl) ?_
        refine lv_iload_n hx hb dX6_comesBackFrom_54 rfl (lv_at hl 2 rfl) ?_
        refine lv_icmp_ge (tgt := 84) hx hb dX6_comesBackFrom_55 (by decide) (fun c2 => ?_) (fun c2 => ?_)
        · have hf := pf_t hf c2
          refine lv_iinc (v := x4 + (-1)) (lv' := [(4, .int (x4 + (-1))), (0, .ref a_t), (2, .ref a_p2), (3, .int x3), (5, .int x5)]) hx hb dX6_comesBackFrom_84 hl (k := 3) rfl rfl (by decide) rfl (fun ls hl => ?_)
          refine lv_goto (tgt := 44) hx hb dX6_comesBackFrom_87 (by decide) ?_
          exact ih.1 x3 (x4 + (-1)) t_back H locs hf hP hD hS ls (lv_sub hl [1, 2, 3, 0] rfl)
        · have hf := pf_f hf c2
          refine lv_aload_n hx hb dX6_comesBackFrom_58 rfl (lv_at hl 0 rfl) ?_
          refine va_get (D := G) (ci := 6) (v := .ref a_t_back) (C := RX6) (T := TX6) (N := 3) hx hb hts iwX6_comesBackFrom_X6 hown hK hP 0 rfl rfl 2 (by decide) k1 (fun _ h9 => h9) rfl dX6_comesBackFrom_59 ?_
          refine lv_iload hx hb dX6_comesBackFrom_62 (lv_at hl 4 rfl) ?_
          refine lv_aload_n hx hb dX6_comesBackFrom_64 rfl (lv_at hl 1 rfl) ?_
          refine lv_iload hx hb dX6_comesBackFrom_65 (lv_at hl 3 rfl) ?_
          refine lv_aload_n hx hb dX6_comesBackFrom_67 rfl (lv_at hl 0 rfl) ?_
          refine va_get (D := G) (ci := 6) (v := .ref a_t_back) (C := RX6) (T := TX6) (N := 3) hx hb hts iwX6_comesBackFrom_X6 hown hK hP 0 rfl rfl 2 (by decide) k1 (fun _ h9 => h9) rfl dX6_comesBackFrom_68 ?_
          refine lv_iload hx hb dX6_comesBackFrom_71 (lv_at hl 4 rfl) ?_
          obtain ⟨q3, hf⟩ := pf_k hf
          refine va_iald hx hb hK hP 3 0 rfl rfl q3 dX6_comesBackFrom_73 ?_
          obtain ⟨u4, hu4, hf⟩ := pf_b hf
          refine mCallV_i (As := [.int x4, .int (t_back x5.toNatClampNeg)]) ⟨hx, hb, hml, hown, hts⟩ (mX2_lowestWith l G cI a_p2 a_p2_meanings H.size vp2_ears vp2_fees vp2_missed vp2_paid vp2_losses p2_meanings x4 (t_back x5.toNatClampNeg) _ hu4) (cwV 2 hts gX6_comesBackFrom_X2_lowestWith rfl rfl rfl (by decide +kernel) ⟨Nat.le_of_ble_eq_true rfl, Nat.le_of_ble_eq_true rfl⟩) hP hD hS hA hK [4, 5] rfl (by decide) 4 2 rfl rfl rfl hK [a_p2, a_p2_meanings] (fun _ => rfl) rfl (fun _ => [(a_t, .inr (6, [.ref a_t_rows, .ref a_t_lengths, .ref a_t_back])), (a_t_rows, .inl (cI, 84, .inl t_rows)), (a_t_lengths, .inl (cI, 7, .inl t_lengths)), (a_t_back, .inl (cI, 12, .inl t_back)), (a_p2, .inr (2, [.ref a_p2_meanings, vp2_ears, vp2_fees, vp2_missed, vp2_paid, vp2_losses])), (a_p2_meanings, .inl (cI, 180, .inl p2_meanings))]) [a_t, a_t_rows, a_t_lengths, a_t_back, a_p2, a_p2_meanings] (fun _ => rfl) rfl (fun _ => rfl) [0, 1, 2, 3] [(a_t, .inr (6, [.ref a_t_rows, .ref a_t_lengths, .ref a_t_back])), (a_t_rows, .inl (cI, 84, .inl t_rows)), (a_t_lengths, .inl (cI, 7, .inl t_lengths)), (a_t_back, .inl (cI, 12, .inl t_back))] (fun _ => rfl) rfl 6 rfl rfl rfl hl.1 rfl (lv_room (Nat.le_of_ble_eq_true rfl)) dX6_comesBackFrom_74 ⟨Nat.zero_le _, Nat.zero_le _⟩ (fun _ H locs hP hD hS => ?_)
          have hP : va_P G vwCl [(a_t, .inr (6, [.ref a_t_rows, .ref a_t_lengths, .ref a_t_back])), (a_t_rows, .inl (cI, 84, .inl t_rows)), (a_t_lengths, .inl (cI, 7, .inl t_lengths)), (a_t_back, .inl (cI, 12, .inl t_back)), (a_p2, .inr (2, [.ref a_p2_meanings, vp2_ears, vp2_fees, vp2_missed, vp2_paid, vp2_losses])), (a_p2_meanings, .inl (cI, 180, .inl p2_meanings))] H := hP
          have hD : va_D A [(a_t, .inr (6, [.ref a_t_rows, .ref a_t_lengths, .ref a_t_back])), (a_t_rows, .inl (cI, 84, .inl t_rows)), (a_t_lengths, .inl (cI, 7, .inl t_lengths)), (a_t_back, .inl (cI, 12, .inl t_back)), (a_p2, .inr (2, [.ref a_p2_meanings, vp2_ears, vp2_fees, vp2_missed, vp2_paid, vp2_losses])), (a_p2_meanings, .inl (cI, 180, .inl p2_meanings))] := hD
          obtain ⟨q5, hf⟩ := pf_k hf
          refine va_iast hx hb hK hP hD hS 3 0 rfl rfl q5 dX6_comesBackFrom_77 (fun H locs hP hD hS => ?_)
          obtain ⟨f6, ef6⟩ : ∃ z : Nat → Int32, z = upd t_back x5.toNatClampNeg u4 := ⟨_, rfl⟩
          have hf := pf_l hf f6 ef6
          have hP : va_P G vwCl [(a_t, .inr (6, [.ref a_t_rows, .ref a_t_lengths, .ref a_t_back])), (a_t_rows, .inl (cI, 84, .inl t_rows)), (a_t_lengths, .inl (cI, 7, .inl t_lengths)), (a_t_back, .inl (cI, 12, .inl f6)), (a_p2, .inr (2, [.ref a_p2_meanings, vp2_ears, vp2_fees, vp2_missed, vp2_paid, vp2_losses])), (a_p2_meanings, .inl (cI, 180, .inl p2_meanings))] H := by rw [ef6]; exact hP
          have hD : va_D A [(a_t, .inr (6, [.ref a_t_rows, .ref a_t_lengths, .ref a_t_back])), (a_t_rows, .inl (cI, 84, .inl t_rows)), (a_t_lengths, .inl (cI, 7, .inl t_lengths)), (a_t_back, .inl (cI, 12, .inl f6)), (a_p2, .inr (2, [.ref a_p2_meanings, vp2_ears, vp2_fees, vp2_missed, vp2_paid, vp2_losses])), (a_p2_meanings, .inl (cI, 180, .inl p2_meanings))] := by rw [ef6]; exact hD
          refine lv_iinc (v := x5 + 1) (lv' := [(5, .int (x5 + 1)), (0, .ref a_t), (2, .ref a_p2), (3, .int x3), (4, .int x4)]) hx hb dX6_comesBackFrom_78 hl (k := 4) rfl rfl (by decide) rfl (fun ls hl => ?_)
          refine lv_goto (tgt := 52) hx hb dX6_comesBackFrom_81 (by decide) ?_
          exact ih.2.1 x3 x4 (x5 + 1) f6 H locs hf hP hD hS ls (lv_sub hl [1, 2, 3, 4, 0] rfl)
      · intro  x3 x4 t_back H locs hf hP hD hS ls hl
        replace hf : bX6_comesBackFrom_3 p1 t_rows t_lengths p2_meanings (rX6_comesBackFrom p1 t_rows t_lengths p2_meanings n) x3 x4 0 t_back = some res := hf
        unfold bX6_comesBackFrom_3 at hf
        refine lv_iload hx hb dX6_comesBackFrom_93 (lv_at hl 2 rfl) ?_
        refine lv_iload_n hx hb dX6_comesBackFrom_95 rfl (lv_at hl 1 rfl) ?_
        refine lv_icmp_ge (tgt := 124) hx hb dX6_comesBackFrom_96 (by decide) (fun c7 => ?_) (fun c7 => ?_)
        · have hf := pf_t hf c7
          refine lv_iconst (v := 1) hx hb dX6_comesBackFrom_124 (by decide) ?_
          obtain rfl := Option.some.inj hf
          exact mEnd_z () hx hb hr rfl hlocks hP hK hD hS rfl rfl (Nat.le_refl _) (Nat.le_refl _) dX6_comesBackFrom_125
        · have hf := pf_f hf c7
          refine lv_aload_n hx hb dX6_comesBackFrom_99 rfl (lv_at hl 0 rfl) ?_
          refine va_get (D := G) (ci := 6) (v := .ref a_t_back) (C := RX6) (T := TX6) (N := 3) hx hb hts iwX6_comesBackFrom_X6 hown hK hP 0 rfl rfl 2 (by decide) k1 (fun _ h9 => h9) rfl dX6_comesBackFrom_100 ?_
          refine lv_iload hx hb dX6_comesBackFrom_103 (lv_at hl 2 rfl) ?_
          obtain ⟨q8, hf⟩ := pf_k hf
          refine va_iald hx hb hK hP 3 0 rfl rfl q8 dX6_comesBackFrom_105 ?_
          refine lv_aload_n hx hb dX6_comesBackFrom_106 rfl (lv_at hl 0 rfl) ?_
          refine va_get (D := G) (ci := 6) (v := .ref a_t_rows) (C := RX6) (T := TX6) (N := 3) hx hb hts iwX6_comesBackFrom_X6 hown hK hP 0 rfl rfl 0 (by decide) k2 (fun _ h9 => h9) rfl dX6_comesBackFrom_107 ?_
          refine lv_iload hx hb dX6_comesBackFrom_110 (lv_at hl 2 rfl) ?_
          obtain ⟨q9, hf⟩ := pf_k hf
          refine va_iald hx hb hK hP 1 0 rfl rfl q9 dX6_comesBackFrom_112 ?_
          refine lv_icmp_eq (tgt := 118) hx hb dX6_comesBackFrom_113 (by decide) (fun c10 => ?_) (fun c10 => ?_)
          · have hf := pf_t hf c10
            refine lv_iinc (v := x4 + 1) (lv' := [(4, .int (x4 + 1)), (0, .ref a_t), (3, .int x3)]) hx hb dX6_comesBackFrom_118 hl (k := 2) rfl rfl (by decide) rfl (fun ls hl => ?_)
            refine lv_goto (tgt := 93) hx hb dX6_comesBackFrom_121 (by decide) ?_
            exact ih.2.2 x3 (x4 + 1) t_back H locs hf hP hD hS ls (lv_sub hl [1, 2, 0] rfl)
          · have hf := pf_f hf c10
            refine lv_iconst (v := 0) hx hb dX6_comesBackFrom_116 (by decide) ?_
            obtain rfl := Option.some.inj hf
            exact mEnd_z () hx hb hr rfl hlocks hP hK hD hS rfl rfl (Nat.le_refl _) (Nat.le_refl _) dX6_comesBackFrom_117
  unfold fX6_comesBackFrom eX6_comesBackFrom at hf
  obtain ⟨H, hH⟩ : ∃ H : Heap, H = s.heap := ⟨_, rfl⟩
  obtain ⟨locs, hlc⟩ : ∃ z : List Loc, z = [] := ⟨_, rfl⟩
  rw [← hlc, ← hH]
  have hP : va_P G vwCl [(a_t, .inr (6, [.ref a_t_rows, .ref a_t_lengths, .ref a_t_back])), (a_t_rows, .inl (cI, 84, .inl t_rows)), (a_t_lengths, .inl (cI, 7, .inl t_lengths)), (a_t_back, .inl (cI, 12, .inl t_back)), (a_p2, .inr (2, [.ref a_p2_meanings, vp2_ears, vp2_fees, vp2_missed, vp2_paid, vp2_losses])), (a_p2_meanings, .inl (cI, 180, .inl p2_meanings))] H := by rw [hH]; exact hP
  have hS : va_S A s.heap H locs := by rw [hlc, hH]; exact hS
  refine lv_aload_n hx hb dX6_comesBackFrom_0 rfl (lv_at hl 0 rfl) ?_
  refine va_get (D := G) (ci := 6) (v := .ref a_t_lengths) (C := RX6) (T := TX6) (N := 3) hx hb hts iwX6_comesBackFrom_X6 hown hK hP 0 rfl rfl 1 (by decide) k3 (fun _ h9 => h9) rfl dX6_comesBackFrom_1 ?_
  refine lv_iload_n hx hb dX6_comesBackFrom_4 rfl (lv_at hl 1 rfl) ?_
  refine lv_iconst (v := 1) hx hb dX6_comesBackFrom_5 (by decide) ?_
  refine lv_iadd hx hb dX6_comesBackFrom_6 ?_
  obtain ⟨q11, hf⟩ := pf_k hf
  refine va_iald hx hb hK hP 2 0 rfl rfl q11 dX6_comesBackFrom_7 ?_
  refine lv_topi (fun y12 ey12 => ?_)
  have hf := pf_l hf y12 ey12
  refine lv_istore_n (lv' := [(3, .int y12), (0, .ref a_t), (1, .int p1), (2, .ref a_p2)]) hx hb dX6_comesBackFrom_8 rfl hl (by decide) rfl (fun ls hl => ?_)
  refine lv_iload_n hx hb dX6_comesBackFrom_9 rfl (lv_at hl 0 rfl) ?_
  refine lv_aload_n hx hb dX6_comesBackFrom_10 rfl (lv_at hl 1 rfl) ?_
  refine va_get (D := G) (ci := 6) (v := .ref a_t_lengths) (C := RX6) (T := TX6) (N := 3) hx hb hts iwX6_comesBackFrom_X6 hown hK hP 0 rfl rfl 1 (by decide) k3 (fun _ h9 => h9) rfl dX6_comesBackFrom_11 ?_
  refine lv_iconst (v := 0) hx hb dX6_comesBackFrom_14 (by decide) ?_
  refine va_iald hx hb hK hP 2 0 rfl rfl (vp_lit (by decide +kernel)) dX6_comesBackFrom_15 ?_
  refine lv_icmp_eq (tgt := 21) hx hb dX6_comesBackFrom_16 (by decide) (fun c13 => ?_) (fun c13 => ?_)
  · have hf := pf_t hf c13
    refine lv_aload_n hx hb dX6_comesBackFrom_21 rfl (lv_at hl 1 rfl) ?_
    refine va_get (D := G) (ci := 6) (v := .ref a_t_rows) (C := RX6) (T := TX6) (N := 3) hx hb hts iwX6_comesBackFrom_X6 hown hK hP 0 rfl rfl 0 (by decide) k2 (fun _ h9 => h9) rfl dX6_comesBackFrom_22 ?_
    refine lv_iload_n hx hb dX6_comesBackFrom_25 rfl (lv_at hl 2 rfl) ?_
    refine lv_iconst (v := 1) hx hb dX6_comesBackFrom_26 (by decide) ?_
    refine lv_iadd hx hb dX6_comesBackFrom_27 ?_
    refine lv_bipush (v := 12) hx hb dX6_comesBackFrom_28 (by decide) ?_
    refine lv_imul hx hb dX6_comesBackFrom_30 ?_
    refine lv_aload_n hx hb dX6_comesBackFrom_31 rfl (lv_at hl 1 rfl) ?_
    refine va_get (D := G) (ci := 6) (v := .ref a_t_back) (C := RX6) (T := TX6) (N := 3) hx hb hts iwX6_comesBackFrom_X6 hown hK hP 0 rfl rfl 2 (by decide) k1 (fun _ h9 => h9) rfl dX6_comesBackFrom_32 ?_
    refine lv_iconst (v := 0) hx hb dX6_comesBackFrom_35 (by decide) ?_
    refine lv_bipush (v := 12) hx hb dX6_comesBackFrom_36 (by decide) ?_
    obtain ⟨q14, hf⟩ := pf_k hf
    obtain ⟨q15, hf⟩ := pf_k hf
    refine va_copyi hx hb (hml.trans hl.1.symm) hown k4 k5 k6 k7 hK hP hD hS 1 3 0 0 rfl rfl rfl rfl rfl q14 (by decide) (by decide) (Nat.not_lt.mp q15) (by decide +kernel) (fun _ _ => rfl) (Nat.le_of_ble_eq_true rfl) (Nat.le_of_ble_eq_true rfl) dX6_comesBackFrom_38 (fun H locs hP hD hS => ?_)
    obtain ⟨f16, ef16⟩ : ∃ z : Nat → Int32, z = va_cpy t_rows t_back ((p1 + (1 : Int32)) * (12 : Int32)).toNatClampNeg (0 : Int32).toNatClampNeg (12 : Int32).toNatClampNeg := ⟨_, rfl⟩
    have hf := pf_l hf f16 ef16
    have hP : va_P G vwCl [(a_t, .inr (6, [.ref a_t_rows, .ref a_t_lengths, .ref a_t_back])), (a_t_rows, .inl (cI, 84, .inl t_rows)), (a_t_lengths, .inl (cI, 7, .inl t_lengths)), (a_t_back, .inl (cI, 12, .inl f16)), (a_p2, .inr (2, [.ref a_p2_meanings, vp2_ears, vp2_fees, vp2_missed, vp2_paid, vp2_losses])), (a_p2_meanings, .inl (cI, 180, .inl p2_meanings))] H := by rw [ef16]; exact hP
    have hD : va_D A [(a_t, .inr (6, [.ref a_t_rows, .ref a_t_lengths, .ref a_t_back])), (a_t_rows, .inl (cI, 84, .inl t_rows)), (a_t_lengths, .inl (cI, 7, .inl t_lengths)), (a_t_back, .inl (cI, 12, .inl f16)), (a_p2, .inr (2, [.ref a_p2_meanings, vp2_ears, vp2_fees, vp2_missed, vp2_paid, vp2_losses])), (a_p2_meanings, .inl (cI, 180, .inl p2_meanings))] := by rw [ef16]; exact hD
    refine lv_iload_n hx hb dX6_comesBackFrom_41 rfl (lv_at hl 2 rfl) ?_
    refine lv_istore (lv' := [(4, .int p1), (3, .int y12), (0, .ref a_t), (1, .int p1), (2, .ref a_p2)]) hx hb dX6_comesBackFrom_42 hl (by decide) rfl (fun ls hl => ?_)
    exact (key fuelN).1 y12 p1 f16 H locs hf hP hD hS ls (lv_sub hl [2, 4, 1, 0] rfl)
  · have hf := pf_f hf c13
    refine lv_iconst (v := 0) hx hb dX6_comesBackFrom_19 (by decide) ?_
    obtain rfl := Option.some.inj hf
    exact mEnd_z () hx hb hr rfl hlocks hP hK hD hS rfl rfl (Nat.le_refl _) (Nat.le_refl _) dX6_comesBackFrom_20
def bX6_lossBySendingBack_1 (t_rows : Nat → Int32) (t_lengths : Nat → Int32) (p1_meanings : Nat → Int32) (k : Nat → Int32 → (Nat → Int32) → Option (Int32 × (Nat → Int32))) (x2 : Int32) (t_back : Nat → Int32) : Option (Int32 × (Nat → Int32)) :=
  (if (6 : Int32) ≤ x2 then some (((-1) : Int32), t_back) else ((fX6_comesBackFrom x2 t_rows t_lengths t_back p1_meanings).bind fun (u2 : Int32 × (Nat → Int32)) => (if u2.1 = 0 then some (x2, u2.2) else k 1 (x2 + 1) u2.2)))
def sX6_lossBySendingBack (t_rows : Nat → Int32) (t_lengths : Nat → Int32) (p1_meanings : Nat → Int32) (k : Nat → Int32 → (Nat → Int32) → Option (Int32 × (Nat → Int32))) (b : Nat) (x2 : Int32) (t_back : Nat → Int32) : Option (Int32 × (Nat → Int32)) := match b with
  | 1 => bX6_lossBySendingBack_1 t_rows t_lengths p1_meanings k x2 t_back
  | _ => none
def rX6_lossBySendingBack (t_rows : Nat → Int32) (t_lengths : Nat → Int32) (p1_meanings : Nat → Int32) : Nat → Nat → Int32 → (Nat → Int32) → Option (Int32 × (Nat → Int32))
  | 0 => fun _ _ _ => none
  | n + 1 => sX6_lossBySendingBack t_rows t_lengths p1_meanings (rX6_lossBySendingBack t_rows t_lengths p1_meanings n)
def eX6_lossBySendingBack (t_rows : Nat → Int32) (t_lengths : Nat → Int32) (t_back : Nat → Int32) (p1_meanings : Nat → Int32) (k : Nat → Int32 → (Nat → Int32) → Option (Int32 × (Nat → Int32))) : Option (Int32 × (Nat → Int32)) :=
  k 1 (0 : Int32) t_back
def fX6_lossBySendingBack (t_rows : Nat → Int32) (t_lengths : Nat → Int32) (t_back : Nat → Int32) (p1_meanings : Nat → Int32) : Option (Int32 × (Nat → Int32)) := eX6_lossBySendingBack t_rows t_lengths t_back p1_meanings (rX6_lossBySendingBack t_rows t_lengths p1_meanings fuelN)
set_option maxHeartbeats 4000000 in
set_option maxRecDepth 100000 in
theorem mX6_lossBySendingBack (l : Launch) (G : va_G) (cI : ClassId) (a_t a_t_rows a_t_lengths a_t_back a_p1 a_p1_meanings : Nat) (sz : Nat) (vp1_ears vp1_fees vp1_missed vp1_paid vp1_losses : Value) (t_rows : Nat → Int32) (t_lengths : Nat → Int32) (t_back : Nat → Int32) (p1_meanings : Nat → Int32)  (res : Int32 × (Nat → Int32)) (hf : fX6_lossBySendingBack t_rows t_lengths t_back p1_meanings = some res) : Met l yX6_lossBySendingBack wsX6_lossBySendingBack ({ frames := 2, cells := 0, slots := 0, locals := 73 }) (mPc G [(cI, .int)] [.ref a_t, .ref a_p1] sz [(a_t, .inr (6, [.ref a_t_rows, .ref a_t_lengths, .ref a_t_back])), (a_t_rows, .inl (cI, 84, .inl t_rows)), (a_t_lengths, .inl (cI, 7, .inl t_lengths)), (a_t_back, .inl (cI, 12, .inl t_back)), (a_p1, .inr (2, [.ref a_p1_meanings, vp1_ears, vp1_fees, vp1_missed, vp1_paid, vp1_losses])), (a_p1_meanings, .inl (cI, 180, .inl p1_meanings))]) (mQi G [(cI, .int)] (va_A [(a_t, .inr (6, [.ref a_t_rows, .ref a_t_lengths, .ref a_t_back])), (a_t_rows, .inl (cI, 84, .inl t_rows)), (a_t_lengths, .inl (cI, 7, .inl t_lengths)), (a_t_back, .inl (cI, 12, .inl t_back)), (a_p1, .inr (2, [.ref a_p1_meanings, vp1_ears, vp1_fees, vp1_missed, vp1_paid, vp1_losses])), (a_p1_meanings, .inl (cI, 180, .inl p1_meanings))] sz) (fun _ : Unit => res.1) (fun _ => [(a_t, .inr (6, [.ref a_t_rows, .ref a_t_lengths, .ref a_t_back])), (a_t_rows, .inl (cI, 84, .inl t_rows)), (a_t_lengths, .inl (cI, 7, .inl t_lengths)), (a_t_back, .inl (cI, 12, .inl res.2)), (a_p1, .inr (2, [.ref a_p1_meanings, vp1_ears, vp1_fees, vp1_missed, vp1_paid, vp1_losses])), (a_p1_meanings, .inl (cI, 180, .inl p1_meanings))])) 0 0 (va_A [(a_t, .inr (6, [.ref a_t_rows, .ref a_t_lengths, .ref a_t_back])), (a_t_rows, .inl (cI, 84, .inl t_rows)), (a_t_lengths, .inl (cI, 7, .inl t_lengths)), (a_t_back, .inl (cI, 12, .inl t_back)), (a_p1, .inr (2, [.ref a_p1_meanings, vp1_ears, vp1_fees, vp1_missed, vp1_paid, vp1_losses])), (a_p1_meanings, .inl (cI, 180, .inl p1_meanings))] sz) := by
  refine mStart (cc := cX6_lossBySendingBack) (maxL := 3) (ret := (some .int)) (by decide) rfl (Nat.le_of_ble_eq_true rfl) ?_
  intro p e s m below meth c A ls hx hb hml hr hts hown hlocks hnm hA hsz hAe hP hK hD hS hl
  have hl : lv_has ls 3 [(0, .ref a_t), (1, .ref a_p1)] := hl
  rw [hAe]
  have key : ∀ n : Nat, (∀ (x2 : Int32) (t_back : Nat → Int32) (H : Heap) (locs : List Loc) (hf : rX6_lossBySendingBack t_rows t_lengths p1_meanings n 1 x2 t_back = some res) (hP : va_P G vwCl [(a_t, .inr (6, [.ref a_t_rows, .ref a_t_lengths, .ref a_t_back])), (a_t_rows, .inl (cI, 84, .inl t_rows)), (a_t_lengths, .inl (cI, 7, .inl t_lengths)), (a_t_back, .inl (cI, 12, .inl t_back)), (a_p1, .inr (2, [.ref a_p1_meanings, vp1_ears, vp1_fees, vp1_missed, vp1_paid, vp1_losses])), (a_p1_meanings, .inl (cI, 180, .inl p1_meanings))] H) (hD : va_D A [(a_t, .inr (6, [.ref a_t_rows, .ref a_t_lengths, .ref a_t_back])), (a_t_rows, .inl (cI, 84, .inl t_rows)), (a_t_lengths, .inl (cI, 7, .inl t_lengths)), (a_t_back, .inl (cI, 12, .inl t_back)), (a_p1, .inr (2, [.ref a_p1_meanings, vp1_ears, vp1_fees, vp1_missed, vp1_paid, vp1_losses])), (a_p1_meanings, .inl (cI, 180, .inl p1_meanings))]) (hS : va_S A s.heap H locs) (ls : Array Slot) (hl : lv_has ls 3 [(0, .ref a_t), (1, .ref a_p1), (2, .int x2)]), W p l e ({ frames := 2, cells := 0, slots := 0, locals := 73 } : Room) s m ([.ref a_t, .ref a_p1] : List Value).toArray below meth c H locs 0 0 (MQ below (mQi G [(cI, .int)] A (fun _ : Unit => res.1) (fun _ => [(a_t, .inr (6, [.ref a_t_rows, .ref a_t_lengths, .ref a_t_back])), (a_t_rows, .inl (cI, 84, .inl t_rows)), (a_t_lengths, .inl (cI, 7, .inl t_lengths)), (a_t_back, .inl (cI, 12, .inl res.2)), (a_p1, .inr (2, [.ref a_p1_meanings, vp1_ears, vp1_fees, vp1_missed, vp1_paid, vp1_losses])), (a_p1_meanings, .inl (cI, 180, .inl p1_meanings))])) ([.ref a_t, .ref a_p1] : List Value).toArray s 0 0 A) (F0 m 2 ls [])) := by
    intro n
    induction n with
    | zero => exact (fun _ _ H locs hf => (by cases hf))
    | succ n ih =>
      · intro  x2 t_back H locs hf hP hD hS ls hl
        replace hf : bX6_lossBySendingBack_1 t_rows t_lengths p1_meanings (rX6_lossBySendingBack t_rows t_lengths p1_meanings n) x2 t_back = some res := hf
        unfold bX6_lossBySendingBack_1 at hf
        refine lv_iload_n hx hb dX6_lossBySendingBack_2 rfl (lv_at hl 2 rfl) ?_
        refine lv_bipush (v := 6) hx hb dX6_lossBySendingBack_3 (by decide) ?_
        refine lv_icmp_ge (tgt := 25) hx hb dX6_lossBySendingBack_5 (by decide) (fun c1 => ?_) (fun c1 => ?_)
        · have hf := pf_t hf c1
          refine lv_iconst (v := (-1)) hx hb dX6_lossBySendingBack_25 (by decide) ?_
          obtain rfl := Option.some.inj hf
          exact mEnd_i () hx hb hr hlocks hP hK hD hS rfl rfl (Nat.le_refl _) (Nat.le_refl _) dX6_lossBySendingBack_26
        · have hf := pf_f hf c1
          refine lv_aload_n hx hb dX6_lossBySendingBack_8 rfl (lv_at hl 0 rfl) ?_
          refine lv_iload_n hx hb dX6_lossBySendingBack_9 rfl (lv_at hl 2 rfl) ?_
          refine lv_aload_n hx hb dX6_lossBySendingBack_10 rfl (lv_at hl 1 rfl) ?_
          obtain ⟨u2, hu2, hf⟩ := pf_b hf
          refine mCallV_i (As := [.int x2, .ref a_p1]) ⟨hx, hb, hml, hown, hts⟩ (mX6_comesBackFrom l G cI a_t a_t_rows a_t_lengths a_t_back a_p1 a_p1_meanings H.size vp1_ears vp1_fees vp1_missed vp1_paid vp1_losses t_rows t_lengths t_back p1_meanings x2 _ hu2) (cwV 2 hts gX6_lossBySendingBack_X6_comesBackFrom rfl rfl rfl (by decide +kernel) ⟨Nat.le_of_ble_eq_true rfl, Nat.le_of_ble_eq_true rfl⟩) hP hD hS hA hK [0, 1, 2, 3, 4, 5] rfl (by decide) 0 6 rfl rfl rfl hK [a_t, a_t_rows, a_t_lengths, a_t_back, a_p1, a_p1_meanings] (fun _ => rfl) rfl (fun _ => [(a_t, .inr (6, [.ref a_t_rows, .ref a_t_lengths, .ref a_t_back])), (a_t_rows, .inl (cI, 84, .inl t_rows)), (a_t_lengths, .inl (cI, 7, .inl t_lengths)), (a_t_back, .inl (cI, 12, .inl u2.2)), (a_p1, .inr (2, [.ref a_p1_meanings, vp1_ears, vp1_fees, vp1_missed, vp1_paid, vp1_losses])), (a_p1_meanings, .inl (cI, 180, .inl p1_meanings))]) [a_t, a_t_rows, a_t_lengths, a_t_back, a_p1, a_p1_meanings] (fun _ => rfl) rfl (fun _ => rfl) [] [] (fun _ => rfl) rfl 6 rfl rfl rfl hl.1 rfl (lv_room (Nat.le_of_ble_eq_true rfl)) dX6_lossBySendingBack_11 ⟨Nat.zero_le _, Nat.zero_le _⟩ (fun _ H locs hP hD hS => ?_)
          have hP : va_P G vwCl [(a_t, .inr (6, [.ref a_t_rows, .ref a_t_lengths, .ref a_t_back])), (a_t_rows, .inl (cI, 84, .inl t_rows)), (a_t_lengths, .inl (cI, 7, .inl t_lengths)), (a_t_back, .inl (cI, 12, .inl u2.2)), (a_p1, .inr (2, [.ref a_p1_meanings, vp1_ears, vp1_fees, vp1_missed, vp1_paid, vp1_losses])), (a_p1_meanings, .inl (cI, 180, .inl p1_meanings))] H := hP
          have hD : va_D A [(a_t, .inr (6, [.ref a_t_rows, .ref a_t_lengths, .ref a_t_back])), (a_t_rows, .inl (cI, 84, .inl t_rows)), (a_t_lengths, .inl (cI, 7, .inl t_lengths)), (a_t_back, .inl (cI, 12, .inl u2.2)), (a_p1, .inr (2, [.ref a_p1_meanings, vp1_ears, vp1_fees, vp1_missed, vp1_paid, vp1_losses])), (a_p1_meanings, .inl (cI, 180, .inl p1_meanings))] := hD
          refine lv_if_ne (tgt := 19) hx hb dX6_lossBySendingBack_14 (by decide) (fun c3 => ?_) (fun c3 => ?_)
          · have hf := pf_f hf c3
            refine lv_iinc (v := x2 + 1) (lv' := [(2, .int (x2 + 1)), (0, .ref a_t), (1, .ref a_p1)]) hx hb dX6_lossBySendingBack_19 hl (k := 2) rfl rfl (by decide) rfl (fun ls hl => ?_)
            refine lv_goto (tgt := 2) hx hb dX6_lossBySendingBack_22 (by decide) ?_
            exact ih (x2 + 1) u2.2 H locs hf hP hD hS ls (lv_sub hl [1, 2, 0] rfl)
          · have hf := pf_t hf c3
            refine lv_iload_n hx hb dX6_lossBySendingBack_17 rfl (lv_at hl 2 rfl) ?_
            obtain rfl := Option.some.inj hf
            exact mEnd_i () hx hb hr hlocks hP hK hD hS rfl rfl (Nat.le_refl _) (Nat.le_refl _) dX6_lossBySendingBack_18
  unfold fX6_lossBySendingBack eX6_lossBySendingBack at hf
  obtain ⟨H, hH⟩ : ∃ H : Heap, H = s.heap := ⟨_, rfl⟩
  obtain ⟨locs, hlc⟩ : ∃ z : List Loc, z = [] := ⟨_, rfl⟩
  rw [← hlc, ← hH]
  have hP : va_P G vwCl [(a_t, .inr (6, [.ref a_t_rows, .ref a_t_lengths, .ref a_t_back])), (a_t_rows, .inl (cI, 84, .inl t_rows)), (a_t_lengths, .inl (cI, 7, .inl t_lengths)), (a_t_back, .inl (cI, 12, .inl t_back)), (a_p1, .inr (2, [.ref a_p1_meanings, vp1_ears, vp1_fees, vp1_missed, vp1_paid, vp1_losses])), (a_p1_meanings, .inl (cI, 180, .inl p1_meanings))] H := by rw [hH]; exact hP
  have hS : va_S A s.heap H locs := by rw [hlc, hH]; exact hS
  refine lv_iconst (v := 0) hx hb dX6_lossBySendingBack_0 (by decide) ?_
  refine lv_istore_n (lv' := [(2, .int 0), (0, .ref a_t), (1, .ref a_p1)]) hx hb dX6_lossBySendingBack_1 rfl hl (by decide) rfl (fun ls hl => ?_)
  exact (key fuelN) (0 : Int32) t_back H locs hf hP hD hS ls (lv_sub hl [1, 2, 0] rfl)
def bX2_account_1 (p2 : Int32) (t_fees : Nat → Int32) (p1_lengths : Nat → Int32) (k : Nat → Int32 → (Nat → Int32) → (Nat → Int32) → (Nat → Int32) → Option ((Nat → Int32) × (Nat → Int32) × (Nat → Int32))) (x3 : Int32) (t_missed : Nat → Int32) (t_paid : Nat → Int32) (t_losses : Nat → Int32) : Option ((Nat → Int32) × (Nat → Int32) × (Nat → Int32)) :=
  (if (6 : Int32) ≤ x3 then (if p2 < 0 then some (t_missed, t_paid, t_losses) else (if (6 : Int32) ≤ p2 then some (t_missed, t_paid, t_losses) else (if p2 < 0 ∨ 6 ≤ p2.toNatClampNeg then none else (lt ((t_losses p2.toNatClampNeg) + (1 : Int32)) fun (y5 : Int32) => (if p2 < 0 ∨ 6 ≤ p2.toNatClampNeg then none else (lt (upd t_losses p2.toNatClampNeg y5) fun (f7 : Nat → Int32) => some (t_missed, t_paid, f7))))))) else (if x3 < 0 ∨ 6 ≤ x3.toNatClampNeg then none else ((fX6_missedBy x3 p1_lengths).bind fun (u9 : Int32) => (lt ((t_missed x3.toNatClampNeg) + u9) fun (y10 : Int32) => (if x3 < 0 ∨ 6 ≤ x3.toNatClampNeg then none else (lt (upd t_missed x3.toNatClampNeg y10) fun (f12 : Nat → Int32) => (if x3 < 0 ∨ 6 ≤ x3.toNatClampNeg then none else ((fX6_payOf x3 p1_lengths t_fees).bind fun (u14 : Int32) => (lt ((t_paid x3.toNatClampNeg) + u14) fun (y15 : Int32) => (if x3 < 0 ∨ 6 ≤ x3.toNatClampNeg then none else (lt (upd t_paid x3.toNatClampNeg y15) fun (f17 : Nat → Int32) => k 1 (x3 + 1) f12 f17 t_losses)))))))))))
def sX2_account (p2 : Int32) (t_fees : Nat → Int32) (p1_lengths : Nat → Int32) (k : Nat → Int32 → (Nat → Int32) → (Nat → Int32) → (Nat → Int32) → Option ((Nat → Int32) × (Nat → Int32) × (Nat → Int32))) (b : Nat) (x3 : Int32) (t_missed : Nat → Int32) (t_paid : Nat → Int32) (t_losses : Nat → Int32) : Option ((Nat → Int32) × (Nat → Int32) × (Nat → Int32)) := match b with
  | 1 => bX2_account_1 p2 t_fees p1_lengths k x3 t_missed t_paid t_losses
  | _ => none
def rX2_account (p2 : Int32) (t_fees : Nat → Int32) (p1_lengths : Nat → Int32) : Nat → Nat → Int32 → (Nat → Int32) → (Nat → Int32) → (Nat → Int32) → Option ((Nat → Int32) × (Nat → Int32) × (Nat → Int32))
  | 0 => fun _ _ _ _ _ => none
  | n + 1 => sX2_account p2 t_fees p1_lengths (rX2_account p2 t_fees p1_lengths n)
def eX2_account (p2 : Int32) (t_fees : Nat → Int32) (t_missed : Nat → Int32) (t_paid : Nat → Int32) (t_losses : Nat → Int32) (p1_lengths : Nat → Int32) (k : Nat → Int32 → (Nat → Int32) → (Nat → Int32) → (Nat → Int32) → Option ((Nat → Int32) × (Nat → Int32) × (Nat → Int32))) : Option ((Nat → Int32) × (Nat → Int32) × (Nat → Int32)) :=
  k 1 (0 : Int32) t_missed t_paid t_losses
def fX2_account (p2 : Int32) (t_fees : Nat → Int32) (t_missed : Nat → Int32) (t_paid : Nat → Int32) (t_losses : Nat → Int32) (p1_lengths : Nat → Int32) : Option ((Nat → Int32) × (Nat → Int32) × (Nat → Int32)) := eX2_account p2 t_fees t_missed t_paid t_losses p1_lengths (rX2_account p2 t_fees p1_lengths fuelN)
theorem iwX2_account_X2 : ∀ w ∈ u_ws RX2 TX2 6, w ∈ wsX2_account := by decide +kernel
set_option maxHeartbeats 4000000 in
set_option maxRecDepth 100000 in
theorem mX2_account (l : Launch) (G : va_G) (cI : ClassId) (a_t a_t_fees a_t_missed a_t_paid a_t_losses a_p1 a_p1_lengths : Nat) (sz : Nat) (vt_meanings vt_ears vp1_rows vp1_back : Value) (t_fees : Nat → Int32) (t_missed : Nat → Int32) (t_paid : Nat → Int32) (t_losses : Nat → Int32) (p1_lengths : Nat → Int32) (p2 : Int32) (res : (Nat → Int32) × (Nat → Int32) × (Nat → Int32)) (hf : fX2_account p2 t_fees t_missed t_paid t_losses p1_lengths = some res) : Met l yX2_account wsX2_account ({ frames := 1, cells := 0, slots := 0, locals := 22 }) (mPc G [(cI, .int)] [.ref a_t, .ref a_p1, .int p2] sz [(a_t, .inr (2, [vt_meanings, vt_ears, .ref a_t_fees, .ref a_t_missed, .ref a_t_paid, .ref a_t_losses])), (a_t_fees, .inl (cI, 6, .inl t_fees)), (a_t_missed, .inl (cI, 6, .inl t_missed)), (a_t_paid, .inl (cI, 6, .inl t_paid)), (a_t_losses, .inl (cI, 6, .inl t_losses)), (a_p1, .inr (6, [vp1_rows, .ref a_p1_lengths, vp1_back])), (a_p1_lengths, .inl (cI, 7, .inl p1_lengths))]) (mQv G [(cI, .int)] (va_A [(a_t, .inr (2, [vt_meanings, vt_ears, .ref a_t_fees, .ref a_t_missed, .ref a_t_paid, .ref a_t_losses])), (a_t_fees, .inl (cI, 6, .inl t_fees)), (a_t_missed, .inl (cI, 6, .inl t_missed)), (a_t_paid, .inl (cI, 6, .inl t_paid)), (a_t_losses, .inl (cI, 6, .inl t_losses)), (a_p1, .inr (6, [vp1_rows, .ref a_p1_lengths, vp1_back])), (a_p1_lengths, .inl (cI, 7, .inl p1_lengths))] sz) (fun u9 : Unit => [(a_t, .inr (2, [vt_meanings, vt_ears, .ref a_t_fees, .ref a_t_missed, .ref a_t_paid, .ref a_t_losses])), (a_t_fees, .inl (cI, 6, .inl t_fees)), (a_t_missed, .inl (cI, 6, .inl res.1)), (a_t_paid, .inl (cI, 6, .inl res.2.1)), (a_t_losses, .inl (cI, 6, .inl res.2.2)), (a_p1, .inr (6, [vp1_rows, .ref a_p1_lengths, vp1_back])), (a_p1_lengths, .inl (cI, 7, .inl p1_lengths))])) 0 0 (va_A [(a_t, .inr (2, [vt_meanings, vt_ears, .ref a_t_fees, .ref a_t_missed, .ref a_t_paid, .ref a_t_losses])), (a_t_fees, .inl (cI, 6, .inl t_fees)), (a_t_missed, .inl (cI, 6, .inl t_missed)), (a_t_paid, .inl (cI, 6, .inl t_paid)), (a_t_losses, .inl (cI, 6, .inl t_losses)), (a_p1, .inr (6, [vp1_rows, .ref a_p1_lengths, vp1_back])), (a_p1_lengths, .inl (cI, 7, .inl p1_lengths))] sz) := by
  refine mStart (cc := cX2_account) (maxL := 4) (ret := none) (by decide) rfl (Nat.le_of_ble_eq_true rfl) ?_
  intro p e s m below meth c A ls hx hb hml hr hts hown hlocks hnm hA hsz hAe hP hK hD hS hl
  have hl : lv_has ls 4 [(0, .ref a_t), (1, .ref a_p1), (2, .int p2)] := hl
  rw [hAe]
  have k1 := hts (.fieldLink RX2 27 "DeafChain$Links" "losses" "[I") (by decide +kernel)
  have k2 := hts (.fieldLink RX2 21 "DeafChain$Links" "missed" "[I") (by decide +kernel)
  have k3 := hts (.fieldLink RX2 24 "DeafChain$Links" "paid" "[I") (by decide +kernel)
  have key : ∀ n : Nat, (∀ (x3 : Int32) (t_missed : Nat → Int32) (t_paid : Nat → Int32) (t_losses : Nat → Int32) (H : Heap) (locs : List Loc) (hf : rX2_account p2 t_fees p1_lengths n 1 x3 t_missed t_paid t_losses = some res) (hP : va_P G vwCl [(a_t, .inr (2, [vt_meanings, vt_ears, .ref a_t_fees, .ref a_t_missed, .ref a_t_paid, .ref a_t_losses])), (a_t_fees, .inl (cI, 6, .inl t_fees)), (a_t_missed, .inl (cI, 6, .inl t_missed)), (a_t_paid, .inl (cI, 6, .inl t_paid)), (a_t_losses, .inl (cI, 6, .inl t_losses)), (a_p1, .inr (6, [vp1_rows, .ref a_p1_lengths, vp1_back])), (a_p1_lengths, .inl (cI, 7, .inl p1_lengths))] H) (hD : va_D A [(a_t, .inr (2, [vt_meanings, vt_ears, .ref a_t_fees, .ref a_t_missed, .ref a_t_paid, .ref a_t_losses])), (a_t_fees, .inl (cI, 6, .inl t_fees)), (a_t_missed, .inl (cI, 6, .inl t_missed)), (a_t_paid, .inl (cI, 6, .inl t_paid)), (a_t_losses, .inl (cI, 6, .inl t_losses)), (a_p1, .inr (6, [vp1_rows, .ref a_p1_lengths, vp1_back])), (a_p1_lengths, .inl (cI, 7, .inl p1_lengths))]) (hS : va_S A s.heap H locs) (ls : Array Slot) (hl : lv_has ls 4 [(0, .ref a_t), (1, .ref a_p1), (2, .int p2), (3, .int x3)]), W p l e ({ frames := 1, cells := 0, slots := 0, locals := 22 } : Room) s m ([.ref a_t, .ref a_p1, .int p2] : List Value).toArray below meth c H locs 0 0 (MQ below (mQv G [(cI, .int)] A (fun u9 : Unit => [(a_t, .inr (2, [vt_meanings, vt_ears, .ref a_t_fees, .ref a_t_missed, .ref a_t_paid, .ref a_t_losses])), (a_t_fees, .inl (cI, 6, .inl t_fees)), (a_t_missed, .inl (cI, 6, .inl res.1)), (a_t_paid, .inl (cI, 6, .inl res.2.1)), (a_t_losses, .inl (cI, 6, .inl res.2.2)), (a_p1, .inr (6, [vp1_rows, .ref a_p1_lengths, vp1_back])), (a_p1_lengths, .inl (cI, 7, .inl p1_lengths))])) ([.ref a_t, .ref a_p1, .int p2] : List Value).toArray s 0 0 A) (F0 m 2 ls [])) := by
    intro n
    induction n with
    | zero => exact (fun _ _ _ _ H locs hf => (by cases hf))
    | succ n ih =>
      · intro  x3 t_missed t_paid t_losses H locs hf hP hD hS ls hl
        replace hf : bX2_account_1 p2 t_fees p1_lengths (rX2_account p2 t_fees p1_lengths n) x3 t_missed t_paid t_losses = some res := hf
        unfold bX2_account_1 at hf
        refine lv_iload_n hx hb dX2_account_2 rfl (lv_at hl 3 rfl) ?_
        refine lv_bipush (v := 6) hx hb dX2_account_3 (by decide) ?_
        refine lv_icmp_ge (tgt := 43) hx hb dX2_account_5 (by decide) (fun c1 => ?_) (fun c1 => ?_)
        · have hf := pf_t hf c1
          refine lv_iload_n hx hb dX2_account_43 rfl (lv_at hl 2 rfl) ?_
          refine lv_if_lt (tgt := 63) hx hb dX2_account_44 (by decide) (fun c2 => ?_) (fun c2 => ?_)
          · have hf := pf_t hf c2
            obtain rfl := Option.some.inj hf
            exact mEnd_v () hx hb hr hlocks hP hK hD hS rfl (Nat.le_of_ble_eq_true rfl) (Nat.le_of_ble_eq_true rfl) dX2_account_63
          · have hf := pf_f hf c2
            refine lv_iload_n hx hb dX2_account_47 rfl (lv_at hl 2 rfl) ?_
            refine lv_bipush (v := 6) hx hb dX2_account_48 (by decide) ?_
            refine lv_icmp_ge (tgt := 63) hx hb dX2_account_50 (by decide) (fun c3 => ?_) (fun c3 => ?_)
            · have hf := pf_t hf c3
              obtain rfl := Option.some.inj hf
              exact mEnd_v () hx hb hr hlocks hP hK hD hS rfl (Nat.le_of_ble_eq_true rfl) (Nat.le_of_ble_eq_true rfl) dX2_account_63
            · have hf := pf_f hf c3
              refine lv_aload_n hx hb dX2_account_53 rfl (lv_at hl 0 rfl) ?_
              refine va_get (D := G) (ci := 2) (v := .ref a_t_losses) (C := RX2) (T := TX2) (N := 6) hx hb hts iwX2_account_X2 hown hK hP 0 rfl rfl 5 (by decide) k1 (fun _ h9 => h9) rfl dX2_account_54 ?_
              refine lv_iload_n hx hb dX2_account_57 rfl (lv_at hl 2 rfl) ?_
              refine lv_dup2_11 hx hb dX2_account_58 rfl rfl ?_
              obtain ⟨q4, hf⟩ := pf_k hf
              refine va_iald hx hb hK hP 4 0 rfl rfl q4 dX2_account_59 ?_
              refine lv_iconst (v := 1) hx hb dX2_account_60 (by decide) ?_
              refine lv_iadd hx hb dX2_account_61 ?_
              refine lv_topi (fun y5 ey5 => ?_)
              have hf := pf_l hf y5 ey5
              obtain ⟨q6, hf⟩ := pf_k hf
              refine va_iast hx hb hK hP hD hS 4 0 rfl rfl q6 dX2_account_62 (fun H locs hP hD hS => ?_)
              obtain ⟨f7, ef7⟩ : ∃ z : Nat → Int32, z = upd t_losses p2.toNatClampNeg y5 := ⟨_, rfl⟩
              have hf := pf_l hf f7 ef7
              have hP : va_P G vwCl [(a_t, .inr (2, [vt_meanings, vt_ears, .ref a_t_fees, .ref a_t_missed, .ref a_t_paid, .ref a_t_losses])), (a_t_fees, .inl (cI, 6, .inl t_fees)), (a_t_missed, .inl (cI, 6, .inl t_missed)), (a_t_paid, .inl (cI, 6, .inl t_paid)), (a_t_losses, .inl (cI, 6, .inl f7)), (a_p1, .inr (6, [vp1_rows, .ref a_p1_lengths, vp1_back])), (a_p1_lengths, .inl (cI, 7, .inl p1_lengths))] H := by rw [ef7]; exact hP
              have hD : va_D A [(a_t, .inr (2, [vt_meanings, vt_ears, .ref a_t_fees, .ref a_t_missed, .ref a_t_paid, .ref a_t_losses])), (a_t_fees, .inl (cI, 6, .inl t_fees)), (a_t_missed, .inl (cI, 6, .inl t_missed)), (a_t_paid, .inl (cI, 6, .inl t_paid)), (a_t_losses, .inl (cI, 6, .inl f7)), (a_p1, .inr (6, [vp1_rows, .ref a_p1_lengths, vp1_back])), (a_p1_lengths, .inl (cI, 7, .inl p1_lengths))] := by rw [ef7]; exact hD
              obtain rfl := Option.some.inj hf
              exact mEnd_v () hx hb hr hlocks hP hK hD hS rfl (Nat.le_of_ble_eq_true rfl) (Nat.le_of_ble_eq_true rfl) dX2_account_63
        · have hf := pf_f hf c1
          refine lv_aload_n hx hb dX2_account_8 rfl (lv_at hl 0 rfl) ?_
          refine va_get (D := G) (ci := 2) (v := .ref a_t_missed) (C := RX2) (T := TX2) (N := 6) hx hb hts iwX2_account_X2 hown hK hP 0 rfl rfl 3 (by decide) k2 (fun _ h9 => h9) rfl dX2_account_9 ?_
          refine lv_iload_n hx hb dX2_account_12 rfl (lv_at hl 3 rfl) ?_
          refine lv_dup2_11 hx hb dX2_account_13 rfl rfl ?_
          obtain ⟨q8, hf⟩ := pf_k hf
          refine va_iald hx hb hK hP 2 0 rfl rfl q8 dX2_account_14 ?_
          refine lv_aload_n hx hb dX2_account_15 rfl (lv_at hl 1 rfl) ?_
          refine lv_iload_n hx hb dX2_account_16 rfl (lv_at hl 3 rfl) ?_
          obtain ⟨u9, hu9, hf⟩ := pf_b hf
          refine mCallV_i (As := [.int x3]) ⟨hx, hb, hml, hown, hts⟩ (mX6_missedBy l G cI a_p1 a_p1_lengths H.size vp1_rows vp1_back p1_lengths x3 _ hu9) (cwV 1 hts gX2_account_X6_missedBy rfl rfl rfl (by decide +kernel) ⟨Nat.le_of_ble_eq_true rfl, Nat.le_of_ble_eq_true rfl⟩) hP hD hS hA hK [5, 6] rfl (by decide) 5 6 rfl rfl rfl hK [a_p1, a_p1_lengths] (fun _ => rfl) rfl (fun _ => [(a_t, .inr (2, [vt_meanings, vt_ears, .ref a_t_fees, .ref a_t_missed, .ref a_t_paid, .ref a_t_losses])), (a_t_fees, .inl (cI, 6, .inl t_fees)), (a_t_missed, .inl (cI, 6, .inl t_missed)), (a_t_paid, .inl (cI, 6, .inl t_paid)), (a_t_losses, .inl (cI, 6, .inl t_losses)), (a_p1, .inr (6, [vp1_rows, .ref a_p1_lengths, vp1_back])), (a_p1_lengths, .inl (cI, 7, .inl p1_lengths))]) [a_t, a_t_fees, a_t_missed, a_t_paid, a_t_losses, a_p1, a_p1_lengths] (fun _ => rfl) rfl (fun _ => rfl) [0, 1, 2, 3, 4] [(a_t, .inr (2, [vt_meanings, vt_ears, .ref a_t_fees, .ref a_t_missed, .ref a_t_paid, .ref a_t_losses])), (a_t_fees, .inl (cI, 6, .inl t_fees)), (a_t_missed, .inl (cI, 6, .inl t_missed)), (a_t_paid, .inl (cI, 6, .inl t_paid)), (a_t_losses, .inl (cI, 6, .inl t_losses))] (fun _ => rfl) rfl 7 rfl rfl rfl hl.1 rfl (lv_room (Nat.le_of_ble_eq_true rfl)) dX2_account_17 ⟨Nat.zero_le _, Nat.zero_le _⟩ (fun _ H locs hP hD hS => ?_)
          have hP : va_P G vwCl [(a_t, .inr (2, [vt_meanings, vt_ears, .ref a_t_fees, .ref a_t_missed, .ref a_t_paid, .ref a_t_losses])), (a_t_fees, .inl (cI, 6, .inl t_fees)), (a_t_missed, .inl (cI, 6, .inl t_missed)), (a_t_paid, .inl (cI, 6, .inl t_paid)), (a_t_losses, .inl (cI, 6, .inl t_losses)), (a_p1, .inr (6, [vp1_rows, .ref a_p1_lengths, vp1_back])), (a_p1_lengths, .inl (cI, 7, .inl p1_lengths))] H := hP
          have hD : va_D A [(a_t, .inr (2, [vt_meanings, vt_ears, .ref a_t_fees, .ref a_t_missed, .ref a_t_paid, .ref a_t_losses])), (a_t_fees, .inl (cI, 6, .inl t_fees)), (a_t_missed, .inl (cI, 6, .inl t_missed)), (a_t_paid, .inl (cI, 6, .inl t_paid)), (a_t_losses, .inl (cI, 6, .inl t_losses)), (a_p1, .inr (6, [vp1_rows, .ref a_p1_lengths, vp1_back])), (a_p1_lengths, .inl (cI, 7, .inl p1_lengths))] := hD
          refine lv_iadd hx hb dX2_account_20 ?_
          refine lv_topi (fun y10 ey10 => ?_)
          have hf := pf_l hf y10 ey10
          obtain ⟨q11, hf⟩ := pf_k hf
          refine va_iast hx hb hK hP hD hS 2 0 rfl rfl q11 dX2_account_21 (fun H locs hP hD hS => ?_)
          obtain ⟨f12, ef12⟩ : ∃ z : Nat → Int32, z = upd t_missed x3.toNatClampNeg y10 := ⟨_, rfl⟩
          have hf := pf_l hf f12 ef12
          have hP : va_P G vwCl [(a_t, .inr (2, [vt_meanings, vt_ears, .ref a_t_fees, .ref a_t_missed, .ref a_t_paid, .ref a_t_losses])), (a_t_fees, .inl (cI, 6, .inl t_fees)), (a_t_missed, .inl (cI, 6, .inl f12)), (a_t_paid, .inl (cI, 6, .inl t_paid)), (a_t_losses, .inl (cI, 6, .inl t_losses)), (a_p1, .inr (6, [vp1_rows, .ref a_p1_lengths, vp1_back])), (a_p1_lengths, .inl (cI, 7, .inl p1_lengths))] H := by rw [ef12]; exact hP
          have hD : va_D A [(a_t, .inr (2, [vt_meanings, vt_ears, .ref a_t_fees, .ref a_t_missed, .ref a_t_paid, .ref a_t_losses])), (a_t_fees, .inl (cI, 6, .inl t_fees)), (a_t_missed, .inl (cI, 6, .inl f12)), (a_t_paid, .inl (cI, 6, .inl t_paid)), (a_t_losses, .inl (cI, 6, .inl t_losses)), (a_p1, .inr (6, [vp1_rows, .ref a_p1_lengths, vp1_back])), (a_p1_lengths, .inl (cI, 7, .inl p1_lengths))] := by rw [ef12]; exact hD
          refine lv_aload_n hx hb dX2_account_22 rfl (lv_at hl 0 rfl) ?_
          refine va_get (D := G) (ci := 2) (v := .ref a_t_paid) (C := RX2) (T := TX2) (N := 6) hx hb hts iwX2_account_X2 hown hK hP 0 rfl rfl 4 (by decide) k3 (fun _ h9 => h9) rfl dX2_account_23 ?_
          refine lv_iload_n hx hb dX2_account_26 rfl (lv_at hl 3 rfl) ?_
          refine lv_dup2_11 hx hb dX2_account_27 rfl rfl ?_
          obtain ⟨q13, hf⟩ := pf_k hf
          refine va_iald hx hb hK hP 3 0 rfl rfl q13 dX2_account_28 ?_
          refine lv_aload_n hx hb dX2_account_29 rfl (lv_at hl 1 rfl) ?_
          refine lv_iload_n hx hb dX2_account_30 rfl (lv_at hl 3 rfl) ?_
          refine lv_aload_n hx hb dX2_account_31 rfl (lv_at hl 0 rfl) ?_
          obtain ⟨u14, hu14, hf⟩ := pf_b hf
          refine mCallV_i (As := [.int x3, .ref a_t]) ⟨hx, hb, hml, hown, hts⟩ (mX6_payOf l G cI a_p1 a_p1_lengths a_t a_t_fees H.size vp1_rows vp1_back vt_meanings vt_ears (.ref a_t_missed) (.ref a_t_paid) (.ref a_t_losses) p1_lengths t_fees x3 _ hu14) (cwV 2 hts gX2_account_X6_payOf rfl rfl rfl (by decide +kernel) ⟨Nat.le_of_ble_eq_true rfl, Nat.le_of_ble_eq_true rfl⟩) hP hD hS hA hK [5, 6, 0, 1] rfl (by decide) 5 6 rfl rfl rfl hK [a_p1, a_p1_lengths, a_t, a_t_fees] (fun _ => rfl) rfl (fun _ => [(a_t, .inr (2, [vt_meanings, vt_ears, .ref a_t_fees, .ref a_t_missed, .ref a_t_paid, .ref a_t_losses])), (a_t_fees, .inl (cI, 6, .inl t_fees)), (a_t_missed, .inl (cI, 6, .inl f12)), (a_t_paid, .inl (cI, 6, .inl t_paid)), (a_t_losses, .inl (cI, 6, .inl t_losses)), (a_p1, .inr (6, [vp1_rows, .ref a_p1_lengths, vp1_back])), (a_p1_lengths, .inl (cI, 7, .inl p1_lengths))]) [a_t, a_t_fees, a_t_missed, a_t_paid, a_t_losses, a_p1, a_p1_lengths] (fun _ => rfl) rfl (fun _ => rfl) [2, 3, 4] [(a_t_missed, .inl (cI, 6, .inl f12)), (a_t_paid, .inl (cI, 6, .inl t_paid)), (a_t_losses, .inl (cI, 6, .inl t_losses))] (fun _ => rfl) rfl 7 rfl rfl rfl hl.1 rfl (lv_room (Nat.le_of_ble_eq_true rfl)) dX2_account_32 ⟨Nat.zero_le _, Nat.zero_le _⟩ (fun _ H locs hP hD hS => ?_)
          have hP : va_P G vwCl [(a_t, .inr (2, [vt_meanings, vt_ears, .ref a_t_fees, .ref a_t_missed, .ref a_t_paid, .ref a_t_losses])), (a_t_fees, .inl (cI, 6, .inl t_fees)), (a_t_missed, .inl (cI, 6, .inl f12)), (a_t_paid, .inl (cI, 6, .inl t_paid)), (a_t_losses, .inl (cI, 6, .inl t_losses)), (a_p1, .inr (6, [vp1_rows, .ref a_p1_lengths, vp1_back])), (a_p1_lengths, .inl (cI, 7, .inl p1_lengths))] H := hP
          have hD : va_D A [(a_t, .inr (2, [vt_meanings, vt_ears, .ref a_t_fees, .ref a_t_missed, .ref a_t_paid, .ref a_t_losses])), (a_t_fees, .inl (cI, 6, .inl t_fees)), (a_t_missed, .inl (cI, 6, .inl f12)), (a_t_paid, .inl (cI, 6, .inl t_paid)), (a_t_losses, .inl (cI, 6, .inl t_losses)), (a_p1, .inr (6, [vp1_rows, .ref a_p1_lengths, vp1_back])), (a_p1_lengths, .inl (cI, 7, .inl p1_lengths))] := hD
          refine lv_iadd hx hb dX2_account_35 ?_
          refine lv_topi (fun y15 ey15 => ?_)
          have hf := pf_l hf y15 ey15
          obtain ⟨q16, hf⟩ := pf_k hf
          refine va_iast hx hb hK hP hD hS 3 0 rfl rfl q16 dX2_account_36 (fun H locs hP hD hS => ?_)
          obtain ⟨f17, ef17⟩ : ∃ z : Nat → Int32, z = upd t_paid x3.toNatClampNeg y15 := ⟨_, rfl⟩
          have hf := pf_l hf f17 ef17
          have hP : va_P G vwCl [(a_t, .inr (2, [vt_meanings, vt_ears, .ref a_t_fees, .ref a_t_missed, .ref a_t_paid, .ref a_t_losses])), (a_t_fees, .inl (cI, 6, .inl t_fees)), (a_t_missed, .inl (cI, 6, .inl f12)), (a_t_paid, .inl (cI, 6, .inl f17)), (a_t_losses, .inl (cI, 6, .inl t_losses)), (a_p1, .inr (6, [vp1_rows, .ref a_p1_lengths, vp1_back])), (a_p1_lengths, .inl (cI, 7, .inl p1_lengths))] H := by rw [ef17]; exact hP
          have hD : va_D A [(a_t, .inr (2, [vt_meanings, vt_ears, .ref a_t_fees, .ref a_t_missed, .ref a_t_paid, .ref a_t_losses])), (a_t_fees, .inl (cI, 6, .inl t_fees)), (a_t_missed, .inl (cI, 6, .inl f12)), (a_t_paid, .inl (cI, 6, .inl f17)), (a_t_losses, .inl (cI, 6, .inl t_losses)), (a_p1, .inr (6, [vp1_rows, .ref a_p1_lengths, vp1_back])), (a_p1_lengths, .inl (cI, 7, .inl p1_lengths))] := by rw [ef17]; exact hD
          refine lv_iinc (v := x3 + 1) (lv' := [(3, .int (x3 + 1)), (0, .ref a_t), (1, .ref a_p1), (2, .int p2)]) hx hb dX2_account_37 hl (k := 3) rfl rfl (by decide) rfl (fun ls hl => ?_)
          refine lv_goto (tgt := 2) hx hb dX2_account_40 (by decide) ?_
          exact ih (x3 + 1) f12 f17 t_losses H locs hf hP hD hS ls (lv_sub hl [1, 2, 3, 0] rfl)
  unfold fX2_account eX2_account at hf
  obtain ⟨H, hH⟩ : ∃ H : Heap, H = s.heap := ⟨_, rfl⟩
  obtain ⟨locs, hlc⟩ : ∃ z : List Loc, z = [] := ⟨_, rfl⟩
  rw [← hlc, ← hH]
  have hP : va_P G vwCl [(a_t, .inr (2, [vt_meanings, vt_ears, .ref a_t_fees, .ref a_t_missed, .ref a_t_paid, .ref a_t_losses])), (a_t_fees, .inl (cI, 6, .inl t_fees)), (a_t_missed, .inl (cI, 6, .inl t_missed)), (a_t_paid, .inl (cI, 6, .inl t_paid)), (a_t_losses, .inl (cI, 6, .inl t_losses)), (a_p1, .inr (6, [vp1_rows, .ref a_p1_lengths, vp1_back])), (a_p1_lengths, .inl (cI, 7, .inl p1_lengths))] H := by rw [hH]; exact hP
  have hS : va_S A s.heap H locs := by rw [hlc, hH]; exact hS
  refine lv_iconst (v := 0) hx hb dX2_account_0 (by decide) ?_
  refine lv_istore_n (lv' := [(3, .int 0), (0, .ref a_t), (1, .ref a_p1), (2, .int p2)]) hx hb dX2_account_1 rfl hl (by decide) rfl (fun ls hl => ?_)
  exact (key fuelN) (0 : Int32) t_missed t_paid t_losses H locs hf hP hD hS ls (lv_sub hl [1, 2, 3, 0] rfl)
def bX0_add_1 (p3 : Int32) (p1_rows : Nat → Int32) (p1_lengths : Nat → Int32) (p2_meanings : Nat → Int32) (p2_fees : Nat → Int32) (k : Nat → Int32 → Int32 → (Nat → Int32) → (Nat → Int32) → (Nat → Int32) → Option (Int32 × (Nat → Int32) × (Nat → Int32) × (Nat → Int32))) (x4 : Int32) (t_size : Int32) (t_words : Nat → Int32) (t_facts : Nat → Int32) (p1_back : Nat → Int32) : Option (Int32 × (Nat → Int32) × (Nat → Int32) × (Nat → Int32)) :=
  (if x4 ≤ 0 then (lt (if (6 : Int32) < (t_size + (1 : Int32)) then (6 : Int32) else (t_size + (1 : Int32))) fun (y2 : Int32) => ((fX6_copyArrived p1_rows t_words).bind fun (u3 : (Nat → Int32)) => ((fX6_arrivedWords p1_lengths).bind fun (u4 : Int32) => (lt (upd t_facts (0 : Int32).toNatClampNeg u4) fun (f5 : Nat → Int32) => ((fX6_mumblesBehind (5 : Int32) p1_rows p1_lengths).bind fun (u6 : Int32) => (lt (upd f5 (1 : Int32).toNatClampNeg u6) fun (f7 : Nat → Int32) => ((fX6_payOfAll p1_lengths p2_fees).bind fun (u8 : Int32) => (lt (upd f7 (2 : Int32).toNatClampNeg u8) fun (f9 : Nat → Int32) => (lt (upd f9 (3 : Int32).toNatClampNeg p3) fun (f10 : Nat → Int32) => ((fX6_lossBySendingBack p1_rows p1_lengths p1_back p2_meanings).bind fun (u11 : Int32 × (Nat → Int32)) => (lt (upd f10 (4 : Int32).toNatClampNeg u11.1) fun (f12 : Nat → Int32) => ((fX6_sentWords p1_lengths).bind fun (u13 : Int32) => (lt (upd f12 (5 : Int32).toNatClampNeg u13) fun (f14 : Nat → Int32) => some (y2, u3, f14, u11.2)))))))))))))) else ((fX0_copyBack (x4 - (1 : Int32)) x4 t_words t_facts).bind fun (u15 : (Nat → Int32) × (Nat → Int32)) => k 1 (x4 + (-1)) t_size u15.1 u15.2 p1_back))
def sX0_add (p3 : Int32) (p1_rows : Nat → Int32) (p1_lengths : Nat → Int32) (p2_meanings : Nat → Int32) (p2_fees : Nat → Int32) (k : Nat → Int32 → Int32 → (Nat → Int32) → (Nat → Int32) → (Nat → Int32) → Option (Int32 × (Nat → Int32) × (Nat → Int32) × (Nat → Int32))) (b : Nat) (x4 : Int32) (t_size : Int32) (t_words : Nat → Int32) (t_facts : Nat → Int32) (p1_back : Nat → Int32) : Option (Int32 × (Nat → Int32) × (Nat → Int32) × (Nat → Int32)) := match b with
  | 1 => bX0_add_1 p3 p1_rows p1_lengths p2_meanings p2_fees k x4 t_size t_words t_facts p1_back
  | _ => none
def rX0_add (p3 : Int32) (p1_rows : Nat → Int32) (p1_lengths : Nat → Int32) (p2_meanings : Nat → Int32) (p2_fees : Nat → Int32) : Nat → Nat → Int32 → Int32 → (Nat → Int32) → (Nat → Int32) → (Nat → Int32) → Option (Int32 × (Nat → Int32) × (Nat → Int32) × (Nat → Int32))
  | 0 => fun _ _ _ _ _ _ => none
  | n + 1 => sX0_add p3 p1_rows p1_lengths p2_meanings p2_fees (rX0_add p3 p1_rows p1_lengths p2_meanings p2_fees n)
def eX0_add (p3 : Int32) (t_size : Int32) (t_words : Nat → Int32) (t_facts : Nat → Int32) (p1_rows : Nat → Int32) (p1_lengths : Nat → Int32) (p1_back : Nat → Int32) (p2_meanings : Nat → Int32) (p2_fees : Nat → Int32) (k : Nat → Int32 → Int32 → (Nat → Int32) → (Nat → Int32) → (Nat → Int32) → Option (Int32 × (Nat → Int32) × (Nat → Int32) × (Nat → Int32))) : Option (Int32 × (Nat → Int32) × (Nat → Int32) × (Nat → Int32)) :=
  k 1 (5 : Int32) t_size t_words t_facts p1_back
def fX0_add (p3 : Int32) (t_size : Int32) (t_words : Nat → Int32) (t_facts : Nat → Int32) (p1_rows : Nat → Int32) (p1_lengths : Nat → Int32) (p1_back : Nat → Int32) (p2_meanings : Nat → Int32) (p2_fees : Nat → Int32) : Option (Int32 × (Nat → Int32) × (Nat → Int32) × (Nat → Int32)) := eX0_add p3 t_size t_words t_facts p1_rows p1_lengths p1_back p2_meanings p2_fees (rX0_add p3 p1_rows p1_lengths p2_meanings p2_fees fuelN)
theorem iwX0_add_X0 : ∀ w ∈ u_ws RX0 TX0 3, w ∈ wsX0_add := by decide +kernel
set_option maxHeartbeats 4000000 in
set_option maxRecDepth 100000 in
theorem mX0_add (l : Launch) (G : va_G) (cI : ClassId) (a_t a_t_words a_t_facts a_p1 a_p1_rows a_p1_lengths a_p1_back a_p2 a_p2_meanings a_p2_fees : Nat) (sz : Nat) (vp2_ears vp2_missed vp2_paid vp2_losses : Value) (t_size : Int32) (t_words : Nat → Int32) (t_facts : Nat → Int32) (p1_rows : Nat → Int32) (p1_lengths : Nat → Int32) (p1_back : Nat → Int32) (p2_meanings : Nat → Int32) (p2_fees : Nat → Int32) (p3 : Int32) (res : Int32 × (Nat → Int32) × (Nat → Int32) × (Nat → Int32)) (hf : fX0_add p3 t_size t_words t_facts p1_rows p1_lengths p1_back p2_meanings p2_fees = some res) : Met l yX0_add wsX0_add ({ frames := 3, cells := 0, slots := 0, locals := 95 }) (mPc G [(cI, .int)] [.ref a_t, .ref a_p1, .ref a_p2, .int p3] sz [(a_t, .inr (0, [.ref a_t_words, .ref a_t_facts, .int t_size])), (a_t_words, .inl (cI, 72, .inl t_words)), (a_t_facts, .inl (cI, 36, .inl t_facts)), (a_p1, .inr (6, [.ref a_p1_rows, .ref a_p1_lengths, .ref a_p1_back])), (a_p1_rows, .inl (cI, 84, .inl p1_rows)), (a_p1_lengths, .inl (cI, 7, .inl p1_lengths)), (a_p1_back, .inl (cI, 12, .inl p1_back)), (a_p2, .inr (2, [.ref a_p2_meanings, vp2_ears, .ref a_p2_fees, vp2_missed, vp2_paid, vp2_losses])), (a_p2_meanings, .inl (cI, 180, .inl p2_meanings)), (a_p2_fees, .inl (cI, 6, .inl p2_fees))]) (mQv G [(cI, .int)] (va_A [(a_t, .inr (0, [.ref a_t_words, .ref a_t_facts, .int t_size])), (a_t_words, .inl (cI, 72, .inl t_words)), (a_t_facts, .inl (cI, 36, .inl t_facts)), (a_p1, .inr (6, [.ref a_p1_rows, .ref a_p1_lengths, .ref a_p1_back])), (a_p1_rows, .inl (cI, 84, .inl p1_rows)), (a_p1_lengths, .inl (cI, 7, .inl p1_lengths)), (a_p1_back, .inl (cI, 12, .inl p1_back)), (a_p2, .inr (2, [.ref a_p2_meanings, vp2_ears, .ref a_p2_fees, vp2_missed, vp2_paid, vp2_losses])), (a_p2_meanings, .inl (cI, 180, .inl p2_meanings)), (a_p2_fees, .inl (cI, 6, .inl p2_fees))] sz) (fun u9 : Unit => [(a_t, .inr (0, [.ref a_t_words, .ref a_t_facts, .int res.1])), (a_t_words, .inl (cI, 72, .inl res.2.1)), (a_t_facts, .inl (cI, 36, .inl res.2.2.1)), (a_p1, .inr (6, [.ref a_p1_rows, .ref a_p1_lengths, .ref a_p1_back])), (a_p1_rows, .inl (cI, 84, .inl p1_rows)), (a_p1_lengths, .inl (cI, 7, .inl p1_lengths)), (a_p1_back, .inl (cI, 12, .inl res.2.2.2)), (a_p2, .inr (2, [.ref a_p2_meanings, vp2_ears, .ref a_p2_fees, vp2_missed, vp2_paid, vp2_losses])), (a_p2_meanings, .inl (cI, 180, .inl p2_meanings)), (a_p2_fees, .inl (cI, 6, .inl p2_fees))])) 0 0 (va_A [(a_t, .inr (0, [.ref a_t_words, .ref a_t_facts, .int t_size])), (a_t_words, .inl (cI, 72, .inl t_words)), (a_t_facts, .inl (cI, 36, .inl t_facts)), (a_p1, .inr (6, [.ref a_p1_rows, .ref a_p1_lengths, .ref a_p1_back])), (a_p1_rows, .inl (cI, 84, .inl p1_rows)), (a_p1_lengths, .inl (cI, 7, .inl p1_lengths)), (a_p1_back, .inl (cI, 12, .inl p1_back)), (a_p2, .inr (2, [.ref a_p2_meanings, vp2_ears, .ref a_p2_fees, vp2_missed, vp2_paid, vp2_losses])), (a_p2_meanings, .inl (cI, 180, .inl p2_meanings)), (a_p2_fees, .inl (cI, 6, .inl p2_fees))] sz) := by
  refine mStart (cc := cX0_add) (maxL := 5) (ret := none) (by decide) rfl (Nat.le_of_ble_eq_true rfl) ?_
  intro p e s m below meth c A ls hx hb hml hr hts hown hlocks hnm hA hsz hAe hP hK hD hS hl
  have hl : lv_has ls 5 [(0, .ref a_t), (1, .ref a_p1), (2, .ref a_p2), (3, .int p3)] := hl
  rw [hAe]
  have k1 := hts (.fieldLink RX0 24 "DeafChain$Arrivals" "size" "I") (by decide +kernel)
  have k2 := hts (.methodLink RX0 32 Lib.Math.min.name) (by decide +kernel)
  have k3 := hts (.static Lib.Math.min.name) (by decide +kernel)
  have k4 := hts (.initialized "java/lang/Math") (by decide +kernel)
  have k5 := hts (.code Lib.Math.min.name Lib.Math.min.code 2 (some .int)) (by decide +kernel)
  have k6 := hts (.fieldLink RX0 9 "DeafChain$Arrivals" "words" "[I") (by decide +kernel)
  have k7 := hts (.fieldLink RX0 15 "DeafChain$Arrivals" "facts" "[I") (by decide +kernel)
  have key : ∀ n : Nat, (∀ (x4 : Int32) (t_size : Int32) (t_words : Nat → Int32) (t_facts : Nat → Int32) (p1_back : Nat → Int32) (H : Heap) (locs : List Loc) (hf : rX0_add p3 p1_rows p1_lengths p2_meanings p2_fees n 1 x4 t_size t_words t_facts p1_back = some res) (hP : va_P G vwCl [(a_t, .inr (0, [.ref a_t_words, .ref a_t_facts, .int t_size])), (a_t_words, .inl (cI, 72, .inl t_words)), (a_t_facts, .inl (cI, 36, .inl t_facts)), (a_p1, .inr (6, [.ref a_p1_rows, .ref a_p1_lengths, .ref a_p1_back])), (a_p1_rows, .inl (cI, 84, .inl p1_rows)), (a_p1_lengths, .inl (cI, 7, .inl p1_lengths)), (a_p1_back, .inl (cI, 12, .inl p1_back)), (a_p2, .inr (2, [.ref a_p2_meanings, vp2_ears, .ref a_p2_fees, vp2_missed, vp2_paid, vp2_losses])), (a_p2_meanings, .inl (cI, 180, .inl p2_meanings)), (a_p2_fees, .inl (cI, 6, .inl p2_fees))] H) (hD : va_D A [(a_t, .inr (0, [.ref a_t_words, .ref a_t_facts, .int t_size])), (a_t_words, .inl (cI, 72, .inl t_words)), (a_t_facts, .inl (cI, 36, .inl t_facts)), (a_p1, .inr (6, [.ref a_p1_rows, .ref a_p1_lengths, .ref a_p1_back])), (a_p1_rows, .inl (cI, 84, .inl p1_rows)), (a_p1_lengths, .inl (cI, 7, .inl p1_lengths)), (a_p1_back, .inl (cI, 12, .inl p1_back)), (a_p2, .inr (2, [.ref a_p2_meanings, vp2_ears, .ref a_p2_fees, vp2_missed, vp2_paid, vp2_losses])), (a_p2_meanings, .inl (cI, 180, .inl p2_meanings)), (a_p2_fees, .inl (cI, 6, .inl p2_fees))]) (hS : va_S A s.heap H locs) (ls : Array Slot) (hl : lv_has ls 5 [(0, .ref a_t), (1, .ref a_p1), (2, .ref a_p2), (3, .int p3), (4, .int x4)]), W p l e ({ frames := 3, cells := 0, slots := 0, locals := 95 } : Room) s m ([.ref a_t, .ref a_p1, .ref a_p2, .int p3] : List Value).toArray below meth c H locs 0 0 (MQ below (mQv G [(cI, .int)] A (fun u9 : Unit => [(a_t, .inr (0, [.ref a_t_words, .ref a_t_facts, .int res.1])), (a_t_words, .inl (cI, 72, .inl res.2.1)), (a_t_facts, .inl (cI, 36, .inl res.2.2.1)), (a_p1, .inr (6, [.ref a_p1_rows, .ref a_p1_lengths, .ref a_p1_back])), (a_p1_rows, .inl (cI, 84, .inl p1_rows)), (a_p1_lengths, .inl (cI, 7, .inl p1_lengths)), (a_p1_back, .inl (cI, 12, .inl res.2.2.2)), (a_p2, .inr (2, [.ref a_p2_meanings, vp2_ears, .ref a_p2_fees, vp2_missed, vp2_paid, vp2_losses])), (a_p2_meanings, .inl (cI, 180, .inl p2_meanings)), (a_p2_fees, .inl (cI, 6, .inl p2_fees))])) ([.ref a_t, .ref a_p1, .ref a_p2, .int p3] : List Value).toArray s 0 0 A) (F0 m 3 ls [])) := by
    intro n
    induction n with
    | zero => exact (fun _ _ _ _ _ H locs hf => (by cases hf))
    | succ n ih =>
      · intro  x4 t_size t_words t_facts p1_back H locs hf hP hD hS ls hl
        replace hf : bX0_add_1 p3 p1_rows p1_lengths p2_meanings p2_fees (rX0_add p3 p1_rows p1_lengths p2_meanings p2_fees n) x4 t_size t_words t_facts p1_back = some res := hf
        unfold bX0_add_1 at hf
        refine lv_iload hx hb dX0_add_3 (lv_at hl 4 rfl) ?_
        refine lv_if_le (tgt := 24) hx hb dX0_add_5 (by decide) (fun c1 => ?_) (fun c1 => ?_)
        · have hf := pf_t hf c1
          refine lv_aload_n hx hb dX0_add_24 rfl (lv_at hl 0 rfl) ?_
          refine lv_aload_n hx hb dX0_add_25 rfl (lv_at hl 0 rfl) ?_
          refine va_get (D := G) (ci := 0) (v := .int t_size) (C := RX0) (T := TX0) (N := 3) hx hb hts iwX0_add_X0 hown hK hP 0 rfl rfl 2 (by decide) k1 (fun _ h9 => h9) rfl dX0_add_26 ?_
          refine lv_iconst (v := 1) hx hb dX0_add_29 (by decide) ?_
          refine lv_iadd hx hb dX0_add_30 ?_
          refine lv_bipush (v := 6) hx hb dX0_add_31 (by decide) ?_
          refine va_mmin hx hb (hml.trans hl.1.symm) hown k2 k3 k4 k5 (Nat.le_of_ble_eq_true rfl) (Nat.le_of_ble_eq_true rfl) (Nat.zero_le _) (Nat.zero_le _) dX0_add_33 ?_
          refine lv_topi (fun y2 ey2 => ?_)
          have hf := pf_l hf y2 ey2
          refine va_put (D := G) (ci := 0) (v := .int y2) (ty := .int) (C := RX0) (T := TX0) (N := 3) hx hb hts iwX0_add_X0 tyX0 tyX0_ok nmX0 hown hK hP hD hS 0 rfl rfl 2 (by decide) k1 (fun _ h9 => h9) rfl (by decide +kernel) rfl rfl (Nat.le_of_ble_eq_true rfl) dX0_add_36 (fun H locs hP hD hS => ?_)
          have hP : va_P G vwCl [(a_t, .inr (0, [.ref a_t_words, .ref a_t_facts, .int y2])), (a_t_words, .inl (cI, 72, .inl t_words)), (a_t_facts, .inl (cI, 36, .inl t_facts)), (a_p1, .inr (6, [.ref a_p1_rows, .ref a_p1_lengths, .ref a_p1_back])), (a_p1_rows, .inl (cI, 84, .inl p1_rows)), (a_p1_lengths, .inl (cI, 7, .inl p1_lengths)), (a_p1_back, .inl (cI, 12, .inl p1_back)), (a_p2, .inr (2, [.ref a_p2_meanings, vp2_ears, .ref a_p2_fees, vp2_missed, vp2_paid, vp2_losses])), (a_p2_meanings, .inl (cI, 180, .inl p2_meanings)), (a_p2_fees, .inl (cI, 6, .inl p2_fees))] H := hP
          have hD : va_D A [(a_t, .inr (0, [.ref a_t_words, .ref a_t_facts, .int y2])), (a_t_words, .inl (cI, 72, .inl t_words)), (a_t_facts, .inl (cI, 36, .inl t_facts)), (a_p1, .inr (6, [.ref a_p1_rows, .ref a_p1_lengths, .ref a_p1_back])), (a_p1_rows, .inl (cI, 84, .inl p1_rows)), (a_p1_lengths, .inl (cI, 7, .inl p1_lengths)), (a_p1_back, .inl (cI, 12, .inl p1_back)), (a_p2, .inr (2, [.ref a_p2_meanings, vp2_ears, .ref a_p2_fees, vp2_missed, vp2_paid, vp2_losses])), (a_p2_meanings, .inl (cI, 180, .inl p2_meanings)), (a_p2_fees, .inl (cI, 6, .inl p2_fees))] := hD
          refine lv_aload_n hx hb dX0_add_39 rfl (lv_at hl 1 rfl) ?_
          refine lv_aload_n hx hb dX0_add_40 rfl (lv_at hl 0 rfl) ?_
          refine va_get (D := G) (ci := 0) (v := .ref a_t_words) (C := RX0) (T := TX0) (N := 3) hx hb hts iwX0_add_X0 hown hK hP 0 rfl rfl 0 (by decide) k6 (fun _ h9 => h9) rfl dX0_add_41 ?_
          obtain ⟨u3, hu3, hf⟩ := pf_b hf
          refine mCallV_v (As := [.ref a_t_words]) ⟨hx, hb, hml, hown, hts⟩ (mX6_copyArrived l G cI a_p1 a_p1_rows a_t_words H.size (.ref a_p1_lengths) (.ref a_p1_back) p1_rows t_words _ hu3) (cwV 1 hts gX0_add_X6_copyArrived rfl rfl rfl (by decide +kernel) ⟨Nat.le_of_ble_eq_true rfl, Nat.le_of_ble_eq_true rfl⟩) hP hD hS hA hK [3, 4, 1] rfl (by decide) 3 6 rfl rfl rfl hK [a_p1, a_p1_rows, a_t_words] (fun _ => rfl) rfl (fun _ => [(a_t, .inr (0, [.ref a_t_words, .ref a_t_facts, .int y2])), (a_t_words, .inl (cI, 72, .inl u3)), (a_t_facts, .inl (cI, 36, .inl t_facts)), (a_p1, .inr (6, [.ref a_p1_rows, .ref a_p1_lengths, .ref a_p1_back])), (a_p1_rows, .inl (cI, 84, .inl p1_rows)), (a_p1_lengths, .inl (cI, 7, .inl p1_lengths)), (a_p1_back, .inl (cI, 12, .inl p1_back)), (a_p2, .inr (2, [.ref a_p2_meanings, vp2_ears, .ref a_p2_fees, vp2_missed, vp2_paid, vp2_losses])), (a_p2_meanings, .inl (cI, 180, .inl p2_meanings)), (a_p2_fees, .inl (cI, 6, .inl p2_fees))]) [a_t, a_t_words, a_t_facts, a_p1, a_p1_rows, a_p1_lengths, a_p1_back, a_p2, a_p2_meanings, a_p2_fees] (fun _ => rfl) rfl (fun _ => rfl) [0, 2, 5, 6, 7, 8, 9] [(a_t, .inr (0, [.ref a_t_words, .ref a_t_facts, .int y2])), (a_t_facts, .inl (cI, 36, .inl t_facts)), (a_p1_lengths, .inl (cI, 7, .inl p1_lengths)), (a_p1_back, .inl (cI, 12, .inl p1_back)), (a_p2, .inr (2, [.ref a_p2_meanings, vp2_ears, .ref a_p2_fees, vp2_missed, vp2_paid, vp2_losses])), (a_p2_meanings, .inl (cI, 180, .inl p2_meanings)), (a_p2_fees, .inl (cI, 6, .inl p2_fees))] (fun _ => rfl) rfl 10 rfl rfl rfl hl.1 rfl (lv_room (Nat.le_of_ble_eq_true rfl)) dX0_add_44 ⟨Nat.zero_le _, Nat.zero_le _⟩ (fun _ H locs hP hD hS => ?_)
          have hP : va_P G vwCl [(a_t, .inr (0, [.ref a_t_words, .ref a_t_facts, .int y2])), (a_t_words, .inl (cI, 72, .inl u3)), (a_t_facts, .inl (cI, 36, .inl t_facts)), (a_p1, .inr (6, [.ref a_p1_rows, .ref a_p1_lengths, .ref a_p1_back])), (a_p1_rows, .inl (cI, 84, .inl p1_rows)), (a_p1_lengths, .inl (cI, 7, .inl p1_lengths)), (a_p1_back, .inl (cI, 12, .inl p1_back)), (a_p2, .inr (2, [.ref a_p2_meanings, vp2_ears, .ref a_p2_fees, vp2_missed, vp2_paid, vp2_losses])), (a_p2_meanings, .inl (cI, 180, .inl p2_meanings)), (a_p2_fees, .inl (cI, 6, .inl p2_fees))] H := hP
          have hD : va_D A [(a_t, .inr (0, [.ref a_t_words, .ref a_t_facts, .int y2])), (a_t_words, .inl (cI, 72, .inl u3)), (a_t_facts, .inl (cI, 36, .inl t_facts)), (a_p1, .inr (6, [.ref a_p1_rows, .ref a_p1_lengths, .ref a_p1_back])), (a_p1_rows, .inl (cI, 84, .inl p1_rows)), (a_p1_lengths, .inl (cI, 7, .inl p1_lengths)), (a_p1_back, .inl (cI, 12, .inl p1_back)), (a_p2, .inr (2, [.ref a_p2_meanings, vp2_ears, .ref a_p2_fees, vp2_missed, vp2_paid, vp2_losses])), (a_p2_meanings, .inl (cI, 180, .inl p2_meanings)), (a_p2_fees, .inl (cI, 6, .inl p2_fees))] := hD
          refine lv_aload_n hx hb dX0_add_47 rfl (lv_at hl 0 rfl) ?_
          refine va_get (D := G) (ci := 0) (v := .ref a_t_facts) (C := RX0) (T := TX0) (N := 3) hx hb hts iwX0_add_X0 hown hK hP 0 rfl rfl 1 (by decide) k7 (fun _ h9 => h9) rfl dX0_add_48 ?_
          refine lv_iconst (v := 0) hx hb dX0_add_51 (by decide) ?_
          refine lv_aload_n hx hb dX0_add_52 rfl (lv_at hl 1 rfl) ?_
          obtain ⟨u4, hu4, hf⟩ := pf_b hf
          refine mCallV_i (As := []) ⟨hx, hb, hml, hown, hts⟩ (mX6_arrivedWords l G cI a_p1 a_p1_lengths H.size (.ref a_p1_rows) (.ref a_p1_back) p1_lengths _ hu4) (cwV 0 hts gX0_add_X6_arrivedWords rfl rfl rfl (by decide +kernel) ⟨Nat.le_of_ble_eq_true rfl, Nat.le_of_ble_eq_true rfl⟩) hP hD hS hA hK [3, 5] rfl (by decide) 3 6 rfl rfl rfl hK [a_p1, a_p1_lengths] (fun _ => rfl) rfl (fun _ => [(a_t, .inr (0, [.ref a_t_words, .ref a_t_facts, .int y2])), (a_t_words, .inl (cI, 72, .inl u3)), (a_t_facts, .inl (cI, 36, .inl t_facts)), (a_p1, .inr (6, [.ref a_p1_rows, .ref a_p1_lengths, .ref a_p1_back])), (a_p1_rows, .inl (cI, 84, .inl p1_rows)), (a_p1_lengths, .inl (cI, 7, .inl p1_lengths)), (a_p1_back, .inl (cI, 12, .inl p1_back)), (a_p2, .inr (2, [.ref a_p2_meanings, vp2_ears, .ref a_p2_fees, vp2_missed, vp2_paid, vp2_losses])), (a_p2_meanings, .inl (cI, 180, .inl p2_meanings)), (a_p2_fees, .inl (cI, 6, .inl p2_fees))]) [a_t, a_t_words, a_t_facts, a_p1, a_p1_rows, a_p1_lengths, a_p1_back, a_p2, a_p2_meanings, a_p2_fees] (fun _ => rfl) rfl (fun _ => rfl) [0, 1, 2, 4, 6, 7, 8, 9] [(a_t, .inr (0, [.ref a_t_words, .ref a_t_facts, .int y2])), (a_t_words, .inl (cI, 72, .inl u3)), (a_t_facts, .inl (cI, 36, .inl t_facts)), (a_p1_rows, .inl (cI, 84, .inl p1_rows)), (a_p1_back, .inl (cI, 12, .inl p1_back)), (a_p2, .inr (2, [.ref a_p2_meanings, vp2_ears, .ref a_p2_fees, vp2_missed, vp2_paid, vp2_losses])), (a_p2_meanings, .inl (cI, 180, .inl p2_meanings)), (a_p2_fees, .inl (cI, 6, .inl p2_fees))] (fun _ => rfl) rfl 10 rfl rfl rfl hl.1 rfl (lv_room (Nat.le_of_ble_eq_true rfl)) dX0_add_53 ⟨Nat.zero_le _, Nat.zero_le _⟩ (fun _ H locs hP hD hS => ?_)
          have hP : va_P G vwCl [(a_t, .inr (0, [.ref a_t_words, .ref a_t_facts, .int y2])), (a_t_words, .inl (cI, 72, .inl u3)), (a_t_facts, .inl (cI, 36, .inl t_facts)), (a_p1, .inr (6, [.ref a_p1_rows, .ref a_p1_lengths, .ref a_p1_back])), (a_p1_rows, .inl (cI, 84, .inl p1_rows)), (a_p1_lengths, .inl (cI, 7, .inl p1_lengths)), (a_p1_back, .inl (cI, 12, .inl p1_back)), (a_p2, .inr (2, [.ref a_p2_meanings, vp2_ears, .ref a_p2_fees, vp2_missed, vp2_paid, vp2_losses])), (a_p2_meanings, .inl (cI, 180, .inl p2_meanings)), (a_p2_fees, .inl (cI, 6, .inl p2_fees))] H := hP
          have hD : va_D A [(a_t, .inr (0, [.ref a_t_words, .ref a_t_facts, .int y2])), (a_t_words, .inl (cI, 72, .inl u3)), (a_t_facts, .inl (cI, 36, .inl t_facts)), (a_p1, .inr (6, [.ref a_p1_rows, .ref a_p1_lengths, .ref a_p1_back])), (a_p1_rows, .inl (cI, 84, .inl p1_rows)), (a_p1_lengths, .inl (cI, 7, .inl p1_lengths)), (a_p1_back, .inl (cI, 12, .inl p1_back)), (a_p2, .inr (2, [.ref a_p2_meanings, vp2_ears, .ref a_p2_fees, vp2_missed, vp2_paid, vp2_losses])), (a_p2_meanings, .inl (cI, 180, .inl p2_meanings)), (a_p2_fees, .inl (cI, 6, .inl p2_fees))] := hD
          refine va_iast hx hb hK hP hD hS 2 0 rfl rfl (vp_lit (by decide +kernel)) dX0_add_56 (fun H locs hP hD hS => ?_)
          obtain ⟨f5, ef5⟩ : ∃ z : Nat → Int32, z = upd t_facts (0 : Int32).toNatClampNeg u4 := ⟨_, rfl⟩
          have hf := pf_l hf f5 ef5
          have hP : va_P G vwCl [(a_t, .inr (0, [.ref a_t_words, .ref a_t_facts, .int y2])), (a_t_words, .inl (cI, 72, .inl u3)), (a_t_facts, .inl (cI, 36, .inl f5)), (a_p1, .inr (6, [.ref a_p1_rows, .ref a_p1_lengths, .ref a_p1_back])), (a_p1_rows, .inl (cI, 84, .inl p1_rows)), (a_p1_lengths, .inl (cI, 7, .inl p1_lengths)), (a_p1_back, .inl (cI, 12, .inl p1_back)), (a_p2, .inr (2, [.ref a_p2_meanings, vp2_ears, .ref a_p2_fees, vp2_missed, vp2_paid, vp2_losses])), (a_p2_meanings, .inl (cI, 180, .inl p2_meanings)), (a_p2_fees, .inl (cI, 6, .inl p2_fees))] H := by rw [ef5]; exact hP
          have hD : va_D A [(a_t, .inr (0, [.ref a_t_words, .ref a_t_facts, .int y2])), (a_t_words, .inl (cI, 72, .inl u3)), (a_t_facts, .inl (cI, 36, .inl f5)), (a_p1, .inr (6, [.ref a_p1_rows, .ref a_p1_lengths, .ref a_p1_back])), (a_p1_rows, .inl (cI, 84, .inl p1_rows)), (a_p1_lengths, .inl (cI, 7, .inl p1_lengths)), (a_p1_back, .inl (cI, 12, .inl p1_back)), (a_p2, .inr (2, [.ref a_p2_meanings, vp2_ears, .ref a_p2_fees, vp2_missed, vp2_paid, vp2_losses])), (a_p2_meanings, .inl (cI, 180, .inl p2_meanings)), (a_p2_fees, .inl (cI, 6, .inl p2_fees))] := by rw [ef5]; exact hD
          refine lv_aload_n hx hb dX0_add_57 rfl (lv_at hl 0 rfl) ?_
          refine va_get (D := G) (ci := 0) (v := .ref a_t_facts) (C := RX0) (T := TX0) (N := 3) hx hb hts iwX0_add_X0 hown hK hP 0 rfl rfl 1 (by decide) k7 (fun _ h9 => h9) rfl dX0_add_58 ?_
          refine lv_iconst (v := 1) hx hb dX0_add_61 (by decide) ?_
          refine lv_aload_n hx hb dX0_add_62 rfl (lv_at hl 1 rfl) ?_
          refine lv_iconst (v := 5) hx hb dX0_add_63 (by decide) ?_
          obtain ⟨u6, hu6, hf⟩ := pf_b hf
          refine mCallV_i (As := [.int 5]) ⟨hx, hb, hml, hown, hts⟩ (mX6_mumblesBehind l G cI a_p1 a_p1_rows a_p1_lengths H.size (.ref a_p1_back) p1_rows p1_lengths (5 : Int32) _ hu6) (cwV 1 hts gX0_add_X6_mumblesBehind rfl rfl rfl (by decide +kernel) ⟨Nat.le_of_ble_eq_true rfl, Nat.le_of_ble_eq_true rfl⟩) hP hD hS hA hK [3, 4, 5] rfl (by decide) 3 6 rfl rfl rfl hK [a_p1, a_p1_rows, a_p1_lengths] (fun _ => rfl) rfl (fun _ => [(a_t, .inr (0, [.ref a_t_words, .ref a_t_facts, .int y2])), (a_t_words, .inl (cI, 72, .inl u3)), (a_t_facts, .inl (cI, 36, .inl f5)), (a_p1, .inr (6, [.ref a_p1_rows, .ref a_p1_lengths, .ref a_p1_back])), (a_p1_rows, .inl (cI, 84, .inl p1_rows)), (a_p1_lengths, .inl (cI, 7, .inl p1_lengths)), (a_p1_back, .inl (cI, 12, .inl p1_back)), (a_p2, .inr (2, [.ref a_p2_meanings, vp2_ears, .ref a_p2_fees, vp2_missed, vp2_paid, vp2_losses])), (a_p2_meanings, .inl (cI, 180, .inl p2_meanings)), (a_p2_fees, .inl (cI, 6, .inl p2_fees))]) [a_t, a_t_words, a_t_facts, a_p1, a_p1_rows, a_p1_lengths, a_p1_back, a_p2, a_p2_meanings, a_p2_fees] (fun _ => rfl) rfl (fun _ => rfl) [0, 1, 2, 6, 7, 8, 9] [(a_t, .inr (0, [.ref a_t_words, .ref a_t_facts, .int y2])), (a_t_words, .inl (cI, 72, .inl u3)), (a_t_facts, .inl (cI, 36, .inl f5)), (a_p1_back, .inl (cI, 12, .inl p1_back)), (a_p2, .inr (2, [.ref a_p2_meanings, vp2_ears, .ref a_p2_fees, vp2_missed, vp2_paid, vp2_losses])), (a_p2_meanings, .inl (cI, 180, .inl p2_meanings)), (a_p2_fees, .inl (cI, 6, .inl p2_fees))] (fun _ => rfl) rfl 10 rfl rfl rfl hl.1 rfl (lv_room (Nat.le_of_ble_eq_true rfl)) dX0_add_64 ⟨Nat.zero_le _, Nat.zero_le _⟩ (fun _ H locs hP hD hS => ?_)
          have hP : va_P G vwCl [(a_t, .inr (0, [.ref a_t_words, .ref a_t_facts, .int y2])), (a_t_words, .inl (cI, 72, .inl u3)), (a_t_facts, .inl (cI, 36, .inl f5)), (a_p1, .inr (6, [.ref a_p1_rows, .ref a_p1_lengths, .ref a_p1_back])), (a_p1_rows, .inl (cI, 84, .inl p1_rows)), (a_p1_lengths, .inl (cI, 7, .inl p1_lengths)), (a_p1_back, .inl (cI, 12, .inl p1_back)), (a_p2, .inr (2, [.ref a_p2_meanings, vp2_ears, .ref a_p2_fees, vp2_missed, vp2_paid, vp2_losses])), (a_p2_meanings, .inl (cI, 180, .inl p2_meanings)), (a_p2_fees, .inl (cI, 6, .inl p2_fees))] H := hP
          have hD : va_D A [(a_t, .inr (0, [.ref a_t_words, .ref a_t_facts, .int y2])), (a_t_words, .inl (cI, 72, .inl u3)), (a_t_facts, .inl (cI, 36, .inl f5)), (a_p1, .inr (6, [.ref a_p1_rows, .ref a_p1_lengths, .ref a_p1_back])), (a_p1_rows, .inl (cI, 84, .inl p1_rows)), (a_p1_lengths, .inl (cI, 7, .inl p1_lengths)), (a_p1_back, .inl (cI, 12, .inl p1_back)), (a_p2, .inr (2, [.ref a_p2_meanings, vp2_ears, .ref a_p2_fees, vp2_missed, vp2_paid, vp2_losses])), (a_p2_meanings, .inl (cI, 180, .inl p2_meanings)), (a_p2_fees, .inl (cI, 6, .inl p2_fees))] := hD
          refine va_iast hx hb hK hP hD hS 2 0 rfl rfl (vp_lit (by decide +kernel)) dX0_add_67 (fun H locs hP hD hS => ?_)
          obtain ⟨f7, ef7⟩ : ∃ z : Nat → Int32, z = upd f5 (1 : Int32).toNatClampNeg u6 := ⟨_, rfl⟩
          have hf := pf_l hf f7 ef7
          have hP : va_P G vwCl [(a_t, .inr (0, [.ref a_t_words, .ref a_t_facts, .int y2])), (a_t_words, .inl (cI, 72, .inl u3)), (a_t_facts, .inl (cI, 36, .inl f7)), (a_p1, .inr (6, [.ref a_p1_rows, .ref a_p1_lengths, .ref a_p1_back])), (a_p1_rows, .inl (cI, 84, .inl p1_rows)), (a_p1_lengths, .inl (cI, 7, .inl p1_lengths)), (a_p1_back, .inl (cI, 12, .inl p1_back)), (a_p2, .inr (2, [.ref a_p2_meanings, vp2_ears, .ref a_p2_fees, vp2_missed, vp2_paid, vp2_losses])), (a_p2_meanings, .inl (cI, 180, .inl p2_meanings)), (a_p2_fees, .inl (cI, 6, .inl p2_fees))] H := by rw [ef7]; exact hP
          have hD : va_D A [(a_t, .inr (0, [.ref a_t_words, .ref a_t_facts, .int y2])), (a_t_words, .inl (cI, 72, .inl u3)), (a_t_facts, .inl (cI, 36, .inl f7)), (a_p1, .inr (6, [.ref a_p1_rows, .ref a_p1_lengths, .ref a_p1_back])), (a_p1_rows, .inl (cI, 84, .inl p1_rows)), (a_p1_lengths, .inl (cI, 7, .inl p1_lengths)), (a_p1_back, .inl (cI, 12, .inl p1_back)), (a_p2, .inr (2, [.ref a_p2_meanings, vp2_ears, .ref a_p2_fees, vp2_missed, vp2_paid, vp2_losses])), (a_p2_meanings, .inl (cI, 180, .inl p2_meanings)), (a_p2_fees, .inl (cI, 6, .inl p2_fees))] := by rw [ef7]; exact hD
          refine lv_aload_n hx hb dX0_add_68 rfl (lv_at hl 0 rfl) ?_
          refine va_get (D := G) (ci := 0) (v := .ref a_t_facts) (C := RX0) (T := TX0) (N := 3) hx hb hts iwX0_add_X0 hown hK hP 0 rfl rfl 1 (by decide) k7 (fun _ h9 => h9) rfl dX0_add_69 ?_
          refine lv_iconst (v := 2) hx hb dX0_add_72 (by decide) ?_
          refine lv_aload_n hx hb dX0_add_73 rfl (lv_at hl 1 rfl) ?_
          refine lv_aload_n hx hb dX0_add_74 rfl (lv_at hl 2 rfl) ?_
          obtain ⟨u8, hu8, hf⟩ := pf_b hf
          refine mCallV_i (As := [.ref a_p2]) ⟨hx, hb, hml, hown, hts⟩ (mX6_payOfAll l G cI a_p1 a_p1_lengths a_p2 a_p2_fees H.size (.ref a_p1_rows) (.ref a_p1_back) (.ref a_p2_meanings) vp2_ears vp2_missed vp2_paid vp2_losses p1_lengths p2_fees _ hu8) (cwV 1 hts gX0_add_X6_payOfAll rfl rfl rfl (by decide +kernel) ⟨Nat.le_of_ble_eq_true rfl, Nat.le_of_ble_eq_true rfl⟩) hP hD hS hA hK [3, 5, 7, 9] rfl (by decide) 3 6 rfl rfl rfl hK [a_p1, a_p1_lengths, a_p2, a_p2_fees] (fun _ => rfl) rfl (fun _ => [(a_t, .inr (0, [.ref a_t_words, .ref a_t_facts, .int y2])), (a_t_words, .inl (cI, 72, .inl u3)), (a_t_facts, .inl (cI, 36, .inl f7)), (a_p1, .inr (6, [.ref a_p1_rows, .ref a_p1_lengths, .ref a_p1_back])), (a_p1_rows, .inl (cI, 84, .inl p1_rows)), (a_p1_lengths, .inl (cI, 7, .inl p1_lengths)), (a_p1_back, .inl (cI, 12, .inl p1_back)), (a_p2, .inr (2, [.ref a_p2_meanings, vp2_ears, .ref a_p2_fees, vp2_missed, vp2_paid, vp2_losses])), (a_p2_meanings, .inl (cI, 180, .inl p2_meanings)), (a_p2_fees, .inl (cI, 6, .inl p2_fees))]) [a_t, a_t_words, a_t_facts, a_p1, a_p1_rows, a_p1_lengths, a_p1_back, a_p2, a_p2_meanings, a_p2_fees] (fun _ => rfl) rfl (fun _ => rfl) [0, 1, 2, 4, 6, 8] [(a_t, .inr (0, [.ref a_t_words, .ref a_t_facts, .int y2])), (a_t_words, .inl (cI, 72, .inl u3)), (a_t_facts, .inl (cI, 36, .inl f7)), (a_p1_rows, .inl (cI, 84, .inl p1_rows)), (a_p1_back, .inl (cI, 12, .inl p1_back)), (a_p2_meanings, .inl (cI, 180, .inl p2_meanings))] (fun _ => rfl) rfl 10 rfl rfl rfl hl.1 rfl (lv_room (Nat.le_of_ble_eq_true rfl)) dX0_add_75 ⟨Nat.zero_le _, Nat.zero_le _⟩ (fun _ H locs hP hD hS => ?_)
          have hP : va_P G vwCl [(a_t, .inr (0, [.ref a_t_words, .ref a_t_facts, .int y2])), (a_t_words, .inl (cI, 72, .inl u3)), (a_t_facts, .inl (cI, 36, .inl f7)), (a_p1, .inr (6, [.ref a_p1_rows, .ref a_p1_lengths, .ref a_p1_back])), (a_p1_rows, .inl (cI, 84, .inl p1_rows)), (a_p1_lengths, .inl (cI, 7, .inl p1_lengths)), (a_p1_back, .inl (cI, 12, .inl p1_back)), (a_p2, .inr (2, [.ref a_p2_meanings, vp2_ears, .ref a_p2_fees, vp2_missed, vp2_paid, vp2_losses])), (a_p2_meanings, .inl (cI, 180, .inl p2_meanings)), (a_p2_fees, .inl (cI, 6, .inl p2_fees))] H := hP
          have hD : va_D A [(a_t, .inr (0, [.ref a_t_words, .ref a_t_facts, .int y2])), (a_t_words, .inl (cI, 72, .inl u3)), (a_t_facts, .inl (cI, 36, .inl f7)), (a_p1, .inr (6, [.ref a_p1_rows, .ref a_p1_lengths, .ref a_p1_back])), (a_p1_rows, .inl (cI, 84, .inl p1_rows)), (a_p1_lengths, .inl (cI, 7, .inl p1_lengths)), (a_p1_back, .inl (cI, 12, .inl p1_back)), (a_p2, .inr (2, [.ref a_p2_meanings, vp2_ears, .ref a_p2_fees, vp2_missed, vp2_paid, vp2_losses])), (a_p2_meanings, .inl (cI, 180, .inl p2_meanings)), (a_p2_fees, .inl (cI, 6, .inl p2_fees))] := hD
          refine va_iast hx hb hK hP hD hS 2 0 rfl rfl (vp_lit (by decide +kernel)) dX0_add_78 (fun H locs hP hD hS => ?_)
          obtain ⟨f9, ef9⟩ : ∃ z : Nat → Int32, z = upd f7 (2 : Int32).toNatClampNeg u8 := ⟨_, rfl⟩
          have hf := pf_l hf f9 ef9
          have hP : va_P G vwCl [(a_t, .inr (0, [.ref a_t_words, .ref a_t_facts, .int y2])), (a_t_words, .inl (cI, 72, .inl u3)), (a_t_facts, .inl (cI, 36, .inl f9)), (a_p1, .inr (6, [.ref a_p1_rows, .ref a_p1_lengths, .ref a_p1_back])), (a_p1_rows, .inl (cI, 84, .inl p1_rows)), (a_p1_lengths, .inl (cI, 7, .inl p1_lengths)), (a_p1_back, .inl (cI, 12, .inl p1_back)), (a_p2, .inr (2, [.ref a_p2_meanings, vp2_ears, .ref a_p2_fees, vp2_missed, vp2_paid, vp2_losses])), (a_p2_meanings, .inl (cI, 180, .inl p2_meanings)), (a_p2_fees, .inl (cI, 6, .inl p2_fees))] H := by rw [ef9]; exact hP
          have hD : va_D A [(a_t, .inr (0, [.ref a_t_words, .ref a_t_facts, .int y2])), (a_t_words, .inl (cI, 72, .inl u3)), (a_t_facts, .inl (cI, 36, .inl f9)), (a_p1, .inr (6, [.ref a_p1_rows, .ref a_p1_lengths, .ref a_p1_back])), (a_p1_rows, .inl (cI, 84, .inl p1_rows)), (a_p1_lengths, .inl (cI, 7, .inl p1_lengths)), (a_p1_back, .inl (cI, 12, .inl p1_back)), (a_p2, .inr (2, [.ref a_p2_meanings, vp2_ears, .ref a_p2_fees, vp2_missed, vp2_paid, vp2_losses])), (a_p2_meanings, .inl (cI, 180, .inl p2_meanings)), (a_p2_fees, .inl (cI, 6, .inl p2_fees))] := by rw [ef9]; exact hD
          refine lv_aload_n hx hb dX0_add_79 rfl (lv_at hl 0 rfl) ?_
          refine va_get (D := G) (ci := 0) (v := .ref a_t_facts) (C := RX0) (T := TX0) (N := 3) hx hb hts iwX0_add_X0 hown hK hP 0 rfl rfl 1 (by decide) k7 (fun _ h9 => h9) rfl dX0_add_80 ?_
          refine lv_iconst (v := 3) hx hb dX0_add_83 (by decide) ?_
          refine lv_iload_n hx hb dX0_add_84 rfl (lv_at hl 3 rfl) ?_
          refine va_iast hx hb hK hP hD hS 2 0 rfl rfl (vp_lit (by decide +kernel)) dX0_add_85 (fun H locs hP hD hS => ?_)
          obtain ⟨f10, ef10⟩ : ∃ z : Nat → Int32, z = upd f9 (3 : Int32).toNatClampNeg p3 := ⟨_, rfl⟩
          have hf := pf_l hf f10 ef10
          have hP : va_P G vwCl [(a_t, .inr (0, [.ref a_t_words, .ref a_t_facts, .int y2])), (a_t_words, .inl (cI, 72, .inl u3)), (a_t_facts, .inl (cI, 36, .inl f10)), (a_p1, .inr (6, [.ref a_p1_rows, .ref a_p1_lengths, .ref a_p1_back])), (a_p1_rows, .inl (cI, 84, .inl p1_rows)), (a_p1_lengths, .inl (cI, 7, .inl p1_lengths)), (a_p1_back, .inl (cI, 12, .inl p1_back)), (a_p2, .inr (2, [.ref a_p2_meanings, vp2_ears, .ref a_p2_fees, vp2_missed, vp2_paid, vp2_losses])), (a_p2_meanings, .inl (cI, 180, .inl p2_meanings)), (a_p2_fees, .inl (cI, 6, .inl p2_fees))] H := by rw [ef10]; exact hP
          have hD : va_D A [(a_t, .inr (0, [.ref a_t_words, .ref a_t_facts, .int y2])), (a_t_words, .inl (cI, 72, .inl u3)), (a_t_facts, .inl (cI, 36, .inl f10)), (a_p1, .inr (6, [.ref a_p1_rows, .ref a_p1_lengths, .ref a_p1_back])), (a_p1_rows, .inl (cI, 84, .inl p1_rows)), (a_p1_lengths, .inl (cI, 7, .inl p1_lengths)), (a_p1_back, .inl (cI, 12, .inl p1_back)), (a_p2, .inr (2, [.ref a_p2_meanings, vp2_ears, .ref a_p2_fees, vp2_missed, vp2_paid, vp2_losses])), (a_p2_meanings, .inl (cI, 180, .inl p2_meanings)), (a_p2_fees, .inl (cI, 6, .inl p2_fees))] := by rw [ef10]; exact hD
          refine lv_aload_n hx hb dX0_add_86 rfl (lv_at hl 0 rfl) ?_
          refine va_get (D := G) (ci := 0) (v := .ref a_t_facts) (C := RX0) (T := TX0) (N := 3) hx hb hts iwX0_add_X0 hown hK hP 0 rfl rfl 1 (by decide) k7 (fun _ h9 => h9) rfl dX0_add_87 ?_
          refine lv_iconst (v := 4) hx hb dX0_add_90 (by decide) ?_
          refine lv_aload_n hx hb dX0_add_91 rfl (lv_at hl 1 rfl) ?_
          refine lv_aload_n hx hb dX0_add_92 rfl (lv_at hl 2 rfl) ?_
          obtain ⟨u11, hu11, hf⟩ := pf_b hf
          refine mCallV_i (As := [.ref a_p2]) ⟨hx, hb, hml, hown, hts⟩ (mX6_lossBySendingBack l G cI a_p1 a_p1_rows a_p1_lengths a_p1_back a_p2 a_p2_meanings H.size vp2_ears (.ref a_p2_fees) vp2_missed vp2_paid vp2_losses p1_rows p1_lengths p1_back p2_meanings _ hu11) (cwV 1 hts gX0_add_X6_lossBySendingBack rfl rfl rfl (by decide +kernel) ⟨Nat.le_of_ble_eq_true rfl, Nat.le_of_ble_eq_true rfl⟩) hP hD hS hA hK [3, 4, 5, 6, 7, 8] rfl (by decide) 3 6 rfl rfl rfl hK [a_p1, a_p1_rows, a_p1_lengths, a_p1_back, a_p2, a_p2_meanings] (fun _ => rfl) rfl (fun _ => [(a_t, .inr (0, [.ref a_t_words, .ref a_t_facts, .int y2])), (a_t_words, .inl (cI, 72, .inl u3)), (a_t_facts, .inl (cI, 36, .inl f10)), (a_p1, .inr (6, [.ref a_p1_rows, .ref a_p1_lengths, .ref a_p1_back])), (a_p1_rows, .inl (cI, 84, .inl p1_rows)), (a_p1_lengths, .inl (cI, 7, .inl p1_lengths)), (a_p1_back, .inl (cI, 12, .inl u11.2)), (a_p2, .inr (2, [.ref a_p2_meanings, vp2_ears, .ref a_p2_fees, vp2_missed, vp2_paid, vp2_losses])), (a_p2_meanings, .inl (cI, 180, .inl p2_meanings)), (a_p2_fees, .inl (cI, 6, .inl p2_fees))]) [a_t, a_t_words, a_t_facts, a_p1, a_p1_rows, a_p1_lengths, a_p1_back, a_p2, a_p2_meanings, a_p2_fees] (fun _ => rfl) rfl (fun _ => rfl) [0, 1, 2, 9] [(a_t, .inr (0, [.ref a_t_words, .ref a_t_facts, .int y2])), (a_t_words, .inl (cI, 72, .inl u3)), (a_t_facts, .inl (cI, 36, .inl f10)), (a_p2_fees, .inl (cI, 6, .inl p2_fees))] (fun _ => rfl) rfl 10 rfl rfl rfl hl.1 rfl (lv_room (Nat.le_of_ble_eq_true rfl)) dX0_add_93 ⟨Nat.zero_le _, Nat.zero_le _⟩ (fun _ H locs hP hD hS => ?_)
          have hP : va_P G vwCl [(a_t, .inr (0, [.ref a_t_words, .ref a_t_facts, .int y2])), (a_t_words, .inl (cI, 72, .inl u3)), (a_t_facts, .inl (cI, 36, .inl f10)), (a_p1, .inr (6, [.ref a_p1_rows, .ref a_p1_lengths, .ref a_p1_back])), (a_p1_rows, .inl (cI, 84, .inl p1_rows)), (a_p1_lengths, .inl (cI, 7, .inl p1_lengths)), (a_p1_back, .inl (cI, 12, .inl u11.2)), (a_p2, .inr (2, [.ref a_p2_meanings, vp2_ears, .ref a_p2_fees, vp2_missed, vp2_paid, vp2_losses])), (a_p2_meanings, .inl (cI, 180, .inl p2_meanings)), (a_p2_fees, .inl (cI, 6, .inl p2_fees))] H := hP
          have hD : va_D A [(a_t, .inr (0, [.ref a_t_words, .ref a_t_facts, .int y2])), (a_t_words, .inl (cI, 72, .inl u3)), (a_t_facts, .inl (cI, 36, .inl f10)), (a_p1, .inr (6, [.ref a_p1_rows, .ref a_p1_lengths, .ref a_p1_back])), (a_p1_rows, .inl (cI, 84, .inl p1_rows)), (a_p1_lengths, .inl (cI, 7, .inl p1_lengths)), (a_p1_back, .inl (cI, 12, .inl u11.2)), (a_p2, .inr (2, [.ref a_p2_meanings, vp2_ears, .ref a_p2_fees, vp2_missed, vp2_paid, vp2_losses])), (a_p2_meanings, .inl (cI, 180, .inl p2_meanings)), (a_p2_fees, .inl (cI, 6, .inl p2_fees))] := hD
          refine va_iast hx hb hK hP hD hS 2 0 rfl rfl (vp_lit (by decide +kernel)) dX0_add_96 (fun H locs hP hD hS => ?_)
          obtain ⟨f12, ef12⟩ : ∃ z : Nat → Int32, z = upd f10 (4 : Int32).toNatClampNeg u11.1 := ⟨_, rfl⟩
          have hf := pf_l hf f12 ef12
          have hP : va_P G vwCl [(a_t, .inr (0, [.ref a_t_words, .ref a_t_facts, .int y2])), (a_t_words, .inl (cI, 72, .inl u3)), (a_t_facts, .inl (cI, 36, .inl f12)), (a_p1, .inr (6, [.ref a_p1_rows, .ref a_p1_lengths, .ref a_p1_back])), (a_p1_rows, .inl (cI, 84, .inl p1_rows)), (a_p1_lengths, .inl (cI, 7, .inl p1_lengths)), (a_p1_back, .inl (cI, 12, .inl u11.2)), (a_p2, .inr (2, [.ref a_p2_meanings, vp2_ears, .ref a_p2_fees, vp2_missed, vp2_paid, vp2_losses])), (a_p2_meanings, .inl (cI, 180, .inl p2_meanings)), (a_p2_fees, .inl (cI, 6, .inl p2_fees))] H := by rw [ef12]; exact hP
          have hD : va_D A [(a_t, .inr (0, [.ref a_t_words, .ref a_t_facts, .int y2])), (a_t_words, .inl (cI, 72, .inl u3)), (a_t_facts, .inl (cI, 36, .inl f12)), (a_p1, .inr (6, [.ref a_p1_rows, .ref a_p1_lengths, .ref a_p1_back])), (a_p1_rows, .inl (cI, 84, .inl p1_rows)), (a_p1_lengths, .inl (cI, 7, .inl p1_lengths)), (a_p1_back, .inl (cI, 12, .inl u11.2)), (a_p2, .inr (2, [.ref a_p2_meanings, vp2_ears, .ref a_p2_fees, vp2_missed, vp2_paid, vp2_losses])), (a_p2_meanings, .inl (cI, 180, .inl p2_meanings)), (a_p2_fees, .inl (cI, 6, .inl p2_fees))] := by rw [ef12]; exact hD
          refine lv_aload_n hx hb dX0_add_97 rfl (lv_at hl 0 rfl) ?_
          refine va_get (D := G) (ci := 0) (v := .ref a_t_facts) (C := RX0) (T := TX0) (N := 3) hx hb hts iwX0_add_X0 hown hK hP 0 rfl rfl 1 (by decide) k7 (fun _ h9 => h9) rfl dX0_add_98 ?_
          refine lv_iconst (v := 5) hx hb dX0_add_101 (by decide) ?_
          refine lv_aload_n hx hb dX0_add_102 rfl (lv_at hl 1 rfl) ?_
          obtain ⟨u13, hu13, hf⟩ := pf_b hf
          refine mCallV_i (As := []) ⟨hx, hb, hml, hown, hts⟩ (mX6_sentWords l G cI a_p1 a_p1_lengths H.size (.ref a_p1_rows) (.ref a_p1_back) p1_lengths _ hu13) (cwV 0 hts gX0_add_X6_sentWords rfl rfl rfl (by decide +kernel) ⟨Nat.le_of_ble_eq_true rfl, Nat.le_of_ble_eq_true rfl⟩) hP hD hS hA hK [3, 5] rfl (by decide) 3 6 rfl rfl rfl hK [a_p1, a_p1_lengths] (fun _ => rfl) rfl (fun _ => [(a_t, .inr (0, [.ref a_t_words, .ref a_t_facts, .int y2])), (a_t_words, .inl (cI, 72, .inl u3)), (a_t_facts, .inl (cI, 36, .inl f12)), (a_p1, .inr (6, [.ref a_p1_rows, .ref a_p1_lengths, .ref a_p1_back])), (a_p1_rows, .inl (cI, 84, .inl p1_rows)), (a_p1_lengths, .inl (cI, 7, .inl p1_lengths)), (a_p1_back, .inl (cI, 12, .inl u11.2)), (a_p2, .inr (2, [.ref a_p2_meanings, vp2_ears, .ref a_p2_fees, vp2_missed, vp2_paid, vp2_losses])), (a_p2_meanings, .inl (cI, 180, .inl p2_meanings)), (a_p2_fees, .inl (cI, 6, .inl p2_fees))]) [a_t, a_t_words, a_t_facts, a_p1, a_p1_rows, a_p1_lengths, a_p1_back, a_p2, a_p2_meanings, a_p2_fees] (fun _ => rfl) rfl (fun _ => rfl) [0, 1, 2, 4, 6, 7, 8, 9] [(a_t, .inr (0, [.ref a_t_words, .ref a_t_facts, .int y2])), (a_t_words, .inl (cI, 72, .inl u3)), (a_t_facts, .inl (cI, 36, .inl f12)), (a_p1_rows, .inl (cI, 84, .inl p1_rows)), (a_p1_back, .inl (cI, 12, .inl u11.2)), (a_p2, .inr (2, [.ref a_p2_meanings, vp2_ears, .ref a_p2_fees, vp2_missed, vp2_paid, vp2_losses])), (a_p2_meanings, .inl (cI, 180, .inl p2_meanings)), (a_p2_fees, .inl (cI, 6, .inl p2_fees))] (fun _ => rfl) rfl 10 rfl rfl rfl hl.1 rfl (lv_room (Nat.le_of_ble_eq_true rfl)) dX0_add_103 ⟨Nat.zero_le _, Nat.zero_le _⟩ (fun _ H locs hP hD hS => ?_)
          have hP : va_P G vwCl [(a_t, .inr (0, [.ref a_t_words, .ref a_t_facts, .int y2])), (a_t_words, .inl (cI, 72, .inl u3)), (a_t_facts, .inl (cI, 36, .inl f12)), (a_p1, .inr (6, [.ref a_p1_rows, .ref a_p1_lengths, .ref a_p1_back])), (a_p1_rows, .inl (cI, 84, .inl p1_rows)), (a_p1_lengths, .inl (cI, 7, .inl p1_lengths)), (a_p1_back, .inl (cI, 12, .inl u11.2)), (a_p2, .inr (2, [.ref a_p2_meanings, vp2_ears, .ref a_p2_fees, vp2_missed, vp2_paid, vp2_losses])), (a_p2_meanings, .inl (cI, 180, .inl p2_meanings)), (a_p2_fees, .inl (cI, 6, .inl p2_fees))] H := hP
          have hD : va_D A [(a_t, .inr (0, [.ref a_t_words, .ref a_t_facts, .int y2])), (a_t_words, .inl (cI, 72, .inl u3)), (a_t_facts, .inl (cI, 36, .inl f12)), (a_p1, .inr (6, [.ref a_p1_rows, .ref a_p1_lengths, .ref a_p1_back])), (a_p1_rows, .inl (cI, 84, .inl p1_rows)), (a_p1_lengths, .inl (cI, 7, .inl p1_lengths)), (a_p1_back, .inl (cI, 12, .inl u11.2)), (a_p2, .inr (2, [.ref a_p2_meanings, vp2_ears, .ref a_p2_fees, vp2_missed, vp2_paid, vp2_losses])), (a_p2_meanings, .inl (cI, 180, .inl p2_meanings)), (a_p2_fees, .inl (cI, 6, .inl p2_fees))] := hD
          refine va_iast hx hb hK hP hD hS 2 0 rfl rfl (vp_lit (by decide +kernel)) dX0_add_106 (fun H locs hP hD hS => ?_)
          obtain ⟨f14, ef14⟩ : ∃ z : Nat → Int32, z = upd f12 (5 : Int32).toNatClampNeg u13 := ⟨_, rfl⟩
          have hf := pf_l hf f14 ef14
          have hP : va_P G vwCl [(a_t, .inr (0, [.ref a_t_words, .ref a_t_facts, .int y2])), (a_t_words, .inl (cI, 72, .inl u3)), (a_t_facts, .inl (cI, 36, .inl f14)), (a_p1, .inr (6, [.ref a_p1_rows, .ref a_p1_lengths, .ref a_p1_back])), (a_p1_rows, .inl (cI, 84, .inl p1_rows)), (a_p1_lengths, .inl (cI, 7, .inl p1_lengths)), (a_p1_back, .inl (cI, 12, .inl u11.2)), (a_p2, .inr (2, [.ref a_p2_meanings, vp2_ears, .ref a_p2_fees, vp2_missed, vp2_paid, vp2_losses])), (a_p2_meanings, .inl (cI, 180, .inl p2_meanings)), (a_p2_fees, .inl (cI, 6, .inl p2_fees))] H := by rw [ef14]; exact hP
          have hD : va_D A [(a_t, .inr (0, [.ref a_t_words, .ref a_t_facts, .int y2])), (a_t_words, .inl (cI, 72, .inl u3)), (a_t_facts, .inl (cI, 36, .inl f14)), (a_p1, .inr (6, [.ref a_p1_rows, .ref a_p1_lengths, .ref a_p1_back])), (a_p1_rows, .inl (cI, 84, .inl p1_rows)), (a_p1_lengths, .inl (cI, 7, .inl p1_lengths)), (a_p1_back, .inl (cI, 12, .inl u11.2)), (a_p2, .inr (2, [.ref a_p2_meanings, vp2_ears, .ref a_p2_fees, vp2_missed, vp2_paid, vp2_losses])), (a_p2_meanings, .inl (cI, 180, .inl p2_meanings)), (a_p2_fees, .inl (cI, 6, .inl p2_fees))] := by rw [ef14]; exact hD
          obtain rfl := Option.some.inj hf
          exact mEnd_v () hx hb hr hlocks hP hK hD hS rfl (Nat.le_of_ble_eq_true rfl) (Nat.le_of_ble_eq_true rfl) dX0_add_107
        · have hf := pf_f hf c1
          refine lv_aload_n hx hb dX0_add_8 rfl (lv_at hl 0 rfl) ?_
          refine lv_iload hx hb dX0_add_9 (lv_at hl 4 rfl) ?_
          refine lv_iconst (v := 1) hx hb dX0_add_11 (by decide) ?_
          refine lv_isub hx hb dX0_add_12 ?_
          refine lv_iload hx hb dX0_add_13 (lv_at hl 4 rfl) ?_
          obtain ⟨u15, hu15, hf⟩ := pf_b hf
          refine mCallV_v (As := [.int (x4 - (1 : Int32)), .int x4]) ⟨hx, hb, hml, hown, hts⟩ (mX0_copyBack l G cI a_t a_t_words a_t_facts H.size t_size t_words t_facts (x4 - (1 : Int32)) x4 _ hu15) (cwV 2 hts gX0_add_X0_copyBack rfl rfl rfl (by decide +kernel) ⟨Nat.le_of_ble_eq_true rfl, Nat.le_of_ble_eq_true rfl⟩) hP hD hS hA hK [0, 1, 2] rfl (by decide) 0 0 rfl rfl rfl hK [a_t, a_t_words, a_t_facts] (fun _ => rfl) rfl (fun _ => [(a_t, .inr (0, [.ref a_t_words, .ref a_t_facts, .int t_size])), (a_t_words, .inl (cI, 72, .inl u15.1)), (a_t_facts, .inl (cI, 36, .inl u15.2)), (a_p1, .inr (6, [.ref a_p1_rows, .ref a_p1_lengths, .ref a_p1_back])), (a_p1_rows, .inl (cI, 84, .inl p1_rows)), (a_p1_lengths, .inl (cI, 7, .inl p1_lengths)), (a_p1_back, .inl (cI, 12, .inl p1_back)), (a_p2, .inr (2, [.ref a_p2_meanings, vp2_ears, .ref a_p2_fees, vp2_missed, vp2_paid, vp2_losses])), (a_p2_meanings, .inl (cI, 180, .inl p2_meanings)), (a_p2_fees, .inl (cI, 6, .inl p2_fees))]) [a_t, a_t_words, a_t_facts, a_p1, a_p1_rows, a_p1_lengths, a_p1_back, a_p2, a_p2_meanings, a_p2_fees] (fun _ => rfl) rfl (fun _ => rfl) [3, 4, 5, 6, 7, 8, 9] [(a_p1, .inr (6, [.ref a_p1_rows, .ref a_p1_lengths, .ref a_p1_back])), (a_p1_rows, .inl (cI, 84, .inl p1_rows)), (a_p1_lengths, .inl (cI, 7, .inl p1_lengths)), (a_p1_back, .inl (cI, 12, .inl p1_back)), (a_p2, .inr (2, [.ref a_p2_meanings, vp2_ears, .ref a_p2_fees, vp2_missed, vp2_paid, vp2_losses])), (a_p2_meanings, .inl (cI, 180, .inl p2_meanings)), (a_p2_fees, .inl (cI, 6, .inl p2_fees))] (fun _ => rfl) rfl 10 rfl rfl rfl hl.1 rfl (lv_room (Nat.le_of_ble_eq_true rfl)) dX0_add_15 ⟨Nat.zero_le _, Nat.zero_le _⟩ (fun _ H locs hP hD hS => ?_)
          have hP : va_P G vwCl [(a_t, .inr (0, [.ref a_t_words, .ref a_t_facts, .int t_size])), (a_t_words, .inl (cI, 72, .inl u15.1)), (a_t_facts, .inl (cI, 36, .inl u15.2)), (a_p1, .inr (6, [.ref a_p1_rows, .ref a_p1_lengths, .ref a_p1_back])), (a_p1_rows, .inl (cI, 84, .inl p1_rows)), (a_p1_lengths, .inl (cI, 7, .inl p1_lengths)), (a_p1_back, .inl (cI, 12, .inl p1_back)), (a_p2, .inr (2, [.ref a_p2_meanings, vp2_ears, .ref a_p2_fees, vp2_missed, vp2_paid, vp2_losses])), (a_p2_meanings, .inl (cI, 180, .inl p2_meanings)), (a_p2_fees, .inl (cI, 6, .inl p2_fees))] H := hP
          have hD : va_D A [(a_t, .inr (0, [.ref a_t_words, .ref a_t_facts, .int t_size])), (a_t_words, .inl (cI, 72, .inl u15.1)), (a_t_facts, .inl (cI, 36, .inl u15.2)), (a_p1, .inr (6, [.ref a_p1_rows, .ref a_p1_lengths, .ref a_p1_back])), (a_p1_rows, .inl (cI, 84, .inl p1_rows)), (a_p1_lengths, .inl (cI, 7, .inl p1_lengths)), (a_p1_back, .inl (cI, 12, .inl p1_back)), (a_p2, .inr (2, [.ref a_p2_meanings, vp2_ears, .ref a_p2_fees, vp2_missed, vp2_paid, vp2_losses])), (a_p2_meanings, .inl (cI, 180, .inl p2_meanings)), (a_p2_fees, .inl (cI, 6, .inl p2_fees))] := hD
          refine lv_iinc (v := x4 + (-1)) (lv' := [(4, .int (x4 + (-1))), (0, .ref a_t), (1, .ref a_p1), (2, .ref a_p2), (3, .int p3)]) hx hb dX0_add_18 hl (k := 4) rfl rfl (by decide) rfl (fun ls hl => ?_)
          refine lv_goto (tgt := 3) hx hb dX0_add_21 (by decide) ?_
          exact ih (x4 + (-1)) t_size u15.1 u15.2 p1_back H locs hf hP hD hS ls (lv_sub hl [1, 2, 3, 4, 0] rfl)
  unfold fX0_add eX0_add at hf
  obtain ⟨H, hH⟩ : ∃ H : Heap, H = s.heap := ⟨_, rfl⟩
  obtain ⟨locs, hlc⟩ : ∃ z : List Loc, z = [] := ⟨_, rfl⟩
  rw [← hlc, ← hH]
  have hP : va_P G vwCl [(a_t, .inr (0, [.ref a_t_words, .ref a_t_facts, .int t_size])), (a_t_words, .inl (cI, 72, .inl t_words)), (a_t_facts, .inl (cI, 36, .inl t_facts)), (a_p1, .inr (6, [.ref a_p1_rows, .ref a_p1_lengths, .ref a_p1_back])), (a_p1_rows, .inl (cI, 84, .inl p1_rows)), (a_p1_lengths, .inl (cI, 7, .inl p1_lengths)), (a_p1_back, .inl (cI, 12, .inl p1_back)), (a_p2, .inr (2, [.ref a_p2_meanings, vp2_ears, .ref a_p2_fees, vp2_missed, vp2_paid, vp2_losses])), (a_p2_meanings, .inl (cI, 180, .inl p2_meanings)), (a_p2_fees, .inl (cI, 6, .inl p2_fees))] H := by rw [hH]; exact hP
  have hS : va_S A s.heap H locs := by rw [hlc, hH]; exact hS
  refine lv_iconst (v := 5) hx hb dX0_add_0 (by decide) ?_
  refine lv_istore (lv' := [(4, .int 5), (0, .ref a_t), (1, .ref a_p1), (2, .ref a_p2), (3, .int p3)]) hx hb dX0_add_1 hl (by decide) rfl (fun ls hl => ?_)
  exact (key fuelN) (5 : Int32) t_size t_words t_facts p1_back H locs hf hP hD hS ls (lv_sub hl [1, 2, 3, 4, 0] rfl)
def fX4_begin (t_length : Int32) (t_urgency : Int32) : Option (Int32 × Int32) :=
  some ((0 : Int32), (1 : Int32))
theorem iwX4_begin_X4 : ∀ w ∈ u_ws RX4 TX4 3, w ∈ wsX4_begin := by decide +kernel
set_option maxHeartbeats 4000000 in
set_option maxRecDepth 100000 in
theorem mX4_begin (l : Launch) (G : va_G) (cI : ClassId) (a_t : Nat) (sz : Nat) (vt_words : Value) (t_length : Int32) (t_urgency : Int32)  (res : Int32 × Int32) (hf : fX4_begin t_length t_urgency = some res) : Met l yX4_begin wsX4_begin ({ frames := 0, cells := 0, slots := 0, locals := 0 }) (mPc G [(cI, .int)] [.ref a_t] sz [(a_t, .inr (4, [vt_words, .int t_length, .int t_urgency]))]) (mQv G [(cI, .int)] (va_A [(a_t, .inr (4, [vt_words, .int t_length, .int t_urgency]))] sz) (fun u9 : Unit => [(a_t, .inr (4, [vt_words, .int res.1, .int res.2]))])) 0 0 (va_A [(a_t, .inr (4, [vt_words, .int t_length, .int t_urgency]))] sz) := by
  refine mStart (cc := cX4_begin) (maxL := 1) (ret := none) (by decide) rfl (Nat.le_of_ble_eq_true rfl) ?_
  intro p e s m below meth c A ls hx hb hml hr hts hown hlocks hnm hA hsz hAe hP hK hD hS hl
  have hl : lv_has ls 1 [(0, .ref a_t)] := hl
  rw [hAe]
  have k1 := hts (.fieldLink RX4 19 "DeafChain$Sentence" "length" "I") (by decide +kernel)
  have k2 := hts (.fieldLink RX4 15 "DeafChain$Sentence" "urgency" "I") (by decide +kernel)
  unfold fX4_begin at hf
  obtain ⟨H, hH⟩ : ∃ H : Heap, H = s.heap := ⟨_, rfl⟩
  obtain ⟨locs, hlc⟩ : ∃ z : List Loc, z = [] := ⟨_, rfl⟩
  rw [← hlc, ← hH]
  have hP : va_P G vwCl [(a_t, .inr (4, [vt_words, .int t_length, .int t_urgency]))] H := by rw [hH]; exact hP
  have hS : va_S A s.heap H locs := by rw [hlc, hH]; exact hS
  refine lv_aload_n hx hb dX4_begin_0 rfl (lv_at hl 0 rfl) ?_
  refine lv_iconst (v := 0) hx hb dX4_begin_1 (by decide) ?_
  refine va_put (D := G) (ci := 4) (v := .int 0) (ty := .int) (C := RX4) (T := TX4) (N := 3) hx hb hts iwX4_begin_X4 tyX4 tyX4_ok nmX4 hown hK hP hD hS 0 rfl rfl 1 (by decide) k1 (fun _ h9 => h9) rfl (by decide +kernel) rfl rfl (Nat.le_of_ble_eq_true rfl) dX4_begin_2 (fun H locs hP hD hS => ?_)
  have hP : va_P G vwCl [(a_t, .inr (4, [vt_words, .int 0, .int t_urgency]))] H := hP
  have hD : va_D A [(a_t, .inr (4, [vt_words, .int 0, .int t_urgency]))] := hD
  refine lv_aload_n hx hb dX4_begin_5 rfl (lv_at hl 0 rfl) ?_
  refine lv_iconst (v := 1) hx hb dX4_begin_6 (by decide) ?_
  refine va_put (D := G) (ci := 4) (v := .int 1) (ty := .int) (C := RX4) (T := TX4) (N := 3) hx hb hts iwX4_begin_X4 tyX4 tyX4_ok nmX4 hown hK hP hD hS 0 rfl rfl 2 (by decide) k2 (fun _ h9 => h9) rfl (by decide +kernel) rfl rfl (Nat.le_of_ble_eq_true rfl) dX4_begin_7 (fun H locs hP hD hS => ?_)
  have hP : va_P G vwCl [(a_t, .inr (4, [vt_words, .int 0, .int 1]))] H := hP
  have hD : va_D A [(a_t, .inr (4, [vt_words, .int 0, .int 1]))] := hD
  obtain rfl := Option.some.inj hf
  exact mEnd_v () hx hb hr hlocks hP hK hD hS rfl (Nat.le_of_ble_eq_true rfl) (Nat.le_of_ble_eq_true rfl) dX4_begin_10
def fX4_addWord (p1 : Int32) (t_length : Int32) (t_words : Nat → Int32) : Option (Int32 × (Nat → Int32)) :=
  (if t_length < 0 then some (t_length, t_words) else (if (12 : Int32) ≤ t_length then some (t_length, t_words) else (if t_length < 0 ∨ 12 ≤ t_length.toNatClampNeg then none else (lt (upd t_words t_length.toNatClampNeg p1) fun (f4 : Nat → Int32) => some ((t_length + (1 : Int32)), f4)))))
theorem iwX4_addWord_X4 : ∀ w ∈ u_ws RX4 TX4 3, w ∈ wsX4_addWord := by decide +kernel
set_option maxHeartbeats 4000000 in
set_option maxRecDepth 100000 in
theorem mX4_addWord (l : Launch) (G : va_G) (cI : ClassId) (a_t a_t_words : Nat) (sz : Nat)  (t_length : Int32) (t_urgency : Int32) (t_words : Nat → Int32) (p1 : Int32) (res : Int32 × (Nat → Int32)) (hf : fX4_addWord p1 t_length t_words = some res) : Met l yX4_addWord wsX4_addWord ({ frames := 0, cells := 0, slots := 0, locals := 0 }) (mPc G [(cI, .int)] [.ref a_t, .int p1] sz [(a_t, .inr (4, [.ref a_t_words, .int t_length, .int t_urgency])), (a_t_words, .inl (cI, 12, .inl t_words))]) (mQv G [(cI, .int)] (va_A [(a_t, .inr (4, [.ref a_t_words, .int t_length, .int t_urgency])), (a_t_words, .inl (cI, 12, .inl t_words))] sz) (fun u9 : Unit => [(a_t, .inr (4, [.ref a_t_words, .int res.1, .int t_urgency])), (a_t_words, .inl (cI, 12, .inl res.2))])) 0 0 (va_A [(a_t, .inr (4, [.ref a_t_words, .int t_length, .int t_urgency])), (a_t_words, .inl (cI, 12, .inl t_words))] sz) := by
  refine mStart (cc := cX4_addWord) (maxL := 2) (ret := none) (by decide) rfl (Nat.le_of_ble_eq_true rfl) ?_
  intro p e s m below meth c A ls hx hb hml hr hts hown hlocks hnm hA hsz hAe hP hK hD hS hl
  have hl : lv_has ls 2 [(0, .ref a_t), (1, .int p1)] := hl
  rw [hAe]
  have k1 := hts (.fieldLink RX4 19 "DeafChain$Sentence" "length" "I") (by decide +kernel)
  have k2 := hts (.fieldLink RX4 9 "DeafChain$Sentence" "words" "[I") (by decide +kernel)
  unfold fX4_addWord at hf
  obtain ⟨H, hH⟩ : ∃ H : Heap, H = s.heap := ⟨_, rfl⟩
  obtain ⟨locs, hlc⟩ : ∃ z : List Loc, z = [] := ⟨_, rfl⟩
  rw [← hlc, ← hH]
  have hP : va_P G vwCl [(a_t, .inr (4, [.ref a_t_words, .int t_length, .int t_urgency])), (a_t_words, .inl (cI, 12, .inl t_words))] H := by rw [hH]; exact hP
  have hS : va_S A s.heap H locs := by rw [hlc, hH]; exact hS
  refine lv_aload_n hx hb dX4_addWord_0 rfl (lv_at hl 0 rfl) ?_
  refine va_get (D := G) (ci := 4) (v := .int t_length) (C := RX4) (T := TX4) (N := 3) hx hb hts iwX4_addWord_X4 hown hK hP 0 rfl rfl 1 (by decide) k1 (fun _ h9 => h9) rfl dX4_addWord_1 ?_
  refine lv_if_lt (tgt := 36) hx hb dX4_addWord_4 (by decide) (fun c1 => ?_) (fun c1 => ?_)
  · have hf := pf_t hf c1
    obtain rfl := Option.some.inj hf
    exact mEnd_v () hx hb hr hlocks hP hK hD hS rfl (Nat.le_of_ble_eq_true rfl) (Nat.le_of_ble_eq_true rfl) dX4_addWord_36
  · have hf := pf_f hf c1
    refine lv_aload_n hx hb dX4_addWord_7 rfl (lv_at hl 0 rfl) ?_
    refine va_get (D := G) (ci := 4) (v := .int t_length) (C := RX4) (T := TX4) (N := 3) hx hb hts iwX4_addWord_X4 hown hK hP 0 rfl rfl 1 (by decide) k1 (fun _ h9 => h9) rfl dX4_addWord_8 ?_
    refine lv_bipush (v := 12) hx hb dX4_addWord_11 (by decide) ?_
    refine lv_icmp_ge (tgt := 36) hx hb dX4_addWord_13 (by decide) (fun c2 => ?_) (fun c2 => ?_)
    · have hf := pf_t hf c2
      obtain rfl := Option.some.inj hf
      exact mEnd_v () hx hb hr hlocks hP hK hD hS rfl (Nat.le_of_ble_eq_true rfl) (Nat.le_of_ble_eq_true rfl) dX4_addWord_36
    · have hf := pf_f hf c2
      refine lv_aload_n hx hb dX4_addWord_16 rfl (lv_at hl 0 rfl) ?_
      refine va_get (D := G) (ci := 4) (v := .ref a_t_words) (C := RX4) (T := TX4) (N := 3) hx hb hts iwX4_addWord_X4 hown hK hP 0 rfl rfl 0 (by decide) k2 (fun _ h9 => h9) rfl dX4_addWord_17 ?_
      refine lv_aload_n hx hb dX4_addWord_20 rfl (lv_at hl 0 rfl) ?_
      refine va_get (D := G) (ci := 4) (v := .int t_length) (C := RX4) (T := TX4) (N := 3) hx hb hts iwX4_addWord_X4 hown hK hP 0 rfl rfl 1 (by decide) k1 (fun _ h9 => h9) rfl dX4_addWord_21 ?_
      refine lv_iload_n hx hb dX4_addWord_24 rfl (lv_at hl 1 rfl) ?_
      obtain ⟨q3, hf⟩ := pf_k hf
      refine va_iast hx hb hK hP hD hS 1 0 rfl rfl q3 dX4_addWord_25 (fun H locs hP hD hS => ?_)
      obtain ⟨f4, ef4⟩ : ∃ z : Nat → Int32, z = upd t_words t_length.toNatClampNeg p1 := ⟨_, rfl⟩
      have hf := pf_l hf f4 ef4
      have hP : va_P G vwCl [(a_t, .inr (4, [.ref a_t_words, .int t_length, .int t_urgency])), (a_t_words, .inl (cI, 12, .inl f4))] H := by rw [ef4]; exact hP
      have hD : va_D A [(a_t, .inr (4, [.ref a_t_words, .int t_length, .int t_urgency])), (a_t_words, .inl (cI, 12, .inl f4))] := by rw [ef4]; exact hD
      refine lv_aload_n hx hb dX4_addWord_26 rfl (lv_at hl 0 rfl) ?_
      refine lv_dup hx hb dX4_addWord_27 rfl ?_
      refine va_get (D := G) (ci := 4) (v := .int t_length) (C := RX4) (T := TX4) (N := 3) hx hb hts iwX4_addWord_X4 hown hK hP 0 rfl rfl 1 (by decide) k1 (fun _ h9 => h9) rfl dX4_addWord_28 ?_
      refine lv_iconst (v := 1) hx hb dX4_addWord_31 (by decide) ?_
      refine lv_iadd hx hb dX4_addWord_32 ?_
      refine va_put (D := G) (ci := 4) (v := .int (t_length + (1 : Int32))) (ty := .int) (C := RX4) (T := TX4) (N := 3) hx hb hts iwX4_addWord_X4 tyX4 tyX4_ok nmX4 hown hK hP hD hS 0 rfl rfl 1 (by decide) k1 (fun _ h9 => h9) rfl (by decide +kernel) rfl rfl (Nat.le_of_ble_eq_true rfl) dX4_addWord_33 (fun H locs hP hD hS => ?_)
      have hP : va_P G vwCl [(a_t, .inr (4, [.ref a_t_words, .int (t_length + (1 : Int32)), .int t_urgency])), (a_t_words, .inl (cI, 12, .inl f4))] H := hP
      have hD : va_D A [(a_t, .inr (4, [.ref a_t_words, .int (t_length + (1 : Int32)), .int t_urgency])), (a_t_words, .inl (cI, 12, .inl f4))] := hD
      obtain rfl := Option.some.inj hf
      exact mEnd_v () hx hb hr hlocks hP hK hD hS rfl (Nat.le_of_ble_eq_true rfl) (Nat.le_of_ble_eq_true rfl) dX4_addWord_36
def bX4_hasWord_1 (p1 : Int32) (t_length : Int32) (t_words : Nat → Int32) (k : Nat → Int32 → Option (Int32)) (x2 : Int32) : Option (Int32) :=
  (if t_length ≤ x2 then some ((0 : Int32)) else (if x2 < 0 ∨ 12 ≤ x2.toNatClampNeg then none else (if (t_words x2.toNatClampNeg) = p1 then some ((1 : Int32)) else k 1 (x2 + 1))))
def sX4_hasWord (p1 : Int32) (t_length : Int32) (t_words : Nat → Int32) (k : Nat → Int32 → Option (Int32)) (b : Nat) (x2 : Int32) : Option (Int32) := match b with
  | 1 => bX4_hasWord_1 p1 t_length t_words k x2
  | _ => none
def rX4_hasWord (p1 : Int32) (t_length : Int32) (t_words : Nat → Int32) : Nat → Nat → Int32 → Option (Int32)
  | 0 => fun _ _ => none
  | n + 1 => sX4_hasWord p1 t_length t_words (rX4_hasWord p1 t_length t_words n)
def eX4_hasWord (p1 : Int32) (t_length : Int32) (t_words : Nat → Int32) (k : Nat → Int32 → Option (Int32)) : Option (Int32) :=
  k 1 (0 : Int32)
def fX4_hasWord (p1 : Int32) (t_length : Int32) (t_words : Nat → Int32) : Option (Int32) := eX4_hasWord p1 t_length t_words (rX4_hasWord p1 t_length t_words fuelN)
theorem iwX4_hasWord_X4 : ∀ w ∈ u_ws RX4 TX4 3, w ∈ wsX4_hasWord := by decide +kernel
set_option maxHeartbeats 4000000 in
set_option maxRecDepth 100000 in
theorem mX4_hasWord (l : Launch) (G : va_G) (cI : ClassId) (a_t a_t_words : Nat) (sz : Nat)  (t_length : Int32) (t_urgency : Int32) (t_words : Nat → Int32) (p1 : Int32) (res : Int32) (hf : fX4_hasWord p1 t_length t_words = some res) : Met l yX4_hasWord wsX4_hasWord ({ frames := 0, cells := 0, slots := 0, locals := 0 }) (mPc G [(cI, .int)] [.ref a_t, .int p1] sz [(a_t, .inr (4, [.ref a_t_words, .int t_length, .int t_urgency])), (a_t_words, .inl (cI, 12, .inl t_words))]) (mQi G [(cI, .int)] (va_A [(a_t, .inr (4, [.ref a_t_words, .int t_length, .int t_urgency])), (a_t_words, .inl (cI, 12, .inl t_words))] sz) (fun _ : Unit => res) (fun _ => [(a_t, .inr (4, [.ref a_t_words, .int t_length, .int t_urgency])), (a_t_words, .inl (cI, 12, .inl t_words))])) 0 0 (va_A [(a_t, .inr (4, [.ref a_t_words, .int t_length, .int t_urgency])), (a_t_words, .inl (cI, 12, .inl t_words))] sz) := by
  refine mStart (cc := cX4_hasWord) (maxL := 3) (ret := (some .boolean)) (by decide) rfl (Nat.le_of_ble_eq_true rfl) ?_
  intro p e s m below meth c A ls hx hb hml hr hts hown hlocks hnm hA hsz hAe hP hK hD hS hl
  have hl : lv_has ls 3 [(0, .ref a_t), (1, .int p1)] := hl
  rw [hAe]
  have k1 := hts (.fieldLink RX4 19 "DeafChain$Sentence" "length" "I") (by decide +kernel)
  have k2 := hts (.fieldLink RX4 9 "DeafChain$Sentence" "words" "[I") (by decide +kernel)
  have key : ∀ n : Nat, (∀ (x2 : Int32) (H : Heap) (locs : List Loc) (hf : rX4_hasWord p1 t_length t_words n 1 x2 = some res) (hP : va_P G vwCl [(a_t, .inr (4, [.ref a_t_words, .int t_length, .int t_urgency])), (a_t_words, .inl (cI, 12, .inl t_words))] H) (hD : va_D A [(a_t, .inr (4, [.ref a_t_words, .int t_length, .int t_urgency])), (a_t_words, .inl (cI, 12, .inl t_words))]) (hS : va_S A s.heap H locs) (ls : Array Slot) (hl : lv_has ls 3 [(0, .ref a_t), (1, .int p1), (2, .int x2)]), W p l e ({ frames := 0, cells := 0, slots := 0, locals := 0 } : Room) s m ([.ref a_t, .int p1] : List Value).toArray below meth c H locs 0 0 (MQ below (mQi G [(cI, .int)] A (fun _ : Unit => res) (fun _ => [(a_t, .inr (4, [.ref a_t_words, .int t_length, .int t_urgency])), (a_t_words, .inl (cI, 12, .inl t_words))])) ([.ref a_t, .int p1] : List Value).toArray s 0 0 A) (F0 m 2 ls [])) := by
    intro n
    induction n with
    | zero => exact (fun _ H locs hf => (by cases hf))
    | succ n ih =>
      · intro  x2 H locs hf hP hD hS ls hl
        replace hf : bX4_hasWord_1 p1 t_length t_words (rX4_hasWord p1 t_length t_words n) x2 = some res := hf
        unfold bX4_hasWord_1 at hf
        refine lv_iload_n hx hb dX4_hasWord_2 rfl (lv_at hl 2 rfl) ?_
        refine lv_aload_n hx hb dX4_hasWord_3 rfl (lv_at hl 0 rfl) ?_
        refine va_get (D := G) (ci := 4) (v := .int t_length) (C := RX4) (T := TX4) (N := 3) hx hb hts iwX4_hasWord_X4 hown hK hP 0 rfl rfl 1 (by decide) k1 (fun _ h9 => h9) rfl dX4_hasWord_4 ?_
        refine lv_icmp_ge (tgt := 28) hx hb dX4_hasWord_7 (by decide) (fun c1 => ?_) (fun c1 => ?_)
        · have hf := pf_t hf c1
          refine lv_iconst (v := 0) hx hb dX4_hasWord_28 (by decide) ?_
          obtain rfl := Option.some.inj hf
          exact mEnd_z () hx hb hr rfl hlocks hP hK hD hS rfl rfl (Nat.le_refl _) (Nat.le_refl _) dX4_hasWord_29
        · have hf := pf_f hf c1
          refine lv_aload_n hx hb dX4_hasWord_10 rfl (lv_at hl 0 rfl) ?_
          refine va_get (D := G) (ci := 4) (v := .ref a_t_words) (C := RX4) (T := TX4) (N := 3) hx hb hts iwX4_hasWord_X4 hown hK hP 0 rfl rfl 0 (by decide) k2 (fun _ h9 => h9) rfl dX4_hasWord_11 ?_
          refine lv_iload_n hx hb dX4_hasWord_14 rfl (lv_at hl 2 rfl) ?_
          obtain ⟨q2, hf⟩ := pf_k hf
          refine va_iald hx hb hK hP 1 0 rfl rfl q2 dX4_hasWord_15 ?_
          refine lv_iload_n hx hb dX4_hasWord_16 rfl (lv_at hl 1 rfl) ?_
          refine lv_icmp_ne (tgt := 22) hx hb dX4_hasWord_17 (by decide) (fun c3 => ?_) (fun c3 => ?_)
          · have hf := pf_f hf c3
            refine lv_iinc (v := x2 + 1) (lv' := [(2, .int (x2 + 1)), (0, .ref a_t), (1, .int p1)]) hx hb dX4_hasWord_22 hl (k := 2) rfl rfl (by decide) rfl (fun ls hl => ?_)
            refine lv_goto (tgt := 2) hx hb dX4_hasWord_25 (by decide) ?_
            exact ih (x2 + 1) H locs hf hP hD hS ls (lv_sub hl [1, 2, 0] rfl)
          · have hf := pf_t hf c3
            refine lv_iconst (v := 1) hx hb dX4_hasWord_20 (by decide) ?_
            obtain rfl := Option.some.inj hf
            exact mEnd_z () hx hb hr rfl hlocks hP hK hD hS rfl rfl (Nat.le_refl _) (Nat.le_refl _) dX4_hasWord_21
  unfold fX4_hasWord eX4_hasWord at hf
  obtain ⟨H, hH⟩ : ∃ H : Heap, H = s.heap := ⟨_, rfl⟩
  obtain ⟨locs, hlc⟩ : ∃ z : List Loc, z = [] := ⟨_, rfl⟩
  rw [← hlc, ← hH]
  have hP : va_P G vwCl [(a_t, .inr (4, [.ref a_t_words, .int t_length, .int t_urgency])), (a_t_words, .inl (cI, 12, .inl t_words))] H := by rw [hH]; exact hP
  have hS : va_S A s.heap H locs := by rw [hlc, hH]; exact hS
  refine lv_iconst (v := 0) hx hb dX4_hasWord_0 (by decide) ?_
  refine lv_istore_n (lv' := [(2, .int 0), (0, .ref a_t), (1, .int p1)]) hx hb dX4_hasWord_1 rfl hl (by decide) rfl (fun ls hl => ?_)
  exact (key fuelN) (0 : Int32) H locs hf hP hD hS ls (lv_sub hl [1, 2, 0] rfl)
def fX5_copyFrom (t_went : Int32) (t_stopPart : Int32) (t_stopReason : Int32) (t_links_meanings : Nat → Int32) (t_links_ears : Nat → Int32) (t_links_fees : Nat → Int32) (t_links_missed : Nat → Int32) (t_links_paid : Nat → Int32) (t_links_losses : Nat → Int32) (t_waiting_size : Int32) (t_waiting_words : Nat → Int32) (t_waiting_lengths : Nat → Int32) (t_waiting_urgencies : Nat → Int32) (t_arrivals_size : Int32) (t_arrivals_words : Nat → Int32) (t_arrivals_facts : Nat → Int32) (t_lostTimes : Nat → Int32) (p1_went : Int32) (p1_stopPart : Int32) (p1_stopReason : Int32) (p1_links_meanings : Nat → Int32) (p1_links_ears : Nat → Int32) (p1_links_fees : Nat → Int32) (p1_links_missed : Nat → Int32) (p1_links_paid : Nat → Int32) (p1_links_losses : Nat → Int32) (p1_waiting_size : Int32) (p1_waiting_words : Nat → Int32) (p1_waiting_lengths : Nat → Int32) (p1_waiting_urgencies : Nat → Int32) (p1_arrivals_size : Int32) (p1_arrivals_words : Nat → Int32) (p1_arrivals_facts : Nat → Int32) (p1_lostTimes : Nat → Int32) : Option (Int32 × Int32 × Int32 × (Nat → Int32) × (Nat → Int32) × (Nat → Int32) × (Nat → Int32) × (Nat → Int32) × (Nat → Int32) × Int32 × (Nat → Int32) × (Nat → Int32) × (Nat → Int32) × Int32 × (Nat → Int32) × (Nat → Int32) × (Nat → Int32)) :=
  ((fX2_copyFrom t_links_meanings t_links_ears t_links_fees t_links_missed t_links_paid t_links_losses p1_links_meanings p1_links_ears p1_links_fees p1_links_missed p1_links_paid p1_links_losses).bind fun (u1 : (Nat → Int32) × (Nat → Int32) × (Nat → Int32) × (Nat → Int32) × (Nat → Int32) × (Nat → Int32)) => ((fX7_copyFrom t_waiting_size t_waiting_words t_waiting_lengths t_waiting_urgencies p1_waiting_size p1_waiting_words p1_waiting_lengths p1_waiting_urgencies).bind fun (u2 : Int32 × (Nat → Int32) × (Nat → Int32) × (Nat → Int32)) => ((fX0_copyFrom t_arrivals_size t_arrivals_words t_arrivals_facts p1_arrivals_size p1_arrivals_words p1_arrivals_facts).bind fun (u3 : Int32 × (Nat → Int32) × (Nat → Int32)) => (lt (va_cpy p1_lostTimes t_lostTimes (0 : Int32).toNatClampNeg (0 : Int32).toNatClampNeg (30 : Int32).toNatClampNeg) fun (f4 : Nat → Int32) => some (p1_went, p1_stopPart, p1_stopReason, u1.1, u1.2.1, u1.2.2.1, u1.2.2.2.1, u1.2.2.2.2.1, u1.2.2.2.2.2, u2.1, u2.2.1, u2.2.2.1, u2.2.2.2, u3.1, u3.2.1, u3.2.2, f4)))))
theorem iwX5_copyFrom_X5 : ∀ w ∈ u_ws RX5 TX5 7, w ∈ wsX5_copyFrom := by decide +kernel
set_option maxHeartbeats 4000000 in
set_option maxRecDepth 100000 in
theorem mX5_copyFrom (l : Launch) (G : va_G) (cI : ClassId) (a_t a_t_links a_t_links_meanings a_t_links_ears a_t_links_fees a_t_links_missed a_t_links_paid a_t_links_losses a_t_waiting a_t_waiting_words a_t_waiting_lengths a_t_waiting_urgencies a_t_arrivals a_t_arrivals_words a_t_arrivals_facts a_t_lostTimes a_p1 a_p1_links a_p1_links_meanings a_p1_links_ears a_p1_links_fees a_p1_links_missed a_p1_links_paid a_p1_links_losses a_p1_waiting a_p1_waiting_words a_p1_waiting_lengths a_p1_waiting_urgencies a_p1_arrivals a_p1_arrivals_words a_p1_arrivals_facts a_p1_lostTimes : Nat) (sz : Nat)  (t_went : Int32) (t_stopPart : Int32) (t_stopReason : Int32) (t_links_meanings : Nat → Int32) (t_links_ears : Nat → Int32) (t_links_fees : Nat → Int32) (t_links_missed : Nat → Int32) (t_links_paid : Nat → Int32) (t_links_losses : Nat → Int32) (t_waiting_size : Int32) (t_waiting_words : Nat → Int32) (t_waiting_lengths : Nat → Int32) (t_waiting_urgencies : Nat → Int32) (t_arrivals_size : Int32) (t_arrivals_words : Nat → Int32) (t_arrivals_facts : Nat → Int32) (t_lostTimes : Nat → Int32) (p1_went : Int32) (p1_stopPart : Int32) (p1_stopReason : Int32) (p1_links_meanings : Nat → Int32) (p1_links_ears : Nat → Int32) (p1_links_fees : Nat → Int32) (p1_links_missed : Nat → Int32) (p1_links_paid : Nat → Int32) (p1_links_losses : Nat → Int32) (p1_waiting_size : Int32) (p1_waiting_words : Nat → Int32) (p1_waiting_lengths : Nat → Int32) (p1_waiting_urgencies : Nat → Int32) (p1_arrivals_size : Int32) (p1_arrivals_words : Nat → Int32) (p1_arrivals_facts : Nat → Int32) (p1_lostTimes : Nat → Int32)  (res : Int32 × Int32 × Int32 × (Nat → Int32) × (Nat → Int32) × (Nat → Int32) × (Nat → Int32) × (Nat → Int32) × (Nat → Int32) × Int32 × (Nat → Int32) × (Nat → Int32) × (Nat → Int32) × Int32 × (Nat → Int32) × (Nat → Int32) × (Nat → Int32)) (hf : fX5_copyFrom t_went t_stopPart t_stopReason t_links_meanings t_links_ears t_links_fees t_links_missed t_links_paid t_links_losses t_waiting_size t_waiting_words t_waiting_lengths t_waiting_urgencies t_arrivals_size t_arrivals_words t_arrivals_facts t_lostTimes p1_went p1_stopPart p1_stopReason p1_links_meanings p1_links_ears p1_links_fees p1_links_missed p1_links_paid p1_links_losses p1_waiting_size p1_waiting_words p1_waiting_lengths p1_waiting_urgencies p1_arrivals_size p1_arrivals_words p1_arrivals_facts p1_lostTimes = some res) : Met l yX5_copyFrom wsX5_copyFrom ({ frames := 2, cells := 0, slots := 0, locals := 69 }) (mPc G [(cI, .int)] [.ref a_t, .ref a_p1] sz [(a_t, .inr (5, [.ref a_t_links, .ref a_t_waiting, .ref a_t_arrivals, .ref a_t_lostTimes, .int t_went, .int t_stopPart, .int t_stopReason])), (a_t_links, .inr (2, [.ref a_t_links_meanings, .ref a_t_links_ears, .ref a_t_links_fees, .ref a_t_links_missed, .ref a_t_links_paid, .ref a_t_links_losses])), (a_t_links_meanings, .inl (cI, 180, .inl t_links_meanings)), (a_t_links_ears, .inl (cI, 6, .inl t_links_ears)), (a_t_links_fees, .inl (cI, 6, .inl t_links_fees)), (a_t_links_missed, .inl (cI, 6, .inl t_links_missed)), (a_t_links_paid, .inl (cI, 6, .inl t_links_paid)), (a_t_links_losses, .inl (cI, 6, .inl t_links_losses)), (a_t_waiting, .inr (7, [.ref a_t_waiting_words, .ref a_t_waiting_lengths, .ref a_t_waiting_urgencies, .int t_waiting_size])), (a_t_waiting_words, .inl (cI, 96, .inl t_waiting_words)), (a_t_waiting_lengths, .inl (cI, 8, .inl t_waiting_lengths)), (a_t_waiting_urgencies, .inl (cI, 8, .inl t_waiting_urgencies)), (a_t_arrivals, .inr (0, [.ref a_t_arrivals_words, .ref a_t_arrivals_facts, .int t_arrivals_size])), (a_t_arrivals_words, .inl (cI, 72, .inl t_arrivals_words)), (a_t_arrivals_facts, .inl (cI, 36, .inl t_arrivals_facts)), (a_t_lostTimes, .inl (cI, 30, .inl t_lostTimes)), (a_p1, .inr (5, [.ref a_p1_links, .ref a_p1_waiting, .ref a_p1_arrivals, .ref a_p1_lostTimes, .int p1_went, .int p1_stopPart, .int p1_stopReason])), (a_p1_links, .inr (2, [.ref a_p1_links_meanings, .ref a_p1_links_ears, .ref a_p1_links_fees, .ref a_p1_links_missed, .ref a_p1_links_paid, .ref a_p1_links_losses])), (a_p1_links_meanings, .inl (cI, 180, .inl p1_links_meanings)), (a_p1_links_ears, .inl (cI, 6, .inl p1_links_ears)), (a_p1_links_fees, .inl (cI, 6, .inl p1_links_fees)), (a_p1_links_missed, .inl (cI, 6, .inl p1_links_missed)), (a_p1_links_paid, .inl (cI, 6, .inl p1_links_paid)), (a_p1_links_losses, .inl (cI, 6, .inl p1_links_losses)), (a_p1_waiting, .inr (7, [.ref a_p1_waiting_words, .ref a_p1_waiting_lengths, .ref a_p1_waiting_urgencies, .int p1_waiting_size])), (a_p1_waiting_words, .inl (cI, 96, .inl p1_waiting_words)), (a_p1_waiting_lengths, .inl (cI, 8, .inl p1_waiting_lengths)), (a_p1_waiting_urgencies, .inl (cI, 8, .inl p1_waiting_urgencies)), (a_p1_arrivals, .inr (0, [.ref a_p1_arrivals_words, .ref a_p1_arrivals_facts, .int p1_arrivals_size])), (a_p1_arrivals_words, .inl (cI, 72, .inl p1_arrivals_words)), (a_p1_arrivals_facts, .inl (cI, 36, .inl p1_arrivals_facts)), (a_p1_lostTimes, .inl (cI, 30, .inl p1_lostTimes))]) (mQv G [(cI, .int)] (va_A [(a_t, .inr (5, [.ref a_t_links, .ref a_t_waiting, .ref a_t_arrivals, .ref a_t_lostTimes, .int t_went, .int t_stopPart, .int t_stopReason])), (a_t_links, .inr (2, [.ref a_t_links_meanings, .ref a_t_links_ears, .ref a_t_links_fees, .ref a_t_links_missed, .ref a_t_links_paid, .ref a_t_links_losses])), (a_t_links_meanings, .inl (cI, 180, .inl t_links_meanings)), (a_t_links_ears, .inl (cI, 6, .inl t_links_ears)), (a_t_links_fees, .inl (cI, 6, .inl t_links_fees)), (a_t_links_missed, .inl (cI, 6, .inl t_links_missed)), (a_t_links_paid, .inl (cI, 6, .inl t_links_paid)), (a_t_links_losses, .inl (cI, 6, .inl t_links_losses)), (a_t_waiting, .inr (7, [.ref a_t_waiting_words, .ref a_t_waiting_lengths, .ref a_t_waiting_urgencies, .int t_waiting_size])), (a_t_waiting_words, .inl (cI, 96, .inl t_waiting_words)), (a_t_waiting_lengths, .inl (cI, 8, .inl t_waiting_lengths)), (a_t_waiting_urgencies, .inl (cI, 8, .inl t_waiting_urgencies)), (a_t_arrivals, .inr (0, [.ref a_t_arrivals_words, .ref a_t_arrivals_facts, .int t_arrivals_size])), (a_t_arrivals_words, .inl (cI, 72, .inl t_arrivals_words)), (a_t_arrivals_facts, .inl (cI, 36, .inl t_arrivals_facts)), (a_t_lostTimes, .inl (cI, 30, .inl t_lostTimes)), (a_p1, .inr (5, [.ref a_p1_links, .ref a_p1_waiting, .ref a_p1_arrivals, .ref a_p1_lostTimes, .int p1_went, .int p1_stopPart, .int p1_stopReason])), (a_p1_links, .inr (2, [.ref a_p1_links_meanings, .ref a_p1_links_ears, .ref a_p1_links_fees, .ref a_p1_links_missed, .ref a_p1_links_paid, .ref a_p1_links_losses])), (a_p1_links_meanings, .inl (cI, 180, .inl p1_links_meanings)), (a_p1_links_ears, .inl (cI, 6, .inl p1_links_ears)), (a_p1_links_fees, .inl (cI, 6, .inl p1_links_fees)), (a_p1_links_missed, .inl (cI, 6, .inl p1_links_missed)), (a_p1_links_paid, .inl (cI, 6, .inl p1_links_paid)), (a_p1_links_losses, .inl (cI, 6, .inl p1_links_losses)), (a_p1_waiting, .inr (7, [.ref a_p1_waiting_words, .ref a_p1_waiting_lengths, .ref a_p1_waiting_urgencies, .int p1_waiting_size])), (a_p1_waiting_words, .inl (cI, 96, .inl p1_waiting_words)), (a_p1_waiting_lengths, .inl (cI, 8, .inl p1_waiting_lengths)), (a_p1_waiting_urgencies, .inl (cI, 8, .inl p1_waiting_urgencies)), (a_p1_arrivals, .inr (0, [.ref a_p1_arrivals_words, .ref a_p1_arrivals_facts, .int p1_arrivals_size])), (a_p1_arrivals_words, .inl (cI, 72, .inl p1_arrivals_words)), (a_p1_arrivals_facts, .inl (cI, 36, .inl p1_arrivals_facts)), (a_p1_lostTimes, .inl (cI, 30, .inl p1_lostTimes))] sz) (fun u9 : Unit => [(a_t, .inr (5, [.ref a_t_links, .ref a_t_waiting, .ref a_t_arrivals, .ref a_t_lostTimes, .int res.1, .int res.2.1, .int res.2.2.1])), (a_t_links, .inr (2, [.ref a_t_links_meanings, .ref a_t_links_ears, .ref a_t_links_fees, .ref a_t_links_missed, .ref a_t_links_paid, .ref a_t_links_losses])), (a_t_links_meanings, .inl (cI, 180, .inl res.2.2.2.1)), (a_t_links_ears, .inl (cI, 6, .inl res.2.2.2.2.1)), (a_t_links_fees, .inl (cI, 6, .inl res.2.2.2.2.2.1)), (a_t_links_missed, .inl (cI, 6, .inl res.2.2.2.2.2.2.1)), (a_t_links_paid, .inl (cI, 6, .inl res.2.2.2.2.2.2.2.1)), (a_t_links_losses, .inl (cI, 6, .inl res.2.2.2.2.2.2.2.2.1)), (a_t_waiting, .inr (7, [.ref a_t_waiting_words, .ref a_t_waiting_lengths, .ref a_t_waiting_urgencies, .int res.2.2.2.2.2.2.2.2.2.1])), (a_t_waiting_words, .inl (cI, 96, .inl res.2.2.2.2.2.2.2.2.2.2.1)), (a_t_waiting_lengths, .inl (cI, 8, .inl res.2.2.2.2.2.2.2.2.2.2.2.1)), (a_t_waiting_urgencies, .inl (cI, 8, .inl res.2.2.2.2.2.2.2.2.2.2.2.2.1)), (a_t_arrivals, .inr (0, [.ref a_t_arrivals_words, .ref a_t_arrivals_facts, .int res.2.2.2.2.2.2.2.2.2.2.2.2.2.1])), (a_t_arrivals_words, .inl (cI, 72, .inl res.2.2.2.2.2.2.2.2.2.2.2.2.2.2.1)), (a_t_arrivals_facts, .inl (cI, 36, .inl res.2.2.2.2.2.2.2.2.2.2.2.2.2.2.2.1)), (a_t_lostTimes, .inl (cI, 30, .inl res.2.2.2.2.2.2.2.2.2.2.2.2.2.2.2.2)), (a_p1, .inr (5, [.ref a_p1_links, .ref a_p1_waiting, .ref a_p1_arrivals, .ref a_p1_lostTimes, .int p1_went, .int p1_stopPart, .int p1_stopReason])), (a_p1_links, .inr (2, [.ref a_p1_links_meanings, .ref a_p1_links_ears, .ref a_p1_links_fees, .ref a_p1_links_missed, .ref a_p1_links_paid, .ref a_p1_links_losses])), (a_p1_links_meanings, .inl (cI, 180, .inl p1_links_meanings)), (a_p1_links_ears, .inl (cI, 6, .inl p1_links_ears)), (a_p1_links_fees, .inl (cI, 6, .inl p1_links_fees)), (a_p1_links_missed, .inl (cI, 6, .inl p1_links_missed)), (a_p1_links_paid, .inl (cI, 6, .inl p1_links_paid)), (a_p1_links_losses, .inl (cI, 6, .inl p1_links_losses)), (a_p1_waiting, .inr (7, [.ref a_p1_waiting_words, .ref a_p1_waiting_lengths, .ref a_p1_waiting_urgencies, .int p1_waiting_size])), (a_p1_waiting_words, .inl (cI, 96, .inl p1_waiting_words)), (a_p1_waiting_lengths, .inl (cI, 8, .inl p1_waiting_lengths)), (a_p1_waiting_urgencies, .inl (cI, 8, .inl p1_waiting_urgencies)), (a_p1_arrivals, .inr (0, [.ref a_p1_arrivals_words, .ref a_p1_arrivals_facts, .int p1_arrivals_size])), (a_p1_arrivals_words, .inl (cI, 72, .inl p1_arrivals_words)), (a_p1_arrivals_facts, .inl (cI, 36, .inl p1_arrivals_facts)), (a_p1_lostTimes, .inl (cI, 30, .inl p1_lostTimes))])) 0 0 (va_A [(a_t, .inr (5, [.ref a_t_links, .ref a_t_waiting, .ref a_t_arrivals, .ref a_t_lostTimes, .int t_went, .int t_stopPart, .int t_stopReason])), (a_t_links, .inr (2, [.ref a_t_links_meanings, .ref a_t_links_ears, .ref a_t_links_fees, .ref a_t_links_missed, .ref a_t_links_paid, .ref a_t_links_losses])), (a_t_links_meanings, .inl (cI, 180, .inl t_links_meanings)), (a_t_links_ears, .inl (cI, 6, .inl t_links_ears)), (a_t_links_fees, .inl (cI, 6, .inl t_links_fees)), (a_t_links_missed, .inl (cI, 6, .inl t_links_missed)), (a_t_links_paid, .inl (cI, 6, .inl t_links_paid)), (a_t_links_losses, .inl (cI, 6, .inl t_links_losses)), (a_t_waiting, .inr (7, [.ref a_t_waiting_words, .ref a_t_waiting_lengths, .ref a_t_waiting_urgencies, .int t_waiting_size])), (a_t_waiting_words, .inl (cI, 96, .inl t_waiting_words)), (a_t_waiting_lengths, .inl (cI, 8, .inl t_waiting_lengths)), (a_t_waiting_urgencies, .inl (cI, 8, .inl t_waiting_urgencies)), (a_t_arrivals, .inr (0, [.ref a_t_arrivals_words, .ref a_t_arrivals_facts, .int t_arrivals_size])), (a_t_arrivals_words, .inl (cI, 72, .inl t_arrivals_words)), (a_t_arrivals_facts, .inl (cI, 36, .inl t_arrivals_facts)), (a_t_lostTimes, .inl (cI, 30, .inl t_lostTimes)), (a_p1, .inr (5, [.ref a_p1_links, .ref a_p1_waiting, .ref a_p1_arrivals, .ref a_p1_lostTimes, .int p1_went, .int p1_stopPart, .int p1_stopReason])), (a_p1_links, .inr (2, [.ref a_p1_links_meanings, .ref a_p1_links_ears, .ref a_p1_links_fees, .ref a_p1_links_missed, .ref a_p1_links_paid, .ref a_p1_links_losses])), (a_p1_links_meanings, .inl (cI, 180, .inl p1_links_meanings)), (a_p1_links_ears, .inl (cI, 6, .inl p1_links_ears)), (a_p1_links_fees, .inl (cI, 6, .inl p1_links_fees)), (a_p1_links_missed, .inl (cI, 6, .inl p1_links_missed)), (a_p1_links_paid, .inl (cI, 6, .inl p1_links_paid)), (a_p1_links_losses, .inl (cI, 6, .inl p1_links_losses)), (a_p1_waiting, .inr (7, [.ref a_p1_waiting_words, .ref a_p1_waiting_lengths, .ref a_p1_waiting_urgencies, .int p1_waiting_size])), (a_p1_waiting_words, .inl (cI, 96, .inl p1_waiting_words)), (a_p1_waiting_lengths, .inl (cI, 8, .inl p1_waiting_lengths)), (a_p1_waiting_urgencies, .inl (cI, 8, .inl p1_waiting_urgencies)), (a_p1_arrivals, .inr (0, [.ref a_p1_arrivals_words, .ref a_p1_arrivals_facts, .int p1_arrivals_size])), (a_p1_arrivals_words, .inl (cI, 72, .inl p1_arrivals_words)), (a_p1_arrivals_facts, .inl (cI, 36, .inl p1_arrivals_facts)), (a_p1_lostTimes, .inl (cI, 30, .inl p1_lostTimes))] sz) := by
  refine mStart (cc := cX5_copyFrom) (maxL := 2) (ret := none) (by decide) rfl (Nat.le_of_ble_eq_true rfl) ?_
  intro p e s m below meth c A ls hx hb hml hr hts hown hlocks hnm hA hsz hAe hP hK hD hS hl
  have hl : lv_has ls 2 [(0, .ref a_t), (1, .ref a_p1)] := hl
  rw [hAe]
  have k1 := hts (.fieldLink RX5 12 "DeafChain$State" "links" "LDeafChain$Links;") (by decide +kernel)
  have k2 := hts (.fieldLink RX5 21 "DeafChain$State" "waiting" "LDeafChain$Waiting;") (by decide +kernel)
  have k3 := hts (.fieldLink RX5 28 "DeafChain$State" "arrivals" "LDeafChain$Arrivals;") (by decide +kernel)
  have k4 := hts (.fieldLink RX5 32 "DeafChain$State" "lostTimes" "[I") (by decide +kernel)
  have k5 := hts (.methodLink RX5 53 arraycopyName) (by decide +kernel)
  have k6 := hts (.native arraycopyName) (by decide +kernel)
  have k7 := hts (.static arraycopyName) (by decide +kernel)
  have k8 := hts (.initialized "java/lang/System") (by decide +kernel)
  have k9 := hts (.fieldLink RX5 59 "DeafChain$State" "went" "I") (by decide +kernel)
  have k10 := hts (.fieldLink RX5 36 "DeafChain$State" "stopPart" "I") (by decide +kernel)
  have k11 := hts (.fieldLink RX5 40 "DeafChain$State" "stopReason" "I") (by decide +kernel)
  unfold fX5_copyFrom at hf
  obtain ⟨H, hH⟩ : ∃ H : Heap, H = s.heap := ⟨_, rfl⟩
  obtain ⟨locs, hlc⟩ : ∃ z : List Loc, z = [] := ⟨_, rfl⟩
  rw [← hlc, ← hH]
  have hP : va_P G vwCl [(a_t, .inr (5, [.ref a_t_links, .ref a_t_waiting, .ref a_t_arrivals, .ref a_t_lostTimes, .int t_went, .int t_stopPart, .int t_stopReason])), (a_t_links, .inr (2, [.ref a_t_links_meanings, .ref a_t_links_ears, .ref a_t_links_fees, .ref a_t_links_missed, .ref a_t_links_paid, .ref a_t_links_losses])), (a_t_links_meanings, .inl (cI, 180, .inl t_links_meanings)), (a_t_links_ears, .inl (cI, 6, .inl t_links_ears)), (a_t_links_fees, .inl (cI, 6, .inl t_links_fees)), (a_t_links_missed, .inl (cI, 6, .inl t_links_missed)), (a_t_links_paid, .inl (cI, 6, .inl t_links_paid)), (a_t_links_losses, .inl (cI, 6, .inl t_links_losses)), (a_t_waiting, .inr (7, [.ref a_t_waiting_words, .ref a_t_waiting_lengths, .ref a_t_waiting_urgencies, .int t_waiting_size])), (a_t_waiting_words, .inl (cI, 96, .inl t_waiting_words)), (a_t_waiting_lengths, .inl (cI, 8, .inl t_waiting_lengths)), (a_t_waiting_urgencies, .inl (cI, 8, .inl t_waiting_urgencies)), (a_t_arrivals, .inr (0, [.ref a_t_arrivals_words, .ref a_t_arrivals_facts, .int t_arrivals_size])), (a_t_arrivals_words, .inl (cI, 72, .inl t_arrivals_words)), (a_t_arrivals_facts, .inl (cI, 36, .inl t_arrivals_facts)), (a_t_lostTimes, .inl (cI, 30, .inl t_lostTimes)), (a_p1, .inr (5, [.ref a_p1_links, .ref a_p1_waiting, .ref a_p1_arrivals, .ref a_p1_lostTimes, .int p1_went, .int p1_stopPart, .int p1_stopReason])), (a_p1_links, .inr (2, [.ref a_p1_links_meanings, .ref a_p1_links_ears, .ref a_p1_links_fees, .ref a_p1_links_missed, .ref a_p1_links_paid, .ref a_p1_links_losses])), (a_p1_links_meanings, .inl (cI, 180, .inl p1_links_meanings)), (a_p1_links_ears, .inl (cI, 6, .inl p1_links_ears)), (a_p1_links_fees, .inl (cI, 6, .inl p1_links_fees)), (a_p1_links_missed, .inl (cI, 6, .inl p1_links_missed)), (a_p1_links_paid, .inl (cI, 6, .inl p1_links_paid)), (a_p1_links_losses, .inl (cI, 6, .inl p1_links_losses)), (a_p1_waiting, .inr (7, [.ref a_p1_waiting_words, .ref a_p1_waiting_lengths, .ref a_p1_waiting_urgencies, .int p1_waiting_size])), (a_p1_waiting_words, .inl (cI, 96, .inl p1_waiting_words)), (a_p1_waiting_lengths, .inl (cI, 8, .inl p1_waiting_lengths)), (a_p1_waiting_urgencies, .inl (cI, 8, .inl p1_waiting_urgencies)), (a_p1_arrivals, .inr (0, [.ref a_p1_arrivals_words, .ref a_p1_arrivals_facts, .int p1_arrivals_size])), (a_p1_arrivals_words, .inl (cI, 72, .inl p1_arrivals_words)), (a_p1_arrivals_facts, .inl (cI, 36, .inl p1_arrivals_facts)), (a_p1_lostTimes, .inl (cI, 30, .inl p1_lostTimes))] H := by rw [hH]; exact hP
  have hS : va_S A s.heap H locs := by rw [hlc, hH]; exact hS
  refine lv_aload_n hx hb dX5_copyFrom_0 rfl (lv_at hl 0 rfl) ?_
  refine va_get (D := G) (ci := 5) (v := .ref a_t_links) (C := RX5) (T := TX5) (N := 7) hx hb hts iwX5_copyFrom_X5 hown hK hP 0 rfl rfl 0 (by decide) k1 (fun _ h9 => h9) rfl dX5_copyFrom_1 ?_
  refine lv_aload_n hx hb dX5_copyFrom_4 rfl (lv_at hl 1 rfl) ?_
  refine va_get (D := G) (ci := 5) (v := .ref a_p1_links) (C := RX5) (T := TX5) (N := 7) hx hb hts iwX5_copyFrom_X5 hown hK hP 16 rfl rfl 0 (by decide) k1 (fun _ h9 => h9) rfl dX5_copyFrom_5 ?_
  obtain ⟨u1, hu1, hf⟩ := pf_b hf
  refine mCallV_v (As := [.ref a_p1_links]) ⟨hx, hb, hml, hown, hts⟩ (mX2_copyFrom l G cI a_t_links a_t_links_meanings a_t_links_ears a_t_links_fees a_t_links_missed a_t_links_paid a_t_links_losses a_p1_links a_p1_links_meanings a_p1_links_ears a_p1_links_fees a_p1_links_missed a_p1_links_paid a_p1_links_losses H.size t_links_meanings t_links_ears t_links_fees t_links_missed t_links_paid t_links_losses p1_links_meanings p1_links_ears p1_links_fees p1_links_missed p1_links_paid p1_links_losses _ hu1) (cwV 1 hts gX5_copyFrom_X2_copyFrom rfl rfl rfl (by decide +kernel) ⟨Nat.le_of_ble_eq_true rfl, Nat.le_of_ble_eq_true rfl⟩) hP hD hS hA hK [1, 2, 3, 4, 5, 6, 7, 17, 18, 19, 20, 21, 22, 23] rfl (by decide) 1 2 rfl rfl rfl hK [a_t_links, a_t_links_meanings, a_t_links_ears, a_t_links_fees, a_t_links_missed, a_t_links_paid, a_t_links_losses, a_p1_links, a_p1_links_meanings, a_p1_links_ears, a_p1_links_fees, a_p1_links_missed, a_p1_links_paid, a_p1_links_losses] (fun _ => rfl) rfl (fun _ => [(a_t, .inr (5, [.ref a_t_links, .ref a_t_waiting, .ref a_t_arrivals, .ref a_t_lostTimes, .int t_went, .int t_stopPart, .int t_stopReason])), (a_t_links, .inr (2, [.ref a_t_links_meanings, .ref a_t_links_ears, .ref a_t_links_fees, .ref a_t_links_missed, .ref a_t_links_paid, .ref a_t_links_losses])), (a_t_links_meanings, .inl (cI, 180, .inl u1.1)), (a_t_links_ears, .inl (cI, 6, .inl u1.2.1)), (a_t_links_fees, .inl (cI, 6, .inl u1.2.2.1)), (a_t_links_missed, .inl (cI, 6, .inl u1.2.2.2.1)), (a_t_links_paid, .inl (cI, 6, .inl u1.2.2.2.2.1)), (a_t_links_losses, .inl (cI, 6, .inl u1.2.2.2.2.2)), (a_t_waiting, .inr (7, [.ref a_t_waiting_words, .ref a_t_waiting_lengths, .ref a_t_waiting_urgencies, .int t_waiting_size])), (a_t_waiting_words, .inl (cI, 96, .inl t_waiting_words)), (a_t_waiting_lengths, .inl (cI, 8, .inl t_waiting_lengths)), (a_t_waiting_urgencies, .inl (cI, 8, .inl t_waiting_urgencies)), (a_t_arrivals, .inr (0, [.ref a_t_arrivals_words, .ref a_t_arrivals_facts, .int t_arrivals_size])), (a_t_arrivals_words, .inl (cI, 72, .inl t_arrivals_words)), (a_t_arrivals_facts, .inl (cI, 36, .inl t_arrivals_facts)), (a_t_lostTimes, .inl (cI, 30, .inl t_lostTimes)), (a_p1, .inr (5, [.ref a_p1_links, .ref a_p1_waiting, .ref a_p1_arrivals, .ref a_p1_lostTimes, .int p1_went, .int p1_stopPart, .int p1_stopReason])), (a_p1_links, .inr (2, [.ref a_p1_links_meanings, .ref a_p1_links_ears, .ref a_p1_links_fees, .ref a_p1_links_missed, .ref a_p1_links_paid, .ref a_p1_links_losses])), (a_p1_links_meanings, .inl (cI, 180, .inl p1_links_meanings)), (a_p1_links_ears, .inl (cI, 6, .inl p1_links_ears)), (a_p1_links_fees, .inl (cI, 6, .inl p1_links_fees)), (a_p1_links_missed, .inl (cI, 6, .inl p1_links_missed)), (a_p1_links_paid, .inl (cI, 6, .inl p1_links_paid)), (a_p1_links_losses, .inl (cI, 6, .inl p1_links_losses)), (a_p1_waiting, .inr (7, [.ref a_p1_waiting_words, .ref a_p1_waiting_lengths, .ref a_p1_waiting_urgencies, .int p1_waiting_size])), (a_p1_waiting_words, .inl (cI, 96, .inl p1_waiting_words)), (a_p1_waiting_lengths, .inl (cI, 8, .inl p1_waiting_lengths)), (a_p1_waiting_urgencies, .inl (cI, 8, .inl p1_waiting_urgencies)), (a_p1_arrivals, .inr (0, [.ref a_p1_arrivals_words, .ref a_p1_arrivals_facts, .int p1_arrivals_size])), (a_p1_arrivals_words, .inl (cI, 72, .inl p1_arrivals_words)), (a_p1_arrivals_facts, .inl (cI, 36, .inl p1_arrivals_facts)), (a_p1_lostTimes, .inl (cI, 30, .inl p1_lostTimes))]) [a_t, a_t_links, a_t_links_meanings, a_t_links_ears, a_t_links_fees, a_t_links_missed, a_t_links_paid, a_t_links_losses, a_t_waiting, a_t_waiting_words, a_t_waiting_lengths, a_t_waiting_urgencies, a_t_arrivals, a_t_arrivals_words, a_t_arrivals_facts, a_t_lostTimes, a_p1, a_p1_links, a_p1_links_meanings, a_p1_links_ears, a_p1_links_fees, a_p1_links_missed, a_p1_links_paid, a_p1_links_losses, a_p1_waiting, a_p1_waiting_words, a_p1_waiting_lengths, a_p1_waiting_urgencies, a_p1_arrivals, a_p1_arrivals_words, a_p1_arrivals_facts, a_p1_lostTimes] (fun _ => rfl) rfl (fun _ => rfl) [0, 8, 9, 10, 11, 12, 13, 14, 15, 16, 24, 25, 26, 27, 28, 29, 30, 31] [(a_t, .inr (5, [.ref a_t_links, .ref a_t_waiting, .ref a_t_arrivals, .ref a_t_lostTimes, .int t_went, .int t_stopPart, .int t_stopReason])), (a_t_waiting, .inr (7, [.ref a_t_waiting_words, .ref a_t_waiting_lengths, .ref a_t_waiting_urgencies, .int t_waiting_size])), (a_t_waiting_words, .inl (cI, 96, .inl t_waiting_words)), (a_t_waiting_lengths, .inl (cI, 8, .inl t_waiting_lengths)), (a_t_waiting_urgencies, .inl (cI, 8, .inl t_waiting_urgencies)), (a_t_arrivals, .inr (0, [.ref a_t_arrivals_words, .ref a_t_arrivals_facts, .int t_arrivals_size])), (a_t_arrivals_words, .inl (cI, 72, .inl t_arrivals_words)), (a_t_arrivals_facts, .inl (cI, 36, .inl t_arrivals_facts)), (a_t_lostTimes, .inl (cI, 30, .inl t_lostTimes)), (a_p1, .inr (5, [.ref a_p1_links, .ref a_p1_waiting, .ref a_p1_arrivals, .ref a_p1_lostTimes, .int p1_went, .int p1_stopPart, .int p1_stopReason])), (a_p1_waiting, .inr (7, [.ref a_p1_waiting_words, .ref a_p1_waiting_lengths, .ref a_p1_waiting_urgencies, .int p1_waiting_size])), (a_p1_waiting_words, .inl (cI, 96, .inl p1_waiting_words)), (a_p1_waiting_lengths, .inl (cI, 8, .inl p1_waiting_lengths)), (a_p1_waiting_urgencies, .inl (cI, 8, .inl p1_waiting_urgencies)), (a_p1_arrivals, .inr (0, [.ref a_p1_arrivals_words, .ref a_p1_arrivals_facts, .int p1_arrivals_size])), (a_p1_arrivals_words, .inl (cI, 72, .inl p1_arrivals_words)), (a_p1_arrivals_facts, .inl (cI, 36, .inl p1_arrivals_facts)), (a_p1_lostTimes, .inl (cI, 30, .inl p1_lostTimes))] (fun _ => rfl) rfl 32 rfl rfl rfl hl.1 rfl (lv_room (Nat.le_of_ble_eq_true rfl)) dX5_copyFrom_8 ⟨Nat.zero_le _, Nat.zero_le _⟩ (fun _ H locs hP hD hS => ?_)
  have hP : va_P G vwCl [(a_t, .inr (5, [.ref a_t_links, .ref a_t_waiting, .ref a_t_arrivals, .ref a_t_lostTimes, .int t_went, .int t_stopPart, .int t_stopReason])), (a_t_links, .inr (2, [.ref a_t_links_meanings, .ref a_t_links_ears, .ref a_t_links_fees, .ref a_t_links_missed, .ref a_t_links_paid, .ref a_t_links_losses])), (a_t_links_meanings, .inl (cI, 180, .inl u1.1)), (a_t_links_ears, .inl (cI, 6, .inl u1.2.1)), (a_t_links_fees, .inl (cI, 6, .inl u1.2.2.1)), (a_t_links_missed, .inl (cI, 6, .inl u1.2.2.2.1)), (a_t_links_paid, .inl (cI, 6, .inl u1.2.2.2.2.1)), (a_t_links_losses, .inl (cI, 6, .inl u1.2.2.2.2.2)), (a_t_waiting, .inr (7, [.ref a_t_waiting_words, .ref a_t_waiting_lengths, .ref a_t_waiting_urgencies, .int t_waiting_size])), (a_t_waiting_words, .inl (cI, 96, .inl t_waiting_words)), (a_t_waiting_lengths, .inl (cI, 8, .inl t_waiting_lengths)), (a_t_waiting_urgencies, .inl (cI, 8, .inl t_waiting_urgencies)), (a_t_arrivals, .inr (0, [.ref a_t_arrivals_words, .ref a_t_arrivals_facts, .int t_arrivals_size])), (a_t_arrivals_words, .inl (cI, 72, .inl t_arrivals_words)), (a_t_arrivals_facts, .inl (cI, 36, .inl t_arrivals_facts)), (a_t_lostTimes, .inl (cI, 30, .inl t_lostTimes)), (a_p1, .inr (5, [.ref a_p1_links, .ref a_p1_waiting, .ref a_p1_arrivals, .ref a_p1_lostTimes, .int p1_went, .int p1_stopPart, .int p1_stopReason])), (a_p1_links, .inr (2, [.ref a_p1_links_meanings, .ref a_p1_links_ears, .ref a_p1_links_fees, .ref a_p1_links_missed, .ref a_p1_links_paid, .ref a_p1_links_losses])), (a_p1_links_meanings, .inl (cI, 180, .inl p1_links_meanings)), (a_p1_links_ears, .inl (cI, 6, .inl p1_links_ears)), (a_p1_links_fees, .inl (cI, 6, .inl p1_links_fees)), (a_p1_links_missed, .inl (cI, 6, .inl p1_links_missed)), (a_p1_links_paid, .inl (cI, 6, .inl p1_links_paid)), (a_p1_links_losses, .inl (cI, 6, .inl p1_links_losses)), (a_p1_waiting, .inr (7, [.ref a_p1_waiting_words, .ref a_p1_waiting_lengths, .ref a_p1_waiting_urgencies, .int p1_waiting_size])), (a_p1_waiting_words, .inl (cI, 96, .inl p1_waiting_words)), (a_p1_waiting_lengths, .inl (cI, 8, .inl p1_waiting_lengths)), (a_p1_waiting_urgencies, .inl (cI, 8, .inl p1_waiting_urgencies)), (a_p1_arrivals, .inr (0, [.ref a_p1_arrivals_words, .ref a_p1_arrivals_facts, .int p1_arrivals_size])), (a_p1_arrivals_words, .inl (cI, 72, .inl p1_arrivals_words)), (a_p1_arrivals_facts, .inl (cI, 36, .inl p1_arrivals_facts)), (a_p1_lostTimes, .inl (cI, 30, .inl p1_lostTimes))] H := hP
  have hD : va_D A [(a_t, .inr (5, [.ref a_t_links, .ref a_t_waiting, .ref a_t_arrivals, .ref a_t_lostTimes, .int t_went, .int t_stopPart, .int t_stopReason])), (a_t_links, .inr (2, [.ref a_t_links_meanings, .ref a_t_links_ears, .ref a_t_links_fees, .ref a_t_links_missed, .ref a_t_links_paid, .ref a_t_links_losses])), (a_t_links_meanings, .inl (cI, 180, .inl u1.1)), (a_t_links_ears, .inl (cI, 6, .inl u1.2.1)), (a_t_links_fees, .inl (cI, 6, .inl u1.2.2.1)), (a_t_links_missed, .inl (cI, 6, .inl u1.2.2.2.1)), (a_t_links_paid, .inl (cI, 6, .inl u1.2.2.2.2.1)), (a_t_links_losses, .inl (cI, 6, .inl u1.2.2.2.2.2)), (a_t_waiting, .inr (7, [.ref a_t_waiting_words, .ref a_t_waiting_lengths, .ref a_t_waiting_urgencies, .int t_waiting_size])), (a_t_waiting_words, .inl (cI, 96, .inl t_waiting_words)), (a_t_waiting_lengths, .inl (cI, 8, .inl t_waiting_lengths)), (a_t_waiting_urgencies, .inl (cI, 8, .inl t_waiting_urgencies)), (a_t_arrivals, .inr (0, [.ref a_t_arrivals_words, .ref a_t_arrivals_facts, .int t_arrivals_size])), (a_t_arrivals_words, .inl (cI, 72, .inl t_arrivals_words)), (a_t_arrivals_facts, .inl (cI, 36, .inl t_arrivals_facts)), (a_t_lostTimes, .inl (cI, 30, .inl t_lostTimes)), (a_p1, .inr (5, [.ref a_p1_links, .ref a_p1_waiting, .ref a_p1_arrivals, .ref a_p1_lostTimes, .int p1_went, .int p1_stopPart, .int p1_stopReason])), (a_p1_links, .inr (2, [.ref a_p1_links_meanings, .ref a_p1_links_ears, .ref a_p1_links_fees, .ref a_p1_links_missed, .ref a_p1_links_paid, .ref a_p1_links_losses])), (a_p1_links_meanings, .inl (cI, 180, .inl p1_links_meanings)), (a_p1_links_ears, .inl (cI, 6, .inl p1_links_ears)), (a_p1_links_fees, .inl (cI, 6, .inl p1_links_fees)), (a_p1_links_missed, .inl (cI, 6, .inl p1_links_missed)), (a_p1_links_paid, .inl (cI, 6, .inl p1_links_paid)), (a_p1_links_losses, .inl (cI, 6, .inl p1_links_losses)), (a_p1_waiting, .inr (7, [.ref a_p1_waiting_words, .ref a_p1_waiting_lengths, .ref a_p1_waiting_urgencies, .int p1_waiting_size])), (a_p1_waiting_words, .inl (cI, 96, .inl p1_waiting_words)), (a_p1_waiting_lengths, .inl (cI, 8, .inl p1_waiting_lengths)), (a_p1_waiting_urgencies, .inl (cI, 8, .inl p1_waiting_urgencies)), (a_p1_arrivals, .inr (0, [.ref a_p1_arrivals_words, .ref a_p1_arrivals_facts, .int p1_arrivals_size])), (a_p1_arrivals_words, .inl (cI, 72, .inl p1_arrivals_words)), (a_p1_arrivals_facts, .inl (cI, 36, .inl p1_arrivals_facts)), (a_p1_lostTimes, .inl (cI, 30, .inl p1_lostTimes))] := hD
  refine lv_aload_n hx hb dX5_copyFrom_11 rfl (lv_at hl 0 rfl) ?_
  refine va_get (D := G) (ci := 5) (v := .ref a_t_waiting) (C := RX5) (T := TX5) (N := 7) hx hb hts iwX5_copyFrom_X5 hown hK hP 0 rfl rfl 1 (by decide) k2 (fun _ h9 => h9) rfl dX5_copyFrom_12 ?_
  refine lv_aload_n hx hb dX5_copyFrom_15 rfl (lv_at hl 1 rfl) ?_
  refine va_get (D := G) (ci := 5) (v := .ref a_p1_waiting) (C := RX5) (T := TX5) (N := 7) hx hb hts iwX5_copyFrom_X5 hown hK hP 16 rfl rfl 1 (by decide) k2 (fun _ h9 => h9) rfl dX5_copyFrom_16 ?_
  obtain ⟨u2, hu2, hf⟩ := pf_b hf
  refine mCallV_v (As := [.ref a_p1_waiting]) ⟨hx, hb, hml, hown, hts⟩ (mX7_copyFrom l G cI a_t_waiting a_t_waiting_words a_t_waiting_lengths a_t_waiting_urgencies a_p1_waiting a_p1_waiting_words a_p1_waiting_lengths a_p1_waiting_urgencies H.size t_waiting_size t_waiting_words t_waiting_lengths t_waiting_urgencies p1_waiting_size p1_waiting_words p1_waiting_lengths p1_waiting_urgencies _ hu2) (cwV 1 hts gX5_copyFrom_X7_copyFrom rfl rfl rfl (by decide +kernel) ⟨Nat.le_of_ble_eq_true rfl, Nat.le_of_ble_eq_true rfl⟩) hP hD hS hA hK [8, 9, 10, 11, 24, 25, 26, 27] rfl (by decide) 8 7 rfl rfl rfl hK [a_t_waiting, a_t_waiting_words, a_t_waiting_lengths, a_t_waiting_urgencies, a_p1_waiting, a_p1_waiting_words, a_p1_waiting_lengths, a_p1_waiting_urgencies] (fun _ => rfl) rfl (fun _ => [(a_t, .inr (5, [.ref a_t_links, .ref a_t_waiting, .ref a_t_arrivals, .ref a_t_lostTimes, .int t_went, .int t_stopPart, .int t_stopReason])), (a_t_links, .inr (2, [.ref a_t_links_meanings, .ref a_t_links_ears, .ref a_t_links_fees, .ref a_t_links_missed, .ref a_t_links_paid, .ref a_t_links_losses])), (a_t_links_meanings, .inl (cI, 180, .inl u1.1)), (a_t_links_ears, .inl (cI, 6, .inl u1.2.1)), (a_t_links_fees, .inl (cI, 6, .inl u1.2.2.1)), (a_t_links_missed, .inl (cI, 6, .inl u1.2.2.2.1)), (a_t_links_paid, .inl (cI, 6, .inl u1.2.2.2.2.1)), (a_t_links_losses, .inl (cI, 6, .inl u1.2.2.2.2.2)), (a_t_waiting, .inr (7, [.ref a_t_waiting_words, .ref a_t_waiting_lengths, .ref a_t_waiting_urgencies, .int u2.1])), (a_t_waiting_words, .inl (cI, 96, .inl u2.2.1)), (a_t_waiting_lengths, .inl (cI, 8, .inl u2.2.2.1)), (a_t_waiting_urgencies, .inl (cI, 8, .inl u2.2.2.2)), (a_t_arrivals, .inr (0, [.ref a_t_arrivals_words, .ref a_t_arrivals_facts, .int t_arrivals_size])), (a_t_arrivals_words, .inl (cI, 72, .inl t_arrivals_words)), (a_t_arrivals_facts, .inl (cI, 36, .inl t_arrivals_facts)), (a_t_lostTimes, .inl (cI, 30, .inl t_lostTimes)), (a_p1, .inr (5, [.ref a_p1_links, .ref a_p1_waiting, .ref a_p1_arrivals, .ref a_p1_lostTimes, .int p1_went, .int p1_stopPart, .int p1_stopReason])), (a_p1_links, .inr (2, [.ref a_p1_links_meanings, .ref a_p1_links_ears, .ref a_p1_links_fees, .ref a_p1_links_missed, .ref a_p1_links_paid, .ref a_p1_links_losses])), (a_p1_links_meanings, .inl (cI, 180, .inl p1_links_meanings)), (a_p1_links_ears, .inl (cI, 6, .inl p1_links_ears)), (a_p1_links_fees, .inl (cI, 6, .inl p1_links_fees)), (a_p1_links_missed, .inl (cI, 6, .inl p1_links_missed)), (a_p1_links_paid, .inl (cI, 6, .inl p1_links_paid)), (a_p1_links_losses, .inl (cI, 6, .inl p1_links_losses)), (a_p1_waiting, .inr (7, [.ref a_p1_waiting_words, .ref a_p1_waiting_lengths, .ref a_p1_waiting_urgencies, .int p1_waiting_size])), (a_p1_waiting_words, .inl (cI, 96, .inl p1_waiting_words)), (a_p1_waiting_lengths, .inl (cI, 8, .inl p1_waiting_lengths)), (a_p1_waiting_urgencies, .inl (cI, 8, .inl p1_waiting_urgencies)), (a_p1_arrivals, .inr (0, [.ref a_p1_arrivals_words, .ref a_p1_arrivals_facts, .int p1_arrivals_size])), (a_p1_arrivals_words, .inl (cI, 72, .inl p1_arrivals_words)), (a_p1_arrivals_facts, .inl (cI, 36, .inl p1_arrivals_facts)), (a_p1_lostTimes, .inl (cI, 30, .inl p1_lostTimes))]) [a_t, a_t_links, a_t_links_meanings, a_t_links_ears, a_t_links_fees, a_t_links_missed, a_t_links_paid, a_t_links_losses, a_t_waiting, a_t_waiting_words, a_t_waiting_lengths, a_t_waiting_urgencies, a_t_arrivals, a_t_arrivals_words, a_t_arrivals_facts, a_t_lostTimes, a_p1, a_p1_links, a_p1_links_meanings, a_p1_links_ears, a_p1_links_fees, a_p1_links_missed, a_p1_links_paid, a_p1_links_losses, a_p1_waiting, a_p1_waiting_words, a_p1_waiting_lengths, a_p1_waiting_urgencies, a_p1_arrivals, a_p1_arrivals_words, a_p1_arrivals_facts, a_p1_lostTimes] (fun _ => rfl) rfl (fun _ => rfl) [0, 1, 2, 3, 4, 5, 6, 7, 12, 13, 14, 15, 16, 17, 18, 19, 20, 21, 22, 23, 28, 29, 30, 31] [(a_t, .inr (5, [.ref a_t_links, .ref a_t_waiting, .ref a_t_arrivals, .ref a_t_lostTimes, .int t_went, .int t_stopPart, .int t_stopReason])), (a_t_links, .inr (2, [.ref a_t_links_meanings, .ref a_t_links_ears, .ref a_t_links_fees, .ref a_t_links_missed, .ref a_t_links_paid, .ref a_t_links_losses])), (a_t_links_meanings, .inl (cI, 180, .inl u1.1)), (a_t_links_ears, .inl (cI, 6, .inl u1.2.1)), (a_t_links_fees, .inl (cI, 6, .inl u1.2.2.1)), (a_t_links_missed, .inl (cI, 6, .inl u1.2.2.2.1)), (a_t_links_paid, .inl (cI, 6, .inl u1.2.2.2.2.1)), (a_t_links_losses, .inl (cI, 6, .inl u1.2.2.2.2.2)), (a_t_arrivals, .inr (0, [.ref a_t_arrivals_words, .ref a_t_arrivals_facts, .int t_arrivals_size])), (a_t_arrivals_words, .inl (cI, 72, .inl t_arrivals_words)), (a_t_arrivals_facts, .inl (cI, 36, .inl t_arrivals_facts)), (a_t_lostTimes, .inl (cI, 30, .inl t_lostTimes)), (a_p1, .inr (5, [.ref a_p1_links, .ref a_p1_waiting, .ref a_p1_arrivals, .ref a_p1_lostTimes, .int p1_went, .int p1_stopPart, .int p1_stopReason])), (a_p1_links, .inr (2, [.ref a_p1_links_meanings, .ref a_p1_links_ears, .ref a_p1_links_fees, .ref a_p1_links_missed, .ref a_p1_links_paid, .ref a_p1_links_losses])), (a_p1_links_meanings, .inl (cI, 180, .inl p1_links_meanings)), (a_p1_links_ears, .inl (cI, 6, .inl p1_links_ears)), (a_p1_links_fees, .inl (cI, 6, .inl p1_links_fees)), (a_p1_links_missed, .inl (cI, 6, .inl p1_links_missed)), (a_p1_links_paid, .inl (cI, 6, .inl p1_links_paid)), (a_p1_links_losses, .inl (cI, 6, .inl p1_links_losses)), (a_p1_arrivals, .inr (0, [.ref a_p1_arrivals_words, .ref a_p1_arrivals_facts, .int p1_arrivals_size])), (a_p1_arrivals_words, .inl (cI, 72, .inl p1_arrivals_words)), (a_p1_arrivals_facts, .inl (cI, 36, .inl p1_arrivals_facts)), (a_p1_lostTimes, .inl (cI, 30, .inl p1_lostTimes))] (fun _ => rfl) rfl 32 rfl rfl rfl hl.1 rfl (lv_room (Nat.le_of_ble_eq_true rfl)) dX5_copyFrom_19 ⟨Nat.zero_le _, Nat.zero_le _⟩ (fun _ H locs hP hD hS => ?_)
  have hP : va_P G vwCl [(a_t, .inr (5, [.ref a_t_links, .ref a_t_waiting, .ref a_t_arrivals, .ref a_t_lostTimes, .int t_went, .int t_stopPart, .int t_stopReason])), (a_t_links, .inr (2, [.ref a_t_links_meanings, .ref a_t_links_ears, .ref a_t_links_fees, .ref a_t_links_missed, .ref a_t_links_paid, .ref a_t_links_losses])), (a_t_links_meanings, .inl (cI, 180, .inl u1.1)), (a_t_links_ears, .inl (cI, 6, .inl u1.2.1)), (a_t_links_fees, .inl (cI, 6, .inl u1.2.2.1)), (a_t_links_missed, .inl (cI, 6, .inl u1.2.2.2.1)), (a_t_links_paid, .inl (cI, 6, .inl u1.2.2.2.2.1)), (a_t_links_losses, .inl (cI, 6, .inl u1.2.2.2.2.2)), (a_t_waiting, .inr (7, [.ref a_t_waiting_words, .ref a_t_waiting_lengths, .ref a_t_waiting_urgencies, .int u2.1])), (a_t_waiting_words, .inl (cI, 96, .inl u2.2.1)), (a_t_waiting_lengths, .inl (cI, 8, .inl u2.2.2.1)), (a_t_waiting_urgencies, .inl (cI, 8, .inl u2.2.2.2)), (a_t_arrivals, .inr (0, [.ref a_t_arrivals_words, .ref a_t_arrivals_facts, .int t_arrivals_size])), (a_t_arrivals_words, .inl (cI, 72, .inl t_arrivals_words)), (a_t_arrivals_facts, .inl (cI, 36, .inl t_arrivals_facts)), (a_t_lostTimes, .inl (cI, 30, .inl t_lostTimes)), (a_p1, .inr (5, [.ref a_p1_links, .ref a_p1_waiting, .ref a_p1_arrivals, .ref a_p1_lostTimes, .int p1_went, .int p1_stopPart, .int p1_stopReason])), (a_p1_links, .inr (2, [.ref a_p1_links_meanings, .ref a_p1_links_ears, .ref a_p1_links_fees, .ref a_p1_links_missed, .ref a_p1_links_paid, .ref a_p1_links_losses])), (a_p1_links_meanings, .inl (cI, 180, .inl p1_links_meanings)), (a_p1_links_ears, .inl (cI, 6, .inl p1_links_ears)), (a_p1_links_fees, .inl (cI, 6, .inl p1_links_fees)), (a_p1_links_missed, .inl (cI, 6, .inl p1_links_missed)), (a_p1_links_paid, .inl (cI, 6, .inl p1_links_paid)), (a_p1_links_losses, .inl (cI, 6, .inl p1_links_losses)), (a_p1_waiting, .inr (7, [.ref a_p1_waiting_words, .ref a_p1_waiting_lengths, .ref a_p1_waiting_urgencies, .int p1_waiting_size])), (a_p1_waiting_words, .inl (cI, 96, .inl p1_waiting_words)), (a_p1_waiting_lengths, .inl (cI, 8, .inl p1_waiting_lengths)), (a_p1_waiting_urgencies, .inl (cI, 8, .inl p1_waiting_urgencies)), (a_p1_arrivals, .inr (0, [.ref a_p1_arrivals_words, .ref a_p1_arrivals_facts, .int p1_arrivals_size])), (a_p1_arrivals_words, .inl (cI, 72, .inl p1_arrivals_words)), (a_p1_arrivals_facts, .inl (cI, 36, .inl p1_arrivals_facts)), (a_p1_lostTimes, .inl (cI, 30, .inl p1_lostTimes))] H := hP
  have hD : va_D A [(a_t, .inr (5, [.ref a_t_links, .ref a_t_waiting, .ref a_t_arrivals, .ref a_t_lostTimes, .int t_went, .int t_stopPart, .int t_stopReason])), (a_t_links, .inr (2, [.ref a_t_links_meanings, .ref a_t_links_ears, .ref a_t_links_fees, .ref a_t_links_missed, .ref a_t_links_paid, .ref a_t_links_losses])), (a_t_links_meanings, .inl (cI, 180, .inl u1.1)), (a_t_links_ears, .inl (cI, 6, .inl u1.2.1)), (a_t_links_fees, .inl (cI, 6, .inl u1.2.2.1)), (a_t_links_missed, .inl (cI, 6, .inl u1.2.2.2.1)), (a_t_links_paid, .inl (cI, 6, .inl u1.2.2.2.2.1)), (a_t_links_losses, .inl (cI, 6, .inl u1.2.2.2.2.2)), (a_t_waiting, .inr (7, [.ref a_t_waiting_words, .ref a_t_waiting_lengths, .ref a_t_waiting_urgencies, .int u2.1])), (a_t_waiting_words, .inl (cI, 96, .inl u2.2.1)), (a_t_waiting_lengths, .inl (cI, 8, .inl u2.2.2.1)), (a_t_waiting_urgencies, .inl (cI, 8, .inl u2.2.2.2)), (a_t_arrivals, .inr (0, [.ref a_t_arrivals_words, .ref a_t_arrivals_facts, .int t_arrivals_size])), (a_t_arrivals_words, .inl (cI, 72, .inl t_arrivals_words)), (a_t_arrivals_facts, .inl (cI, 36, .inl t_arrivals_facts)), (a_t_lostTimes, .inl (cI, 30, .inl t_lostTimes)), (a_p1, .inr (5, [.ref a_p1_links, .ref a_p1_waiting, .ref a_p1_arrivals, .ref a_p1_lostTimes, .int p1_went, .int p1_stopPart, .int p1_stopReason])), (a_p1_links, .inr (2, [.ref a_p1_links_meanings, .ref a_p1_links_ears, .ref a_p1_links_fees, .ref a_p1_links_missed, .ref a_p1_links_paid, .ref a_p1_links_losses])), (a_p1_links_meanings, .inl (cI, 180, .inl p1_links_meanings)), (a_p1_links_ears, .inl (cI, 6, .inl p1_links_ears)), (a_p1_links_fees, .inl (cI, 6, .inl p1_links_fees)), (a_p1_links_missed, .inl (cI, 6, .inl p1_links_missed)), (a_p1_links_paid, .inl (cI, 6, .inl p1_links_paid)), (a_p1_links_losses, .inl (cI, 6, .inl p1_links_losses)), (a_p1_waiting, .inr (7, [.ref a_p1_waiting_words, .ref a_p1_waiting_lengths, .ref a_p1_waiting_urgencies, .int p1_waiting_size])), (a_p1_waiting_words, .inl (cI, 96, .inl p1_waiting_words)), (a_p1_waiting_lengths, .inl (cI, 8, .inl p1_waiting_lengths)), (a_p1_waiting_urgencies, .inl (cI, 8, .inl p1_waiting_urgencies)), (a_p1_arrivals, .inr (0, [.ref a_p1_arrivals_words, .ref a_p1_arrivals_facts, .int p1_arrivals_size])), (a_p1_arrivals_words, .inl (cI, 72, .inl p1_arrivals_words)), (a_p1_arrivals_facts, .inl (cI, 36, .inl p1_arrivals_facts)), (a_p1_lostTimes, .inl (cI, 30, .inl p1_lostTimes))] := hD
  refine lv_aload_n hx hb dX5_copyFrom_22 rfl (lv_at hl 0 rfl) ?_
  refine va_get (D := G) (ci := 5) (v := .ref a_t_arrivals) (C := RX5) (T := TX5) (N := 7) hx hb hts iwX5_copyFrom_X5 hown hK hP 0 rfl rfl 2 (by decide) k3 (fun _ h9 => h9) rfl dX5_copyFrom_23 ?_
  refine lv_aload_n hx hb dX5_copyFrom_26 rfl (lv_at hl 1 rfl) ?_
  refine va_get (D := G) (ci := 5) (v := .ref a_p1_arrivals) (C := RX5) (T := TX5) (N := 7) hx hb hts iwX5_copyFrom_X5 hown hK hP 16 rfl rfl 2 (by decide) k3 (fun _ h9 => h9) rfl dX5_copyFrom_27 ?_
  obtain ⟨u3, hu3, hf⟩ := pf_b hf
  refine mCallV_v (As := [.ref a_p1_arrivals]) ⟨hx, hb, hml, hown, hts⟩ (mX0_copyFrom l G cI a_t_arrivals a_t_arrivals_words a_t_arrivals_facts a_p1_arrivals a_p1_arrivals_words a_p1_arrivals_facts H.size t_arrivals_size t_arrivals_words t_arrivals_facts p1_arrivals_size p1_arrivals_words p1_arrivals_facts _ hu3) (cwV 1 hts gX5_copyFrom_X0_copyFrom rfl rfl rfl (by decide +kernel) ⟨Nat.le_of_ble_eq_true rfl, Nat.le_of_ble_eq_true rfl⟩) hP hD hS hA hK [12, 13, 14, 28, 29, 30] rfl (by decide) 12 0 rfl rfl rfl hK [a_t_arrivals, a_t_arrivals_words, a_t_arrivals_facts, a_p1_arrivals, a_p1_arrivals_words, a_p1_arrivals_facts] (fun _ => rfl) rfl (fun _ => [(a_t, .inr (5, [.ref a_t_links, .ref a_t_waiting, .ref a_t_arrivals, .ref a_t_lostTimes, .int t_went, .int t_stopPart, .int t_stopReason])), (a_t_links, .inr (2, [.ref a_t_links_meanings, .ref a_t_links_ears, .ref a_t_links_fees, .ref a_t_links_missed, .ref a_t_links_paid, .ref a_t_links_losses])), (a_t_links_meanings, .inl (cI, 180, .inl u1.1)), (a_t_links_ears, .inl (cI, 6, .inl u1.2.1)), (a_t_links_fees, .inl (cI, 6, .inl u1.2.2.1)), (a_t_links_missed, .inl (cI, 6, .inl u1.2.2.2.1)), (a_t_links_paid, .inl (cI, 6, .inl u1.2.2.2.2.1)), (a_t_links_losses, .inl (cI, 6, .inl u1.2.2.2.2.2)), (a_t_waiting, .inr (7, [.ref a_t_waiting_words, .ref a_t_waiting_lengths, .ref a_t_waiting_urgencies, .int u2.1])), (a_t_waiting_words, .inl (cI, 96, .inl u2.2.1)), (a_t_waiting_lengths, .inl (cI, 8, .inl u2.2.2.1)), (a_t_waiting_urgencies, .inl (cI, 8, .inl u2.2.2.2)), (a_t_arrivals, .inr (0, [.ref a_t_arrivals_words, .ref a_t_arrivals_facts, .int u3.1])), (a_t_arrivals_words, .inl (cI, 72, .inl u3.2.1)), (a_t_arrivals_facts, .inl (cI, 36, .inl u3.2.2)), (a_t_lostTimes, .inl (cI, 30, .inl t_lostTimes)), (a_p1, .inr (5, [.ref a_p1_links, .ref a_p1_waiting, .ref a_p1_arrivals, .ref a_p1_lostTimes, .int p1_went, .int p1_stopPart, .int p1_stopReason])), (a_p1_links, .inr (2, [.ref a_p1_links_meanings, .ref a_p1_links_ears, .ref a_p1_links_fees, .ref a_p1_links_missed, .ref a_p1_links_paid, .ref a_p1_links_losses])), (a_p1_links_meanings, .inl (cI, 180, .inl p1_links_meanings)), (a_p1_links_ears, .inl (cI, 6, .inl p1_links_ears)), (a_p1_links_fees, .inl (cI, 6, .inl p1_links_fees)), (a_p1_links_missed, .inl (cI, 6, .inl p1_links_missed)), (a_p1_links_paid, .inl (cI, 6, .inl p1_links_paid)), (a_p1_links_losses, .inl (cI, 6, .inl p1_links_losses)), (a_p1_waiting, .inr (7, [.ref a_p1_waiting_words, .ref a_p1_waiting_lengths, .ref a_p1_waiting_urgencies, .int p1_waiting_size])), (a_p1_waiting_words, .inl (cI, 96, .inl p1_waiting_words)), (a_p1_waiting_lengths, .inl (cI, 8, .inl p1_waiting_lengths)), (a_p1_waiting_urgencies, .inl (cI, 8, .inl p1_waiting_urgencies)), (a_p1_arrivals, .inr (0, [.ref a_p1_arrivals_words, .ref a_p1_arrivals_facts, .int p1_arrivals_size])), (a_p1_arrivals_words, .inl (cI, 72, .inl p1_arrivals_words)), (a_p1_arrivals_facts, .inl (cI, 36, .inl p1_arrivals_facts)), (a_p1_lostTimes, .inl (cI, 30, .inl p1_lostTimes))]) [a_t, a_t_links, a_t_links_meanings, a_t_links_ears, a_t_links_fees, a_t_links_missed, a_t_links_paid, a_t_links_losses, a_t_waiting, a_t_waiting_words, a_t_waiting_lengths, a_t_waiting_urgencies, a_t_arrivals, a_t_arrivals_words, a_t_arrivals_facts, a_t_lostTimes, a_p1, a_p1_links, a_p1_links_meanings, a_p1_links_ears, a_p1_links_fees, a_p1_links_missed, a_p1_links_paid, a_p1_links_losses, a_p1_waiting, a_p1_waiting_words, a_p1_waiting_lengths, a_p1_waiting_urgencies, a_p1_arrivals, a_p1_arrivals_words, a_p1_arrivals_facts, a_p1_lostTimes] (fun _ => rfl) rfl (fun _ => rfl) [0, 1, 2, 3, 4, 5, 6, 7, 8, 9, 10, 11, 15, 16, 17, 18, 19, 20, 21, 22, 23, 24, 25, 26, 27, 31] [(a_t, .inr (5, [.ref a_t_links, .ref a_t_waiting, .ref a_t_arrivals, .ref a_t_lostTimes, .int t_went, .int t_stopPart, .int t_stopReason])), (a_t_links, .inr (2, [.ref a_t_links_meanings, .ref a_t_links_ears, .ref a_t_links_fees, .ref a_t_links_missed, .ref a_t_links_paid, .ref a_t_links_losses])), (a_t_links_meanings, .inl (cI, 180, .inl u1.1)), (a_t_links_ears, .inl (cI, 6, .inl u1.2.1)), (a_t_links_fees, .inl (cI, 6, .inl u1.2.2.1)), (a_t_links_missed, .inl (cI, 6, .inl u1.2.2.2.1)), (a_t_links_paid, .inl (cI, 6, .inl u1.2.2.2.2.1)), (a_t_links_losses, .inl (cI, 6, .inl u1.2.2.2.2.2)), (a_t_waiting, .inr (7, [.ref a_t_waiting_words, .ref a_t_waiting_lengths, .ref a_t_waiting_urgencies, .int u2.1])), (a_t_waiting_words, .inl (cI, 96, .inl u2.2.1)), (a_t_waiting_lengths, .inl (cI, 8, .inl u2.2.2.1)), (a_t_waiting_urgencies, .inl (cI, 8, .inl u2.2.2.2)), (a_t_lostTimes, .inl (cI, 30, .inl t_lostTimes)), (a_p1, .inr (5, [.ref a_p1_links, .ref a_p1_waiting, .ref a_p1_arrivals, .ref a_p1_lostTimes, .int p1_went, .int p1_stopPart, .int p1_stopReason])), (a_p1_links, .inr (2, [.ref a_p1_links_meanings, .ref a_p1_links_ears, .ref a_p1_links_fees, .ref a_p1_links_missed, .ref a_p1_links_paid, .ref a_p1_links_losses])), (a_p1_links_meanings, .inl (cI, 180, .inl p1_links_meanings)), (a_p1_links_ears, .inl (cI, 6, .inl p1_links_ears)), (a_p1_links_fees, .inl (cI, 6, .inl p1_links_fees)), (a_p1_links_missed, .inl (cI, 6, .inl p1_links_missed)), (a_p1_links_paid, .inl (cI, 6, .inl p1_links_paid)), (a_p1_links_losses, .inl (cI, 6, .inl p1_links_losses)), (a_p1_waiting, .inr (7, [.ref a_p1_waiting_words, .ref a_p1_waiting_lengths, .ref a_p1_waiting_urgencies, .int p1_waiting_size])), (a_p1_waiting_words, .inl (cI, 96, .inl p1_waiting_words)), (a_p1_waiting_lengths, .inl (cI, 8, .inl p1_waiting_lengths)), (a_p1_waiting_urgencies, .inl (cI, 8, .inl p1_waiting_urgencies)), (a_p1_lostTimes, .inl (cI, 30, .inl p1_lostTimes))] (fun _ => rfl) rfl 32 rfl rfl rfl hl.1 rfl (lv_room (Nat.le_of_ble_eq_true rfl)) dX5_copyFrom_30 ⟨Nat.zero_le _, Nat.zero_le _⟩ (fun _ H locs hP hD hS => ?_)
  have hP : va_P G vwCl [(a_t, .inr (5, [.ref a_t_links, .ref a_t_waiting, .ref a_t_arrivals, .ref a_t_lostTimes, .int t_went, .int t_stopPart, .int t_stopReason])), (a_t_links, .inr (2, [.ref a_t_links_meanings, .ref a_t_links_ears, .ref a_t_links_fees, .ref a_t_links_missed, .ref a_t_links_paid, .ref a_t_links_losses])), (a_t_links_meanings, .inl (cI, 180, .inl u1.1)), (a_t_links_ears, .inl (cI, 6, .inl u1.2.1)), (a_t_links_fees, .inl (cI, 6, .inl u1.2.2.1)), (a_t_links_missed, .inl (cI, 6, .inl u1.2.2.2.1)), (a_t_links_paid, .inl (cI, 6, .inl u1.2.2.2.2.1)), (a_t_links_losses, .inl (cI, 6, .inl u1.2.2.2.2.2)), (a_t_waiting, .inr (7, [.ref a_t_waiting_words, .ref a_t_waiting_lengths, .ref a_t_waiting_urgencies, .int u2.1])), (a_t_waiting_words, .inl (cI, 96, .inl u2.2.1)), (a_t_waiting_lengths, .inl (cI, 8, .inl u2.2.2.1)), (a_t_waiting_urgencies, .inl (cI, 8, .inl u2.2.2.2)), (a_t_arrivals, .inr (0, [.ref a_t_arrivals_words, .ref a_t_arrivals_facts, .int u3.1])), (a_t_arrivals_words, .inl (cI, 72, .inl u3.2.1)), (a_t_arrivals_facts, .inl (cI, 36, .inl u3.2.2)), (a_t_lostTimes, .inl (cI, 30, .inl t_lostTimes)), (a_p1, .inr (5, [.ref a_p1_links, .ref a_p1_waiting, .ref a_p1_arrivals, .ref a_p1_lostTimes, .int p1_went, .int p1_stopPart, .int p1_stopReason])), (a_p1_links, .inr (2, [.ref a_p1_links_meanings, .ref a_p1_links_ears, .ref a_p1_links_fees, .ref a_p1_links_missed, .ref a_p1_links_paid, .ref a_p1_links_losses])), (a_p1_links_meanings, .inl (cI, 180, .inl p1_links_meanings)), (a_p1_links_ears, .inl (cI, 6, .inl p1_links_ears)), (a_p1_links_fees, .inl (cI, 6, .inl p1_links_fees)), (a_p1_links_missed, .inl (cI, 6, .inl p1_links_missed)), (a_p1_links_paid, .inl (cI, 6, .inl p1_links_paid)), (a_p1_links_losses, .inl (cI, 6, .inl p1_links_losses)), (a_p1_waiting, .inr (7, [.ref a_p1_waiting_words, .ref a_p1_waiting_lengths, .ref a_p1_waiting_urgencies, .int p1_waiting_size])), (a_p1_waiting_words, .inl (cI, 96, .inl p1_waiting_words)), (a_p1_waiting_lengths, .inl (cI, 8, .inl p1_waiting_lengths)), (a_p1_waiting_urgencies, .inl (cI, 8, .inl p1_waiting_urgencies)), (a_p1_arrivals, .inr (0, [.ref a_p1_arrivals_words, .ref a_p1_arrivals_facts, .int p1_arrivals_size])), (a_p1_arrivals_words, .inl (cI, 72, .inl p1_arrivals_words)), (a_p1_arrivals_facts, .inl (cI, 36, .inl p1_arrivals_facts)), (a_p1_lostTimes, .inl (cI, 30, .inl p1_lostTimes))] H := hP
  have hD : va_D A [(a_t, .inr (5, [.ref a_t_links, .ref a_t_waiting, .ref a_t_arrivals, .ref a_t_lostTimes, .int t_went, .int t_stopPart, .int t_stopReason])), (a_t_links, .inr (2, [.ref a_t_links_meanings, .ref a_t_links_ears, .ref a_t_links_fees, .ref a_t_links_missed, .ref a_t_links_paid, .ref a_t_links_losses])), (a_t_links_meanings, .inl (cI, 180, .inl u1.1)), (a_t_links_ears, .inl (cI, 6, .inl u1.2.1)), (a_t_links_fees, .inl (cI, 6, .inl u1.2.2.1)), (a_t_links_missed, .inl (cI, 6, .inl u1.2.2.2.1)), (a_t_links_paid, .inl (cI, 6, .inl u1.2.2.2.2.1)), (a_t_links_losses, .inl (cI, 6, .inl u1.2.2.2.2.2)), (a_t_waiting, .inr (7, [.ref a_t_waiting_words, .ref a_t_waiting_lengths, .ref a_t_waiting_urgencies, .int u2.1])), (a_t_waiting_words, .inl (cI, 96, .inl u2.2.1)), (a_t_waiting_lengths, .inl (cI, 8, .inl u2.2.2.1)), (a_t_waiting_urgencies, .inl (cI, 8, .inl u2.2.2.2)), (a_t_arrivals, .inr (0, [.ref a_t_arrivals_words, .ref a_t_arrivals_facts, .int u3.1])), (a_t_arrivals_words, .inl (cI, 72, .inl u3.2.1)), (a_t_arrivals_facts, .inl (cI, 36, .inl u3.2.2)), (a_t_lostTimes, .inl (cI, 30, .inl t_lostTimes)), (a_p1, .inr (5, [.ref a_p1_links, .ref a_p1_waiting, .ref a_p1_arrivals, .ref a_p1_lostTimes, .int p1_went, .int p1_stopPart, .int p1_stopReason])), (a_p1_links, .inr (2, [.ref a_p1_links_meanings, .ref a_p1_links_ears, .ref a_p1_links_fees, .ref a_p1_links_missed, .ref a_p1_links_paid, .ref a_p1_links_losses])), (a_p1_links_meanings, .inl (cI, 180, .inl p1_links_meanings)), (a_p1_links_ears, .inl (cI, 6, .inl p1_links_ears)), (a_p1_links_fees, .inl (cI, 6, .inl p1_links_fees)), (a_p1_links_missed, .inl (cI, 6, .inl p1_links_missed)), (a_p1_links_paid, .inl (cI, 6, .inl p1_links_paid)), (a_p1_links_losses, .inl (cI, 6, .inl p1_links_losses)), (a_p1_waiting, .inr (7, [.ref a_p1_waiting_words, .ref a_p1_waiting_lengths, .ref a_p1_waiting_urgencies, .int p1_waiting_size])), (a_p1_waiting_words, .inl (cI, 96, .inl p1_waiting_words)), (a_p1_waiting_lengths, .inl (cI, 8, .inl p1_waiting_lengths)), (a_p1_waiting_urgencies, .inl (cI, 8, .inl p1_waiting_urgencies)), (a_p1_arrivals, .inr (0, [.ref a_p1_arrivals_words, .ref a_p1_arrivals_facts, .int p1_arrivals_size])), (a_p1_arrivals_words, .inl (cI, 72, .inl p1_arrivals_words)), (a_p1_arrivals_facts, .inl (cI, 36, .inl p1_arrivals_facts)), (a_p1_lostTimes, .inl (cI, 30, .inl p1_lostTimes))] := hD
  refine lv_aload_n hx hb dX5_copyFrom_33 rfl (lv_at hl 1 rfl) ?_
  refine va_get (D := G) (ci := 5) (v := .ref a_p1_lostTimes) (C := RX5) (T := TX5) (N := 7) hx hb hts iwX5_copyFrom_X5 hown hK hP 16 rfl rfl 3 (by decide) k4 (fun _ h9 => h9) rfl dX5_copyFrom_34 ?_
  refine lv_iconst (v := 0) hx hb dX5_copyFrom_37 (by decide) ?_
  refine lv_aload_n hx hb dX5_copyFrom_38 rfl (lv_at hl 0 rfl) ?_
  refine va_get (D := G) (ci := 5) (v := .ref a_t_lostTimes) (C := RX5) (T := TX5) (N := 7) hx hb hts iwX5_copyFrom_X5 hown hK hP 0 rfl rfl 3 (by decide) k4 (fun _ h9 => h9) rfl dX5_copyFrom_39 ?_
  refine lv_iconst (v := 0) hx hb dX5_copyFrom_42 (by decide) ?_
  refine lv_bipush (v := 30) hx hb dX5_copyFrom_43 (by decide) ?_
  refine va_copyi hx hb (hml.trans hl.1.symm) hown k5 k6 k7 k8 hK hP hD hS 31 15 0 0 rfl rfl rfl rfl rfl (by decide) (by decide) (by decide) (by decide +kernel) (by decide +kernel) (fun _ _ => rfl) (Nat.le_of_ble_eq_true rfl) (Nat.le_of_ble_eq_true rfl) dX5_copyFrom_45 (fun H locs hP hD hS => ?_)
  obtain ⟨f4, ef4⟩ : ∃ z : Nat → Int32, z = va_cpy p1_lostTimes t_lostTimes (0 : Int32).toNatClampNeg (0 : Int32).toNatClampNeg (30 : Int32).toNatClampNeg := ⟨_, rfl⟩
  have hf := pf_l hf f4 ef4
  have hP : va_P G vwCl [(a_t, .inr (5, [.ref a_t_links, .ref a_t_waiting, .ref a_t_arrivals, .ref a_t_lostTimes, .int t_went, .int t_stopPart, .int t_stopReason])), (a_t_links, .inr (2, [.ref a_t_links_meanings, .ref a_t_links_ears, .ref a_t_links_fees, .ref a_t_links_missed, .ref a_t_links_paid, .ref a_t_links_losses])), (a_t_links_meanings, .inl (cI, 180, .inl u1.1)), (a_t_links_ears, .inl (cI, 6, .inl u1.2.1)), (a_t_links_fees, .inl (cI, 6, .inl u1.2.2.1)), (a_t_links_missed, .inl (cI, 6, .inl u1.2.2.2.1)), (a_t_links_paid, .inl (cI, 6, .inl u1.2.2.2.2.1)), (a_t_links_losses, .inl (cI, 6, .inl u1.2.2.2.2.2)), (a_t_waiting, .inr (7, [.ref a_t_waiting_words, .ref a_t_waiting_lengths, .ref a_t_waiting_urgencies, .int u2.1])), (a_t_waiting_words, .inl (cI, 96, .inl u2.2.1)), (a_t_waiting_lengths, .inl (cI, 8, .inl u2.2.2.1)), (a_t_waiting_urgencies, .inl (cI, 8, .inl u2.2.2.2)), (a_t_arrivals, .inr (0, [.ref a_t_arrivals_words, .ref a_t_arrivals_facts, .int u3.1])), (a_t_arrivals_words, .inl (cI, 72, .inl u3.2.1)), (a_t_arrivals_facts, .inl (cI, 36, .inl u3.2.2)), (a_t_lostTimes, .inl (cI, 30, .inl f4)), (a_p1, .inr (5, [.ref a_p1_links, .ref a_p1_waiting, .ref a_p1_arrivals, .ref a_p1_lostTimes, .int p1_went, .int p1_stopPart, .int p1_stopReason])), (a_p1_links, .inr (2, [.ref a_p1_links_meanings, .ref a_p1_links_ears, .ref a_p1_links_fees, .ref a_p1_links_missed, .ref a_p1_links_paid, .ref a_p1_links_losses])), (a_p1_links_meanings, .inl (cI, 180, .inl p1_links_meanings)), (a_p1_links_ears, .inl (cI, 6, .inl p1_links_ears)), (a_p1_links_fees, .inl (cI, 6, .inl p1_links_fees)), (a_p1_links_missed, .inl (cI, 6, .inl p1_links_missed)), (a_p1_links_paid, .inl (cI, 6, .inl p1_links_paid)), (a_p1_links_losses, .inl (cI, 6, .inl p1_links_losses)), (a_p1_waiting, .inr (7, [.ref a_p1_waiting_words, .ref a_p1_waiting_lengths, .ref a_p1_waiting_urgencies, .int p1_waiting_size])), (a_p1_waiting_words, .inl (cI, 96, .inl p1_waiting_words)), (a_p1_waiting_lengths, .inl (cI, 8, .inl p1_waiting_lengths)), (a_p1_waiting_urgencies, .inl (cI, 8, .inl p1_waiting_urgencies)), (a_p1_arrivals, .inr (0, [.ref a_p1_arrivals_words, .ref a_p1_arrivals_facts, .int p1_arrivals_size])), (a_p1_arrivals_words, .inl (cI, 72, .inl p1_arrivals_words)), (a_p1_arrivals_facts, .inl (cI, 36, .inl p1_arrivals_facts)), (a_p1_lostTimes, .inl (cI, 30, .inl p1_lostTimes))] H := by rw [ef4]; exact hP
  have hD : va_D A [(a_t, .inr (5, [.ref a_t_links, .ref a_t_waiting, .ref a_t_arrivals, .ref a_t_lostTimes, .int t_went, .int t_stopPart, .int t_stopReason])), (a_t_links, .inr (2, [.ref a_t_links_meanings, .ref a_t_links_ears, .ref a_t_links_fees, .ref a_t_links_missed, .ref a_t_links_paid, .ref a_t_links_losses])), (a_t_links_meanings, .inl (cI, 180, .inl u1.1)), (a_t_links_ears, .inl (cI, 6, .inl u1.2.1)), (a_t_links_fees, .inl (cI, 6, .inl u1.2.2.1)), (a_t_links_missed, .inl (cI, 6, .inl u1.2.2.2.1)), (a_t_links_paid, .inl (cI, 6, .inl u1.2.2.2.2.1)), (a_t_links_losses, .inl (cI, 6, .inl u1.2.2.2.2.2)), (a_t_waiting, .inr (7, [.ref a_t_waiting_words, .ref a_t_waiting_lengths, .ref a_t_waiting_urgencies, .int u2.1])), (a_t_waiting_words, .inl (cI, 96, .inl u2.2.1)), (a_t_waiting_lengths, .inl (cI, 8, .inl u2.2.2.1)), (a_t_waiting_urgencies, .inl (cI, 8, .inl u2.2.2.2)), (a_t_arrivals, .inr (0, [.ref a_t_arrivals_words, .ref a_t_arrivals_facts, .int u3.1])), (a_t_arrivals_words, .inl (cI, 72, .inl u3.2.1)), (a_t_arrivals_facts, .inl (cI, 36, .inl u3.2.2)), (a_t_lostTimes, .inl (cI, 30, .inl f4)), (a_p1, .inr (5, [.ref a_p1_links, .ref a_p1_waiting, .ref a_p1_arrivals, .ref a_p1_lostTimes, .int p1_went, .int p1_stopPart, .int p1_stopReason])), (a_p1_links, .inr (2, [.ref a_p1_links_meanings, .ref a_p1_links_ears, .ref a_p1_links_fees, .ref a_p1_links_missed, .ref a_p1_links_paid, .ref a_p1_links_losses])), (a_p1_links_meanings, .inl (cI, 180, .inl p1_links_meanings)), (a_p1_links_ears, .inl (cI, 6, .inl p1_links_ears)), (a_p1_links_fees, .inl (cI, 6, .inl p1_links_fees)), (a_p1_links_missed, .inl (cI, 6, .inl p1_links_missed)), (a_p1_links_paid, .inl (cI, 6, .inl p1_links_paid)), (a_p1_links_losses, .inl (cI, 6, .inl p1_links_losses)), (a_p1_waiting, .inr (7, [.ref a_p1_waiting_words, .ref a_p1_waiting_lengths, .ref a_p1_waiting_urgencies, .int p1_waiting_size])), (a_p1_waiting_words, .inl (cI, 96, .inl p1_waiting_words)), (a_p1_waiting_lengths, .inl (cI, 8, .inl p1_waiting_lengths)), (a_p1_waiting_urgencies, .inl (cI, 8, .inl p1_waiting_urgencies)), (a_p1_arrivals, .inr (0, [.ref a_p1_arrivals_words, .ref a_p1_arrivals_facts, .int p1_arrivals_size])), (a_p1_arrivals_words, .inl (cI, 72, .inl p1_arrivals_words)), (a_p1_arrivals_facts, .inl (cI, 36, .inl p1_arrivals_facts)), (a_p1_lostTimes, .inl (cI, 30, .inl p1_lostTimes))] := by rw [ef4]; exact hD
  refine lv_aload_n hx hb dX5_copyFrom_48 rfl (lv_at hl 0 rfl) ?_
  refine lv_aload_n hx hb dX5_copyFrom_49 rfl (lv_at hl 1 rfl) ?_
  refine va_get (D := G) (ci := 5) (v := .int p1_went) (C := RX5) (T := TX5) (N := 7) hx hb hts iwX5_copyFrom_X5 hown hK hP 16 rfl rfl 4 (by decide) k9 (fun _ h9 => h9) rfl dX5_copyFrom_50 ?_
  refine va_put (D := G) (ci := 5) (v := .int p1_went) (ty := .int) (C := RX5) (T := TX5) (N := 7) hx hb hts iwX5_copyFrom_X5 tyX5 tyX5_ok nmX5 hown hK hP hD hS 0 rfl rfl 4 (by decide) k9 (fun _ h9 => h9) rfl (by decide +kernel) rfl rfl (Nat.le_of_ble_eq_true rfl) dX5_copyFrom_53 (fun H locs hP hD hS => ?_)
  have hP : va_P G vwCl [(a_t, .inr (5, [.ref a_t_links, .ref a_t_waiting, .ref a_t_arrivals, .ref a_t_lostTimes, .int p1_went, .int t_stopPart, .int t_stopReason])), (a_t_links, .inr (2, [.ref a_t_links_meanings, .ref a_t_links_ears, .ref a_t_links_fees, .ref a_t_links_missed, .ref a_t_links_paid, .ref a_t_links_losses])), (a_t_links_meanings, .inl (cI, 180, .inl u1.1)), (a_t_links_ears, .inl (cI, 6, .inl u1.2.1)), (a_t_links_fees, .inl (cI, 6, .inl u1.2.2.1)), (a_t_links_missed, .inl (cI, 6, .inl u1.2.2.2.1)), (a_t_links_paid, .inl (cI, 6, .inl u1.2.2.2.2.1)), (a_t_links_losses, .inl (cI, 6, .inl u1.2.2.2.2.2)), (a_t_waiting, .inr (7, [.ref a_t_waiting_words, .ref a_t_waiting_lengths, .ref a_t_waiting_urgencies, .int u2.1])), (a_t_waiting_words, .inl (cI, 96, .inl u2.2.1)), (a_t_waiting_lengths, .inl (cI, 8, .inl u2.2.2.1)), (a_t_waiting_urgencies, .inl (cI, 8, .inl u2.2.2.2)), (a_t_arrivals, .inr (0, [.ref a_t_arrivals_words, .ref a_t_arrivals_facts, .int u3.1])), (a_t_arrivals_words, .inl (cI, 72, .inl u3.2.1)), (a_t_arrivals_facts, .inl (cI, 36, .inl u3.2.2)), (a_t_lostTimes, .inl (cI, 30, .inl f4)), (a_p1, .inr (5, [.ref a_p1_links, .ref a_p1_waiting, .ref a_p1_arrivals, .ref a_p1_lostTimes, .int p1_went, .int p1_stopPart, .int p1_stopReason])), (a_p1_links, .inr (2, [.ref a_p1_links_meanings, .ref a_p1_links_ears, .ref a_p1_links_fees, .ref a_p1_links_missed, .ref a_p1_links_paid, .ref a_p1_links_losses])), (a_p1_links_meanings, .inl (cI, 180, .inl p1_links_meanings)), (a_p1_links_ears, .inl (cI, 6, .inl p1_links_ears)), (a_p1_links_fees, .inl (cI, 6, .inl p1_links_fees)), (a_p1_links_missed, .inl (cI, 6, .inl p1_links_missed)), (a_p1_links_paid, .inl (cI, 6, .inl p1_links_paid)), (a_p1_links_losses, .inl (cI, 6, .inl p1_links_losses)), (a_p1_waiting, .inr (7, [.ref a_p1_waiting_words, .ref a_p1_waiting_lengths, .ref a_p1_waiting_urgencies, .int p1_waiting_size])), (a_p1_waiting_words, .inl (cI, 96, .inl p1_waiting_words)), (a_p1_waiting_lengths, .inl (cI, 8, .inl p1_waiting_lengths)), (a_p1_waiting_urgencies, .inl (cI, 8, .inl p1_waiting_urgencies)), (a_p1_arrivals, .inr (0, [.ref a_p1_arrivals_words, .ref a_p1_arrivals_facts, .int p1_arrivals_size])), (a_p1_arrivals_words, .inl (cI, 72, .inl p1_arrivals_words)), (a_p1_arrivals_facts, .inl (cI, 36, .inl p1_arrivals_facts)), (a_p1_lostTimes, .inl (cI, 30, .inl p1_lostTimes))] H := hP
  have hD : va_D A [(a_t, .inr (5, [.ref a_t_links, .ref a_t_waiting, .ref a_t_arrivals, .ref a_t_lostTimes, .int p1_went, .int t_stopPart, .int t_stopReason])), (a_t_links, .inr (2, [.ref a_t_links_meanings, .ref a_t_links_ears, .ref a_t_links_fees, .ref a_t_links_missed, .ref a_t_links_paid, .ref a_t_links_losses])), (a_t_links_meanings, .inl (cI, 180, .inl u1.1)), (a_t_links_ears, .inl (cI, 6, .inl u1.2.1)), (a_t_links_fees, .inl (cI, 6, .inl u1.2.2.1)), (a_t_links_missed, .inl (cI, 6, .inl u1.2.2.2.1)), (a_t_links_paid, .inl (cI, 6, .inl u1.2.2.2.2.1)), (a_t_links_losses, .inl (cI, 6, .inl u1.2.2.2.2.2)), (a_t_waiting, .inr (7, [.ref a_t_waiting_words, .ref a_t_waiting_lengths, .ref a_t_waiting_urgencies, .int u2.1])), (a_t_waiting_words, .inl (cI, 96, .inl u2.2.1)), (a_t_waiting_lengths, .inl (cI, 8, .inl u2.2.2.1)), (a_t_waiting_urgencies, .inl (cI, 8, .inl u2.2.2.2)), (a_t_arrivals, .inr (0, [.ref a_t_arrivals_words, .ref a_t_arrivals_facts, .int u3.1])), (a_t_arrivals_words, .inl (cI, 72, .inl u3.2.1)), (a_t_arrivals_facts, .inl (cI, 36, .inl u3.2.2)), (a_t_lostTimes, .inl (cI, 30, .inl f4)), (a_p1, .inr (5, [.ref a_p1_links, .ref a_p1_waiting, .ref a_p1_arrivals, .ref a_p1_lostTimes, .int p1_went, .int p1_stopPart, .int p1_stopReason])), (a_p1_links, .inr (2, [.ref a_p1_links_meanings, .ref a_p1_links_ears, .ref a_p1_links_fees, .ref a_p1_links_missed, .ref a_p1_links_paid, .ref a_p1_links_losses])), (a_p1_links_meanings, .inl (cI, 180, .inl p1_links_meanings)), (a_p1_links_ears, .inl (cI, 6, .inl p1_links_ears)), (a_p1_links_fees, .inl (cI, 6, .inl p1_links_fees)), (a_p1_links_missed, .inl (cI, 6, .inl p1_links_missed)), (a_p1_links_paid, .inl (cI, 6, .inl p1_links_paid)), (a_p1_links_losses, .inl (cI, 6, .inl p1_links_losses)), (a_p1_waiting, .inr (7, [.ref a_p1_waiting_words, .ref a_p1_waiting_lengths, .ref a_p1_waiting_urgencies, .int p1_waiting_size])), (a_p1_waiting_words, .inl (cI, 96, .inl p1_waiting_words)), (a_p1_waiting_lengths, .inl (cI, 8, .inl p1_waiting_lengths)), (a_p1_waiting_urgencies, .inl (cI, 8, .inl p1_waiting_urgencies)), (a_p1_arrivals, .inr (0, [.ref a_p1_arrivals_words, .ref a_p1_arrivals_facts, .int p1_arrivals_size])), (a_p1_arrivals_words, .inl (cI, 72, .inl p1_arrivals_words)), (a_p1_arrivals_facts, .inl (cI, 36, .inl p1_arrivals_facts)), (a_p1_lostTimes, .inl (cI, 30, .inl p1_lostTimes))] := hD
  refine lv_aload_n hx hb dX5_copyFrom_56 rfl (lv_at hl 0 rfl) ?_
  refine lv_aload_n hx hb dX5_copyFrom_57 rfl (lv_at hl 1 rfl) ?_
  refine va_get (D := G) (ci := 5) (v := .int p1_stopPart) (C := RX5) (T := TX5) (N := 7) hx hb hts iwX5_copyFrom_X5 hown hK hP 16 rfl rfl 5 (by decide) k10 (fun _ h9 => h9) rfl dX5_copyFrom_58 ?_
  refine va_put (D := G) (ci := 5) (v := .int p1_stopPart) (ty := .int) (C := RX5) (T := TX5) (N := 7) hx hb hts iwX5_copyFrom_X5 tyX5 tyX5_ok nmX5 hown hK hP hD hS 0 rfl rfl 5 (by decide) k10 (fun _ h9 => h9) rfl (by decide +kernel) rfl rfl (Nat.le_of_ble_eq_true rfl) dX5_copyFrom_61 (fun H locs hP hD hS => ?_)
  have hP : va_P G vwCl [(a_t, .inr (5, [.ref a_t_links, .ref a_t_waiting, .ref a_t_arrivals, .ref a_t_lostTimes, .int p1_went, .int p1_stopPart, .int t_stopReason])), (a_t_links, .inr (2, [.ref a_t_links_meanings, .ref a_t_links_ears, .ref a_t_links_fees, .ref a_t_links_missed, .ref a_t_links_paid, .ref a_t_links_losses])), (a_t_links_meanings, .inl (cI, 180, .inl u1.1)), (a_t_links_ears, .inl (cI, 6, .inl u1.2.1)), (a_t_links_fees, .inl (cI, 6, .inl u1.2.2.1)), (a_t_links_missed, .inl (cI, 6, .inl u1.2.2.2.1)), (a_t_links_paid, .inl (cI, 6, .inl u1.2.2.2.2.1)), (a_t_links_losses, .inl (cI, 6, .inl u1.2.2.2.2.2)), (a_t_waiting, .inr (7, [.ref a_t_waiting_words, .ref a_t_waiting_lengths, .ref a_t_waiting_urgencies, .int u2.1])), (a_t_waiting_words, .inl (cI, 96, .inl u2.2.1)), (a_t_waiting_lengths, .inl (cI, 8, .inl u2.2.2.1)), (a_t_waiting_urgencies, .inl (cI, 8, .inl u2.2.2.2)), (a_t_arrivals, .inr (0, [.ref a_t_arrivals_words, .ref a_t_arrivals_facts, .int u3.1])), (a_t_arrivals_words, .inl (cI, 72, .inl u3.2.1)), (a_t_arrivals_facts, .inl (cI, 36, .inl u3.2.2)), (a_t_lostTimes, .inl (cI, 30, .inl f4)), (a_p1, .inr (5, [.ref a_p1_links, .ref a_p1_waiting, .ref a_p1_arrivals, .ref a_p1_lostTimes, .int p1_went, .int p1_stopPart, .int p1_stopReason])), (a_p1_links, .inr (2, [.ref a_p1_links_meanings, .ref a_p1_links_ears, .ref a_p1_links_fees, .ref a_p1_links_missed, .ref a_p1_links_paid, .ref a_p1_links_losses])), (a_p1_links_meanings, .inl (cI, 180, .inl p1_links_meanings)), (a_p1_links_ears, .inl (cI, 6, .inl p1_links_ears)), (a_p1_links_fees, .inl (cI, 6, .inl p1_links_fees)), (a_p1_links_missed, .inl (cI, 6, .inl p1_links_missed)), (a_p1_links_paid, .inl (cI, 6, .inl p1_links_paid)), (a_p1_links_losses, .inl (cI, 6, .inl p1_links_losses)), (a_p1_waiting, .inr (7, [.ref a_p1_waiting_words, .ref a_p1_waiting_lengths, .ref a_p1_waiting_urgencies, .int p1_waiting_size])), (a_p1_waiting_words, .inl (cI, 96, .inl p1_waiting_words)), (a_p1_waiting_lengths, .inl (cI, 8, .inl p1_waiting_lengths)), (a_p1_waiting_urgencies, .inl (cI, 8, .inl p1_waiting_urgencies)), (a_p1_arrivals, .inr (0, [.ref a_p1_arrivals_words, .ref a_p1_arrivals_facts, .int p1_arrivals_size])), (a_p1_arrivals_words, .inl (cI, 72, .inl p1_arrivals_words)), (a_p1_arrivals_facts, .inl (cI, 36, .inl p1_arrivals_facts)), (a_p1_lostTimes, .inl (cI, 30, .inl p1_lostTimes))] H := hP
  have hD : va_D A [(a_t, .inr (5, [.ref a_t_links, .ref a_t_waiting, .ref a_t_arrivals, .ref a_t_lostTimes, .int p1_went, .int p1_stopPart, .int t_stopReason])), (a_t_links, .inr (2, [.ref a_t_links_meanings, .ref a_t_links_ears, .ref a_t_links_fees, .ref a_t_links_missed, .ref a_t_links_paid, .ref a_t_links_losses])), (a_t_links_meanings, .inl (cI, 180, .inl u1.1)), (a_t_links_ears, .inl (cI, 6, .inl u1.2.1)), (a_t_links_fees, .inl (cI, 6, .inl u1.2.2.1)), (a_t_links_missed, .inl (cI, 6, .inl u1.2.2.2.1)), (a_t_links_paid, .inl (cI, 6, .inl u1.2.2.2.2.1)), (a_t_links_losses, .inl (cI, 6, .inl u1.2.2.2.2.2)), (a_t_waiting, .inr (7, [.ref a_t_waiting_words, .ref a_t_waiting_lengths, .ref a_t_waiting_urgencies, .int u2.1])), (a_t_waiting_words, .inl (cI, 96, .inl u2.2.1)), (a_t_waiting_lengths, .inl (cI, 8, .inl u2.2.2.1)), (a_t_waiting_urgencies, .inl (cI, 8, .inl u2.2.2.2)), (a_t_arrivals, .inr (0, [.ref a_t_arrivals_words, .ref a_t_arrivals_facts, .int u3.1])), (a_t_arrivals_words, .inl (cI, 72, .inl u3.2.1)), (a_t_arrivals_facts, .inl (cI, 36, .inl u3.2.2)), (a_t_lostTimes, .inl (cI, 30, .inl f4)), (a_p1, .inr (5, [.ref a_p1_links, .ref a_p1_waiting, .ref a_p1_arrivals, .ref a_p1_lostTimes, .int p1_went, .int p1_stopPart, .int p1_stopReason])), (a_p1_links, .inr (2, [.ref a_p1_links_meanings, .ref a_p1_links_ears, .ref a_p1_links_fees, .ref a_p1_links_missed, .ref a_p1_links_paid, .ref a_p1_links_losses])), (a_p1_links_meanings, .inl (cI, 180, .inl p1_links_meanings)), (a_p1_links_ears, .inl (cI, 6, .inl p1_links_ears)), (a_p1_links_fees, .inl (cI, 6, .inl p1_links_fees)), (a_p1_links_missed, .inl (cI, 6, .inl p1_links_missed)), (a_p1_links_paid, .inl (cI, 6, .inl p1_links_paid)), (a_p1_links_losses, .inl (cI, 6, .inl p1_links_losses)), (a_p1_waiting, .inr (7, [.ref a_p1_waiting_words, .ref a_p1_waiting_lengths, .ref a_p1_waiting_urgencies, .int p1_waiting_size])), (a_p1_waiting_words, .inl (cI, 96, .inl p1_waiting_words)), (a_p1_waiting_lengths, .inl (cI, 8, .inl p1_waiting_lengths)), (a_p1_waiting_urgencies, .inl (cI, 8, .inl p1_waiting_urgencies)), (a_p1_arrivals, .inr (0, [.ref a_p1_arrivals_words, .ref a_p1_arrivals_facts, .int p1_arrivals_size])), (a_p1_arrivals_words, .inl (cI, 72, .inl p1_arrivals_words)), (a_p1_arrivals_facts, .inl (cI, 36, .inl p1_arrivals_facts)), (a_p1_lostTimes, .inl (cI, 30, .inl p1_lostTimes))] := hD
  refine lv_aload_n hx hb dX5_copyFrom_64 rfl (lv_at hl 0 rfl) ?_
  refine lv_aload_n hx hb dX5_copyFrom_65 rfl (lv_at hl 1 rfl) ?_
  refine va_get (D := G) (ci := 5) (v := .int p1_stopReason) (C := RX5) (T := TX5) (N := 7) hx hb hts iwX5_copyFrom_X5 hown hK hP 16 rfl rfl 6 (by decide) k11 (fun _ h9 => h9) rfl dX5_copyFrom_66 ?_
  refine va_put (D := G) (ci := 5) (v := .int p1_stopReason) (ty := .int) (C := RX5) (T := TX5) (N := 7) hx hb hts iwX5_copyFrom_X5 tyX5 tyX5_ok nmX5 hown hK hP hD hS 0 rfl rfl 6 (by decide) k11 (fun _ h9 => h9) rfl (by decide +kernel) rfl rfl (Nat.le_of_ble_eq_true rfl) dX5_copyFrom_69 (fun H locs hP hD hS => ?_)
  have hP : va_P G vwCl [(a_t, .inr (5, [.ref a_t_links, .ref a_t_waiting, .ref a_t_arrivals, .ref a_t_lostTimes, .int p1_went, .int p1_stopPart, .int p1_stopReason])), (a_t_links, .inr (2, [.ref a_t_links_meanings, .ref a_t_links_ears, .ref a_t_links_fees, .ref a_t_links_missed, .ref a_t_links_paid, .ref a_t_links_losses])), (a_t_links_meanings, .inl (cI, 180, .inl u1.1)), (a_t_links_ears, .inl (cI, 6, .inl u1.2.1)), (a_t_links_fees, .inl (cI, 6, .inl u1.2.2.1)), (a_t_links_missed, .inl (cI, 6, .inl u1.2.2.2.1)), (a_t_links_paid, .inl (cI, 6, .inl u1.2.2.2.2.1)), (a_t_links_losses, .inl (cI, 6, .inl u1.2.2.2.2.2)), (a_t_waiting, .inr (7, [.ref a_t_waiting_words, .ref a_t_waiting_lengths, .ref a_t_waiting_urgencies, .int u2.1])), (a_t_waiting_words, .inl (cI, 96, .inl u2.2.1)), (a_t_waiting_lengths, .inl (cI, 8, .inl u2.2.2.1)), (a_t_waiting_urgencies, .inl (cI, 8, .inl u2.2.2.2)), (a_t_arrivals, .inr (0, [.ref a_t_arrivals_words, .ref a_t_arrivals_facts, .int u3.1])), (a_t_arrivals_words, .inl (cI, 72, .inl u3.2.1)), (a_t_arrivals_facts, .inl (cI, 36, .inl u3.2.2)), (a_t_lostTimes, .inl (cI, 30, .inl f4)), (a_p1, .inr (5, [.ref a_p1_links, .ref a_p1_waiting, .ref a_p1_arrivals, .ref a_p1_lostTimes, .int p1_went, .int p1_stopPart, .int p1_stopReason])), (a_p1_links, .inr (2, [.ref a_p1_links_meanings, .ref a_p1_links_ears, .ref a_p1_links_fees, .ref a_p1_links_missed, .ref a_p1_links_paid, .ref a_p1_links_losses])), (a_p1_links_meanings, .inl (cI, 180, .inl p1_links_meanings)), (a_p1_links_ears, .inl (cI, 6, .inl p1_links_ears)), (a_p1_links_fees, .inl (cI, 6, .inl p1_links_fees)), (a_p1_links_missed, .inl (cI, 6, .inl p1_links_missed)), (a_p1_links_paid, .inl (cI, 6, .inl p1_links_paid)), (a_p1_links_losses, .inl (cI, 6, .inl p1_links_losses)), (a_p1_waiting, .inr (7, [.ref a_p1_waiting_words, .ref a_p1_waiting_lengths, .ref a_p1_waiting_urgencies, .int p1_waiting_size])), (a_p1_waiting_words, .inl (cI, 96, .inl p1_waiting_words)), (a_p1_waiting_lengths, .inl (cI, 8, .inl p1_waiting_lengths)), (a_p1_waiting_urgencies, .inl (cI, 8, .inl p1_waiting_urgencies)), (a_p1_arrivals, .inr (0, [.ref a_p1_arrivals_words, .ref a_p1_arrivals_facts, .int p1_arrivals_size])), (a_p1_arrivals_words, .inl (cI, 72, .inl p1_arrivals_words)), (a_p1_arrivals_facts, .inl (cI, 36, .inl p1_arrivals_facts)), (a_p1_lostTimes, .inl (cI, 30, .inl p1_lostTimes))] H := hP
  have hD : va_D A [(a_t, .inr (5, [.ref a_t_links, .ref a_t_waiting, .ref a_t_arrivals, .ref a_t_lostTimes, .int p1_went, .int p1_stopPart, .int p1_stopReason])), (a_t_links, .inr (2, [.ref a_t_links_meanings, .ref a_t_links_ears, .ref a_t_links_fees, .ref a_t_links_missed, .ref a_t_links_paid, .ref a_t_links_losses])), (a_t_links_meanings, .inl (cI, 180, .inl u1.1)), (a_t_links_ears, .inl (cI, 6, .inl u1.2.1)), (a_t_links_fees, .inl (cI, 6, .inl u1.2.2.1)), (a_t_links_missed, .inl (cI, 6, .inl u1.2.2.2.1)), (a_t_links_paid, .inl (cI, 6, .inl u1.2.2.2.2.1)), (a_t_links_losses, .inl (cI, 6, .inl u1.2.2.2.2.2)), (a_t_waiting, .inr (7, [.ref a_t_waiting_words, .ref a_t_waiting_lengths, .ref a_t_waiting_urgencies, .int u2.1])), (a_t_waiting_words, .inl (cI, 96, .inl u2.2.1)), (a_t_waiting_lengths, .inl (cI, 8, .inl u2.2.2.1)), (a_t_waiting_urgencies, .inl (cI, 8, .inl u2.2.2.2)), (a_t_arrivals, .inr (0, [.ref a_t_arrivals_words, .ref a_t_arrivals_facts, .int u3.1])), (a_t_arrivals_words, .inl (cI, 72, .inl u3.2.1)), (a_t_arrivals_facts, .inl (cI, 36, .inl u3.2.2)), (a_t_lostTimes, .inl (cI, 30, .inl f4)), (a_p1, .inr (5, [.ref a_p1_links, .ref a_p1_waiting, .ref a_p1_arrivals, .ref a_p1_lostTimes, .int p1_went, .int p1_stopPart, .int p1_stopReason])), (a_p1_links, .inr (2, [.ref a_p1_links_meanings, .ref a_p1_links_ears, .ref a_p1_links_fees, .ref a_p1_links_missed, .ref a_p1_links_paid, .ref a_p1_links_losses])), (a_p1_links_meanings, .inl (cI, 180, .inl p1_links_meanings)), (a_p1_links_ears, .inl (cI, 6, .inl p1_links_ears)), (a_p1_links_fees, .inl (cI, 6, .inl p1_links_fees)), (a_p1_links_missed, .inl (cI, 6, .inl p1_links_missed)), (a_p1_links_paid, .inl (cI, 6, .inl p1_links_paid)), (a_p1_links_losses, .inl (cI, 6, .inl p1_links_losses)), (a_p1_waiting, .inr (7, [.ref a_p1_waiting_words, .ref a_p1_waiting_lengths, .ref a_p1_waiting_urgencies, .int p1_waiting_size])), (a_p1_waiting_words, .inl (cI, 96, .inl p1_waiting_words)), (a_p1_waiting_lengths, .inl (cI, 8, .inl p1_waiting_lengths)), (a_p1_waiting_urgencies, .inl (cI, 8, .inl p1_waiting_urgencies)), (a_p1_arrivals, .inr (0, [.ref a_p1_arrivals_words, .ref a_p1_arrivals_facts, .int p1_arrivals_size])), (a_p1_arrivals_words, .inl (cI, 72, .inl p1_arrivals_words)), (a_p1_arrivals_facts, .inl (cI, 36, .inl p1_arrivals_facts)), (a_p1_lostTimes, .inl (cI, 30, .inl p1_lostTimes))] := hD
  obtain rfl := Option.some.inj hf
  exact mEnd_v () hx hb hr hlocks hP hK hD hS rfl (Nat.le_of_ble_eq_true rfl) (Nat.le_of_ble_eq_true rfl) dX5_copyFrom_72
def bX5_countLostWords_1 (t_links_meanings : Nat → Int32) (p1_length : Int32) (p1_words : Nat → Int32) (k : Nat → Int32 → (Nat → Int32) → Option ((Nat → Int32))) (x2 : Int32) (t_lostTimes : Nat → Int32) : Option ((Nat → Int32)) :=
  (if (30 : Int32) ≤ x2 then some (t_lostTimes) else ((fX4_hasWord x2 p1_length p1_words).bind fun (u2 : Int32) => (if u2 = 0 then k 1 (x2 + 1) t_lostTimes else ((fX2_lossOfWord x2 t_links_meanings).bind fun (u4 : Int32) => (if u4 = ((-1) : Int32) then k 1 (x2 + 1) t_lostTimes else (if x2 < 0 ∨ 30 ≤ x2.toNatClampNeg then none else (lt ((t_lostTimes x2.toNatClampNeg) + (1 : Int32)) fun (y7 : Int32) => (if x2 < 0 ∨ 30 ≤ x2.toNatClampNeg then none else (lt (upd t_lostTimes x2.toNatClampNeg y7) fun (f9 : Nat → Int32) => k 1 (x2 + 1) f9)))))))))
def sX5_countLostWords (t_links_meanings : Nat → Int32) (p1_length : Int32) (p1_words : Nat → Int32) (k : Nat → Int32 → (Nat → Int32) → Option ((Nat → Int32))) (b : Nat) (x2 : Int32) (t_lostTimes : Nat → Int32) : Option ((Nat → Int32)) := match b with
  | 1 => bX5_countLostWords_1 t_links_meanings p1_length p1_words k x2 t_lostTimes
  | _ => none
def rX5_countLostWords (t_links_meanings : Nat → Int32) (p1_length : Int32) (p1_words : Nat → Int32) : Nat → Nat → Int32 → (Nat → Int32) → Option ((Nat → Int32))
  | 0 => fun _ _ _ => none
  | n + 1 => sX5_countLostWords t_links_meanings p1_length p1_words (rX5_countLostWords t_links_meanings p1_length p1_words n)
def eX5_countLostWords (t_links_meanings : Nat → Int32) (t_lostTimes : Nat → Int32) (p1_length : Int32) (p1_words : Nat → Int32) (k : Nat → Int32 → (Nat → Int32) → Option ((Nat → Int32))) : Option ((Nat → Int32)) :=
  k 1 (0 : Int32) t_lostTimes
def fX5_countLostWords (t_links_meanings : Nat → Int32) (t_lostTimes : Nat → Int32) (p1_length : Int32) (p1_words : Nat → Int32) : Option ((Nat → Int32)) := eX5_countLostWords t_links_meanings t_lostTimes p1_length p1_words (rX5_countLostWords t_links_meanings p1_length p1_words fuelN)
theorem iwX5_countLostWords_X5 : ∀ w ∈ u_ws RX5 TX5 7, w ∈ wsX5_countLostWords := by decide +kernel
set_option maxHeartbeats 4000000 in
set_option maxRecDepth 100000 in
theorem mX5_countLostWords (l : Launch) (G : va_G) (cI : ClassId) (a_t a_t_links a_t_links_meanings a_t_lostTimes a_p1 a_p1_words : Nat) (sz : Nat) (vt_waiting vt_arrivals vt_links_ears vt_links_fees vt_links_missed vt_links_paid vt_links_losses : Value) (t_went : Int32) (t_stopPart : Int32) (t_stopReason : Int32) (t_links_meanings : Nat → Int32) (t_lostTimes : Nat → Int32) (p1_length : Int32) (p1_urgency : Int32) (p1_words : Nat → Int32)  (res : (Nat → Int32)) (hf : fX5_countLostWords t_links_meanings t_lostTimes p1_length p1_words = some res) : Met l yX5_countLostWords wsX5_countLostWords ({ frames := 3, cells := 0, slots := 0, locals := 69 }) (mPc G [(cI, .int)] [.ref a_t, .ref a_p1] sz [(a_t, .inr (5, [.ref a_t_links, vt_waiting, vt_arrivals, .ref a_t_lostTimes, .int t_went, .int t_stopPart, .int t_stopReason])), (a_t_links, .inr (2, [.ref a_t_links_meanings, vt_links_ears, vt_links_fees, vt_links_missed, vt_links_paid, vt_links_losses])), (a_t_links_meanings, .inl (cI, 180, .inl t_links_meanings)), (a_t_lostTimes, .inl (cI, 30, .inl t_lostTimes)), (a_p1, .inr (4, [.ref a_p1_words, .int p1_length, .int p1_urgency])), (a_p1_words, .inl (cI, 12, .inl p1_words))]) (mQv G [(cI, .int)] (va_A [(a_t, .inr (5, [.ref a_t_links, vt_waiting, vt_arrivals, .ref a_t_lostTimes, .int t_went, .int t_stopPart, .int t_stopReason])), (a_t_links, .inr (2, [.ref a_t_links_meanings, vt_links_ears, vt_links_fees, vt_links_missed, vt_links_paid, vt_links_losses])), (a_t_links_meanings, .inl (cI, 180, .inl t_links_meanings)), (a_t_lostTimes, .inl (cI, 30, .inl t_lostTimes)), (a_p1, .inr (4, [.ref a_p1_words, .int p1_length, .int p1_urgency])), (a_p1_words, .inl (cI, 12, .inl p1_words))] sz) (fun u9 : Unit => [(a_t, .inr (5, [.ref a_t_links, vt_waiting, vt_arrivals, .ref a_t_lostTimes, .int t_went, .int t_stopPart, .int t_stopReason])), (a_t_links, .inr (2, [.ref a_t_links_meanings, vt_links_ears, vt_links_fees, vt_links_missed, vt_links_paid, vt_links_losses])), (a_t_links_meanings, .inl (cI, 180, .inl t_links_meanings)), (a_t_lostTimes, .inl (cI, 30, .inl res)), (a_p1, .inr (4, [.ref a_p1_words, .int p1_length, .int p1_urgency])), (a_p1_words, .inl (cI, 12, .inl p1_words))])) 0 0 (va_A [(a_t, .inr (5, [.ref a_t_links, vt_waiting, vt_arrivals, .ref a_t_lostTimes, .int t_went, .int t_stopPart, .int t_stopReason])), (a_t_links, .inr (2, [.ref a_t_links_meanings, vt_links_ears, vt_links_fees, vt_links_missed, vt_links_paid, vt_links_losses])), (a_t_links_meanings, .inl (cI, 180, .inl t_links_meanings)), (a_t_lostTimes, .inl (cI, 30, .inl t_lostTimes)), (a_p1, .inr (4, [.ref a_p1_words, .int p1_length, .int p1_urgency])), (a_p1_words, .inl (cI, 12, .inl p1_words))] sz) := by
  refine mStart (cc := cX5_countLostWords) (maxL := 3) (ret := none) (by decide) rfl (Nat.le_of_ble_eq_true rfl) ?_
  intro p e s m below meth c A ls hx hb hml hr hts hown hlocks hnm hA hsz hAe hP hK hD hS hl
  have hl : lv_has ls 3 [(0, .ref a_t), (1, .ref a_p1)] := hl
  rw [hAe]
  have k1 := hts (.fieldLink RX5 12 "DeafChain$State" "links" "LDeafChain$Links;") (by decide +kernel)
  have k2 := hts (.fieldLink RX5 32 "DeafChain$State" "lostTimes" "[I") (by decide +kernel)
  have key : ∀ n : Nat, (∀ (x2 : Int32) (t_lostTimes : Nat → Int32) (H : Heap) (locs : List Loc) (hf : rX5_countLostWords t_links_meanings p1_length p1_words n 1 x2 t_lostTimes = some res) (hP : va_P G vwCl [(a_t, .inr (5, [.ref a_t_links, vt_waiting, vt_arrivals, .ref a_t_lostTimes, .int t_went, .int t_stopPart, .int t_stopReason])), (a_t_links, .inr (2, [.ref a_t_links_meanings, vt_links_ears, vt_links_fees, vt_links_missed, vt_links_paid, vt_links_losses])), (a_t_links_meanings, .inl (cI, 180, .inl t_links_meanings)), (a_t_lostTimes, .inl (cI, 30, .inl t_lostTimes)), (a_p1, .inr (4, [.ref a_p1_words, .int p1_length, .int p1_urgency])), (a_p1_words, .inl (cI, 12, .inl p1_words))] H) (hD : va_D A [(a_t, .inr (5, [.ref a_t_links, vt_waiting, vt_arrivals, .ref a_t_lostTimes, .int t_went, .int t_stopPart, .int t_stopReason])), (a_t_links, .inr (2, [.ref a_t_links_meanings, vt_links_ears, vt_links_fees, vt_links_missed, vt_links_paid, vt_links_losses])), (a_t_links_meanings, .inl (cI, 180, .inl t_links_meanings)), (a_t_lostTimes, .inl (cI, 30, .inl t_lostTimes)), (a_p1, .inr (4, [.ref a_p1_words, .int p1_length, .int p1_urgency])), (a_p1_words, .inl (cI, 12, .inl p1_words))]) (hS : va_S A s.heap H locs) (ls : Array Slot) (hl : lv_has ls 3 [(0, .ref a_t), (1, .ref a_p1), (2, .int x2)]), W p l e ({ frames := 3, cells := 0, slots := 0, locals := 69 } : Room) s m ([.ref a_t, .ref a_p1] : List Value).toArray below meth c H locs 0 0 (MQ below (mQv G [(cI, .int)] A (fun u9 : Unit => [(a_t, .inr (5, [.ref a_t_links, vt_waiting, vt_arrivals, .ref a_t_lostTimes, .int t_went, .int t_stopPart, .int t_stopReason])), (a_t_links, .inr (2, [.ref a_t_links_meanings, vt_links_ears, vt_links_fees, vt_links_missed, vt_links_paid, vt_links_losses])), (a_t_links_meanings, .inl (cI, 180, .inl t_links_meanings)), (a_t_lostTimes, .inl (cI, 30, .inl res)), (a_p1, .inr (4, [.ref a_p1_words, .int p1_length, .int p1_urgency])), (a_p1_words, .inl (cI, 12, .inl p1_words))])) ([.ref a_t, .ref a_p1] : List Value).toArray s 0 0 A) (F0 m 2 ls [])) := by
    intro n
    induction n with
    | zero => exact (fun _ _ H locs hf => (by cases hf))
    | succ n ih =>
      · intro  x2 t_lostTimes H locs hf hP hD hS ls hl
        replace hf : bX5_countLostWords_1 t_links_meanings p1_length p1_words (rX5_countLostWords t_links_meanings p1_length p1_words n) x2 t_lostTimes = some res := hf
        unfold bX5_countLostWords_1 at hf
        refine lv_iload_n hx hb dX5_countLostWords_2 rfl (lv_at hl 2 rfl) ?_
        refine lv_bipush (v := 30) hx hb dX5_countLostWords_3 (by decide) ?_
        refine lv_icmp_ge (tgt := 44) hx hb dX5_countLostWords_5 (by decide) (fun c1 => ?_) (fun c1 => ?_)
        · have hf := pf_t hf c1
          obtain rfl := Option.some.inj hf
          exact mEnd_v () hx hb hr hlocks hP hK hD hS rfl (Nat.le_of_ble_eq_true rfl) (Nat.le_of_ble_eq_true rfl) dX5_countLostWords_44
        · have hf := pf_f hf c1
          refine lv_aload_n hx hb dX5_countLostWords_8 rfl (lv_at hl 1 rfl) ?_
          refine lv_iload_n hx hb dX5_countLostWords_9 rfl (lv_at hl 2 rfl) ?_
          obtain ⟨u2, hu2, hf⟩ := pf_b hf
          refine mCallV_i (As := [.int x2]) ⟨hx, hb, hml, hown, hts⟩ (mX4_hasWord l G cI a_p1 a_p1_words H.size p1_length p1_urgency p1_words x2 _ hu2) (cwV 1 hts gX5_countLostWords_X4_hasWord rfl rfl rfl (by decide +kernel) ⟨Nat.le_of_ble_eq_true rfl, Nat.le_of_ble_eq_true rfl⟩) hP hD hS hA hK [4, 5] rfl (by decide) 4 4 rfl rfl rfl hK [a_p1, a_p1_words] (fun _ => rfl) rfl (fun _ => [(a_t, .inr (5, [.ref a_t_links, vt_waiting, vt_arrivals, .ref a_t_lostTimes, .int t_went, .int t_stopPart, .int t_stopReason])), (a_t_links, .inr (2, [.ref a_t_links_meanings, vt_links_ears, vt_links_fees, vt_links_missed, vt_links_paid, vt_links_losses])), (a_t_links_meanings, .inl (cI, 180, .inl t_links_meanings)), (a_t_lostTimes, .inl (cI, 30, .inl t_lostTimes)), (a_p1, .inr (4, [.ref a_p1_words, .int p1_length, .int p1_urgency])), (a_p1_words, .inl (cI, 12, .inl p1_words))]) [a_t, a_t_links, a_t_links_meanings, a_t_lostTimes, a_p1, a_p1_words] (fun _ => rfl) rfl (fun _ => rfl) [0, 1, 2, 3] [(a_t, .inr (5, [.ref a_t_links, vt_waiting, vt_arrivals, .ref a_t_lostTimes, .int t_went, .int t_stopPart, .int t_stopReason])), (a_t_links, .inr (2, [.ref a_t_links_meanings, vt_links_ears, vt_links_fees, vt_links_missed, vt_links_paid, vt_links_losses])), (a_t_links_meanings, .inl (cI, 180, .inl t_links_meanings)), (a_t_lostTimes, .inl (cI, 30, .inl t_lostTimes))] (fun _ => rfl) rfl 6 rfl rfl rfl hl.1 rfl (lv_room (Nat.le_of_ble_eq_true rfl)) dX5_countLostWords_10 ⟨Nat.zero_le _, Nat.zero_le _⟩ (fun _ H locs hP hD hS => ?_)
          have hP : va_P G vwCl [(a_t, .inr (5, [.ref a_t_links, vt_waiting, vt_arrivals, .ref a_t_lostTimes, .int t_went, .int t_stopPart, .int t_stopReason])), (a_t_links, .inr (2, [.ref a_t_links_meanings, vt_links_ears, vt_links_fees, vt_links_missed, vt_links_paid, vt_links_losses])), (a_t_links_meanings, .inl (cI, 180, .inl t_links_meanings)), (a_t_lostTimes, .inl (cI, 30, .inl t_lostTimes)), (a_p1, .inr (4, [.ref a_p1_words, .int p1_length, .int p1_urgency])), (a_p1_words, .inl (cI, 12, .inl p1_words))] H := hP
          have hD : va_D A [(a_t, .inr (5, [.ref a_t_links, vt_waiting, vt_arrivals, .ref a_t_lostTimes, .int t_went, .int t_stopPart, .int t_stopReason])), (a_t_links, .inr (2, [.ref a_t_links_meanings, vt_links_ears, vt_links_fees, vt_links_missed, vt_links_paid, vt_links_losses])), (a_t_links_meanings, .inl (cI, 180, .inl t_links_meanings)), (a_t_lostTimes, .inl (cI, 30, .inl t_lostTimes)), (a_p1, .inr (4, [.ref a_p1_words, .int p1_length, .int p1_urgency])), (a_p1_words, .inl (cI, 12, .inl p1_words))] := hD
          refine lv_if_eq (tgt := 38) hx hb dX5_countLostWords_13 (by decide) (fun c3 => ?_) (fun c3 => ?_)
          · have hf := pf_t hf c3
            refine lv_iinc (v := x2 + 1) (lv' := [(2, .int (x2 + 1)), (0, .ref a_t), (1, .ref a_p1)]) hx hb dX5_countLostWords_38 hl (k := 2) rfl rfl (by decide) rfl (fun ls hl => ?_)
            refine lv_goto (tgt := 2) hx hb dX5_countLostWords_41 (by decide) ?_
            exact ih (x2 + 1) t_lostTimes H locs hf hP hD hS ls (lv_sub hl [1, 2, 0] rfl)
          · have hf := pf_f hf c3
            refine lv_aload_n hx hb dX5_countLostWords_16 rfl (lv_at hl 0 rfl) ?_
            refine va_get (D := G) (ci := 5) (v := .ref a_t_links) (C := RX5) (T := TX5) (N := 7) hx hb hts iwX5_countLostWords_X5 hown hK hP 0 rfl rfl 0 (by decide) k1 (fun _ h9 => h9) rfl dX5_countLostWords_17 ?_
            refine lv_iload_n hx hb dX5_countLostWords_20 rfl (lv_at hl 2 rfl) ?_
            obtain ⟨u4, hu4, hf⟩ := pf_b hf
            refine mCallV_i (As := [.int x2]) ⟨hx, hb, hml, hown, hts⟩ (mX2_lossOfWord l G cI a_t_links a_t_links_meanings H.size vt_links_ears vt_links_fees vt_links_missed vt_links_paid vt_links_losses t_links_meanings x2 _ hu4) (cwV 1 hts gX5_countLostWords_X2_lossOfWord rfl rfl rfl (by decide +kernel) ⟨Nat.le_of_ble_eq_true rfl, Nat.le_of_ble_eq_true rfl⟩) hP hD hS hA hK [1, 2] rfl (by decide) 1 2 rfl rfl rfl hK [a_t_links, a_t_links_meanings] (fun _ => rfl) rfl (fun _ => [(a_t, .inr (5, [.ref a_t_links, vt_waiting, vt_arrivals, .ref a_t_lostTimes, .int t_went, .int t_stopPart, .int t_stopReason])), (a_t_links, .inr (2, [.ref a_t_links_meanings, vt_links_ears, vt_links_fees, vt_links_missed, vt_links_paid, vt_links_losses])), (a_t_links_meanings, .inl (cI, 180, .inl t_links_meanings)), (a_t_lostTimes, .inl (cI, 30, .inl t_lostTimes)), (a_p1, .inr (4, [.ref a_p1_words, .int p1_length, .int p1_urgency])), (a_p1_words, .inl (cI, 12, .inl p1_words))]) [a_t, a_t_links, a_t_links_meanings, a_t_lostTimes, a_p1, a_p1_words] (fun _ => rfl) rfl (fun _ => rfl) [0, 3, 4, 5] [(a_t, .inr (5, [.ref a_t_links, vt_waiting, vt_arrivals, .ref a_t_lostTimes, .int t_went, .int t_stopPart, .int t_stopReason])), (a_t_lostTimes, .inl (cI, 30, .inl t_lostTimes)), (a_p1, .inr (4, [.ref a_p1_words, .int p1_length, .int p1_urgency])), (a_p1_words, .inl (cI, 12, .inl p1_words))] (fun _ => rfl) rfl 6 rfl rfl rfl hl.1 rfl (lv_room (Nat.le_of_ble_eq_true rfl)) dX5_countLostWords_21 ⟨Nat.zero_le _, Nat.zero_le _⟩ (fun _ H locs hP hD hS => ?_)
            have hP : va_P G vwCl [(a_t, .inr (5, [.ref a_t_links, vt_waiting, vt_arrivals, .ref a_t_lostTimes, .int t_went, .int t_stopPart, .int t_stopReason])), (a_t_links, .inr (2, [.ref a_t_links_meanings, vt_links_ears, vt_links_fees, vt_links_missed, vt_links_paid, vt_links_losses])), (a_t_links_meanings, .inl (cI, 180, .inl t_links_meanings)), (a_t_lostTimes, .inl (cI, 30, .inl t_lostTimes)), (a_p1, .inr (4, [.ref a_p1_words, .int p1_length, .int p1_urgency])), (a_p1_words, .inl (cI, 12, .inl p1_words))] H := hP
            have hD : va_D A [(a_t, .inr (5, [.ref a_t_links, vt_waiting, vt_arrivals, .ref a_t_lostTimes, .int t_went, .int t_stopPart, .int t_stopReason])), (a_t_links, .inr (2, [.ref a_t_links_meanings, vt_links_ears, vt_links_fees, vt_links_missed, vt_links_paid, vt_links_losses])), (a_t_links_meanings, .inl (cI, 180, .inl t_links_meanings)), (a_t_lostTimes, .inl (cI, 30, .inl t_lostTimes)), (a_p1, .inr (4, [.ref a_p1_words, .int p1_length, .int p1_urgency])), (a_p1_words, .inl (cI, 12, .inl p1_words))] := hD
            refine lv_iconst (v := (-1)) hx hb dX5_countLostWords_24 (by decide) ?_
            refine lv_icmp_eq (tgt := 38) hx hb dX5_countLostWords_25 (by decide) (fun c5 => ?_) (fun c5 => ?_)
            · have hf := pf_t hf c5
              refine lv_iinc (v := x2 + 1) (lv' := [(2, .int (x2 + 1)), (0, .ref a_t), (1, .ref a_p1)]) hx hb dX5_countLostWords_38 hl (k := 2) rfl rfl (by decide) rfl (fun ls hl => ?_)
              refine lv_goto (tgt := 2) hx hb dX5_countLostWords_41 (by decide) ?_
              exact ih (x2 + 1) t_lostTimes H locs hf hP hD hS ls (lv_sub hl [1, 2, 0] rfl)
            · have hf := pf_f hf c5
              refine lv_aload_n hx hb dX5_countLostWords_28 rfl (lv_at hl 0 rfl) ?_
              refine va_get (D := G) (ci := 5) (v := .ref a_t_lostTimes) (C := RX5) (T := TX5) (N := 7) hx hb hts iwX5_countLostWords_X5 hown hK hP 0 rfl rfl 3 (by decide) k2 (fun _ h9 => h9) rfl dX5_countLostWords_29 ?_
              refine lv_iload_n hx hb dX5_countLostWords_32 rfl (lv_at hl 2 rfl) ?_
              refine lv_dup2_11 hx hb dX5_countLostWords_33 rfl rfl ?_
              obtain ⟨q6, hf⟩ := pf_k hf
              refine va_iald hx hb hK hP 3 0 rfl rfl q6 dX5_countLostWords_34 ?_
              refine lv_iconst (v := 1) hx hb dX5_countLostWords_35 (by decide) ?_
              refine lv_iadd hx hb dX5_countLostWords_36 ?_
              refine lv_topi (fun y7 ey7 => ?_)
              have hf := pf_l hf y7 ey7
              obtain ⟨q8, hf⟩ := pf_k hf
              refine va_iast hx hb hK hP hD hS 3 0 rfl rfl q8 dX5_countLostWords_37 (fun H locs hP hD hS => ?_)
              obtain ⟨f9, ef9⟩ : ∃ z : Nat → Int32, z = upd t_lostTimes x2.toNatClampNeg y7 := ⟨_, rfl⟩
              have hf := pf_l hf f9 ef9
              have hP : va_P G vwCl [(a_t, .inr (5, [.ref a_t_links, vt_waiting, vt_arrivals, .ref a_t_lostTimes, .int t_went, .int t_stopPart, .int t_stopReason])), (a_t_links, .inr (2, [.ref a_t_links_meanings, vt_links_ears, vt_links_fees, vt_links_missed, vt_links_paid, vt_links_losses])), (a_t_links_meanings, .inl (cI, 180, .inl t_links_meanings)), (a_t_lostTimes, .inl (cI, 30, .inl f9)), (a_p1, .inr (4, [.ref a_p1_words, .int p1_length, .int p1_urgency])), (a_p1_words, .inl (cI, 12, .inl p1_words))] H := by rw [ef9]; exact hP
              have hD : va_D A [(a_t, .inr (5, [.ref a_t_links, vt_waiting, vt_arrivals, .ref a_t_lostTimes, .int t_went, .int t_stopPart, .int t_stopReason])), (a_t_links, .inr (2, [.ref a_t_links_meanings, vt_links_ears, vt_links_fees, vt_links_missed, vt_links_paid, vt_links_losses])), (a_t_links_meanings, .inl (cI, 180, .inl t_links_meanings)), (a_t_lostTimes, .inl (cI, 30, .inl f9)), (a_p1, .inr (4, [.ref a_p1_words, .int p1_length, .int p1_urgency])), (a_p1_words, .inl (cI, 12, .inl p1_words))] := by rw [ef9]; exact hD
              refine lv_iinc (v := x2 + 1) (lv' := [(2, .int (x2 + 1)), (0, .ref a_t), (1, .ref a_p1)]) hx hb dX5_countLostWords_38 hl (k := 2) rfl rfl (by decide) rfl (fun ls hl => ?_)
              refine lv_goto (tgt := 2) hx hb dX5_countLostWords_41 (by decide) ?_
              exact ih (x2 + 1) f9 H locs hf hP hD hS ls (lv_sub hl [1, 2, 0] rfl)
  unfold fX5_countLostWords eX5_countLostWords at hf
  obtain ⟨H, hH⟩ : ∃ H : Heap, H = s.heap := ⟨_, rfl⟩
  obtain ⟨locs, hlc⟩ : ∃ z : List Loc, z = [] := ⟨_, rfl⟩
  rw [← hlc, ← hH]
  have hP : va_P G vwCl [(a_t, .inr (5, [.ref a_t_links, vt_waiting, vt_arrivals, .ref a_t_lostTimes, .int t_went, .int t_stopPart, .int t_stopReason])), (a_t_links, .inr (2, [.ref a_t_links_meanings, vt_links_ears, vt_links_fees, vt_links_missed, vt_links_paid, vt_links_losses])), (a_t_links_meanings, .inl (cI, 180, .inl t_links_meanings)), (a_t_lostTimes, .inl (cI, 30, .inl t_lostTimes)), (a_p1, .inr (4, [.ref a_p1_words, .int p1_length, .int p1_urgency])), (a_p1_words, .inl (cI, 12, .inl p1_words))] H := by rw [hH]; exact hP
  have hS : va_S A s.heap H locs := by rw [hlc, hH]; exact hS
  refine lv_iconst (v := 0) hx hb dX5_countLostWords_0 (by decide) ?_
  refine lv_istore_n (lv' := [(2, .int 0), (0, .ref a_t), (1, .ref a_p1)]) hx hb dX5_countLostWords_1 rfl hl (by decide) rfl (fun ls hl => ?_)
  exact (key fuelN) (0 : Int32) t_lostTimes H locs hf hP hD hS ls (lv_sub hl [1, 2, 0] rfl)
def bX5_wordsLostBefore_1 (p1 : Int32) (t_lostTimes : Nat → Int32) (k : Nat → Int32 → Int32 → Option (Int32)) (x2 : Int32) (x3 : Int32) : Option (Int32) :=
  (if (30 : Int32) ≤ x3 then some (x2) else (if x3 < 0 ∨ 30 ≤ x3.toNatClampNeg then none else (if p1 < 0 ∨ 30 ≤ p1.toNatClampNeg then none else (lt ((t_lostTimes x3.toNatClampNeg) - (t_lostTimes p1.toNatClampNeg)) fun (y4 : Int32) => (if 0 < y4 then k 1 (x2 + 1) (x3 + 1) else (if y4 = 0 then (if p1 ≤ x3 then k 1 x2 (x3 + 1) else k 1 (x2 + 1) (x3 + 1)) else k 1 x2 (x3 + 1)))))))
def sX5_wordsLostBefore (p1 : Int32) (t_lostTimes : Nat → Int32) (k : Nat → Int32 → Int32 → Option (Int32)) (b : Nat) (x2 : Int32) (x3 : Int32) : Option (Int32) := match b with
  | 1 => bX5_wordsLostBefore_1 p1 t_lostTimes k x2 x3
  | _ => none
def rX5_wordsLostBefore (p1 : Int32) (t_lostTimes : Nat → Int32) : Nat → Nat → Int32 → Int32 → Option (Int32)
  | 0 => fun _ _ _ => none
  | n + 1 => sX5_wordsLostBefore p1 t_lostTimes (rX5_wordsLostBefore p1 t_lostTimes n)
def eX5_wordsLostBefore (p1 : Int32) (t_lostTimes : Nat → Int32) (k : Nat → Int32 → Int32 → Option (Int32)) : Option (Int32) :=
  k 1 (0 : Int32) (0 : Int32)
def fX5_wordsLostBefore (p1 : Int32) (t_lostTimes : Nat → Int32) : Option (Int32) := eX5_wordsLostBefore p1 t_lostTimes (rX5_wordsLostBefore p1 t_lostTimes fuelN)
theorem iwX5_wordsLostBefore_X5 : ∀ w ∈ u_ws RX5 TX5 7, w ∈ wsX5_wordsLostBefore := by decide +kernel
set_option maxHeartbeats 4000000 in
set_option maxRecDepth 100000 in
theorem mX5_wordsLostBefore (l : Launch) (G : va_G) (cI : ClassId) (a_t a_t_lostTimes : Nat) (sz : Nat) (vt_links vt_waiting vt_arrivals : Value) (t_went : Int32) (t_stopPart : Int32) (t_stopReason : Int32) (t_lostTimes : Nat → Int32) (p1 : Int32) (res : Int32) (hf : fX5_wordsLostBefore p1 t_lostTimes = some res) : Met l yX5_wordsLostBefore wsX5_wordsLostBefore ({ frames := 0, cells := 0, slots := 0, locals := 0 }) (mPc G [(cI, .int)] [.ref a_t, .int p1] sz [(a_t, .inr (5, [vt_links, vt_waiting, vt_arrivals, .ref a_t_lostTimes, .int t_went, .int t_stopPart, .int t_stopReason])), (a_t_lostTimes, .inl (cI, 30, .inl t_lostTimes))]) (mQi G [(cI, .int)] (va_A [(a_t, .inr (5, [vt_links, vt_waiting, vt_arrivals, .ref a_t_lostTimes, .int t_went, .int t_stopPart, .int t_stopReason])), (a_t_lostTimes, .inl (cI, 30, .inl t_lostTimes))] sz) (fun _ : Unit => res) (fun _ => [(a_t, .inr (5, [vt_links, vt_waiting, vt_arrivals, .ref a_t_lostTimes, .int t_went, .int t_stopPart, .int t_stopReason])), (a_t_lostTimes, .inl (cI, 30, .inl t_lostTimes))])) 0 0 (va_A [(a_t, .inr (5, [vt_links, vt_waiting, vt_arrivals, .ref a_t_lostTimes, .int t_went, .int t_stopPart, .int t_stopReason])), (a_t_lostTimes, .inl (cI, 30, .inl t_lostTimes))] sz) := by
  refine mStart (cc := cX5_wordsLostBefore) (maxL := 5) (ret := (some .int)) (by decide) rfl (Nat.le_of_ble_eq_true rfl) ?_
  intro p e s m below meth c A ls hx hb hml hr hts hown hlocks hnm hA hsz hAe hP hK hD hS hl
  have hl : lv_has ls 5 [(0, .ref a_t), (1, .int p1)] := hl
  rw [hAe]
  have k1 := hts (.fieldLink RX5 32 "DeafChain$State" "lostTimes" "[I") (by decide +kernel)
  have key : ∀ n : Nat, (∀ (x2 : Int32) (x3 : Int32) (H : Heap) (locs : List Loc) (hf : rX5_wordsLostBefore p1 t_lostTimes n 1 x2 x3 = some res) (hP : va_P G vwCl [(a_t, .inr (5, [vt_links, vt_waiting, vt_arrivals, .ref a_t_lostTimes, .int t_went, .int t_stopPart, .int t_stopReason])), (a_t_lostTimes, .inl (cI, 30, .inl t_lostTimes))] H) (hD : va_D A [(a_t, .inr (5, [vt_links, vt_waiting, vt_arrivals, .ref a_t_lostTimes, .int t_went, .int t_stopPart, .int t_stopReason])), (a_t_lostTimes, .inl (cI, 30, .inl t_lostTimes))]) (hS : va_S A s.heap H locs) (ls : Array Slot) (hl : lv_has ls 5 [(0, .ref a_t), (1, .int p1), (2, .int x2), (3, .int x3)]), W p l e ({ frames := 0, cells := 0, slots := 0, locals := 0 } : Room) s m ([.ref a_t, .int p1] : List Value).toArray below meth c H locs 0 0 (MQ below (mQi G [(cI, .int)] A (fun _ : Unit => res) (fun _ => [(a_t, .inr (5, [vt_links, vt_waiting, vt_arrivals, .ref a_t_lostTimes, .int t_went, .int t_stopPart, .int t_stopReason])), (a_t_lostTimes, .inl (cI, 30, .inl t_lostTimes))])) ([.ref a_t, .int p1] : List Value).toArray s 0 0 A) (F0 m 4 ls [])) := by
    intro n
    induction n with
    | zero => exact (fun _ _ H locs hf => (by cases hf))
    | succ n ih =>
      · intro  x2 x3 H locs hf hP hD hS ls hl
        replace hf : bX5_wordsLostBefore_1 p1 t_lostTimes (rX5_wordsLostBefore p1 t_lostTimes n) x2 x3 = some res := hf
        unfold bX5_wordsLostBefore_1 at hf
        refine lv_iload_n hx hb dX5_wordsLostBefore_4 rfl (lv_at hl 3 rfl) ?_
        refine lv_bipush (v := 30) hx hb dX5_wordsLostBefore_5 (by decide) ?_
        refine lv_icmp_ge (tgt := 49) hx hb dX5_wordsLostBefore_7 (by decide) (fun c1 => ?_) (fun c1 => ?_)
        · have hf := pf_t hf c1
          refine lv_iload_n hx hb dX5_wordsLostBefore_49 rfl (lv_at hl 2 rfl) ?_
          obtain rfl := Option.some.inj hf
          exact mEnd_i () hx hb hr hlocks hP hK hD hS rfl rfl (Nat.le_refl _) (Nat.le_refl _) dX5_wordsLostBefore_50
        · have hf := pf_f hf c1
          refine lv_aload_n hx hb dX5_wordsLostBefore_10 rfl (lv_at hl 0 rfl) ?_
          refine va_get (D := G) (ci := 5) (v := .ref a_t_lostTimes) (C := RX5) (T := TX5) (N := 7) hx hb hts iwX5_wordsLostBefore_X5 hown hK hP 0 rfl rfl 3 (by decide) k1 (fun _ h9 => h9) rfl dX5_wordsLostBefore_11 ?_
          refine lv_iload_n hx hb dX5_wordsLostBefore_14 rfl (lv_at hl 3 rfl) ?_
          obtain ⟨q2, hf⟩ := pf_k hf
          refine va_iald hx hb hK hP 1 0 rfl rfl q2 dX5_wordsLostBefore_15 ?_
          refine lv_aload_n hx hb dX5_wordsLostBefore_16 rfl (lv_at hl 0 rfl) ?_
          refine va_get (D := G) (ci := 5) (v := .ref a_t_lostTimes) (C := RX5) (T := TX5) (N := 7) hx hb hts iwX5_wordsLostBefore_X5 hown hK hP 0 rfl rfl 3 (by decide) k1 (fun _ h9 => h9) rfl dX5_wordsLostBefore_17 ?_
          refine lv_iload_n hx hb dX5_wordsLostBefore_20 rfl (lv_at hl 1 rfl) ?_
          obtain ⟨q3, hf⟩ := pf_k hf
          refine va_iald hx hb hK hP 1 0 rfl rfl q3 dX5_wordsLostBefore_21 ?_
          refine lv_isub hx hb dX5_wordsLostBefore_22 ?_
          refine lv_topi (fun y4 ey4 => ?_)
          have hf := pf_l hf y4 ey4
          refine lv_istore (lv' := [(4, .int y4), (0, .ref a_t), (1, .int p1), (2, .int x2), (3, .int x3)]) hx hb dX5_wordsLostBefore_23 hl (by decide) rfl (fun ls hl => ?_)
          refine lv_iload hx hb dX5_wordsLostBefore_25 (lv_at hl 0 rfl) ?_
          refine lv_if_gt (tgt := 40) hx hb dX5_wordsLostBefore_27 (by decide) (fun c5 => ?_) (fun c5 => ?_)
          · have hf := pf_t hf c5
            refine lv_iinc (v := x2 + 1) (lv' := [(2, .int (x2 + 1)), (4, .int y4), (0, .ref a_t), (1, .int p1), (3, .int x3)]) hx hb dX5_wordsLostBefore_40 hl (k := 3) rfl rfl (by decide) rfl (fun ls hl => ?_)
            refine lv_iinc (v := x3 + 1) (lv' := [(3, .int (x3 + 1)), (2, .int (x2 + 1)), (4, .int y4), (0, .ref a_t), (1, .int p1)]) hx hb dX5_wordsLostBefore_43 hl (k := 4) rfl rfl (by decide) rfl (fun ls hl => ?_)
            refine lv_goto (tgt := 4) hx hb dX5_wordsLostBefore_46 (by decide) ?_
            exact ih (x2 + 1) (x3 + 1) H locs hf hP hD hS ls (lv_sub hl [3, 4, 1, 0] rfl)
          · have hf := pf_f hf c5
            refine lv_iload hx hb dX5_wordsLostBefore_30 (lv_at hl 0 rfl) ?_
            refine lv_if_ne (tgt := 43) hx hb dX5_wordsLostBefore_32 (by decide) (fun c6 => ?_) (fun c6 => ?_)
            · have hf := pf_f hf c6
              refine lv_iinc (v := x3 + 1) (lv' := [(3, .int (x3 + 1)), (4, .int y4), (0, .ref a_t), (1, .int p1), (2, .int x2)]) hx hb dX5_wordsLostBefore_43 hl (k := 4) rfl rfl (by decide) rfl (fun ls hl => ?_)
              refine lv_goto (tgt := 4) hx hb dX5_wordsLostBefore_46 (by decide) ?_
              exact ih x2 (x3 + 1) H locs hf hP hD hS ls (lv_sub hl [2, 3, 4, 0] rfl)
            · have hf := pf_t hf c6
              refine lv_iload_n hx hb dX5_wordsLostBefore_35 rfl (lv_at hl 4 rfl) ?_
              refine lv_iload_n hx hb dX5_wordsLostBefore_36 rfl (lv_at hl 2 rfl) ?_
              refine lv_icmp_ge (tgt := 43) hx hb dX5_wordsLostBefore_37 (by decide) (fun c7 => ?_) (fun c7 => ?_)
              · have hf := pf_t hf c7
                refine lv_iinc (v := x3 + 1) (lv' := [(3, .int (x3 + 1)), (4, .int y4), (0, .ref a_t), (1, .int p1), (2, .int x2)]) hx hb dX5_wordsLostBefore_43 hl (k := 4) rfl rfl (by decide) rfl (fun ls hl => ?_)
                refine lv_goto (tgt := 4) hx hb dX5_wordsLostBefore_46 (by decide) ?_
                exact ih x2 (x3 + 1) H locs hf hP hD hS ls (lv_sub hl [2, 3, 4, 0] rfl)
              · have hf := pf_f hf c7
                refine lv_iinc (v := x2 + 1) (lv' := [(2, .int (x2 + 1)), (4, .int y4), (0, .ref a_t), (1, .int p1), (3, .int x3)]) hx hb dX5_wordsLostBefore_40 hl (k := 3) rfl rfl (by decide) rfl (fun ls hl => ?_)
                refine lv_iinc (v := x3 + 1) (lv' := [(3, .int (x3 + 1)), (2, .int (x2 + 1)), (4, .int y4), (0, .ref a_t), (1, .int p1)]) hx hb dX5_wordsLostBefore_43 hl (k := 4) rfl rfl (by decide) rfl (fun ls hl => ?_)
                refine lv_goto (tgt := 4) hx hb dX5_wordsLostBefore_46 (by decide) ?_
                exact ih (x2 + 1) (x3 + 1) H locs hf hP hD hS ls (lv_sub hl [3, 4, 1, 0] rfl)
  unfold fX5_wordsLostBefore eX5_wordsLostBefore at hf
  obtain ⟨H, hH⟩ : ∃ H : Heap, H = s.heap := ⟨_, rfl⟩
  obtain ⟨locs, hlc⟩ : ∃ z : List Loc, z = [] := ⟨_, rfl⟩
  rw [← hlc, ← hH]
  have hP : va_P G vwCl [(a_t, .inr (5, [vt_links, vt_waiting, vt_arrivals, .ref a_t_lostTimes, .int t_went, .int t_stopPart, .int t_stopReason])), (a_t_lostTimes, .inl (cI, 30, .inl t_lostTimes))] H := by rw [hH]; exact hP
  have hS : va_S A s.heap H locs := by rw [hlc, hH]; exact hS
  refine lv_iconst (v := 0) hx hb dX5_wordsLostBefore_0 (by decide) ?_
  refine lv_istore_n (lv' := [(2, .int 0), (0, .ref a_t), (1, .int p1)]) hx hb dX5_wordsLostBefore_1 rfl hl (by decide) rfl (fun ls hl => ?_)
  refine lv_iconst (v := 0) hx hb dX5_wordsLostBefore_2 (by decide) ?_
  refine lv_istore_n (lv' := [(3, .int 0), (2, .int 0), (0, .ref a_t), (1, .int p1)]) hx hb dX5_wordsLostBefore_3 rfl hl (by decide) rfl (fun ls hl => ?_)
  exact (key fuelN) (0 : Int32) (0 : Int32) H locs hf hP hD hS ls (lv_sub hl [2, 3, 1, 0] rfl)
def bX5_wordLostAs_1 (p1 : Int32) (t_lostTimes : Nat → Int32) (k : Nat → Int32 → Option (Int32)) (x2 : Int32) : Option (Int32) :=
  (if (29 : Int32) ≤ x2 then some ((29 : Int32)) else ((fX5_wordsLostBefore x2 t_lostTimes).bind fun (u2 : Int32) => (if u2 = p1 then some (x2) else k 1 (x2 + 1))))
def sX5_wordLostAs (p1 : Int32) (t_lostTimes : Nat → Int32) (k : Nat → Int32 → Option (Int32)) (b : Nat) (x2 : Int32) : Option (Int32) := match b with
  | 1 => bX5_wordLostAs_1 p1 t_lostTimes k x2
  | _ => none
def rX5_wordLostAs (p1 : Int32) (t_lostTimes : Nat → Int32) : Nat → Nat → Int32 → Option (Int32)
  | 0 => fun _ _ => none
  | n + 1 => sX5_wordLostAs p1 t_lostTimes (rX5_wordLostAs p1 t_lostTimes n)
def eX5_wordLostAs (p1 : Int32) (t_lostTimes : Nat → Int32) (k : Nat → Int32 → Option (Int32)) : Option (Int32) :=
  k 1 (0 : Int32)
def fX5_wordLostAs (p1 : Int32) (t_lostTimes : Nat → Int32) : Option (Int32) := eX5_wordLostAs p1 t_lostTimes (rX5_wordLostAs p1 t_lostTimes fuelN)
set_option maxHeartbeats 4000000 in
set_option maxRecDepth 100000 in
theorem mX5_wordLostAs (l : Launch) (G : va_G) (cI : ClassId) (a_t a_t_lostTimes : Nat) (sz : Nat) (vt_links vt_waiting vt_arrivals : Value) (t_went : Int32) (t_stopPart : Int32) (t_stopReason : Int32) (t_lostTimes : Nat → Int32) (p1 : Int32) (res : Int32) (hf : fX5_wordLostAs p1 t_lostTimes = some res) : Met l yX5_wordLostAs wsX5_wordLostAs ({ frames := 1, cells := 0, slots := 0, locals := 24 }) (mPc G [(cI, .int)] [.ref a_t, .int p1] sz [(a_t, .inr (5, [vt_links, vt_waiting, vt_arrivals, .ref a_t_lostTimes, .int t_went, .int t_stopPart, .int t_stopReason])), (a_t_lostTimes, .inl (cI, 30, .inl t_lostTimes))]) (mQi G [(cI, .int)] (va_A [(a_t, .inr (5, [vt_links, vt_waiting, vt_arrivals, .ref a_t_lostTimes, .int t_went, .int t_stopPart, .int t_stopReason])), (a_t_lostTimes, .inl (cI, 30, .inl t_lostTimes))] sz) (fun _ : Unit => res) (fun _ => [(a_t, .inr (5, [vt_links, vt_waiting, vt_arrivals, .ref a_t_lostTimes, .int t_went, .int t_stopPart, .int t_stopReason])), (a_t_lostTimes, .inl (cI, 30, .inl t_lostTimes))])) 0 0 (va_A [(a_t, .inr (5, [vt_links, vt_waiting, vt_arrivals, .ref a_t_lostTimes, .int t_went, .int t_stopPart, .int t_stopReason])), (a_t_lostTimes, .inl (cI, 30, .inl t_lostTimes))] sz) := by
  refine mStart (cc := cX5_wordLostAs) (maxL := 3) (ret := (some .int)) (by decide) rfl (Nat.le_of_ble_eq_true rfl) ?_
  intro p e s m below meth c A ls hx hb hml hr hts hown hlocks hnm hA hsz hAe hP hK hD hS hl
  have hl : lv_has ls 3 [(0, .ref a_t), (1, .int p1)] := hl
  rw [hAe]
  have key : ∀ n : Nat, (∀ (x2 : Int32) (H : Heap) (locs : List Loc) (hf : rX5_wordLostAs p1 t_lostTimes n 1 x2 = some res) (hP : va_P G vwCl [(a_t, .inr (5, [vt_links, vt_waiting, vt_arrivals, .ref a_t_lostTimes, .int t_went, .int t_stopPart, .int t_stopReason])), (a_t_lostTimes, .inl (cI, 30, .inl t_lostTimes))] H) (hD : va_D A [(a_t, .inr (5, [vt_links, vt_waiting, vt_arrivals, .ref a_t_lostTimes, .int t_went, .int t_stopPart, .int t_stopReason])), (a_t_lostTimes, .inl (cI, 30, .inl t_lostTimes))]) (hS : va_S A s.heap H locs) (ls : Array Slot) (hl : lv_has ls 3 [(0, .ref a_t), (1, .int p1), (2, .int x2)]), W p l e ({ frames := 1, cells := 0, slots := 0, locals := 24 } : Room) s m ([.ref a_t, .int p1] : List Value).toArray below meth c H locs 0 0 (MQ below (mQi G [(cI, .int)] A (fun _ : Unit => res) (fun _ => [(a_t, .inr (5, [vt_links, vt_waiting, vt_arrivals, .ref a_t_lostTimes, .int t_went, .int t_stopPart, .int t_stopReason])), (a_t_lostTimes, .inl (cI, 30, .inl t_lostTimes))])) ([.ref a_t, .int p1] : List Value).toArray s 0 0 A) (F0 m 2 ls [])) := by
    intro n
    induction n with
    | zero => exact (fun _ H locs hf => (by cases hf))
    | succ n ih =>
      · intro  x2 H locs hf hP hD hS ls hl
        replace hf : bX5_wordLostAs_1 p1 t_lostTimes (rX5_wordLostAs p1 t_lostTimes n) x2 = some res := hf
        unfold bX5_wordLostAs_1 at hf
        refine lv_iload_n hx hb dX5_wordLostAs_2 rfl (lv_at hl 2 rfl) ?_
        refine lv_bipush (v := 29) hx hb dX5_wordLostAs_3 (by decide) ?_
        refine lv_icmp_ge (tgt := 25) hx hb dX5_wordLostAs_5 (by decide) (fun c1 => ?_) (fun c1 => ?_)
        · have hf := pf_t hf c1
          refine lv_bipush (v := 29) hx hb dX5_wordLostAs_25 (by decide) ?_
          obtain rfl := Option.some.inj hf
          exact mEnd_i () hx hb hr hlocks hP hK hD hS rfl rfl (Nat.le_refl _) (Nat.le_refl _) dX5_wordLostAs_27
        · have hf := pf_f hf c1
          refine lv_aload_n hx hb dX5_wordLostAs_8 rfl (lv_at hl 0 rfl) ?_
          refine lv_iload_n hx hb dX5_wordLostAs_9 rfl (lv_at hl 2 rfl) ?_
          obtain ⟨u2, hu2, hf⟩ := pf_b hf
          refine mCallV_i (As := [.int x2]) ⟨hx, hb, hml, hown, hts⟩ (mX5_wordsLostBefore l G cI a_t a_t_lostTimes H.size vt_links vt_waiting vt_arrivals t_went t_stopPart t_stopReason t_lostTimes x2 _ hu2) (cwV 1 hts gX5_wordLostAs_X5_wordsLostBefore rfl rfl rfl (by decide +kernel) ⟨Nat.le_of_ble_eq_true rfl, Nat.le_of_ble_eq_true rfl⟩) hP hD hS hA hK [0, 1] rfl (by decide) 0 5 rfl rfl rfl hK [a_t, a_t_lostTimes] (fun _ => rfl) rfl (fun _ => [(a_t, .inr (5, [vt_links, vt_waiting, vt_arrivals, .ref a_t_lostTimes, .int t_went, .int t_stopPart, .int t_stopReason])), (a_t_lostTimes, .inl (cI, 30, .inl t_lostTimes))]) [a_t, a_t_lostTimes] (fun _ => rfl) rfl (fun _ => rfl) [] [] (fun _ => rfl) rfl 2 rfl rfl rfl hl.1 rfl (lv_room (Nat.le_of_ble_eq_true rfl)) dX5_wordLostAs_10 ⟨Nat.zero_le _, Nat.zero_le _⟩ (fun _ H locs hP hD hS => ?_)
          have hP : va_P G vwCl [(a_t, .inr (5, [vt_links, vt_waiting, vt_arrivals, .ref a_t_lostTimes, .int t_went, .int t_stopPart, .int t_stopReason])), (a_t_lostTimes, .inl (cI, 30, .inl t_lostTimes))] H := hP
          have hD : va_D A [(a_t, .inr (5, [vt_links, vt_waiting, vt_arrivals, .ref a_t_lostTimes, .int t_went, .int t_stopPart, .int t_stopReason])), (a_t_lostTimes, .inl (cI, 30, .inl t_lostTimes))] := hD
          refine lv_iload_n hx hb dX5_wordLostAs_13 rfl (lv_at hl 1 rfl) ?_
          refine lv_icmp_ne (tgt := 19) hx hb dX5_wordLostAs_14 (by decide) (fun c3 => ?_) (fun c3 => ?_)
          · have hf := pf_f hf c3
            refine lv_iinc (v := x2 + 1) (lv' := [(2, .int (x2 + 1)), (0, .ref a_t), (1, .int p1)]) hx hb dX5_wordLostAs_19 hl (k := 2) rfl rfl (by decide) rfl (fun ls hl => ?_)
            refine lv_goto (tgt := 2) hx hb dX5_wordLostAs_22 (by decide) ?_
            exact ih (x2 + 1) H locs hf hP hD hS ls (lv_sub hl [1, 2, 0] rfl)
          · have hf := pf_t hf c3
            refine lv_iload_n hx hb dX5_wordLostAs_17 rfl (lv_at hl 2 rfl) ?_
            obtain rfl := Option.some.inj hf
            exact mEnd_i () hx hb hr hlocks hP hK hD hS rfl rfl (Nat.le_refl _) (Nat.le_refl _) dX5_wordLostAs_18
  unfold fX5_wordLostAs eX5_wordLostAs at hf
  obtain ⟨H, hH⟩ : ∃ H : Heap, H = s.heap := ⟨_, rfl⟩
  obtain ⟨locs, hlc⟩ : ∃ z : List Loc, z = [] := ⟨_, rfl⟩
  rw [← hlc, ← hH]
  have hP : va_P G vwCl [(a_t, .inr (5, [vt_links, vt_waiting, vt_arrivals, .ref a_t_lostTimes, .int t_went, .int t_stopPart, .int t_stopReason])), (a_t_lostTimes, .inl (cI, 30, .inl t_lostTimes))] H := by rw [hH]; exact hP
  have hS : va_S A s.heap H locs := by rw [hlc, hH]; exact hS
  refine lv_iconst (v := 0) hx hb dX5_wordLostAs_0 (by decide) ?_
  refine lv_istore_n (lv' := [(2, .int 0), (0, .ref a_t), (1, .int p1)]) hx hb dX5_wordLostAs_1 rfl hl (by decide) rfl (fun ls hl => ?_)
  exact (key fuelN) (0 : Int32) H locs hf hP hD hS ls (lv_sub hl [1, 2, 0] rfl)
def fX3_add (p1 : Int32) (t_length : Int32) (t_codes : Nat → Int32) : Option (Int32 × (Nat → Int32)) :=
  (if t_length < 0 then some (t_length, t_codes) else (if (60 : Int32) ≤ t_length then some (t_length, t_codes) else (if t_length < 0 ∨ 60 ≤ t_length.toNatClampNeg then none else (lt (upd t_codes t_length.toNatClampNeg p1) fun (f4 : Nat → Int32) => some ((t_length + (1 : Int32)), f4)))))
theorem iwX3_add_X3 : ∀ w ∈ u_ws RX3 TX3 8, w ∈ wsX3_add := by decide +kernel
set_option maxHeartbeats 4000000 in
set_option maxRecDepth 100000 in
theorem mX3_add (l : Launch) (G : va_G) (cI : ClassId) (a_t a_t_codes : Nat) (sz : Nat) (vt_sentence : Value) (t_length : Int32) (t_position : Int32) (t_kind : Int32) (t_link : Int32) (t_word : Int32) (t_value : Int32) (t_codes : Nat → Int32) (p1 : Int32) (res : Int32 × (Nat → Int32)) (hf : fX3_add p1 t_length t_codes = some res) : Met l yX3_add wsX3_add ({ frames := 0, cells := 0, slots := 0, locals := 0 }) (mPc G [(cI, .int)] [.ref a_t, .int p1] sz [(a_t, .inr (3, [.ref a_t_codes, .int t_length, .int t_position, .int t_kind, .int t_link, .int t_word, .int t_value, vt_sentence])), (a_t_codes, .inl (cI, 60, .inl t_codes))]) (mQv G [(cI, .int)] (va_A [(a_t, .inr (3, [.ref a_t_codes, .int t_length, .int t_position, .int t_kind, .int t_link, .int t_word, .int t_value, vt_sentence])), (a_t_codes, .inl (cI, 60, .inl t_codes))] sz) (fun u9 : Unit => [(a_t, .inr (3, [.ref a_t_codes, .int res.1, .int t_position, .int t_kind, .int t_link, .int t_word, .int t_value, vt_sentence])), (a_t_codes, .inl (cI, 60, .inl res.2))])) 0 0 (va_A [(a_t, .inr (3, [.ref a_t_codes, .int t_length, .int t_position, .int t_kind, .int t_link, .int t_word, .int t_value, vt_sentence])), (a_t_codes, .inl (cI, 60, .inl t_codes))] sz) := by
  refine mStart (cc := cX3_add) (maxL := 2) (ret := none) (by decide) rfl (Nat.le_of_ble_eq_true rfl) ?_
  intro p e s m below meth c A ls hx hb hml hr hts hown hlocks hnm hA hsz hAe hP hK hD hS hl
  have hl : lv_has ls 2 [(0, .ref a_t), (1, .int p1)] := hl
  rw [hAe]
  have k1 := hts (.fieldLink RX3 22 "DeafChain$Orders" "length" "I") (by decide +kernel)
  have k2 := hts (.fieldLink RX3 9 "DeafChain$Orders" "codes" "[I") (by decide +kernel)
  unfold fX3_add at hf
  obtain ⟨H, hH⟩ : ∃ H : Heap, H = s.heap := ⟨_, rfl⟩
  obtain ⟨locs, hlc⟩ : ∃ z : List Loc, z = [] := ⟨_, rfl⟩
  rw [← hlc, ← hH]
  have hP : va_P G vwCl [(a_t, .inr (3, [.ref a_t_codes, .int t_length, .int t_position, .int t_kind, .int t_link, .int t_word, .int t_value, vt_sentence])), (a_t_codes, .inl (cI, 60, .inl t_codes))] H := by rw [hH]; exact hP
  have hS : va_S A s.heap H locs := by rw [hlc, hH]; exact hS
  refine lv_aload_n hx hb dX3_add_0 rfl (lv_at hl 0 rfl) ?_
  refine va_get (D := G) (ci := 3) (v := .int t_length) (C := RX3) (T := TX3) (N := 8) hx hb hts iwX3_add_X3 hown hK hP 0 rfl rfl 1 (by decide) k1 (fun _ h9 => h9) rfl dX3_add_1 ?_
  refine lv_if_lt (tgt := 36) hx hb dX3_add_4 (by decide) (fun c1 => ?_) (fun c1 => ?_)
  · have hf := pf_t hf c1
    obtain rfl := Option.some.inj hf
    exact mEnd_v () hx hb hr hlocks hP hK hD hS rfl (Nat.le_of_ble_eq_true rfl) (Nat.le_of_ble_eq_true rfl) dX3_add_36
  · have hf := pf_f hf c1
    refine lv_aload_n hx hb dX3_add_7 rfl (lv_at hl 0 rfl) ?_
    refine va_get (D := G) (ci := 3) (v := .int t_length) (C := RX3) (T := TX3) (N := 8) hx hb hts iwX3_add_X3 hown hK hP 0 rfl rfl 1 (by decide) k1 (fun _ h9 => h9) rfl dX3_add_8 ?_
    refine lv_bipush (v := 60) hx hb dX3_add_11 (by decide) ?_
    refine lv_icmp_ge (tgt := 36) hx hb dX3_add_13 (by decide) (fun c2 => ?_) (fun c2 => ?_)
    · have hf := pf_t hf c2
      obtain rfl := Option.some.inj hf
      exact mEnd_v () hx hb hr hlocks hP hK hD hS rfl (Nat.le_of_ble_eq_true rfl) (Nat.le_of_ble_eq_true rfl) dX3_add_36
    · have hf := pf_f hf c2
      refine lv_aload_n hx hb dX3_add_16 rfl (lv_at hl 0 rfl) ?_
      refine va_get (D := G) (ci := 3) (v := .ref a_t_codes) (C := RX3) (T := TX3) (N := 8) hx hb hts iwX3_add_X3 hown hK hP 0 rfl rfl 0 (by decide) k2 (fun _ h9 => h9) rfl dX3_add_17 ?_
      refine lv_aload_n hx hb dX3_add_20 rfl (lv_at hl 0 rfl) ?_
      refine va_get (D := G) (ci := 3) (v := .int t_length) (C := RX3) (T := TX3) (N := 8) hx hb hts iwX3_add_X3 hown hK hP 0 rfl rfl 1 (by decide) k1 (fun _ h9 => h9) rfl dX3_add_21 ?_
      refine lv_iload_n hx hb dX3_add_24 rfl (lv_at hl 1 rfl) ?_
      obtain ⟨q3, hf⟩ := pf_k hf
      refine va_iast hx hb hK hP hD hS 1 0 rfl rfl q3 dX3_add_25 (fun H locs hP hD hS => ?_)
      obtain ⟨f4, ef4⟩ : ∃ z : Nat → Int32, z = upd t_codes t_length.toNatClampNeg p1 := ⟨_, rfl⟩
      have hf := pf_l hf f4 ef4
      have hP : va_P G vwCl [(a_t, .inr (3, [.ref a_t_codes, .int t_length, .int t_position, .int t_kind, .int t_link, .int t_word, .int t_value, vt_sentence])), (a_t_codes, .inl (cI, 60, .inl f4))] H := by rw [ef4]; exact hP
      have hD : va_D A [(a_t, .inr (3, [.ref a_t_codes, .int t_length, .int t_position, .int t_kind, .int t_link, .int t_word, .int t_value, vt_sentence])), (a_t_codes, .inl (cI, 60, .inl f4))] := by rw [ef4]; exact hD
      refine lv_aload_n hx hb dX3_add_26 rfl (lv_at hl 0 rfl) ?_
      refine lv_dup hx hb dX3_add_27 rfl ?_
      refine va_get (D := G) (ci := 3) (v := .int t_length) (C := RX3) (T := TX3) (N := 8) hx hb hts iwX3_add_X3 hown hK hP 0 rfl rfl 1 (by decide) k1 (fun _ h9 => h9) rfl dX3_add_28 ?_
      refine lv_iconst (v := 1) hx hb dX3_add_31 (by decide) ?_
      refine lv_iadd hx hb dX3_add_32 ?_
      refine va_put (D := G) (ci := 3) (v := .int (t_length + (1 : Int32))) (ty := .int) (C := RX3) (T := TX3) (N := 8) hx hb hts iwX3_add_X3 tyX3 tyX3_ok nmX3 hown hK hP hD hS 0 rfl rfl 1 (by decide) k1 (fun _ h9 => h9) rfl (by decide +kernel) rfl rfl (Nat.le_of_ble_eq_true rfl) dX3_add_33 (fun H locs hP hD hS => ?_)
      have hP : va_P G vwCl [(a_t, .inr (3, [.ref a_t_codes, .int (t_length + (1 : Int32)), .int t_position, .int t_kind, .int t_link, .int t_word, .int t_value, vt_sentence])), (a_t_codes, .inl (cI, 60, .inl f4))] H := hP
      have hD : va_D A [(a_t, .inr (3, [.ref a_t_codes, .int (t_length + (1 : Int32)), .int t_position, .int t_kind, .int t_link, .int t_word, .int t_value, vt_sentence])), (a_t_codes, .inl (cI, 60, .inl f4))] := hD
      obtain rfl := Option.some.inj hf
      exact mEnd_v () hx hb hr hlocks hP hK hD hS rfl (Nat.le_of_ble_eq_true rfl) (Nat.le_of_ble_eq_true rfl) dX3_add_36
def fX3_codeAt (p1 : Int32) (t_length : Int32) (t_codes : Nat → Int32) : Option (Int32) :=
  (if p1 < 0 then some (((-1) : Int32)) else (if t_length ≤ p1 then some (((-1) : Int32)) else (if p1 < 0 ∨ 60 ≤ p1.toNatClampNeg then none else some ((t_codes p1.toNatClampNeg)))))
theorem iwX3_codeAt_X3 : ∀ w ∈ u_ws RX3 TX3 8, w ∈ wsX3_codeAt := by decide +kernel
set_option maxHeartbeats 4000000 in
set_option maxRecDepth 100000 in
theorem mX3_codeAt (l : Launch) (G : va_G) (cI : ClassId) (a_t a_t_codes : Nat) (sz : Nat) (vt_sentence : Value) (t_length : Int32) (t_position : Int32) (t_kind : Int32) (t_link : Int32) (t_word : Int32) (t_value : Int32) (t_codes : Nat → Int32) (p1 : Int32) (res : Int32) (hf : fX3_codeAt p1 t_length t_codes = some res) : Met l yX3_codeAt wsX3_codeAt ({ frames := 0, cells := 0, slots := 0, locals := 0 }) (mPc G [(cI, .int)] [.ref a_t, .int p1] sz [(a_t, .inr (3, [.ref a_t_codes, .int t_length, .int t_position, .int t_kind, .int t_link, .int t_word, .int t_value, vt_sentence])), (a_t_codes, .inl (cI, 60, .inl t_codes))]) (mQi G [(cI, .int)] (va_A [(a_t, .inr (3, [.ref a_t_codes, .int t_length, .int t_position, .int t_kind, .int t_link, .int t_word, .int t_value, vt_sentence])), (a_t_codes, .inl (cI, 60, .inl t_codes))] sz) (fun _ : Unit => res) (fun _ => [(a_t, .inr (3, [.ref a_t_codes, .int t_length, .int t_position, .int t_kind, .int t_link, .int t_word, .int t_value, vt_sentence])), (a_t_codes, .inl (cI, 60, .inl t_codes))])) 0 0 (va_A [(a_t, .inr (3, [.ref a_t_codes, .int t_length, .int t_position, .int t_kind, .int t_link, .int t_word, .int t_value, vt_sentence])), (a_t_codes, .inl (cI, 60, .inl t_codes))] sz) := by
  refine mStart (cc := cX3_codeAt) (maxL := 2) (ret := (some .int)) (by decide) rfl (Nat.le_of_ble_eq_true rfl) ?_
  intro p e s m below meth c A ls hx hb hml hr hts hown hlocks hnm hA hsz hAe hP hK hD hS hl
  have hl : lv_has ls 2 [(0, .ref a_t), (1, .int p1)] := hl
  rw [hAe]
  have k1 := hts (.fieldLink RX3 22 "DeafChain$Orders" "length" "I") (by decide +kernel)
  have k2 := hts (.fieldLink RX3 9 "DeafChain$Orders" "codes" "[I") (by decide +kernel)
  unfold fX3_codeAt at hf
  obtain ⟨H, hH⟩ : ∃ H : Heap, H = s.heap := ⟨_, rfl⟩
  obtain ⟨locs, hlc⟩ : ∃ z : List Loc, z = [] := ⟨_, rfl⟩
  rw [← hlc, ← hH]
  have hP : va_P G vwCl [(a_t, .inr (3, [.ref a_t_codes, .int t_length, .int t_position, .int t_kind, .int t_link, .int t_word, .int t_value, vt_sentence])), (a_t_codes, .inl (cI, 60, .inl t_codes))] H := by rw [hH]; exact hP
  have hS : va_S A s.heap H locs := by rw [hlc, hH]; exact hS
  refine lv_iload_n hx hb dX3_codeAt_0 rfl (lv_at hl 1 rfl) ?_
  refine lv_if_lt (tgt := 21) hx hb dX3_codeAt_1 (by decide) (fun c1 => ?_) (fun c1 => ?_)
  · have hf := pf_t hf c1
    refine lv_iconst (v := (-1)) hx hb dX3_codeAt_21 (by decide) ?_
    obtain rfl := Option.some.inj hf
    exact mEnd_i () hx hb hr hlocks hP hK hD hS rfl rfl (Nat.le_refl _) (Nat.le_refl _) dX3_codeAt_22
  · have hf := pf_f hf c1
    refine lv_iload_n hx hb dX3_codeAt_4 rfl (lv_at hl 1 rfl) ?_
    refine lv_aload_n hx hb dX3_codeAt_5 rfl (lv_at hl 0 rfl) ?_
    refine va_get (D := G) (ci := 3) (v := .int t_length) (C := RX3) (T := TX3) (N := 8) hx hb hts iwX3_codeAt_X3 hown hK hP 0 rfl rfl 1 (by decide) k1 (fun _ h9 => h9) rfl dX3_codeAt_6 ?_
    refine lv_icmp_ge (tgt := 21) hx hb dX3_codeAt_9 (by decide) (fun c2 => ?_) (fun c2 => ?_)
    · have hf := pf_t hf c2
      refine lv_iconst (v := (-1)) hx hb dX3_codeAt_21 (by decide) ?_
      obtain rfl := Option.some.inj hf
      exact mEnd_i () hx hb hr hlocks hP hK hD hS rfl rfl (Nat.le_refl _) (Nat.le_refl _) dX3_codeAt_22
    · have hf := pf_f hf c2
      refine lv_aload_n hx hb dX3_codeAt_12 rfl (lv_at hl 0 rfl) ?_
      refine va_get (D := G) (ci := 3) (v := .ref a_t_codes) (C := RX3) (T := TX3) (N := 8) hx hb hts iwX3_codeAt_X3 hown hK hP 0 rfl rfl 0 (by decide) k2 (fun _ h9 => h9) rfl dX3_codeAt_13 ?_
      refine lv_iload_n hx hb dX3_codeAt_16 rfl (lv_at hl 1 rfl) ?_
      obtain ⟨q3, hf⟩ := pf_k hf
      refine va_iald hx hb hK hP 1 0 rfl rfl q3 dX3_codeAt_17 ?_
      refine lv_goto (tgt := 22) hx hb dX3_codeAt_18 (by decide) ?_
      obtain rfl := Option.some.inj hf
      exact mEnd_i () hx hb hr hlocks hP hK hD hS rfl rfl (Nat.le_refl _) (Nat.le_refl _) dX3_codeAt_22
def fX3_startReading (t_position : Int32) : Option (Int32) :=
  some ((0 : Int32))
theorem iwX3_startReading_X3 : ∀ w ∈ u_ws RX3 TX3 8, w ∈ wsX3_startReading := by decide +kernel
set_option maxHeartbeats 4000000 in
set_option maxRecDepth 100000 in
theorem mX3_startReading (l : Launch) (G : va_G) (cI : ClassId) (a_t : Nat) (sz : Nat) (vt_codes vt_sentence : Value) (t_length : Int32) (t_position : Int32) (t_kind : Int32) (t_link : Int32) (t_word : Int32) (t_value : Int32)  (res : Int32) (hf : fX3_startReading t_position = some res) : Met l yX3_startReading wsX3_startReading ({ frames := 0, cells := 0, slots := 0, locals := 0 }) (mPc G [(cI, .int)] [.ref a_t] sz [(a_t, .inr (3, [vt_codes, .int t_length, .int t_position, .int t_kind, .int t_link, .int t_word, .int t_value, vt_sentence]))]) (mQv G [(cI, .int)] (va_A [(a_t, .inr (3, [vt_codes, .int t_length, .int t_position, .int t_kind, .int t_link, .int t_word, .int t_value, vt_sentence]))] sz) (fun u9 : Unit => [(a_t, .inr (3, [vt_codes, .int t_length, .int res, .int t_kind, .int t_link, .int t_word, .int t_value, vt_sentence]))])) 0 0 (va_A [(a_t, .inr (3, [vt_codes, .int t_length, .int t_position, .int t_kind, .int t_link, .int t_word, .int t_value, vt_sentence]))] sz) := by
  refine mStart (cc := cX3_startReading) (maxL := 1) (ret := none) (by decide) rfl (Nat.le_of_ble_eq_true rfl) ?_
  intro p e s m below meth c A ls hx hb hml hr hts hown hlocks hnm hA hsz hAe hP hK hD hS hl
  have hl : lv_has ls 1 [(0, .ref a_t)] := hl
  rw [hAe]
  have k1 := hts (.fieldLink RX3 33 "DeafChain$Orders" "position" "I") (by decide +kernel)
  unfold fX3_startReading at hf
  obtain ⟨H, hH⟩ : ∃ H : Heap, H = s.heap := ⟨_, rfl⟩
  obtain ⟨locs, hlc⟩ : ∃ z : List Loc, z = [] := ⟨_, rfl⟩
  rw [← hlc, ← hH]
  have hP : va_P G vwCl [(a_t, .inr (3, [vt_codes, .int t_length, .int t_position, .int t_kind, .int t_link, .int t_word, .int t_value, vt_sentence]))] H := by rw [hH]; exact hP
  have hS : va_S A s.heap H locs := by rw [hlc, hH]; exact hS
  refine lv_aload_n hx hb dX3_startReading_0 rfl (lv_at hl 0 rfl) ?_
  refine lv_iconst (v := 0) hx hb dX3_startReading_1 (by decide) ?_
  refine va_put (D := G) (ci := 3) (v := .int 0) (ty := .int) (C := RX3) (T := TX3) (N := 8) hx hb hts iwX3_startReading_X3 tyX3 tyX3_ok nmX3 hown hK hP hD hS 0 rfl rfl 2 (by decide) k1 (fun _ h9 => h9) rfl (by decide +kernel) rfl rfl (Nat.le_of_ble_eq_true rfl) dX3_startReading_2 (fun H locs hP hD hS => ?_)
  have hP : va_P G vwCl [(a_t, .inr (3, [vt_codes, .int t_length, .int 0, .int t_kind, .int t_link, .int t_word, .int t_value, vt_sentence]))] H := hP
  have hD : va_D A [(a_t, .inr (3, [vt_codes, .int t_length, .int 0, .int t_kind, .int t_link, .int t_word, .int t_value, vt_sentence]))] := hD
  obtain rfl := Option.some.inj hf
  exact mEnd_v () hx hb hr hlocks hP hK hD hS rfl (Nat.le_of_ble_eq_true rfl) (Nat.le_of_ble_eq_true rfl) dX3_startReading_5

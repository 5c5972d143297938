-- pure: one sentence goes, both sides
section F1
variable {s s' : Nat → Int32} {n K : Nat} {P : List Nat} {a : Nat}
theorem gone_Ext {kp g q : Nat} (hd : Dic s) (hes : Sets s 180) (hfs : Sets s 186) (hw : Wt s n) (hP : Srt (ahW s) n (a :: P)) (hkp : kp ≤ 6) (hG : Gone s s' n a kp) (h408 : s 408 = nI kp) (hx : Ext s n g q) : Ext s' (n - 1) (g + 1) (q + (if lossP s (eaM s 6) (senN s a) < 6 then 1 else 0)) := by
  have n8 := hw.2.1
  have ha : a < n := (hP.2 a).mp List.mem_cons_self
  have hL6 : lossP s (eaM s 6) (senN s a) ≤ 6 := lossP_le
  have hs12 : (senN s a).length ≤ 12 := by rw [sen_len]; exact (hw.cnt ha).2.2
  have hch : ∀ l, (chN s (eaM s 6) (senN s a) l).length ≤ 12 := fun l => Nat.le_trans (ch_len s (eaM s 6) (senN s a) l) hs12
  have hpay : ∀ l, l < 6 → ∃ y, y ≤ 108 ∧ payN s (eaM s 6) (senN s a) l = nI y := fun l hl => by
    obtain ⟨e, he, h1⟩ := hfs l hl
    refine ⟨(chN s (eaM s 6) (senN s a) (l + 1)).length * e, Nat.le_trans (Nat.mul_le_mul (hch (l + 1)) (show e ≤ 9 by omega)) (by decide), ?_⟩
    show nI (chN s (eaM s 6) (senN s a) (l + 1)).length * s (186 + l) = _
    rw [h1, pk_mul]
  obtain ⟨q1, q2, q3, q4, q5, q6, q7, q8, q9, q10, q11, q12, q13, q14, q15, q16, q17⟩ := hG
  obtain ⟨x1, ⟨T, x2, x3⟩, x4, x5, x6, x7⟩ := hx
  have hkg : kp = (if g < 6 then g else 6) := by
    rw [h408] at x4
    exact (nI_eq (by omega) (by split <;> omega)).mp x4
  refine ⟨fun l hl => ?_, ⟨fun w => T w + (if lossP s (eaM s 6) (senN s a) < 6 then ltN s (senN s a) w else 0), fun w hw30 => ⟨?_, ?_⟩, ?_⟩, ?_, ?_, fun b hb => ?_, fun b hb hbg => ?_⟩
  · obtain ⟨x, y, z, y1, y2, y3, y4, y5, y6⟩ := x1 l hl
    obtain ⟨p, p1, p2⟩ := hpay l hl
    have := hch l
    refine ⟨x + ((chN s (eaM s 6) (senN s a) l).length - (chN s (eaM s 6) (senN s a) (l + 1)).length), y + p, z + (if l = lossP s (eaM s 6) (senN s a) then 1 else 0), by rw [q14 l hl, y1, nI_add], by omega, by rw [q15 l hl, y3, p2, nI_add], by omega, ?_, by split <;> omega⟩
    rw [q16 l hl, y5]
    by_cases e : l = lossP s (eaM s 6) (senN s a)
    · rw [if_pos e, if_pos e, nI_add]
    · rw [if_neg e, if_neg e]; rfl
  · rw [q17 w hw30, (x2 w hw30).1, nI_add]
  · have h1 := (x2 w hw30).2
    have : ltN s (senN s a) w ≤ 1 := by unfold ltN; split <;> omega
    try dsimp only
    split <;> omega
  · rw [sumN_add]
    by_cases e : lossP s (eaM s 6) (senN s a) < 6
    · have h1 := sumN_le (T := fun w => if lossP s (eaM s 6) (senN s a) < 6 then ltN s (senN s a) w else 0) (U := fun w => if w ∈ senN s a then 1 else 0) 30 (fun w _ => by
        try dsimp only
        rw [if_pos e]
        unfold ltN
        by_cases e2 : w ∈ senN s a
        · rw [if_pos e2]; split <;> omega
        · rw [if_neg (fun h => e2 h.1)]; omega)
      have h2 := sumN_mem 30 (senN s a)
      rw [if_pos e]
      omega
    · have h1 : ∀ j, sumN (fun w => if lossP s (eaM s 6) (senN s a) < 6 then ltN s (senN s a) w else 0) j = 0 := fun j => by
        induction j with
        | zero => rfl
        | succ j ih =>
          show sumN (fun w => if lossP s (eaM s 6) (senN s a) < 6 then ltN s (senN s a) w else 0) j + (if lossP s (eaM s 6) (senN s a) < 6 then ltN s (senN s a) j else 0) = 0
          rw [ih, if_neg e]
      rw [h1, if_neg e]
      omega
  · rw [q12, hkg]
    congr 1
    by_cases e : g < 6
    · rw [if_pos e, if_pos e]; split <;> omega
    · rw [if_neg e, if_neg (by omega), if_neg (by omega)]
  · rw [q1 _ (by omega), q1 _ (by omega)]; exact x5
  · obtain ⟨c, c1, c2, rfl⟩ := shf_inv ha hb
    rw [q2.urg c1 c2]
    exact x6 c c1
  · by_cases e : b = 0
    · subst e
      have hag := loss_agree (s := s) (ea := eaM s 6) (ws := senN s a) hd (sen_lt hw ha)
      have hsum : ∃ p, p ≤ 1000 ∧ sumI (payN s (eaM s 6) (senN s a)) 6 0 (nI 0) = nI p := by
        obtain ⟨p0, r0, e0⟩ := hpay 0 (by omega)
        obtain ⟨p1, r1, e1⟩ := hpay 1 (by omega)
        obtain ⟨p2, r2, e2⟩ := hpay 2 (by omega)
        obtain ⟨p3, r3, e3⟩ := hpay 3 (by omega)
        obtain ⟨p4, r4, e4⟩ := hpay 4 (by omega)
        obtain ⟨p5, r5, e5⟩ := hpay 5 (by omega)
        refine ⟨0 + p0 + p1 + p2 + p3 + p4 + p5, by omega, ?_⟩
        show nI 0 + payN s (eaM s 6) (senN s a) 0 + payN s (eaM s 6) (senN s a) 1 + payN s (eaM s 6) (senN s a) 2 + payN s (eaM s 6) (senN s a) 3 + payN s (eaM s 6) (senN s a) 4 + payN s (eaM s 6) (senN s a) 5 = _
        rw [e0, e1, e2, e3, e4, e5, nI_add, nI_add, nI_add, nI_add, nI_add, nI_add]
      obtain ⟨p, hp, hp2⟩ := hsum
      refine ⟨chN s (eaM s 6) (senN s a) 6, (senN s a).length, p, lossP s (eaM s 6) (senN s a), q5, q6, ch_bd hd _ (sen_bd hw ha) 6 (by omega), ch_len s (eaM s 6) (senN s a) 6, hs12, q10, q7.trans hp2, hp, hL6, q8, by rw [← hag]; exact q9, fun h6 => loss_6 hd (sen_lt hw ha) h6⟩
    · obtain ⟨c, rfl⟩ : ∃ c, b = c + 1 := ⟨b - 1, by omega⟩
      have sk : ∀ i, i < 17 → s' (306 + 17 * (c + 1) + i) = s (306 + 17 * c + i) := fun i hi => by
        have := q11 (17 * c + i) (by omega)
        rw [show 323 + (17 * c + i) = 306 + 17 * (c + 1) + i by omega, ← Nat.add_assoc] at this
        exact this
      have sk0 := sk 0 (by omega)
      rw [Nat.add_zero, Nat.add_zero] at sk0
      obtain ⟨L, t, p, M, r1, r2, r3, r4, r5, r6, r7, r8, r9, r10, r11, r12⟩ := x7 c (by omega) (by omega)
      refine ⟨L, t, p, M, by rw [sk0]; exact r1, isR_shift (fun j hj => ?_) r2, r3, r4, r5, by rw [sk 16 (by omega)]; exact r6, by rw [sk 13 (by omega)]; exact r7, r8, r9, by rw [sk 14 (by omega)]; exact r10, by rw [sk 15 (by omega)]; exact r11, r12⟩
      have := sk (1 + j) (by omega)
      rw [← Nat.add_assoc, ← Nat.add_assoc] at this
      exact this
theorem gone_CR {kp : Nat} (hd : Dic s) (hes : Sets s 180) (hfs : Sets s 186) (hw : Wt s n) (hP : Srt (ahW s) n (a :: P)) (hkp : kp ≤ 6) (hG : Gone s s' n a kp) {went sp sr : Int32} {mn er fe ms pa lo : Nat → Int32} {ww wl wu aw af tw : Nat → Int32}
    (h1 : agr mn s 0 180) (h2 : agr er s 180 6) (h3 : agr fe s 186 6) (h4 : agr ms s 410 6) (h5 : agr pa s 416 6) (h6 : agr lo s 422 6) (h7 : agr tw s 428 30) (h8 : WaitX s (a :: P) ww wl wu) (h9 : ArrX s kp aw af) (h10 : went = s 305) (h11 : StpX s sp sr) (h12 : Cnts s n K) (h408 : s 408 = nI kp)
    {ms' pa' lo' ww' wl' wu' aw' af' tw' : Nat → Int32}
    (g4 : ∀ i, i < 6 → ms' i = ms i + nI ((chN s (eaM s 6) (senN s a) i).length - (chN s (eaM s 6) (senN s a) (i + 1)).length)) (g5 : ∀ i, i < 6 → pa' i = pa i + payN s (eaM s 6) (senN s a) i)
    (g6 : lo' = if lossP s (eaM s 6) (senN s a) < 6 then upd lo (lossP s (eaM s 6) (senN s a)) (lo (lossP s (eaM s 6) (senN s a)) + nI 1) else lo) (g7 : ∀ w, w < 30 → tw' w = tw w + nI (if lossP s (eaM s 6) (senN s a) < 6 then ltN s (senN s a) w else 0))
    (g8 : ∀ p, p + 1 < n → sameP ww wl wu ww' wl' wu' (p + 1) p) (g9 : (∀ j, 12 ≤ j → j < 72 → aw' j = aw (j - 12)) ∧ (∀ j, 6 ≤ j → j < 36 → af' j = af (j - 6)) ∧ isR aw' 0 (chN s (eaM s 6) (senN s a) 6) ∧
      af' 0 = nI (chN s (eaM s 6) (senN s a) 6).length ∧ af' 1 = nI (mumN (chN s (eaM s 6) (senN s a) 6)) ∧ af' 2 = sumI (payN s (eaM s 6) (senN s a)) 6 0 (nI 0) ∧ af' 3 = lk (lossP s (eaM s 6) (senN s a)) ∧ af' 4 = lk (backP s (eaM s 6) (senN s a)) ∧ af' 5 = nI (senN s a).length) :
    CR s' (n - 1) K (P.map (shf a)) (went + nI 1) sp sr mn er fe ms' pa' lo' (nI (n - 1)) ww' wl' wu' (nI (if kp < 6 then kp + 1 else 6)) aw' af' tw' := by
  have n8 := hw.2.1
  have ha : a < n := (hP.2 a).mp List.mem_cons_self
  have hL6 : lossP s (eaM s 6) (senN s a) ≤ 6 := lossP_le
  obtain ⟨q1, q2, q3, q4, q5, q6, q7, q8, q9, q10, q11, q12, q13, q14, q15, q16, q17⟩ := hG
  have k1 : ∀ j, j < 192 → s' j = s j := fun j hj => q1 j (Or.inl hj)
  refine ⟨⟨fun j hj => by rw [h1 j hj, k1 _ (by omega)], hd.c (fun j hj => k1 j (by omega))⟩, ⟨fun j hj => by rw [h2 j hj, k1 _ (by omega)], fun l hl => by rw [k1 _ (by omega)]; exact hes l hl⟩, ⟨fun j hj => by rw [h3 j hj, k1 _ (by omega)], fun l hl => by rw [k1 _ (by omega)]; exact hfs l hl⟩, fun j hj => by rw [g4 j hj, q14 j hj, h4 j hj], fun j hj => by rw [g5 j hj, q15 j hj, h5 j hj], fun j hj => ?_, fun j hj => by rw [g7 j hj, q17 j hj, h7 j hj], ⟨hw.rmv q2 ha q3, hP.rmv q2, rfl, WaitX.rmv hw hP q2 h8 g8⟩, ⟨if kp < 6 then kp + 1 else 6, by split <;> omega, q12, rfl, ?_⟩, by rw [h10, q4], ?_, ?_⟩
  · rw [g6, q16 j hj]
    by_cases e : lossP s (eaM s 6) (senN s a) < 6
    · rw [if_pos e]
      by_cases e2 : j = lossP s (eaM s 6) (senN s a)
      · rw [if_pos e2, e2, pk_us, h6 _ e]
      · rw [if_neg e2, pk_un e2, h6 j hj]
    · rw [if_neg e, if_neg (by omega), h6 j hj]
  · intro b hb
    obtain ⟨r1, r2, r3, r4, r5, r6, r7, r8, r9⟩ := g9
    by_cases e : b = 0
    · subst e
      have hc := Nat.le_trans (ch_len s (eaM s 6) (senN s a) 6) (by rw [sen_len]; exact (hw.cnt ha).2.2 : (senN s a).length ≤ 12)
      exact ⟨chN s (eaM s 6) (senN s a) 6, hc, ch_bd hd _ (sen_bd hw ha) 6 (by omega), q5, q6, r3, r4, r5, r6.trans q7.symm, r7.trans q8.symm, r8.trans q9.symm, r9.trans q10.symm⟩
    · obtain ⟨c, rfl⟩ : ∃ c, b = c + 1 := ⟨b - 1, by omega⟩
      have hc : c < kp := by
        by_cases e2 : kp < 6
        · rw [if_pos e2] at hb; omega
        · rw [if_neg e2] at hb; omega
      have hb6 : c + 1 < 6 := by
        by_cases e2 : kp < 6
        · rw [if_pos e2] at hb; omega
        · rw [if_neg e2] at hb; omega
      obtain ⟨M, m1, m2, m3, m4, m5, m6, m7, m8, m9, m10, m11⟩ := h9 c hc
      have sk : ∀ i, i < 17 → s' (306 + 17 * (c + 1) + i) = s (306 + 17 * c + i) := fun i hi => by
        have := q11 (17 * c + i) (by omega)
        rw [show 323 + (17 * c + i) = 306 + 17 * (c + 1) + i by omega, ← Nat.add_assoc] at this
        exact this
      have fk : ∀ i, i < 6 → af' (6 * (c + 1) + i) = af (6 * c + i) := fun i hi => by
        rw [r2 _ (by omega) (by omega)]; congr 1; omega
      have sk0 := sk 0 (by omega)
      have fk0 := fk 0 (by omega)
      rw [Nat.add_zero, Nat.add_zero] at sk0 fk0
      refine ⟨M, m1, m2, by rw [sk0]; exact m3, isR_shift (fun j hj => ?_) m4, isR_shift (fun j hj => by rw [r1 _ (by omega) (by omega)]; congr 1; omega) m5, by rw [fk0]; exact m6, by rw [fk 1 (by omega)]; exact m7, by rw [fk 2 (by omega), sk 13 (by omega)]; exact m8, by rw [fk 3 (by omega), sk 14 (by omega)]; exact m9, by rw [fk 4 (by omega), sk 15 (by omega)]; exact m10, by rw [fk 5 (by omega), sk 16 (by omega)]; exact m11⟩
      have := sk (1 + j) (by omega)
      rw [← Nat.add_assoc, ← Nat.add_assoc] at this
      exact this
  · rcases h11 with ⟨t1, t2, t3⟩ | ⟨k, t0, t1, t2, t3⟩
    · exact Or.inl ⟨by rw [q1 _ (by omega)]; exact t1, t2, t3⟩
    · exact Or.inr ⟨k, t0, by rw [q1 _ (by omega)]; exact t1, t2, by rw [q1 _ (by omega)]; exact t3⟩
  · obtain ⟨g, q, c1, c2, c3, c4, c5, c6, cx⟩ := h12
    have hsum := lk_le_sum q16 hL6
    refine ⟨g + 1, q + (if lossP s (eaM s 6) (senN s a) < 6 then 1 else 0), by rw [q4, c1, nI_add], ?_, by split <;> omega, by omega, fun w hw30 => ?_, ?_, gone_Ext hd hes hfs hw hP hkp ⟨q1, q2, q3, q4, q5, q6, q7, q8, q9, q10, q11, q12, q13, q14, q15, q16, q17⟩ h408 cx⟩
    · rw [q13, c2]
      by_cases e : lossP s (eaM s 6) (senN s a) < 6
      · rw [if_pos e, if_pos e, nI_add]
      · rw [if_neg e, if_neg e]; rfl
    · obtain ⟨t, t1, t2⟩ := c5 w hw30
      refine ⟨t + (if lossP s (eaM s 6) (senN s a) < 6 then ltN s (senN s a) w else 0), ?_, by rw [q17 w hw30, t2, nI_add]⟩
      have : ltN s (senN s a) w ≤ 1 := by unfold ltN; split <;> omega
      split <;> omega
    · rw [hsum, q13, c6]
/-- the first that waits goes, on both sides -/
theorem first_XM (n1 : 1 ≤ n) {Q : List Nat} {went sp sr : Int32} {mn er fe ms pa lo : Nat → Int32} {wz : Int32} {ww wl wu : Nat → Int32} {az : Int32} {aw af tw : Nat → Int32} (h : CR s n K Q went sp sr mn er fe ms pa lo wz ww wl wu az aw af tw)
    (sl su : Int32) (sw rw' lw bk : Nat → Int32) (sz mi pd ls : Int32) (line back : Nat → Int32) :
    ∃ s' Q' x ms' pa' lo' ww' wl' wu' az' aw' af' tw' sl' su' sw' rw2 lw2 bk2 sz' mi' pd' ls' line' back',
      fX8_sendFirst went mn er fe ms pa lo wz ww wl wu az aw af tw sl su sw rw' lw bk = some (x, went + nI 1, ms', pa', lo', nI (n - 1), ww', wl', wu', az', aw', af', tw', sl', su', sw', rw2, lw2, bk2) ∧
      fX9_goes sz mi pd ls s line back = some (sz', mi', pd', ls', s', line', back') ∧ s' 306 = x ∧ (∀ j, j < 192 ∨ 458 ≤ j → s' j = s j) ∧
      CR s' (n - 1) K Q' (went + nI 1) sp sr mn er fe ms' pa' lo' (nI (n - 1)) ww' wl' wu' az' aw' af' tw' := by
  obtain ⟨⟨h1, hd⟩, ⟨h2, hes⟩, ⟨h3, hfs⟩, h4, h5, h6, h7, ⟨hw, hP, hz, h8⟩, ⟨kp, hkp, h408, haz, h9⟩, h10, h11, h12⟩ := h
  subst hz
  subst haz
  have n8 := hw.2.1
  have hl := hP.len (ahW_asy s)
  cases Q with
  | nil => rw [List.length_nil] at hl; omega
  | cons a Q =>
    have ha : a < n := (hP.2 a).mp List.mem_cons_self
    obtain ⟨s', sz', mi', pd', ls', line', back', e1, hG⟩ := goes_M hd hes hw hP hkp h408 sz mi pd ls line back
    obtain ⟨sw', e2, e3⟩ := into_X hw hP h8 (p := 0) (a := a) rfl sl su sw
    obtain ⟨ww', wl', wu', e4, e5⟩ := remF_X n8 n1 ww wl wu
    have hb := sen_bd hw ha
    have hc12 : (senN s a).length ≤ 12 := by rw [sen_len]; exact (hw.cnt ha).2.2
    obtain ⟨rw2, lw2, e6, e7⟩ := send_X h1 hd h2 hes (m := 6) (Nat.le_refl _) rw' lw sw' hb hc12 e3
    rw [lk_6] at e6
    have e8 := T_rules h1 hd hb hc12 e7
    have hL6 : lossP s (eaM s 6) (senN s a) ≤ 6 := lossP_le
    obtain ⟨ms', pa', e9, e10, e11⟩ := acc_X e7 h3 hL6 ms pa lo
    obtain ⟨t2, e12, e13⟩ := clw_X h1 hd hb hc12 e3 tw
    obtain ⟨aw', af', bk2, e14, e15⟩ := addA_X h1 hd hb hc12 e7 h3 (lk (lossP s (eaM s 6) (senN s a))) hkp aw af bk
    have m : ∃ tw', fX8_sendFirst went mn er fe ms pa lo (nI n) ww wl wu (nI kp) aw af tw sl su sw rw' lw bk = some (nI (chN s (eaM s 6) (senN s a) 6).length, went + nI 1, ms', pa', if lossP s (eaM s 6) (senN s a) < 6 then upd lo (lossP s (eaM s 6) (senN s a)) (lo (lossP s (eaM s 6) (senN s a)) + nI 1) else lo, nI (n - 1), ww', wl', wu', nI (if kp < 6 then kp + 1 else 6), aw', af', tw', nI (senN s a).length, s (192 + 14 * a + 1), sw', rw2, lw2, bk2) ∧ ∀ w, w < 30 → tw' w = tw w + nI (if lossP s (eaM s 6) (senN s a) < 6 then ltN s (senN s a) w else 0) := by
      have harr := T_arr e7
      unfold fX8_sendFirst eX8_sendFirst
      by_cases e : lossP s (eaM s 6) (senN s a) < 6
      · refine ⟨t2, ?_, fun w hw => by rw [if_pos e]; exact e13 w hw⟩
        rw [if_pos e] at e9
        rw [lk_lt e] at e8 e9 e14
        rw [if_pos e, show fuelN = 999999 + 1 from rfl]
        simp (disch := first | omega | assumption) only [↓z_m1, li_0, li_1, li_2, li_3, li_4, li_5, li_6, li_7, li_8, li_9, li_10, li_11, li_12, li_13, li_14, li_15, li_16, li_17, li_18, li_19, li_20, li_21, li_22, li_23, li_24, li_25, li_26, li_27, li_28, li_29, li_30, li_31, li_32, li_33, li_34, li_35, li_36, li_37, li_38, li_39, li_40, li_41, li_42, li_43, li_44, li_45, li_46, li_47, li_48, li_49, li_50, li_51, li_52, li_53, li_54, li_55, li_56, li_57, li_58, li_59, li_60, li_61, li_62, li_63, li_64, li_65, li_66, li_67, li_68, li_69, li_70, li_71, li_72, li_73, li_74, li_75, li_76, li_77, li_78, li_79, li_80, li_81, li_82, li_83, li_84, li_85, li_86, li_87, li_88, li_89, li_90, li_91, li_92, li_93, li_94, li_95, li_96, li_97, li_98, li_99, li_100, li_101, li_102, li_103, li_104, li_105, li_106, li_107, li_108, li_109, li_110, li_111, li_112, li_113, li_114, li_115, li_116, li_117, li_118, li_119, li_120, li_121, li_122, li_123, li_124, li_125, li_126, li_127, li_128, li_129, li_130, li_180, li_186, li_192, li_304, li_305, li_306, li_307, li_319, li_320, li_321, li_322, li_408, li_409, li_410, li_416, li_422, li_428, li_458, li_459, li_460, li_2300, li_2760, nI_add, z_m6, z_m12, z_m30, z_l10, z_l12, z_l14, z_l17, z_l30, z_l460, z_sub, z_dec, z_dec0, z_m11, z_cl, z_leT, z_leF, z_ltT, z_ltF, z_eqT, z_eqF, z_em, z_me, z_mlt, z_mle, z_ltm, z_lem, z_mltm, z_mlem, z_nleT, z_nleF, z_nltT, z_nltF, or_false, or_self, false_or, or_true, true_or, not_true_eq_false, not_false_eq_true, ↓reduceIte, lt, z_ob, Nat.zero_add, Nat.add_zero, e2, e4, e6, e8, e9, e12, e14, sp_X8_sendFirst_1, bX8_sendFirst_1, harr]
      · refine ⟨tw, ?_, fun w _ => by rw [if_neg e]; exact (Int32.add_zero _).symm⟩
        rw [if_neg e] at e9
        rw [show lossP s (eaM s 6) (senN s a) = 6 by omega, lk_6] at e8 e9 e14
        rw [if_neg e, show fuelN = 999999 + 1 from rfl]
        simp (disch := first | omega | assumption) only [↓z_m1, li_0, li_1, li_2, li_3, li_4, li_5, li_6, li_7, li_8, li_9, li_10, li_11, li_12, li_13, li_14, li_15, li_16, li_17, li_18, li_19, li_20, li_21, li_22, li_23, li_24, li_25, li_26, li_27, li_28, li_29, li_30, li_31, li_32, li_33, li_34, li_35, li_36, li_37, li_38, li_39, li_40, li_41, li_42, li_43, li_44, li_45, li_46, li_47, li_48, li_49, li_50, li_51, li_52, li_53, li_54, li_55, li_56, li_57, li_58, li_59, li_60, li_61, li_62, li_63, li_64, li_65, li_66, li_67, li_68, li_69, li_70, li_71, li_72, li_73, li_74, li_75, li_76, li_77, li_78, li_79, li_80, li_81, li_82, li_83, li_84, li_85, li_86, li_87, li_88, li_89, li_90, li_91, li_92, li_93, li_94, li_95, li_96, li_97, li_98, li_99, li_100, li_101, li_102, li_103, li_104, li_105, li_106, li_107, li_108, li_109, li_110, li_111, li_112, li_113, li_114, li_115, li_116, li_117, li_118, li_119, li_120, li_121, li_122, li_123, li_124, li_125, li_126, li_127, li_128, li_129, li_130, li_180, li_186, li_192, li_304, li_305, li_306, li_307, li_319, li_320, li_321, li_322, li_408, li_409, li_410, li_416, li_422, li_428, li_458, li_459, li_460, li_2300, li_2760, nI_add, z_m6, z_m12, z_m30, z_l10, z_l12, z_l14, z_l17, z_l30, z_l460, z_sub, z_dec, z_dec0, z_m11, z_cl, z_leT, z_leF, z_ltT, z_ltF, z_eqT, z_eqF, z_em, z_me, z_mlt, z_mle, z_ltm, z_lem, z_mltm, z_mlem, z_nleT, z_nleF, z_nltT, z_nltF, or_false, or_self, false_or, or_true, true_or, not_true_eq_false, not_false_eq_true, ↓reduceIte, lt, z_ob, Nat.zero_add, Nat.add_zero, e2, e4, e6, e8, e9, e14, sp_X8_sendFirst_1, bX8_sendFirst_1, harr]
    obtain ⟨tw', m1, m2⟩ := m
    refine ⟨s', Q.map (shf a), _, ms', pa', _, ww', wl', wu', _, aw', af', tw', _, _, sw', rw2, lw2, bk2, sz', mi', pd', ls', line', back', m1, e1, hG.2.2.2.2.1, hG.1, ?_⟩
    exact gone_CR hd hes hfs hw hP hkp hG h1 h2 h3 h4 h5 h6 h7 h8 h9 h10 h11 h12 h408 e10 e11 rfl m2 e5 e15
end F1

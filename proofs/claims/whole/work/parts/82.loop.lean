set_option maxHeartbeats 8000000 in
set_option maxRecDepth 100000 in
theorem law_loop {p : Program} {l : Launch} {e : Env} {s : State} {m : MethodId} {below : List Frame} {meth : Method} {c : Code} {Q : State → Prop} {G : va_G} {A : Nat → Prop} {sa sv : Nat → Nat} {cI cS cJ : ClassId} {b L : Nat} {xs : Nat → Int32} {ad am ao : Nat} (C : LC p s m c A sa sv G cI cS cJ b L xs) (kend : ∀ (H : Heap) (locs : List Loc) (ls : Array Slot), va_S A s.heap H locs → W p l e room_1 s m #[.ref b] below meth c H locs 601024 7293034 Q (F0 m 1382 ls [])) (Inv : Nat → va_W → Prop) (hob : ∀ n ws, Inv n ws → 4 * n + 4 ≤ L → Obl l sa sv G cI cS cJ xs ad am ao (4 * n) ws (Inv (n + 1))) : ∀ (k n : Nat) (ws : va_W) (H : Heap) (locs : List Loc) (ls : Array Slot) (cells slots : Nat), 4 * n ≤ L → L < 4 * n + k → cells ≤ 100 + 16 * n → slots ≤ 5000 + 480 * n → Inv n ws → va_P G vwCl ws H → va_D A ws → va_S A s.heap H locs → lv_has ls 9 [(0, .ref b), (1, .ref ad), (2, .ref am), (3, .ref ao), (4, .int (nI (4 * n)))] → W p l e room_1 s m #[.ref b] below meth c H locs cells slots Q (F0 m 23 ls []) := by
  have C0 := C
  obtain ⟨hx, hb, hml, hown, hts, hX, hbl, hbA, hK, hE, hA, hL⟩ := C
  intro k
  induction k with
  | zero => intro n ws H locs ls cells slots h1 h2; omega
  | succ k ih =>
    intro n ws H locs ls cells slots h1 h2 hc hs hI hP hD hS hl
    have KK : ∀ (ws3 : va_W) (H : Heap) (locs : List Loc) (ls : Array Slot) (cells slots : Nat), 4 * n + 4 ≤ L → cells ≤ 100 + 16 * (n + 1) → slots ≤ 5000 + 480 * (n + 1) → Inv (n + 1) ws3 → va_P G vwCl ws3 H → va_D A ws3 → va_S A s.heap H locs → lv_has ls 9 [(0, .ref b), (1, .ref ad), (2, .ref am), (3, .ref ao), (4, .int (nI (4 * n)))] → W p l e room_1 s m #[.ref b] below meth c H locs cells slots Q (F0 m 1376 ls []) := by
      intro ws3 H locs ls cells slots hi hc hs hI hP hD hS hl
      refine lv_iinc (v := nI (4 * (n + 1))) hx hb dL_law_1376 hl (k := 4) rfl (show nI (4 * n) + nI 4 = nI (4 * (n + 1)) by rw [nI_add]; rfl) (by decide) rfl (fun ls hl => ?_)
      refine lv_goto (tgt := 23) hx hb dL_law_1379 (by decide) ?_
      exact ih (n + 1) ws3 H locs ls cells slots (by omega) (by omega) hc hs hI hP hD hS (lv_sub hl [1, 2, 3, 4, 0] rfl)
    refine lv_iload hx hb dL_law_23 (lv_at hl 4 rfl) ?_
    refine lv_aload_n hx hb dL_law_25 rfl (lv_at hl 0 rfl) ?_
    refine va_slen hx hb hX hbl hbA hS dL_law_26 ?_
    refine lv_iconst (v := nI 4) hx hb dL_law_27 (by decide) ?_
    refine lv_isub hx hb dL_law_28 ?_
    refine lv_icmp_gt (tgt := 1382) hx hb dL_law_29 (by decide) (fun q => W.widen (by omega) (by omega) (kend _ _ _ hS)) (fun q => ?_)
    have hi : 4 * n + 4 ≤ L := by
      have q2 : ¬ (nI L - nI 4).toInt < (nI (4 * n)).toInt := fun h => q (Int32.lt_iff_toInt_lt.mpr h)
      rw [pk_sub_toInt (by omega) (by omega), nI_toInt (by omega)] at q2
      omega
    have hin : vp_in (nI (4 * n)) L := by
      refine vp_lit (decide_eq_false ?_)
      rw [nI_clamp (by omega), Int32.lt_iff_toInt_lt, nI_toInt (by omega), show (0 : Int32).toInt = 0 from rfl]
      omega
    refine lv_aload_n hx hb dL_law_32 rfl (lv_at hl 0 rfl) ?_
    refine lv_iload hx hb dL_law_33 (lv_at hl 4 rfl) ?_
    refine va_sld hx hb hX hbl hbA hS hin dL_law_35 ?_
    rw [nI_clamp (by omega)]
    refine lv_bipush (v := 31) hx hb dL_law_36 (by decide) ?_
    refine lv_iand hx hb dL_law_38 ?_
    have ho := hob n ws hI hi
    obtain ⟨o0, o1, o2, o3, o4, o5, o6, o7, o8, o9, o10, o11, o12, o13, o14, o15, o16, o17, o18, o19, o20, o21, o22, o23, o24, od⟩ := ho
    have room : cells + 16 ≤ 601024 ∧ slots + 480 ≤ 7293034 := ⟨by omega, by omega⟩
    by_cases c0 : xs (4 * n) &&& 31 = nI 0
    · rw [c0]
      refine lv_tableIn (off := 113) (tgt := 152) hx hb dL_law_39 (by decide) (by decide) (by decide) (by decide) ?_
      exact cs_teach C0 hi hl hP hD hS room (o0 c0) (fun ws3 H locs ls hJ hP hD hS hl => KK ws3 H locs ls _ _ hi (by omega) (by omega) hJ hP hD hS hl)
    by_cases c1 : xs (4 * n) &&& 31 = nI 1
    · rw [c1]
      refine lv_tableIn (off := 193) (tgt := 232) hx hb dL_law_39 (by decide) (by decide) (by decide) (by decide) ?_
      exact cs_ear C0 hi hl hP hD hS room (o1 c1) (fun ws3 H locs ls hJ hP hD hS hl => KK ws3 H locs ls _ _ hi (by omega) (by omega) hJ hP hD hS hl)
    by_cases c2 : xs (4 * n) &&& 31 = nI 2
    · rw [c2]
      refine lv_tableIn (off := 261) (tgt := 300) hx hb dL_law_39 (by decide) (by decide) (by decide) (by decide) ?_
      exact cs_fee C0 hi hl hP hD hS room (o2 c2) (fun ws3 H locs ls hJ hP hD hS hl => KK ws3 H locs ls _ _ hi (by omega) (by omega) hJ hP hD hS hl)
    by_cases c3 : xs (4 * n) &&& 31 = nI 3
    · rw [c3]
      refine lv_tableIn (off := 329) (tgt := 368) hx hb dL_law_39 (by decide) (by decide) (by decide) (by decide) ?_
      exact cs_go C0 hi hl hP hD hS room (o3 c3) (fun ws3 H locs ls hJ hP hD hS hl => KK ws3 H locs ls _ _ hi (by omega) (by omega) hJ hP hD hS hl)
    by_cases c4 : xs (4 * n) &&& 31 = nI 4
    · rw [c4]
      refine lv_tableIn (off := 373) (tgt := 412) hx hb dL_law_39 (by decide) (by decide) (by decide) (by decide) ?_
      exact cs_append C0 hi hl hP hD hS room (o4 c4) (fun ws3 H locs ls hJ hP hD hS hl => KK ws3 H locs ls _ _ hi (by omega) (by omega) hJ hP hD hS hl)
    by_cases c5 : xs (4 * n) &&& 31 = nI 5
    · rw [c5]
      refine lv_tableIn (off := 429) (tgt := 468) hx hb dL_law_39 (by decide) (by decide) (by decide) (by decide) ?_
      exact cs_clearBuffer C0 hi hl hP hD hS room (o5 c5) (fun ws3 H locs ls hJ hP hD hS hl => KK ws3 H locs ls _ _ hi (by omega) (by omega) hJ hP hD hS hl)
    by_cases c6 : xs (4 * n) &&& 31 = nI 6
    · rw [c6]
      refine lv_tableIn (off := 442) (tgt := 481) hx hb dL_law_39 (by decide) (by decide) (by decide) (by decide) ?_
      exact cs_firstError C0 hi hl hP hD hS room (o6 c6) (fun ws3 H locs ls hJ hP hD hS hl => KK ws3 H locs ls _ _ hi (by omega) (by omega) hJ hP hD hS hl)
    by_cases c7 : xs (4 * n) &&& 31 = nI 7
    · rw [c7]
      refine lv_tableIn (off := 455) (tgt := 494) hx hb dL_law_39 (by decide) (by decide) (by decide) (by decide) ?_
      exact cs_obey C0 hi hl hP hD hS room (o7 c7) (fun ws3 H locs ls hJ hP hD hS hl => KK ws3 H locs ls _ _ hi (by omega) (by omega) hJ hP hD hS hl)
    by_cases c8 : xs (4 * n) &&& 31 = nI 8
    · rw [c8]
      refine lv_tableIn (off := 499) (tgt := 538) hx hb dL_law_39 (by decide) (by decide) (by decide) (by decide) ?_
      exact cs_stopped C0 hi hl hP hD hS room (o8 c8) (fun ws3 H locs ls hJ hP hD hS hl => KK ws3 H locs ls _ _ hi (by omega) (by omega) hJ hP hD hS hl)
    by_cases c9 : xs (4 * n) &&& 31 = nI 9
    · rw [c9]
      refine lv_tableIn (off := 555) (tgt := 594) hx hb dL_law_39 (by decide) (by decide) (by decide) (by decide) ?_
      exact cs_told C0 hi hl hP hD hS room (o9 c9) (fun ws3 H locs ls hJ hP hD hS hl => KK ws3 H locs ls _ _ hi (by omega) (by omega) hJ hP hD hS hl)
    by_cases c10 : xs (4 * n) &&& 31 = nI 10
    · rw [c10]
      refine lv_tableIn (off := 623) (tgt := 662) hx hb dL_law_39 (by decide) (by decide) (by decide) (by decide) ?_
      exact cs_undo C0 hi hl hP hD hS room (o10 c10) (fun ws3 H locs ls hJ hP hD hS hl => KK ws3 H locs ls _ _ hi (by omega) (by omega) hJ hP hD hS hl)
    by_cases c11 : xs (4 * n) &&& 31 = nI 11
    · rw [c11]
      refine lv_tableIn (off := 667) (tgt := 706) hx hb dL_law_39 (by decide) (by decide) (by decide) (by decide) ?_
      exact cs_keep C0 hi hl hP hD hS room (o11 c11) (fun ws3 H locs ls hJ hP hD hS hl => KK ws3 H locs ls _ _ hi (by omega) (by omega) hJ hP hD hS hl)
    by_cases c12 : xs (4 * n) &&& 31 = nI 12
    · rw [c12]
      refine lv_tableIn (off := 680) (tgt := 719) hx hb dL_law_39 (by decide) (by decide) (by decide) (by decide) ?_
      exact cs_restore C0 hi hl hP hD hS room (o12 c12) (fun ws3 H locs ls hJ hP hD hS hl => KK ws3 H locs ls _ _ hi (by omega) (by omega) hJ hP hD hS hl)
    by_cases c13 : xs (4 * n) &&& 31 = nI 13
    · rw [c13]
      refine lv_tableIn (off := 724) (tgt := 763) hx hb dL_law_39 (by decide) (by decide) (by decide) (by decide) ?_
      exact cs_meaning C0 hi hl hP hD hS room (o13 c13) (fun ws3 H locs ls hJ hP hD hS hl => KK ws3 H locs ls _ _ hi (by omega) (by omega) hJ hP hD hS hl)
    by_cases c14 : xs (4 * n) &&& 31 = nI 14
    · rw [c14]
      refine lv_tableIn (off := 804) (tgt := 843) hx hb dL_law_39 (by decide) (by decide) (by decide) (by decide) ?_
      exact cs_link C0 hi hl hP hD hS room (o14 c14) (fun ws3 H locs ls hJ hP hD hS hl => KK ws3 H locs ls _ _ hi (by omega) (by omega) hJ hP hD hS hl)
    by_cases c15 : xs (4 * n) &&& 31 = nI 15
    · rw [c15]
      refine lv_tableIn (off := 872) (tgt := 911) hx hb dL_law_39 (by decide) (by decide) (by decide) (by decide) ?_
      exact cs_waits C0 hi hl hP hD hS room (o15 c15) (fun ws3 H locs ls hJ hP hD hS hl => KK ws3 H locs ls _ _ hi (by omega) (by omega) hJ hP hD hS hl)
    by_cases c16 : xs (4 * n) &&& 31 = nI 16
    · rw [c16]
      refine lv_tableIn (off := 940) (tgt := 979) hx hb dL_law_39 (by decide) (by decide) (by decide) (by decide) ?_
      exact cs_arrival C0 hi hl hP hD hS room (o16 c16) (fun ws3 H locs ls hJ hP hD hS hl => KK ws3 H locs ls _ _ hi (by omega) (by omega) hJ hP hD hS hl)
    by_cases c17 : xs (4 * n) &&& 31 = nI 17
    · rw [c17]
      refine lv_tableIn (off := 1008) (tgt := 1047) hx hb dL_law_39 (by decide) (by decide) (by decide) (by decide) ?_
      exact cs_count C0 hi hl hP hD hS room (o17 c17) (fun ws3 H locs ls hJ hP hD hS hl => KK ws3 H locs ls _ _ hi (by omega) (by omega) hJ hP hD hS hl)
    by_cases c18 : xs (4 * n) &&& 31 = nI 18
    · rw [c18]
      refine lv_tableIn (off := 1064) (tgt := 1103) hx hb dL_law_39 (by decide) (by decide) (by decide) (by decide) ?_
      exact cs_lost C0 hi hl hP hD hS room (o18 c18) (fun ws3 H locs ls hJ hP hD hS hl => KK ws3 H locs ls _ _ hi (by omega) (by omega) hJ hP hD hS hl)
    by_cases c19 : xs (4 * n) &&& 31 = nI 19
    · rw [c19]
      refine lv_tableIn (off := 1132) (tgt := 1171) hx hb dL_law_39 (by decide) (by decide) (by decide) (by decide) ?_
      exact cs_ifGone C0 hi hl hP hD hS room (o19 c19) (fun ws3 H locs ls hJ hP hD hS hl => KK ws3 H locs ls _ _ hi (by omega) (by omega) hJ hP hD hS hl)
    by_cases c20 : xs (4 * n) &&& 31 = nI 20
    · rw [c20]
      refine lv_tableIn (off := 1200) (tgt := 1239) hx hb dL_law_39 (by decide) (by decide) (by decide) (by decide) ?_
      exact cs_lostAt C0 hi hl hP hD hS room (o20 c20) (fun ws3 H locs ls hJ hP hD hS hl => KK ws3 H locs ls _ _ hi (by omega) (by omega) hJ hP hD hS hl)
    by_cases c21 : xs (4 * n) &&& 31 = nI 21
    · rw [c21]
      refine lv_tableIn (off := 1256) (tgt := 1295) hx hb dL_law_39 (by decide) (by decide) (by decide) (by decide) ?_
      exact cs_worstEar C0 hi hl hP hD hS room (o21 c21) (fun ws3 H locs ls hJ hP hD hS hl => KK ws3 H locs ls _ _ hi (by omega) (by omega) hJ hP hD hS hl)
    by_cases c22 : xs (4 * n) &&& 31 = nI 22
    · rw [c22]
      refine lv_tableIn (off := 1269) (tgt := 1308) hx hb dL_law_39 (by decide) (by decide) (by decide) (by decide) ?_
      exact cs_costs C0 hi hl hP hD hS room (o22 c22) (fun ws3 H locs ls hJ hP hD hS hl => KK ws3 H locs ls _ _ hi (by omega) (by omega) hJ hP hD hS hl)
    by_cases c23 : xs (4 * n) &&& 31 = nI 23
    · rw [c23]
      refine lv_tableIn (off := 1282) (tgt := 1321) hx hb dL_law_39 (by decide) (by decide) (by decide) (by decide) ?_
      exact cs_throughShare C0 hi hl hP hD hS room (o23 c23) (fun ws3 H locs ls hJ hP hD hS hl => KK ws3 H locs ls _ _ hi (by omega) (by omega) hJ hP hD hS hl)
    by_cases c24 : xs (4 * n) &&& 31 = nI 24
    · rw [c24]
      refine lv_tableIn (off := 1323) (tgt := 1362) hx hb dL_law_39 (by decide) (by decide) (by decide) (by decide) ?_
      exact cs_digest C0 hi hl hP hD hS room (o24 c24) (fun ws3 H locs ls hJ hP hD hS hl => KK ws3 H locs ls _ _ hi (by omega) (by omega) hJ hP hD hS hl)
    have hno : ∀ k, k < 25 → ¬ xs (4 * n) &&& 31 = nI k := fun k hk => by
      rcases (show k = 0 ∨ k = 1 ∨ k = 2 ∨ k = 3 ∨ k = 4 ∨ k = 5 ∨ k = 6 ∨ k = 7 ∨ k = 8 ∨ k = 9 ∨ k = 10 ∨ k = 11 ∨ k = 12 ∨ k = 13 ∨ k = 14 ∨ k = 15 ∨ k = 16 ∨ k = 17 ∨ k = 18 ∨ k = 19 ∨ k = 20 ∨ k = 21 ∨ k = 22 ∨ k = 23 ∨ k = 24 by omega) with rfl | rfl | rfl | rfl | rfl | rfl | rfl | rfl | rfl | rfl | rfl | rfl | rfl | rfl | rfl | rfl | rfl | rfl | rfl | rfl | rfl | rfl | rfl | rfl | rfl <;> assumption
    refine lv_tableOut (tgt := 1376) hx hb dL_law_39 (sw_out (fun k hk he => ?_)) (by decide) ?_
    · exact hno k (by omega) (Int32.toInt_inj.mp (he.trans (by rw [nI_toInt (by omega)]; omega)))
    · exact KK ws H locs ls cells slots hi (by omega) (by omega) (od hno) hP hD hS hl

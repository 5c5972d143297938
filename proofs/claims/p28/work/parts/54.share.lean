-- pure: the bits of a share, tried for all that can be
def shrD (a b : Nat) : UInt64 := FP.ddiv (FP.i2d (nI a)) (FP.i2d (nI b))
def chkD (a b : Nat) : Bool := decide (shrD a b &&& 0x7fffffffffffffff ≤ 0x7ff0000000000000) && (decide (fX8_bitsOfShare (shrD a b) = some (shrD a b).toInt64) && decide (Op.cmpValue (FP.dcmp (shrD a b) (shrD a b)) .l = 0))
theorem chk_0 : (List.range' 0 8).all (fun b => (List.range (b + 2)).all (fun a => chkD a (b + 1))) = true := by decide +kernel
theorem chk_1 : (List.range' 8 8).all (fun b => (List.range (b + 2)).all (fun a => chkD a (b + 1))) = true := by decide +kernel
theorem chk_2 : (List.range' 16 8).all (fun b => (List.range (b + 2)).all (fun a => chkD a (b + 1))) = true := by decide +kernel
theorem chk_3 : (List.range' 24 8).all (fun b => (List.range (b + 2)).all (fun a => chkD a (b + 1))) = true := by decide +kernel
theorem chk_4 : (List.range' 32 8).all (fun b => (List.range (b + 2)).all (fun a => chkD a (b + 1))) = true := by decide +kernel
theorem chk_5 : (List.range' 40 8).all (fun b => (List.range (b + 2)).all (fun a => chkD a (b + 1))) = true := by decide +kernel
theorem chk_6 : (List.range' 48 8).all (fun b => (List.range (b + 2)).all (fun a => chkD a (b + 1))) = true := by decide +kernel
theorem chk_7 : (List.range' 56 8).all (fun b => (List.range (b + 2)).all (fun a => chkD a (b + 1))) = true := by decide +kernel
theorem chk_8 : (List.range' 64 8).all (fun b => (List.range (b + 2)).all (fun a => chkD a (b + 1))) = true := by decide +kernel
theorem chk_9 : (List.range' 72 8).all (fun b => (List.range (b + 2)).all (fun a => chkD a (b + 1))) = true := by decide +kernel
theorem chk_10 : (List.range' 80 8).all (fun b => (List.range (b + 2)).all (fun a => chkD a (b + 1))) = true := by decide +kernel
theorem chk_11 : (List.range' 88 8).all (fun b => (List.range (b + 2)).all (fun a => chkD a (b + 1))) = true := by decide +kernel
theorem chk_12 : (List.range' 96 8).all (fun b => (List.range (b + 2)).all (fun a => chkD a (b + 1))) = true := by decide +kernel
theorem chk_13 : (List.range' 104 8).all (fun b => (List.range (b + 2)).all (fun a => chkD a (b + 1))) = true := by decide +kernel
theorem chk_14 : (List.range' 112 8).all (fun b => (List.range (b + 2)).all (fun a => chkD a (b + 1))) = true := by decide +kernel
theorem chk_15 : (List.range' 120 8).all (fun b => (List.range (b + 2)).all (fun a => chkD a (b + 1))) = true := by decide +kernel
theorem chk_use {L : List Nat} (h : L.all (fun b => (List.range (b + 2)).all (fun a => chkD a (b + 1))) = true) {b a : Nat} (hb : b ∈ L) (ha : a ≤ b + 1) : chkD a (b + 1) = true := List.all_eq_true.mp (List.all_eq_true.mp h b hb) a (List.mem_range.mpr (by omega))
theorem chk_all {b a : Nat} (hb : b < 128) (ha : a ≤ b + 1) : chkD a (b + 1) = true := by
  rcases (show (0 ≤ b ∧ b < 8) ∨ (8 ≤ b ∧ b < 16) ∨ (16 ≤ b ∧ b < 24) ∨ (24 ≤ b ∧ b < 32) ∨ (32 ≤ b ∧ b < 40) ∨ (40 ≤ b ∧ b < 48) ∨ (48 ≤ b ∧ b < 56) ∨ (56 ≤ b ∧ b < 64) ∨ (64 ≤ b ∧ b < 72) ∨ (72 ≤ b ∧ b < 80) ∨ (80 ≤ b ∧ b < 88) ∨ (88 ≤ b ∧ b < 96) ∨ (96 ≤ b ∧ b < 104) ∨ (104 ≤ b ∧ b < 112) ∨ (112 ≤ b ∧ b < 120) ∨ (120 ≤ b ∧ b < 128) by omega) with h | h | h | h | h | h | h | h | h | h | h | h | h | h | h | h
  · exact chk_use chk_0 (List.mem_range'_1.mpr (by omega)) ha
  · exact chk_use chk_1 (List.mem_range'_1.mpr (by omega)) ha
  · exact chk_use chk_2 (List.mem_range'_1.mpr (by omega)) ha
  · exact chk_use chk_3 (List.mem_range'_1.mpr (by omega)) ha
  · exact chk_use chk_4 (List.mem_range'_1.mpr (by omega)) ha
  · exact chk_use chk_5 (List.mem_range'_1.mpr (by omega)) ha
  · exact chk_use chk_6 (List.mem_range'_1.mpr (by omega)) ha
  · exact chk_use chk_7 (List.mem_range'_1.mpr (by omega)) ha
  · exact chk_use chk_8 (List.mem_range'_1.mpr (by omega)) ha
  · exact chk_use chk_9 (List.mem_range'_1.mpr (by omega)) ha
  · exact chk_use chk_10 (List.mem_range'_1.mpr (by omega)) ha
  · exact chk_use chk_11 (List.mem_range'_1.mpr (by omega)) ha
  · exact chk_use chk_12 (List.mem_range'_1.mpr (by omega)) ha
  · exact chk_use chk_13 (List.mem_range'_1.mpr (by omega)) ha
  · exact chk_use chk_14 (List.mem_range'_1.mpr (by omega)) ha
  · exact chk_use chk_15 (List.mem_range'_1.mpr (by omega)) ha
theorem share_ok {a b : Nat} (h1 : 1 ≤ b) (h2 : b ≤ 128) (h3 : a ≤ b) : (shrD a b &&& 0x7fffffffffffffff ≤ 0x7ff0000000000000) ∧ fX8_bitsOfShare (shrD a b) = some (shrD a b).toInt64 ∧ Op.cmpValue (FP.dcmp (shrD a b) (shrD a b)) .l = 0 := by
  obtain ⟨c, rfl⟩ : ∃ c, b = c + 1 := ⟨b - 1, by omega⟩
  have h := chk_all (b := c) (a := a) (by omega) h3
  unfold chkD at h
  simp only [Bool.and_eq_true, decide_eq_true_eq] at h
  exact h
theorem one_ok : fX8_bitsOfShare FP.dconst1 = some FP.dconst1.toInt64 ∧ Op.cmpValue (FP.dcmp FP.dconst1 FP.dconst1) .l = 0 := by
  have h : (decide (fX8_bitsOfShare FP.dconst1 = some FP.dconst1.toInt64) && decide (Op.cmpValue (FP.dcmp FP.dconst1 FP.dconst1) .l = 0)) = true := by decide +kernel
  simp only [Bool.and_eq_true, decide_eq_true_eq] at h
  exact h

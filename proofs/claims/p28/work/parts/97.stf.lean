-- pure: at first no word is lost
section SF
variable {s : Nat → Int32}
theorem stF_said (h : stF s) {l w : Nat} (hl : l < 6) (hw : w < 30) : said s l w = w := by
  unfold said
  rw [if_neg (by omega), h, if_pos (by omega), show (30 * l + w) % 30 = w by omega, ← mz_lt hw, un_mz (by omega)]
theorem stF_low (hd : Dic s) (h : stF s) {l w : Nat} (hl : l < 6) (hw : w < 30) : lowN s l w = w := by
  have h0 : s (30 * l + w) = nI w := by rw [h, if_pos (by omega), show (30 * l + w) % 30 = w by omega]
  have h1 := lowN_le_of hd hl hw h0
  have h2 := low_said (s := s) (l := l) (Nat.le_of_lt hw) (show lowN s l w < 30 by omega)
  rw [stF_said h hl (by omega)] at h2
  exact h2
theorem stF_bck (hd : Dic s) (h : stF s) {l w : Nat} (hl : l < 6) (hw : w < 30) : bck s l w = w := by
  unfold bck
  rw [stF_said h hl hw, if_neg (by omega), stF_low hd h hl hw]
theorem stF_loss (hd : Dic s) (h : stF s) {w : Nat} (hw : w < 30) : ∀ k l, l + k = 6 → lossN s k l w = 6 := by
  intro k
  induction k with
  | zero => intro l hl; exact hl
  | succ k ih =>
    intro l hl
    show (if bck s l w = w then lossN s k (l + 1) (said s l w) else l) = 6
    rw [if_pos (stF_bck hd h (by omega) hw), stF_said h (by omega) hw]
    exact ih (l + 1) (by omega)
theorem stF_at (h : stF s) {j : Nat} (h1 : 192 ≤ j) : s j = nI 0 := by rw [h, if_neg (by omega), if_neg (by omega)]
theorem stF_ex : ∃ s, stF s := ⟨fun j => if j < 180 then nI (j % 30) else if 186 ≤ j ∧ j < 192 then nI 1 else nI 0, fun j => rfl⟩
theorem actsR_inj {L : Nat} {xs : Nat → Int32} {k : Nat} {M M1 M2 : MT} {x1 x2 : Int32} (h1 : actsR L xs k M = some (x1, M1)) (h2 : actsR L xs k M = some (x2, M2)) : x2 = x1 ∧ M2 = M1 := by
  rw [h1] at h2
  have e := Option.some.inj h2
  exact ⟨(congrArg Prod.fst e).symm, (congrArg Prod.snd e).symm⟩
end SF

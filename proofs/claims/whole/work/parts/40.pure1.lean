-- pure: the class's functions by what they say (Links)
theorem pl_ix {l w : Nat} : nI l * (30 : Int32) + nI w = nI (30 * l + w) := by
  rw [show (30 : Int32) = nI 30 from rfl, pk_mul, nI_add, Nat.mul_comm]
/-- the first place from w on, within k, where P holds; w + k without one -/
def fndN (P : Nat → Bool) : Nat → Nat → Nat
  | 0, w => w
  | k + 1, w => if P w then w else fndN P k (w + 1)
theorem low_r (f : Nat → Int32) {l : Nat} (hl : l < 6) (v : Int32) : ∀ (k w fu : Nat), w + k = 30 → k < fu → rX2_lowestWith (nI l) v f fu 1 (nI w) = some (nI (fndN (fun j => f (30 * l + j) == v) k w)) := by
  intro k
  induction k with
  | zero =>
    intro w fu hw hf
    obtain ⟨fu, rfl⟩ : ∃ z, fu = z + 1 := ⟨fu - 1, by omega⟩
    show bX2_lowestWith_1 (nI l) v f (rX2_lowestWith (nI l) v f fu) (nI w) = _
    unfold bX2_lowestWith_1
    rw [if_pos (show (30 : Int32) ≤ nI w from (nI_le (by omega) (by omega) : nI 30 ≤ nI w)), show w = 30 by omega]
    rfl
  | succ k ih =>
    intro w fu hw hf
    obtain ⟨fu, rfl⟩ : ∃ z, fu = z + 1 := ⟨fu - 1, by omega⟩
    show bX2_lowestWith_1 (nI l) v f (rX2_lowestWith (nI l) v f fu) (nI w) = _
    unfold bX2_lowestWith_1
    rw [if_neg (show ¬ (30 : Int32) ≤ nI w from (nI_ge (by omega) (by omega) : ¬ nI 30 ≤ nI w)), pl_ix, if_neg (nI_in (by omega) (by omega)), nI_clamp (by omega)]
    by_cases h : f (30 * l + w) = v
    · rw [if_pos h]
      simp [fndN, h]
    · rw [if_neg h, nI_1, ih (w + 1) fu (by omega) (by omega)]
      simp [fndN, h]
/-- the lowest word of a link with a meaning; 30 without one -/
def lowN (f : Nat → Int32) (l : Nat) (v : Int32) : Nat := fndN (fun j => f (30 * l + j) == v) 30 0
theorem low_X (f : Nat → Int32) {l : Nat} (hl : l < 6) (v : Int32) : fX2_lowestWith (nI l) v f = some (nI (lowN f l v)) := by
  unfold fX2_lowestWith eX2_lowestWith
  rw [if_neg (nI_pos (by omega)), if_pos (show nI l < (6 : Int32) from (nI_lt hl (by omega) : nI l < nI 6))]
  exact low_r f hl v 30 0 fuelN (by omega) (by decide)
theorem mean_X (f : Nat → Int32) {l w : Nat} (hl : l < 6) (hw : w < 30) : fX2_meaningOf (nI l) (nI w) f = some (f (30 * l + w)) := by
  unfold fX2_meaningOf
  rw [if_neg (nI_pos (by omega)), if_neg (show ¬ (6 : Int32) ≤ nI l from (nI_ge hl (by omega) : ¬ nI 6 ≤ nI l)), if_neg (nI_pos (by omega)), if_pos (show nI w < (30 : Int32) from (nI_lt hw (by omega) : nI w < nI 30)), pl_ix, if_neg (nI_in (by omega) (by omega)), nI_clamp (by omega)]
/-- a mumble has no meaning -/
theorem mean_30 (f : Nat → Int32) {l : Nat} (hl : l < 6) : fX2_meaningOf (nI l) (nI 30) f = some (-1) := by
  unfold fX2_meaningOf
  rw [if_neg (nI_pos (by omega)), if_neg (show ¬ (6 : Int32) ≤ nI l from (nI_ge hl (by omega) : ¬ nI 6 ≤ nI l)), if_neg (nI_pos (by omega)), if_neg (show ¬ nI 30 < (30 : Int32) by decide)]
/-- the same of the model -/
theorem meant_M (s : Nat → Int32) {l w : Nat} (hl : l < 6) (hw : w < 30) : fX9_meant (nI l) (nI w) s = some (s (30 * l + w)) := by
  unfold fX9_meant
  dsimp only [lt]
  rw [show (0 : Int32) + (30 : Int32) * nI l + nI w = nI (30 * l + w) by rw [show (0 : Int32) = nI 0 from rfl, show (30 : Int32) = nI 30 from rfl, pk_mul, nI_add, nI_add, Nat.zero_add], if_neg (nI_in (by omega) (by omega)), nI_clamp (by omega)]
theorem low_rM (s : Nat → Int32) {l : Nat} (hl : l < 6) (v : Int32) : ∀ (k w fu : Nat), w + k = 30 → k < fu → rX9_lowest (nI l) v s fu 1 (nI w) = some (nI (fndN (fun j => s (30 * l + j) == v) k w)) := by
  intro k
  induction k with
  | zero =>
    intro w fu hw hf
    obtain ⟨fu, rfl⟩ : ∃ z, fu = z + 1 := ⟨fu - 1, by omega⟩
    show bX9_lowest_1 (nI l) v s (rX9_lowest (nI l) v s fu) (nI w) = _
    unfold bX9_lowest_1
    rw [if_pos (show (30 : Int32) ≤ nI w from (nI_le (by omega) (by omega) : nI 30 ≤ nI w)), show w = 30 by omega]
    rfl
  | succ k ih =>
    intro w fu hw hf
    obtain ⟨fu, rfl⟩ : ∃ z, fu = z + 1 := ⟨fu - 1, by omega⟩
    show bX9_lowest_1 (nI l) v s (rX9_lowest (nI l) v s fu) (nI w) = _
    unfold bX9_lowest_1
    rw [if_neg (show ¬ (30 : Int32) ≤ nI w from (nI_ge (by omega) (by omega) : ¬ nI 30 ≤ nI w)), meant_M s hl (by omega)]
    show (if s (30 * l + w) = v then some (nI w) else rX9_lowest (nI l) v s fu 1 (nI w + 1)) = _
    by_cases h : s (30 * l + w) = v
    · rw [if_pos h]
      simp [fndN, h]
    · rw [if_neg h, nI_1, ih (w + 1) fu (by omega) (by omega)]
      simp [fndN, h]
theorem low_M (s : Nat → Int32) {l : Nat} (hl : l < 6) (v : Int32) : fX9_lowest (nI l) v s = some (nI (lowN s l v)) := by
  unfold fX9_lowest eX9_lowest
  exact low_rM s hl v 30 0 fuelN (by omega) (by decide)
theorem fndN_congr {P Q : Nat → Bool} : ∀ (k w : Nat), (∀ j, w ≤ j → j < w + k → P j = Q j) → fndN P k w = fndN Q k w := by
  intro k
  induction k with
  | zero => intro w _; rfl
  | succ k ih =>
    intro w h
    show (if P w then w else fndN P k (w + 1)) = (if Q w then w else fndN Q k (w + 1))
    rw [h w (Nat.le_refl _) (by omega), ih (w + 1) (fun j h1 h2 => h j (by omega) (by omega))]
theorem lowN_congr {f g : Nat → Int32} (h : ∀ j, j < 180 → f j = g j) {l : Nat} (hl : l < 6) (v : Int32) : lowN f l v = lowN g l v :=
  fndN_congr 30 0 (fun j _ h2 => by rw [h (30 * l + j) (by omega)])
theorem fndN_le (P : Nat → Bool) : ∀ (k w : Nat), fndN P k w ≤ w + k := by
  intro k
  induction k with
  | zero => intro w; exact Nat.le_refl _
  | succ k ih =>
    intro w
    show (if P w then w else fndN P k (w + 1)) ≤ w + (k + 1)
    split
    · omega
    · have := ih (w + 1); omega
theorem lowN_le (f : Nat → Int32) (l : Nat) (v : Int32) : lowN f l v ≤ 30 := fndN_le _ 30 0

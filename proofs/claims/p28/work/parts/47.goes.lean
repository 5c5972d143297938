-- pure: the model sends the first
section CG
variable {s s' : Nat → Int32}
theorem said_c (h : ∀ j, j < 180 → s' j = s j) {l w : Nat} (hl : l < 6) (hw : w ≤ 30) : said s' l w = said s l w := by
  unfold said
  by_cases e : w = 30
  · rw [if_pos e, if_pos e]
  · rw [if_neg e, if_neg e, h _ (by omega)]
theorem lowN_c (h : ∀ j, j < 180 → s' j = s j) {l : Nat} (hl : l < 6) (m : Nat) : lowN s' l m = lowN s l m := by
  unfold lowN
  have key : ∀ k w, w + k = 30 → fndN (fun j => s' (30 * l + j) == nI m) k w = fndN (fun j => s (30 * l + j) == nI m) k w := by
    intro k
    induction k with
    | zero => intro w _; rfl
    | succ k ih =>
      intro w hw
      rw [fndN, fndN, ih (w + 1) (by omega), h (30 * l + w) (by omega)]
  exact key 30 0 (by omega)
theorem bck_c (h : ∀ j, j < 180 → s' j = s j) {l w : Nat} (hl : l < 6) (hw : w ≤ 30) : bck s' l w = bck s l w := by
  unfold bck
  rw [said_c h hl hw, lowN_c h hl]
theorem hear_c (h : ∀ j, j < 180 → s' j = s j) {l : Nat} (hl : l < 6) (e : Nat) : ∀ (ws : List Nat) (p : Nat), bd ws → hearN s' l e p ws = hearN s l e p ws := by
  intro ws
  induction ws with
  | nil => intro p _; rfl
  | cons w ws ih => intro p hb; rw [hearN, hearN, ih _ (bd_t hb), said_c h hl (bd_h hb)]
theorem lost_c (h : ∀ j, j < 180 → s' j = s j) {l : Nat} (hl : l < 6) (e : Nat) : ∀ (ws : List Nat) (p : Nat), bd ws → lostB s' l e p ws = lostB s l e p ws := by
  intro ws
  induction ws with
  | nil => intro p _; rfl
  | cons w ws ih => intro p hb; rw [lostB, lostB, ih _ (bd_t hb), bck_c h hl (bd_h hb)]
theorem bak_c (h : ∀ j, j < 180 → s' j = s j) : ∀ (l w : Nat), l < 6 → bakN s' l w = bakN s l w := by
  intro l
  induction l with
  | zero => intro w _; exact lowN_c h (by omega) _
  | succ l ih => intro w hl; rw [bakN, bakN, lowN_c h hl, ih _ (by omega)]
theorem lossN_c (hd : Dic s) (h : ∀ j, j < 180 → s' j = s j) : ∀ (k l w : Nat), l + k = 6 → w ≤ 30 → lossN s' k l w = lossN s k l w := by
  intro k
  induction k with
  | zero => intro l w _ _; rfl
  | succ k ih =>
    intro l w hl hw
    rw [lossN, lossN, bck_c h (by omega) hw, said_c h (by omega) hw, ih (l + 1) _ (by omega) (said_le hd (by omega) hw)]
theorem Dic.c (hd : Dic s) (h : ∀ j, j < 180 → s' j = s j) : Dic s' := fun j hj => by rw [h j hj]; exact hd j hj
theorem sen_c {a : Nat} (h : ∀ j, j < 14 → s' (192 + 14 * a + j) = s (192 + 14 * a + j)) (h12 : cntN s a ≤ 12) : cntN s' a = cntN s a ∧ senN s' a = senN s a := by
  have e : cntN s' a = cntN s a := by
    unfold cntN
    have := h 0 (by omega)
    rw [Nat.add_zero] at this
    rw [this]
  refine ⟨e, ?_⟩
  unfold senN
  rw [e]
  have key : ∀ k p, p + k ≤ 12 → senF s' a k p = senF s a k p := by
    intro k
    induction k with
    | zero => intro p _; rfl
    | succ k ih =>
      intro p hp
      have := h (2 + p) (by omega)
      rw [← Nat.add_assoc] at this
      rw [senF, senF, ih (p + 1) (by omega), this]
  exact key _ 0 (by omega)
theorem Wt.c {n : Nat} (hw : Wt s n) (h : ∀ j, j < 112 → s' (192 + j) = s (192 + j)) (h4 : s' 304 = s 304) : Wt s' n := by
  have h8 := hw.2.1
  refine ⟨by rw [h4]; exact hw.1, h8, fun a ha => ?_⟩
  obtain ⟨q1, q2, q3⟩ := hw.2.2 a ha
  have g0 := h (14 * a) (by omega)
  have g1 := h (14 * a + 1) (by omega)
  rw [← Nat.add_assoc] at g1
  rw [g0, g1]
  exact ⟨q1, q2, fun k hk => by
    have g2 := h (14 * a + 2 + k) (by omega)
    rw [← Nat.add_assoc, ← Nat.add_assoc] at g2
    rw [g2]; exact q3 k hk⟩
end CG
theorem fa_and (a b : Nat) : nI a &&& nI b = nI (a &&& b) := by
  apply Int32.toBitVec_inj.1
  show BitVec.ofNat 32 a &&& BitVec.ofNat 32 b = BitVec.ofNat 32 (a &&& b)
  apply BitVec.eq_of_getLsbD_eq
  intro i hi
  simp [hi]
theorem fa_or (a b : Nat) : nI a ||| nI b = nI (a ||| b) := by
  apply Int32.toBitVec_inj.1
  show BitVec.ofNat 32 a ||| BitVec.ofNat 32 b = BitVec.ofNat 32 (a ||| b)
  apply BitVec.eq_of_getLsbD_eq
  intro i hi
  simp [hi]
theorem sh_w {w : Nat} (hw : w < 30) : ((nI w &&& nI 31).toBitVec.smod 32).toNat = w := by
  have : ∀ j : Fin 30, ((nI j.val &&& nI 31).toBitVec.smod 32).toNat = j.val := by decide +kernel
  exact this ⟨w, hw⟩
theorem bit_w {M w : Nat} (hM : M < 1073741824) (hw : w < 30) : ((nI M >>> (nI w &&& nI 31)) &&& nI 1) = b2 (M.testBit w) := by
  rw [pk_shrN (by omega) _ w (sh_w hw), pk_andN (by have := Nat.div_le_self M (2 ^ w); omega) 1 (by decide), Nat.testBit_eq_decide_div_mod_eq]
  have h2 : M / 2 ^ w % 2 < 2 := Nat.mod_lt _ (by decide)
  by_cases e : M / 2 ^ w % 2 = 1
  · rw [decide_eq_true e, show M / 2 ^ w % 2 ^ 1 = 1 from e]; rfl
  · rw [decide_eq_false e, show M / 2 ^ w % 2 ^ 1 = 0 by show M / 2 ^ w % 2 = 0; omega]; rfl
theorem or_w {M w : Nat} (hw : w < 30) : (nI M ||| (nI 1 <<< (nI w &&& nI 31))) = nI (M ||| 2 ^ w) := by
  have h : (2 : Nat) ^ w < 2 ^ 32 := Nat.pow_lt_pow_right (by decide) (by omega)
  rw [pk_shlN _ w (sh_w hw) (by omega), Nat.one_mul, fa_or]
section GM
variable {s0 : Nat → Int32}
/-- the first of six at which Q, so far -/
def fstA (Q : Nat → Bool) (x l : Nat) : Prop := (x = 6 ∧ ∀ i, i < l → Q i = false) ∨ (x < 6 ∧ fndN Q 6 0 = x)
theorem fstA_end {Q : Nat → Bool} {x : Nat} (h : fstA Q x 6) : x = fndN Q 6 0 := by
  rcases h with ⟨h1, h2⟩ | ⟨_, h⟩
  · rw [fndN_none Q 6 0 (fun j _ hj => h2 j (by omega))]; exact h1
  · exact h.symm
theorem fstA_step {Q : Nat → Bool} {x l : Nat} (hl : l < 6) (h : fstA Q x l) : fstA Q (if x = 6 then (if Q l then l else 6) else x) (l + 1) := by
  rcases h with ⟨h1, h2⟩ | ⟨h1, h2⟩
  · rw [if_pos h1]
    cases hq : Q l with
    | true =>
      rw [if_pos rfl]
      exact Or.inr ⟨hl, fndN_eq hq 6 0 (Nat.zero_le _) (by omega) (fun j _ hj => h2 j hj)⟩
    | false =>
      rw [if_neg (by decide)]
      refine Or.inl ⟨rfl, fun i hi => ?_⟩
      by_cases e : i = l
      · rw [e]; exact hq
      · exact h2 i (by omega)
  · rw [if_neg (by omega)]
    exact Or.inr ⟨h1, h2⟩
theorem fstA_le {Q : Nat → Bool} {x l : Nat} (h : fstA Q x l) : x ≤ 6 := by
  rcases h with ⟨h1, _⟩ | ⟨h1, _⟩ <;> omega
/-- what was missed and paid, so far -/
def AccG (s0 s : Nat → Int32) (ws : List Nat) (l : Nat) : Prop := (∀ j, j < 410 ∨ 422 ≤ j → s j = s0 j) ∧ (∀ i, i < 6 → s (410 + i) = if i < l then s0 (410 + i) + nI ((chN s0 (eaM s0 6) ws i).length - (chN s0 (eaM s0 6) ws (i + 1)).length) else s0 (410 + i)) ∧ (∀ i, i < 6 → s (416 + i) = if i < l then s0 (416 + i) + payN s0 (eaM s0 6) ws i else s0 (416 + i))
theorem goes_1 (hd : Dic s0) (hes : Sets s0 180) {n a : Nat} (hw : Wt s0 n) (ha : a < n) (x5 : Int32) : ∀ (k l L B : Nat) (cost mi pd lo : Int32) (s line back : Nat → Int32) (fu : Nat), l + k = 6 → AccG s0 s (senN s0 a) l → fstA (lsB s0 (eaM s0 6) (senN s0 a)) L l → fstA (fun j => !cbB s0 (eaM s0 6) (senN s0 a) j) B l → isR line 0 (chN s0 (eaM s0 6) (senN s0 a) l) → 2 * k + 1 < fu →
    ∃ s' line' back' mi' pd' lo' fu', rX9_goes fu 1 (nI a) (lk L) (lk B) cost x5 (nI l) (nI 0) (nI 0) (nI 0) (nI 0) (nI 0) (nI (chN s0 (eaM s0 6) (senN s0 a) l).length) mi pd lo s line back = rX9_goes fu' 3 (nI a) (lk (lossP s0 (eaM s0 6) (senN s0 a))) (lk (backP s0 (eaM s0 6) (senN s0 a))) (sumI (payN s0 (eaM s0 6) (senN s0 a)) k l cost) x5 (nI 101) (nI 0) (nI 0) (nI 0) (nI 0) (nI 0) (nI (chN s0 (eaM s0 6) (senN s0 a) 6).length) mi' pd' lo' s' line' back' ∧ AccG s0 s' (senN s0 a) 6 ∧ isR line' 0 (chN s0 (eaM s0 6) (senN s0 a) 6) ∧ fu = fu' + 2 * k + 1 := by
  have h8 := hw.2.1
  have hb := sen_bd hw ha
  have h12 : (senN s0 a).length ≤ 12 := by rw [sen_len]; exact (hw.cnt ha).2.2
  intro k
  induction k with
  | zero =>
    intro l L B cost mi pd lo s line back fu hl hA hL hB hr hf
    obtain ⟨fu, rfl⟩ := fuS (k := 0) (by omega : 0 < fu)
    obtain rfl : l = 6 := by omega
    refine ⟨s, line, back, mi, pd, lo, fu, ?_, hA, hr, by omega⟩
    rw [show lossP s0 (eaM s0 6) (senN s0 a) = L from (fstA_end hL).symm, show backP s0 (eaM s0 6) (senN s0 a) = B from (fstA_end hB).symm, sumI]
    simp (disch := first | omega | assumption) only [↓z_m1, li_0, li_1, li_2, li_3, li_4, li_5, li_6, li_7, li_8, li_9, li_10, li_11, li_12, li_13, li_14, li_15, li_16, li_17, li_18, li_19, li_20, li_21, li_22, li_23, li_24, li_25, li_26, li_27, li_28, li_29, li_30, li_31, li_32, li_33, li_34, li_35, li_36, li_37, li_38, li_39, li_40, li_41, li_42, li_43, li_44, li_45, li_46, li_47, li_48, li_49, li_50, li_51, li_52, li_53, li_54, li_55, li_56, li_57, li_58, li_59, li_60, li_61, li_62, li_63, li_64, li_65, li_66, li_67, li_68, li_69, li_70, li_71, li_72, li_73, li_74, li_75, li_76, li_77, li_78, li_79, li_80, li_81, li_82, li_83, li_84, li_85, li_86, li_87, li_88, li_89, li_90, li_91, li_92, li_93, li_94, li_95, li_96, li_97, li_98, li_99, li_100, li_101, li_102, li_103, li_104, li_105, li_106, li_107, li_108, li_109, li_110, li_111, li_112, li_113, li_114, li_115, li_116, li_117, li_118, li_119, li_120, li_121, li_122, li_123, li_124, li_125, li_126, li_127, li_128, li_129, li_130, li_180, li_186, li_192, li_304, li_305, li_306, li_307, li_319, li_320, li_321, li_322, li_408, li_409, li_410, li_416, li_422, li_428, li_458, li_459, li_460, li_2300, li_2760, nI_add, z_m6, z_m12, z_m30, z_l10, z_l12, z_l14, z_l17, z_l30, z_l460, z_sub, z_dec, z_dec0, z_m11, z_cl, z_leT, z_leF, z_ltT, z_ltF, z_eqT, z_eqF, z_em, z_me, z_mlt, z_mle, z_ltm, z_lem, z_mltm, z_mlem, z_nleT, z_nleF, z_nltT, z_nltF, or_false, or_self, false_or, or_true, true_or, not_true_eq_false, not_false_eq_true, ↓reduceIte, lt, z_ob, Nat.zero_add, Nat.add_zero, sp_X9_goes_1, bX9_goes_1]
  | succ k ih =>
    intro l L B cost mi pd lo s line back fu hl hA hL hB hr hf
    obtain ⟨fu, rfl⟩ : ∃ z, fu = z + 1 + 1 := ⟨fu - 2, by omega⟩
    have hl6 : l < 6 := by omega
    have hL6 := fstA_le hL
    have hB6 := fstA_le hB
    have hdic : ∀ j, j < 180 → s j = s0 j := fun j hj => hA.1 j (Or.inl (by omega))
    have hd1 := hd.c hdic
    have hc := Nat.le_trans (ch_len s0 (eaM s0 6) (senN s0 a) l) h12
    have hea : eaM s0 6 l = earN s0 l := if_neg (by omega)
    obtain ⟨ear1, ear2⟩ := ear_at hes hl6
    have hs180 : s (180 + l) = nI (earN s0 l) := by rw [hA.1 _ (Or.inl (by omega)), ear1]
    obtain ⟨line1, e1, e2⟩ := hear_M hd1 hl6 ear2 (ch_bd hd (eaM s0 6) hb l (by omega)) hc mi pd lo hr
    rw [hear_c hdic hl6 _ _ _ (ch_bd hd (eaM s0 6) hb l (by omega))] at e1 e2
    rw [lost_c hdic hl6 _ _ _ (ch_bd hd (eaM s0 6) hb l (by omega)), hA.1 (186 + l) (Or.inl (by omega))] at e1
    have hch : hearN s0 l (earN s0 l) 0 (chN s0 (eaM s0 6) (senN s0 a) l) = chN s0 (eaM s0 6) (senN s0 a) (l + 1) := by rw [chN, hea]
    have hlb : lostB s0 l (earN s0 l) 0 (chN s0 (eaM s0 6) (senN s0 a) l) = lsB s0 (eaM s0 6) (senN s0 a) l := by unfold lsB; rw [hea]
    rw [hch, hlb] at e1
    rw [hch] at e2
    have hc2 := Nat.le_trans (ch_len s0 (eaM s0 6) (senN s0 a) (l + 1)) h12
    obtain ⟨s1, hs1⟩ : ∃ z, z = upd (upd s (410 + l) (s (410 + l) + nI ((chN s0 (eaM s0 6) (senN s0 a) l).length - (chN s0 (eaM s0 6) (senN s0 a) (l + 1)).length))) (416 + l) (s (416 + l) + payN s0 (eaM s0 6) (senN s0 a) l) := ⟨_, rfl⟩
    have hs1o : ∀ j, j ≠ 410 + l → j ≠ 416 + l → s1 j = s j := fun j h1 h2 => by rw [hs1, pk_un h2, pk_un h1]
    have hA1 : AccG s0 s1 (senN s0 a) (l + 1) := by
      obtain ⟨q1, q2, q3⟩ := hA
      refine ⟨fun j hj => by rw [hs1o j (by omega) (by omega)]; exact q1 j hj, fun i hi => ?_, fun i hi => ?_⟩
      · by_cases e : i = l
        · subst e
          have := q2 i hi
          rw [if_neg (by omega)] at this
          rw [hs1, pk_un (by omega), pk_us, if_pos (by omega), this]
        · rw [hs1o _ (by omega) (by omega), q2 i hi]
          by_cases e4 : i < l
          · rw [if_pos e4, if_pos (by omega)]
          · rw [if_neg e4, if_neg (by omega)]
      · by_cases e : i = l
        · subst e
          have := q3 i hi
          rw [if_neg (by omega)] at this
          rw [hs1, pk_us, if_pos (by omega), this]
        · rw [hs1o _ (by omega) (by omega), q3 i hi]
          by_cases e4 : i < l
          · rw [if_pos e4, if_pos (by omega)]
          · rw [if_neg e4, if_neg (by omega)]
    have hdic1 : ∀ j, j < 180 → s1 j = s0 j := fun j hj => hA1.1 j (Or.inl (by omega))
    have hw1 : Wt s1 n := hw.c (fun j hj => hA1.1 _ (Or.inl (by omega))) (hA1.1 _ (Or.inl (by omega)))
    have hsen1 := (sen_c (s := s0) (s' := s1) (a := a) (fun j hj => hA1.1 _ (Or.inl (by omega))) (hw.cnt ha).2.2).2
    obtain ⟨back1, e3⟩ := back_M hw1 (hd.c hdic1) ha hl6 (ch_bd hd (eaM s0 6) hb (l + 1) (by omega)) hc2 e2 back
    have hcb : (chN s0 (eaM s0 6) (senN s0 a) (l + 1)).map (bakN s1 l) = (chN s0 (eaM s0 6) (senN s0 a) (l + 1)).map (bakN s0 l) := List.map_congr_left (fun w _ => bak_c hdic1 l w hl6)
    rw [hcb, hsen1] at e3
    have hcb2 : decide ((chN s0 (eaM s0 6) (senN s0 a) (l + 1)).map (bakN s0 l) = senN s0 a) = cbB s0 (eaM s0 6) (senN s0 a) l := rfl
    rw [hcb2] at e3
    have hL2 := fstA_step hl6 hL
    have hB2 := fstA_step hl6 hB
    have m1 : rX9_goes (fu + 1 + 1) 1 (nI a) (lk L) (lk B) cost x5 (nI l) (nI 0) (nI 0) (nI 0) (nI 0) (nI 0) (nI (chN s0 (eaM s0 6) (senN s0 a) l).length) mi pd lo s line back = rX9_goes (fu + 1) 2 (nI a) (nI 0) (lk B) (cost + payN s0 (eaM s0 6) (senN s0 a) l) x5 (nI l) (nI 0) (nI 0) (lk (if L = 6 then (if lsB s0 (eaM s0 6) (senN s0 a) l then l else 6) else L)) (nI 0) (nI 0) (nI (chN s0 (eaM s0 6) (senN s0 a) (l + 1)).length) (nI ((chN s0 (eaM s0 6) (senN s0 a) l).length - (chN s0 (eaM s0 6) (senN s0 a) (l + 1)).length)) (payN s0 (eaM s0 6) (senN s0 a) l) (b2 (lsB s0 (eaM s0 6) (senN s0 a) l)) s1 line1 back := by
      rw [sp_X9_goes_1]
      have hp : nI (chN s0 (eaM s0 6) (senN s0 a) (l + 1)).length * s0 (186 + l) = payN s0 (eaM s0 6) (senN s0 a) l := rfl
      rw [hp] at e1
      have hu : upd s (410 + l) (s (410 + l) + nI ((chN s0 (eaM s0 6) (senN s0 a) l).length - (chN s0 (eaM s0 6) (senN s0 a) (l + 1)).length)) (416 + l) = s (416 + l) := pk_un (by omega)
      by_cases eL : L = 6
      · subst eL
        rw [if_pos rfl, lk_6]
        cases hq : lsB s0 (eaM s0 6) (senN s0 a) l with
        | true =>
          rw [hq, b2_t] at e1
          rw [if_pos rfl, b2_t, lk_lt hl6, hs1]
          simp (disch := first | omega | assumption) only [↓z_m1, li_0, li_1, li_2, li_3, li_4, li_5, li_6, li_7, li_8, li_9, li_10, li_11, li_12, li_13, li_14, li_15, li_16, li_17, li_18, li_19, li_20, li_21, li_22, li_23, li_24, li_25, li_26, li_27, li_28, li_29, li_30, li_31, li_32, li_33, li_34, li_35, li_36, li_37, li_38, li_39, li_40, li_41, li_42, li_43, li_44, li_45, li_46, li_47, li_48, li_49, li_50, li_51, li_52, li_53, li_54, li_55, li_56, li_57, li_58, li_59, li_60, li_61, li_62, li_63, li_64, li_65, li_66, li_67, li_68, li_69, li_70, li_71, li_72, li_73, li_74, li_75, li_76, li_77, li_78, li_79, li_80, li_81, li_82, li_83, li_84, li_85, li_86, li_87, li_88, li_89, li_90, li_91, li_92, li_93, li_94, li_95, li_96, li_97, li_98, li_99, li_100, li_101, li_102, li_103, li_104, li_105, li_106, li_107, li_108, li_109, li_110, li_111, li_112, li_113, li_114, li_115, li_116, li_117, li_118, li_119, li_120, li_121, li_122, li_123, li_124, li_125, li_126, li_127, li_128, li_129, li_130, li_180, li_186, li_192, li_304, li_305, li_306, li_307, li_319, li_320, li_321, li_322, li_408, li_409, li_410, li_416, li_422, li_428, li_458, li_459, li_460, li_2300, li_2760, nI_add, z_m6, z_m12, z_m30, z_l10, z_l12, z_l14, z_l17, z_l30, z_l460, z_sub, z_dec, z_dec0, z_m11, z_cl, z_leT, z_leF, z_ltT, z_ltF, z_eqT, z_eqF, z_em, z_me, z_mlt, z_mle, z_ltm, z_lem, z_mltm, z_mlem, z_nleT, z_nleF, z_nltT, z_nltF, or_false, or_self, false_or, or_true, true_or, not_true_eq_false, not_false_eq_true, ↓reduceIte, lt, z_ob, Nat.zero_add, Nat.add_zero, bX9_goes_1, hs180, e1, hu]
        | false =>
          rw [hq, b2_f] at e1
          rw [if_neg (by decide), b2_f, lk_6, hs1]
          simp (disch := first | omega | assumption) only [↓z_m1, li_0, li_1, li_2, li_3, li_4, li_5, li_6, li_7, li_8, li_9, li_10, li_11, li_12, li_13, li_14, li_15, li_16, li_17, li_18, li_19, li_20, li_21, li_22, li_23, li_24, li_25, li_26, li_27, li_28, li_29, li_30, li_31, li_32, li_33, li_34, li_35, li_36, li_37, li_38, li_39, li_40, li_41, li_42, li_43, li_44, li_45, li_46, li_47, li_48, li_49, li_50, li_51, li_52, li_53, li_54, li_55, li_56, li_57, li_58, li_59, li_60, li_61, li_62, li_63, li_64, li_65, li_66, li_67, li_68, li_69, li_70, li_71, li_72, li_73, li_74, li_75, li_76, li_77, li_78, li_79, li_80, li_81, li_82, li_83, li_84, li_85, li_86, li_87, li_88, li_89, li_90, li_91, li_92, li_93, li_94, li_95, li_96, li_97, li_98, li_99, li_100, li_101, li_102, li_103, li_104, li_105, li_106, li_107, li_108, li_109, li_110, li_111, li_112, li_113, li_114, li_115, li_116, li_117, li_118, li_119, li_120, li_121, li_122, li_123, li_124, li_125, li_126, li_127, li_128, li_129, li_130, li_180, li_186, li_192, li_304, li_305, li_306, li_307, li_319, li_320, li_321, li_322, li_408, li_409, li_410, li_416, li_422, li_428, li_458, li_459, li_460, li_2300, li_2760, nI_add, z_m6, z_m12, z_m30, z_l10, z_l12, z_l14, z_l17, z_l30, z_l460, z_sub, z_dec, z_dec0, z_m11, z_cl, z_leT, z_leF, z_ltT, z_ltF, z_eqT, z_eqF, z_em, z_me, z_mlt, z_mle, z_ltm, z_lem, z_mltm, z_mlem, z_nleT, z_nleF, z_nltT, z_nltF, or_false, or_self, false_or, or_true, true_or, not_true_eq_false, not_false_eq_true, ↓reduceIte, lt, z_ob, Nat.zero_add, Nat.add_zero, bX9_goes_1, hs180, e1, hu]
      · rw [if_neg eL, lk_lt (by omega), hs1]
        simp (disch := first | omega | assumption) only [↓z_m1, li_0, li_1, li_2, li_3, li_4, li_5, li_6, li_7, li_8, li_9, li_10, li_11, li_12, li_13, li_14, li_15, li_16, li_17, li_18, li_19, li_20, li_21, li_22, li_23, li_24, li_25, li_26, li_27, li_28, li_29, li_30, li_31, li_32, li_33, li_34, li_35, li_36, li_37, li_38, li_39, li_40, li_41, li_42, li_43, li_44, li_45, li_46, li_47, li_48, li_49, li_50, li_51, li_52, li_53, li_54, li_55, li_56, li_57, li_58, li_59, li_60, li_61, li_62, li_63, li_64, li_65, li_66, li_67, li_68, li_69, li_70, li_71, li_72, li_73, li_74, li_75, li_76, li_77, li_78, li_79, li_80, li_81, li_82, li_83, li_84, li_85, li_86, li_87, li_88, li_89, li_90, li_91, li_92, li_93, li_94, li_95, li_96, li_97, li_98, li_99, li_100, li_101, li_102, li_103, li_104, li_105, li_106, li_107, li_108, li_109, li_110, li_111, li_112, li_113, li_114, li_115, li_116, li_117, li_118, li_119, li_120, li_121, li_122, li_123, li_124, li_125, li_126, li_127, li_128, li_129, li_130, li_180, li_186, li_192, li_304, li_305, li_306, li_307, li_319, li_320, li_321, li_322, li_408, li_409, li_410, li_416, li_422, li_428, li_458, li_459, li_460, li_2300, li_2760, nI_add, z_m6, z_m12, z_m30, z_l10, z_l12, z_l14, z_l17, z_l30, z_l460, z_sub, z_dec, z_dec0, z_m11, z_cl, z_leT, z_leF, z_ltT, z_ltF, z_eqT, z_eqF, z_em, z_me, z_mlt, z_mle, z_ltm, z_lem, z_mltm, z_mlem, z_nleT, z_nleF, z_nltT, z_nltF, or_false, or_self, false_or, or_true, true_or, not_true_eq_false, not_false_eq_true, ↓reduceIte, lt, z_ob, Nat.zero_add, Nat.add_zero, bX9_goes_1, hs180, e1, hu]
    have m2 : ∃ back2, rX9_goes (fu + 1) 2 (nI a) (nI 0) (lk B) (cost + payN s0 (eaM s0 6) (senN s0 a) l) x5 (nI l) (nI 0) (nI 0) (lk (if L = 6 then (if lsB s0 (eaM s0 6) (senN s0 a) l then l else 6) else L)) (nI 0) (nI 0) (nI (chN s0 (eaM s0 6) (senN s0 a) (l + 1)).length) (nI ((chN s0 (eaM s0 6) (senN s0 a) l).length - (chN s0 (eaM s0 6) (senN s0 a) (l + 1)).length)) (payN s0 (eaM s0 6) (senN s0 a) l) (b2 (lsB s0 (eaM s0 6) (senN s0 a) l)) s1 line1 back = rX9_goes fu 1 (nI a) (lk (if L = 6 then (if lsB s0 (eaM s0 6) (senN s0 a) l then l else 6) else L)) (lk (if B = 6 then (if (!cbB s0 (eaM s0 6) (senN s0 a) l) then l else 6) else B)) (cost + payN s0 (eaM s0 6) (senN s0 a) l) x5 (nI (l + 1)) (nI 0) (nI 0) (nI 0) (nI 0) (nI 0) (nI (chN s0 (eaM s0 6) (senN s0 a) (l + 1)).length) (nI ((chN s0 (eaM s0 6) (senN s0 a) l).length - (chN s0 (eaM s0 6) (senN s0 a) (l + 1)).length)) (payN s0 (eaM s0 6) (senN s0 a) l) (b2 (lsB s0 (eaM s0 6) (senN s0 a) l)) s1 line1 back2 := by
      generalize lk (if L = 6 then (if lsB s0 (eaM s0 6) (senN s0 a) l then l else 6) else L) = LL
      rw [sp_X9_goes_2]
      by_cases eB : B = 6
      · subst eB
        refine ⟨back1, ?_⟩
        rw [if_pos rfl, lk_6]
        cases hq : cbB s0 (eaM s0 6) (senN s0 a) l with
        | true =>
          rw [hq, b2_t] at e3
          rw [if_neg (by decide), lk_6]
          simp (disch := first | omega | assumption) only [↓z_m1, li_0, li_1, li_2, li_3, li_4, li_5, li_6, li_7, li_8, li_9, li_10, li_11, li_12, li_13, li_14, li_15, li_16, li_17, li_18, li_19, li_20, li_21, li_22, li_23, li_24, li_25, li_26, li_27, li_28, li_29, li_30, li_31, li_32, li_33, li_34, li_35, li_36, li_37, li_38, li_39, li_40, li_41, li_42, li_43, li_44, li_45, li_46, li_47, li_48, li_49, li_50, li_51, li_52, li_53, li_54, li_55, li_56, li_57, li_58, li_59, li_60, li_61, li_62, li_63, li_64, li_65, li_66, li_67, li_68, li_69, li_70, li_71, li_72, li_73, li_74, li_75, li_76, li_77, li_78, li_79, li_80, li_81, li_82, li_83, li_84, li_85, li_86, li_87, li_88, li_89, li_90, li_91, li_92, li_93, li_94, li_95, li_96, li_97, li_98, li_99, li_100, li_101, li_102, li_103, li_104, li_105, li_106, li_107, li_108, li_109, li_110, li_111, li_112, li_113, li_114, li_115, li_116, li_117, li_118, li_119, li_120, li_121, li_122, li_123, li_124, li_125, li_126, li_127, li_128, li_129, li_130, li_180, li_186, li_192, li_304, li_305, li_306, li_307, li_319, li_320, li_321, li_322, li_408, li_409, li_410, li_416, li_422, li_428, li_458, li_459, li_460, li_2300, li_2760, nI_add, z_m6, z_m12, z_m30, z_l10, z_l12, z_l14, z_l17, z_l30, z_l460, z_sub, z_dec, z_dec0, z_m11, z_cl, z_leT, z_leF, z_ltT, z_ltF, z_eqT, z_eqF, z_em, z_me, z_mlt, z_mle, z_ltm, z_lem, z_mltm, z_mlem, z_nleT, z_nleF, z_nltT, z_nltF, or_false, or_self, false_or, or_true, true_or, not_true_eq_false, not_false_eq_true, ↓reduceIte, lt, z_ob, Nat.zero_add, Nat.add_zero, bX9_goes_2, e3]
        | false =>
          rw [hq, b2_f] at e3
          rw [if_pos (by decide), lk_lt hl6]
          simp (disch := first | omega | assumption) only [↓z_m1, li_0, li_1, li_2, li_3, li_4, li_5, li_6, li_7, li_8, li_9, li_10, li_11, li_12, li_13, li_14, li_15, li_16, li_17, li_18, li_19, li_20, li_21, li_22, li_23, li_24, li_25, li_26, li_27, li_28, li_29, li_30, li_31, li_32, li_33, li_34, li_35, li_36, li_37, li_38, li_39, li_40, li_41, li_42, li_43, li_44, li_45, li_46, li_47, li_48, li_49, li_50, li_51, li_52, li_53, li_54, li_55, li_56, li_57, li_58, li_59, li_60, li_61, li_62, li_63, li_64, li_65, li_66, li_67, li_68, li_69, li_70, li_71, li_72, li_73, li_74, li_75, li_76, li_77, li_78, li_79, li_80, li_81, li_82, li_83, li_84, li_85, li_86, li_87, li_88, li_89, li_90, li_91, li_92, li_93, li_94, li_95, li_96, li_97, li_98, li_99, li_100, li_101, li_102, li_103, li_104, li_105, li_106, li_107, li_108, li_109, li_110, li_111, li_112, li_113, li_114, li_115, li_116, li_117, li_118, li_119, li_120, li_121, li_122, li_123, li_124, li_125, li_126, li_127, li_128, li_129, li_130, li_180, li_186, li_192, li_304, li_305, li_306, li_307, li_319, li_320, li_321, li_322, li_408, li_409, li_410, li_416, li_422, li_428, li_458, li_459, li_460, li_2300, li_2760, nI_add, z_m6, z_m12, z_m30, z_l10, z_l12, z_l14, z_l17, z_l30, z_l460, z_sub, z_dec, z_dec0, z_m11, z_cl, z_leT, z_leF, z_ltT, z_ltF, z_eqT, z_eqF, z_em, z_me, z_mlt, z_mle, z_ltm, z_lem, z_mltm, z_mlem, z_nleT, z_nleF, z_nltT, z_nltF, or_false, or_self, false_or, or_true, true_or, not_true_eq_false, not_false_eq_true, ↓reduceIte, lt, z_ob, Nat.zero_add, Nat.add_zero, bX9_goes_2, e3]
      · refine ⟨back, ?_⟩
        rw [if_neg eB, lk_lt (by omega)]
        simp (disch := first | omega | assumption) only [↓z_m1, li_0, li_1, li_2, li_3, li_4, li_5, li_6, li_7, li_8, li_9, li_10, li_11, li_12, li_13, li_14, li_15, li_16, li_17, li_18, li_19, li_20, li_21, li_22, li_23, li_24, li_25, li_26, li_27, li_28, li_29, li_30, li_31, li_32, li_33, li_34, li_35, li_36, li_37, li_38, li_39, li_40, li_41, li_42, li_43, li_44, li_45, li_46, li_47, li_48, li_49, li_50, li_51, li_52, li_53, li_54, li_55, li_56, li_57, li_58, li_59, li_60, li_61, li_62, li_63, li_64, li_65, li_66, li_67, li_68, li_69, li_70, li_71, li_72, li_73, li_74, li_75, li_76, li_77, li_78, li_79, li_80, li_81, li_82, li_83, li_84, li_85, li_86, li_87, li_88, li_89, li_90, li_91, li_92, li_93, li_94, li_95, li_96, li_97, li_98, li_99, li_100, li_101, li_102, li_103, li_104, li_105, li_106, li_107, li_108, li_109, li_110, li_111, li_112, li_113, li_114, li_115, li_116, li_117, li_118, li_119, li_120, li_121, li_122, li_123, li_124, li_125, li_126, li_127, li_128, li_129, li_130, li_180, li_186, li_192, li_304, li_305, li_306, li_307, li_319, li_320, li_321, li_322, li_408, li_409, li_410, li_416, li_422, li_428, li_458, li_459, li_460, li_2300, li_2760, nI_add, z_m6, z_m12, z_m30, z_l10, z_l12, z_l14, z_l17, z_l30, z_l460, z_sub, z_dec, z_dec0, z_m11, z_cl, z_leT, z_leF, z_ltT, z_ltF, z_eqT, z_eqF, z_em, z_me, z_mlt, z_mle, z_ltm, z_lem, z_mltm, z_mlem, z_nleT, z_nleF, z_nltT, z_nltF, or_false, or_self, false_or, or_true, true_or, not_true_eq_false, not_false_eq_true, ↓reduceIte, lt, z_ob, Nat.zero_add, Nat.add_zero, bX9_goes_2]
    obtain ⟨back2, m2⟩ := m2
    obtain ⟨s', line', back', mi', pd', lo', fu', f1, f2, f3, f4⟩ := ih (l + 1) _ _ (cost + payN s0 (eaM s0 6) (senN s0 a) l) (nI ((chN s0 (eaM s0 6) (senN s0 a) l).length - (chN s0 (eaM s0 6) (senN s0 a) (l + 1)).length)) (payN s0 (eaM s0 6) (senN s0 a) l) (b2 (lsB s0 (eaM s0 6) (senN s0 a) l)) s1 line1 back2 fu (by omega) hA1 hL2 hB2 e2 (by omega)
    refine ⟨s', line', back', mi', pd', lo', fu', ?_, f2, f3, by omega⟩
    rw [m1, m2, f1, sumI]
end GM

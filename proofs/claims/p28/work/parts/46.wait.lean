-- pure: one more waits, the first goes
theorem copyP_X {p q : Nat} (hp : p < 8) (hq : q < 8) (wd ln ug : Nat → Int32) : fX7_copyPlace (nI p) (nI q) wd ln ug = some (va_cpy wd wd (12 * p) (12 * q) 12, upd ln q (ln p), upd ug q (ug p)) := by
  unfold fX7_copyPlace
  simp (disch := first | omega | assumption) only [↓z_m1, li_0, li_1, li_2, li_3, li_4, li_5, li_6, li_7, li_8, li_9, li_10, li_11, li_12, li_13, li_14, li_15, li_16, li_17, li_18, li_19, li_20, li_21, li_22, li_23, li_24, li_25, li_26, li_27, li_28, li_29, li_30, li_31, li_32, li_33, li_34, li_35, li_36, li_37, li_38, li_39, li_40, li_41, li_42, li_43, li_44, li_45, li_46, li_47, li_48, li_49, li_50, li_51, li_52, li_53, li_54, li_55, li_56, li_57, li_58, li_59, li_60, li_61, li_62, li_63, li_64, li_65, li_66, li_67, li_68, li_69, li_70, li_71, li_72, li_73, li_74, li_75, li_76, li_77, li_78, li_79, li_80, li_81, li_82, li_83, li_84, li_85, li_86, li_87, li_88, li_89, li_90, li_91, li_92, li_93, li_94, li_95, li_96, li_97, li_98, li_99, li_100, li_101, li_102, li_103, li_104, li_105, li_106, li_107, li_108, li_109, li_110, li_111, li_112, li_113, li_114, li_115, li_116, li_117, li_118, li_119, li_120, li_121, li_122, li_123, li_124, li_125, li_126, li_127, li_128, li_129, li_130, li_180, li_186, li_192, li_304, li_305, li_306, li_307, li_319, li_320, li_321, li_322, li_408, li_409, li_410, li_416, li_422, li_428, li_458, li_459, li_460, li_2300, li_2760, nI_add, z_m6, z_m12, z_m30, z_l10, z_l12, z_l14, z_l17, z_l30, z_l460, z_sub, z_dec, z_dec0, z_m11, z_cl, z_leT, z_leF, z_ltT, z_ltF, z_eqT, z_eqF, z_em, z_me, z_mlt, z_mle, z_ltm, z_lem, z_mltm, z_mlem, z_nleT, z_nleF, z_nltT, z_nltF, or_false, or_self, false_or, or_true, true_or, not_true_eq_false, not_false_eq_true, ↓reduceIte, lt, z_ob, Nat.zero_add, Nat.add_zero]
/-- place p of one as place q of the other -/
def sameP (wd ln ug wd' ln' ug' : Nat → Int32) (p q : Nat) : Prop := ln' q = ln p ∧ ug' q = ug p ∧ ∀ j, j < 12 → wd' (12 * q + j) = wd (12 * p + j)
theorem sameP_copy {p q : Nat} (wd ln ug : Nat → Int32) : sameP wd ln ug (va_cpy wd wd (12 * p) (12 * q) 12) (upd ln q (ln p)) (upd ug q (ug p)) p q :=
  ⟨pk_us, pk_us, fun j hj => by rw [pk_cpy_in (by omega) (by omega)]; congr 1; omega⟩
theorem sameP_other {p q i : Nat} (h : i ≠ q) (wd ln ug : Nat → Int32) : sameP wd ln ug (va_cpy wd wd (12 * p) (12 * q) 12) (upd ln q (ln p)) (upd ug q (ug p)) i i :=
  ⟨pk_un h, pk_un h, fun j hj => pk_cpy_out (by omega)⟩
theorem sameP.tr {wd ln ug wd1 ln1 ug1 wd2 ln2 ug2 : Nat → Int32} {p q r : Nat} (h1 : sameP wd ln ug wd1 ln1 ug1 p q) (h2 : sameP wd1 ln1 ug1 wd2 ln2 ug2 q r) : sameP wd ln ug wd2 ln2 ug2 p r :=
  ⟨h2.1.trans h1.1, h2.2.1.trans h1.2.1, fun j hj => (h2.2.2 j hj).trans (h1.2.2 j hj)⟩
theorem sameP.rf {wd ln ug : Nat → Int32} {p : Nat} : sameP wd ln ug wd ln ug p p := ⟨rfl, rfl, fun _ _ => rfl⟩
theorem rem_r {n : Nat} (h8 : n ≤ 8) (h0 : 1 ≤ n) : ∀ (k i : Nat) (wd ln ug : Nat → Int32) (fu : Nat), i + k = n → 1 ≤ i → k < fu →
    ∃ wd' ln' ug', rX7_removeFirst fu 1 (nI i) (nI n) wd ln ug = some (nI (n - 1), wd', ln', ug') ∧ (∀ p, p + 1 < n → i ≤ p + 1 → sameP wd ln ug wd' ln' ug' (p + 1) p) ∧ ∀ p, p + 1 < i → sameP wd ln ug wd' ln' ug' p p := by
  intro k
  induction k with
  | zero =>
    intro i wd ln ug fu hi h1 hf
    obtain ⟨fu, rfl⟩ := fuS hf
    refine ⟨wd, ln, ug, ?_, fun p h2 h3 => by omega, fun p _ => sameP.rf⟩
    simp (disch := first | omega | assumption) only [↓z_m1, li_0, li_1, li_2, li_3, li_4, li_5, li_6, li_7, li_8, li_9, li_10, li_11, li_12, li_13, li_14, li_15, li_16, li_17, li_18, li_19, li_20, li_21, li_22, li_23, li_24, li_25, li_26, li_27, li_28, li_29, li_30, li_31, li_32, li_33, li_34, li_35, li_36, li_37, li_38, li_39, li_40, li_41, li_42, li_43, li_44, li_45, li_46, li_47, li_48, li_49, li_50, li_51, li_52, li_53, li_54, li_55, li_56, li_57, li_58, li_59, li_60, li_61, li_62, li_63, li_64, li_65, li_66, li_67, li_68, li_69, li_70, li_71, li_72, li_73, li_74, li_75, li_76, li_77, li_78, li_79, li_80, li_81, li_82, li_83, li_84, li_85, li_86, li_87, li_88, li_89, li_90, li_91, li_92, li_93, li_94, li_95, li_96, li_97, li_98, li_99, li_100, li_101, li_102, li_103, li_104, li_105, li_106, li_107, li_108, li_109, li_110, li_111, li_112, li_113, li_114, li_115, li_116, li_117, li_118, li_119, li_120, li_121, li_122, li_123, li_124, li_125, li_126, li_127, li_128, li_129, li_130, li_180, li_186, li_192, li_304, li_305, li_306, li_307, li_319, li_320, li_321, li_322, li_408, li_409, li_410, li_416, li_422, li_428, li_458, li_459, li_460, li_2300, li_2760, nI_add, z_m6, z_m12, z_m30, z_l10, z_l12, z_l14, z_l17, z_l30, z_l460, z_sub, z_dec, z_dec0, z_m11, z_cl, z_leT, z_leF, z_ltT, z_ltF, z_eqT, z_eqF, z_em, z_me, z_mlt, z_mle, z_ltm, z_lem, z_mltm, z_mlem, z_nleT, z_nleF, z_nltT, z_nltF, or_false, or_self, false_or, or_true, true_or, not_true_eq_false, not_false_eq_true, ↓reduceIte, lt, z_ob, Nat.zero_add, Nat.add_zero, sp_X7_removeFirst_1, bX7_removeFirst_1]
  | succ k ih =>
    intro i wd ln ug fu hi h1 hf
    obtain ⟨fu, rfl⟩ := fuS hf
    obtain ⟨wd', ln', ug', e1, e2, e3⟩ := ih (i + 1) (va_cpy wd wd (12 * i) (12 * (i - 1)) 12) (upd ln (i - 1) (ln i)) (upd ug (i - 1) (ug i)) fu (by omega) (by omega) (by omega)
    refine ⟨wd', ln', ug', ?_, fun p h2 h3 => ?_, fun p h2 => ?_⟩
    · rw [← e1]
      simp (disch := first | omega | assumption) only [↓z_m1, li_0, li_1, li_2, li_3, li_4, li_5, li_6, li_7, li_8, li_9, li_10, li_11, li_12, li_13, li_14, li_15, li_16, li_17, li_18, li_19, li_20, li_21, li_22, li_23, li_24, li_25, li_26, li_27, li_28, li_29, li_30, li_31, li_32, li_33, li_34, li_35, li_36, li_37, li_38, li_39, li_40, li_41, li_42, li_43, li_44, li_45, li_46, li_47, li_48, li_49, li_50, li_51, li_52, li_53, li_54, li_55, li_56, li_57, li_58, li_59, li_60, li_61, li_62, li_63, li_64, li_65, li_66, li_67, li_68, li_69, li_70, li_71, li_72, li_73, li_74, li_75, li_76, li_77, li_78, li_79, li_80, li_81, li_82, li_83, li_84, li_85, li_86, li_87, li_88, li_89, li_90, li_91, li_92, li_93, li_94, li_95, li_96, li_97, li_98, li_99, li_100, li_101, li_102, li_103, li_104, li_105, li_106, li_107, li_108, li_109, li_110, li_111, li_112, li_113, li_114, li_115, li_116, li_117, li_118, li_119, li_120, li_121, li_122, li_123, li_124, li_125, li_126, li_127, li_128, li_129, li_130, li_180, li_186, li_192, li_304, li_305, li_306, li_307, li_319, li_320, li_321, li_322, li_408, li_409, li_410, li_416, li_422, li_428, li_458, li_459, li_460, li_2300, li_2760, nI_add, z_m6, z_m12, z_m30, z_l10, z_l12, z_l14, z_l17, z_l30, z_l460, z_sub, z_dec, z_dec0, z_m11, z_cl, z_leT, z_leF, z_ltT, z_ltF, z_eqT, z_eqF, z_em, z_me, z_mlt, z_mle, z_ltm, z_lem, z_mltm, z_mlem, z_nleT, z_nleF, z_nltT, z_nltF, or_false, or_self, false_or, or_true, true_or, not_true_eq_false, not_false_eq_true, ↓reduceIte, lt, z_ob, Nat.zero_add, Nat.add_zero, sp_X7_removeFirst_1, bX7_removeFirst_1, copyP_X]
    · by_cases e : p + 1 = i
      · have h4 := e3 p (by omega)
        have h5 := sameP_copy (p := i) (q := i - 1) wd ln ug
        rw [show i - 1 = p by omega] at h5 h4
        rw [e]
        exact h5.tr h4
      · exact (sameP_other (p := i) (q := i - 1) (i := p + 1) (by omega) wd ln ug).tr (e2 p h2 (by omega))
    · exact (sameP_other (p := i) (q := i - 1) (i := p) (by omega) wd ln ug).tr (e3 p (by omega))
theorem remF_X {n : Nat} (h8 : n ≤ 8) (h0 : 1 ≤ n) (wd ln ug : Nat → Int32) : ∃ wd' ln' ug', fX7_removeFirst (nI n) wd ln ug = some (nI (n - 1), wd', ln', ug') ∧ ∀ p, p + 1 < n → sameP wd ln ug wd' ln' ug' (p + 1) p := by
  obtain ⟨wd', ln', ug', e1, e2, e3⟩ := rem_r h8 h0 (n - 1) 1 wd ln ug fuelN (by omega) (Nat.le_refl _) (by show _ < 1000000; omega)
  exact ⟨wd', ln', ug', e1, fun p h1 => e2 p h1 (by omega)⟩
/-- sentence x is gone from those that wait -/
def Rmv (s s' : Nat → Int32) (x n : Nat) : Prop := ∀ a, a < n → a ≠ x → ∀ j, j < 14 → s' (192 + 14 * shf x a + j) = s (192 + 14 * a + j)
section RV
variable {s s' : Nat → Int32} {x n : Nat}
theorem Rmv.c (h : Rmv s s' x n) {a : Nat} (ha : a < n) (hx : a ≠ x) : s' (192 + 14 * shf x a) = s (192 + 14 * a) := by
  have := h a ha hx 0 (by omega)
  rw [Nat.add_zero, Nat.add_zero] at this
  exact this
theorem Rmv.u (h : Rmv s s' x n) {a : Nat} (ha : a < n) (hx : a ≠ x) : s' (192 + 14 * shf x a + 1) = s (192 + 14 * a + 1) := h a ha hx 1 (by omega)
theorem Rmv.w (h : Rmv s s' x n) {a : Nat} (ha : a < n) (hx : a ≠ x) {k : Nat} (hk : k < 12) : s' (192 + 14 * shf x a + 2 + k) = s (192 + 14 * a + 2 + k) := by
  have := h a ha hx (2 + k) (by omega)
  rw [← Nat.add_assoc, ← Nat.add_assoc] at this
  exact this
theorem shf_inv {b : Nat} (hx : x < n) (hb : b < n - 1) : ∃ a, a < n ∧ a ≠ x ∧ shf x a = b := by
  by_cases e : b < x
  · exact ⟨b, by omega, by omega, by unfold shf; rw [if_neg (by omega)]⟩
  · exact ⟨b + 1, by omega, by omega, by unfold shf; rw [if_pos (by omega)]; omega⟩
theorem shf_lt {a : Nat} (hx : x < n) (ha : a < n) (hne : a ≠ x) : shf x a < n - 1 := by
  unfold shf; split <;> omega
theorem shf_mono {a b : Nat} (ha : a ≠ x) (hb : b ≠ x) : (shf x a < shf x b) = (a < b) := by
  unfold shf
  refine propext ?_
  split <;> split <;> omega
theorem Wt.rmv (hw : Wt s n) (h : Rmv s s' x n) (hx : x < n) (h304 : s' 304 = nI (n - 1)) : Wt s' (n - 1) := by
  refine ⟨h304, by have := hw.2.1; omega, fun b hb => ?_⟩
  obtain ⟨a, h1, h2, rfl⟩ := shf_inv hx hb
  obtain ⟨q1, q2, q3⟩ := hw.2.2 a h1
  rw [h.c h1 h2, h.u h1 h2]
  exact ⟨q1, q2, fun k hk => by rw [h.w h1 h2 hk]; exact q3 k hk⟩
theorem Rmv.urg (h : Rmv s s' x n) {a : Nat} (ha : a < n) (hx : a ≠ x) : urgN s' (shf x a) = urgN s a := by
  unfold urgN; rw [h.u ha hx]
theorem Rmv.cnt (h : Rmv s s' x n) {a : Nat} (ha : a < n) (hx : a ≠ x) : cntN s' (shf x a) = cntN s a := by
  unfold cntN; rw [h.c ha hx]
theorem Srt.rmv {P : List Nat} (hP : Srt (ahW s) n (x :: P)) (h : Rmv s s' x n) : Srt (ahW s') (n - 1) (P.map (shf x)) := by
  refine hP.rem (ahW_asy s) (fun a b ha hb h1 h2 => ?_)
  unfold ahW
  rw [h.urg ha h1, h.urg hb h2]
  congr 2
  exact decide_eq_decide.mpr (by rw [shf_mono h1 h2])
theorem WaitX.rmv {P : List Nat} (hw : Wt s n) (hP : Srt (ahW s) n (x :: P)) (h : Rmv s s' x n) {wd ln ug wd' ln' ug' : Nat → Int32} (hX : WaitX s (x :: P) wd ln ug) (hs : ∀ p, p + 1 < n → sameP wd ln ug wd' ln' ug' (p + 1) p) : WaitX s' (P.map (shf x)) wd' ln' ug' := by
  intro p b hb
  rw [List.getElem?_map] at hb
  cases hq : P[p]? with
  | none => rw [hq] at hb; cases hb
  | some a =>
    rw [hq] at hb
    obtain rfl : shf x a = b := Option.some.inj hb
    have hP' : (x :: P)[p + 1]? = some a := by rw [List.getElem?_cons_succ]; exact hq
    have ha : a < n := (hP.2 a).mp (List.mem_of_getElem? hP')
    have hlt : p + 1 < n := by have := (List.getElem?_eq_some_iff.mp hP').1; rw [hP.len (ahW_asy s)] at this; exact this
    have hne : a ≠ x := fun e => by
      subst e
      have h3 := (List.pairwise_cons.mp hP.1).1 a (List.mem_of_getElem? hq)
      have h4 := ahW_asy s a a h3
      rw [h3] at h4
      cases h4
    obtain ⟨x1, x2, x3⟩ := hX (p + 1) a hP'
    obtain ⟨y1, y2, y3⟩ := hs p hlt
    have hc := (hw.cnt ha).2.2
    rw [h.c ha hne, h.u ha hne, y1, y2, h.cnt ha hne]
    exact ⟨x1, x2, fun k hk => by rw [y3 k (by omega), h.w ha hne (by omega)]; exact x3 k hk⟩
end RV
-- one more
theorem add_r {n u : Nat} (h8 : n < 8) (hu : u ≤ 9) (pl : Int32) (sw : Nat → Int32) (U : Nat → Nat) (hU : ∀ i, i < n → U i ≤ 9) : ∀ (p : Nat) (wd ln ug : Nat → Int32) (fu : Nat), p ≤ n → (∀ i, i < p → ug i = nI (U i)) → p + 1 < fu →
    ∃ q wd' ln' ug' fu', rX7_add pl (nI u) sw fu 1 (nI p) (nI n) wd ln ug = rX7_add pl (nI u) sw (fu' + 1) 2 (nI q) (nI n) wd' ln' ug' ∧ q ≤ p ∧ (q = 0 ∨ u ≤ U (q - 1)) ∧ (∀ i, q ≤ i → i < p → U i < u) ∧ (∀ i, i < q → sameP wd ln ug wd' ln' ug' i i) ∧ (∀ i, q ≤ i → i < p → sameP wd ln ug wd' ln' ug' i (i + 1)) ∧ (∀ i, p < i → sameP wd ln ug wd' ln' ug' i i) := by
  intro p
  induction p with
  | zero =>
    intro wd ln ug fu hp hug hf
    obtain ⟨fu, rfl⟩ : ∃ z, fu = z + 1 + 1 := ⟨fu - 2, by omega⟩
    refine ⟨0, wd, ln, ug, fu, ?_, Nat.le_refl _, Or.inl rfl, fun i _ h => absurd h (Nat.not_lt_zero _), fun i _ => sameP.rf, fun i _ h => absurd h (Nat.not_lt_zero _), fun i _ => sameP.rf⟩
    simp (disch := first | omega | assumption) only [↓z_m1, li_0, li_1, li_2, li_3, li_4, li_5, li_6, li_7, li_8, li_9, li_10, li_11, li_12, li_13, li_14, li_15, li_16, li_17, li_18, li_19, li_20, li_21, li_22, li_23, li_24, li_25, li_26, li_27, li_28, li_29, li_30, li_31, li_32, li_33, li_34, li_35, li_36, li_37, li_38, li_39, li_40, li_41, li_42, li_43, li_44, li_45, li_46, li_47, li_48, li_49, li_50, li_51, li_52, li_53, li_54, li_55, li_56, li_57, li_58, li_59, li_60, li_61, li_62, li_63, li_64, li_65, li_66, li_67, li_68, li_69, li_70, li_71, li_72, li_73, li_74, li_75, li_76, li_77, li_78, li_79, li_80, li_81, li_82, li_83, li_84, li_85, li_86, li_87, li_88, li_89, li_90, li_91, li_92, li_93, li_94, li_95, li_96, li_97, li_98, li_99, li_100, li_101, li_102, li_103, li_104, li_105, li_106, li_107, li_108, li_109, li_110, li_111, li_112, li_113, li_114, li_115, li_116, li_117, li_118, li_119, li_120, li_121, li_122, li_123, li_124, li_125, li_126, li_127, li_128, li_129, li_130, li_180, li_186, li_192, li_304, li_305, li_306, li_307, li_319, li_320, li_321, li_322, li_408, li_409, li_410, li_416, li_422, li_428, li_458, li_459, li_460, li_2300, li_2760, nI_add, z_m6, z_m12, z_m30, z_l10, z_l12, z_l14, z_l17, z_l30, z_l460, z_sub, z_dec, z_dec0, z_m11, z_cl, z_leT, z_leF, z_ltT, z_ltF, z_eqT, z_eqF, z_em, z_me, z_mlt, z_mle, z_ltm, z_lem, z_mltm, z_mlem, z_nleT, z_nleF, z_nltT, z_nltF, or_false, or_self, false_or, or_true, true_or, not_true_eq_false, not_false_eq_true, ↓reduceIte, lt, z_ob, Nat.zero_add, Nat.add_zero, sp_X7_add_1, bX7_add_1]
  | succ p ih =>
    intro wd ln ug fu hp hug hf
    obtain ⟨fu, rfl⟩ : ∃ z, fu = z + 1 + 1 := ⟨fu - 2, by omega⟩
    have h1 := hug p (by omega)
    have h2 := hU p (by omega)
    by_cases e : u ≤ U p
    · refine ⟨p + 1, wd, ln, ug, fu, ?_, Nat.le_refl _, Or.inr (by rw [Nat.add_sub_cancel]; exact e), fun i h3 h4 => by omega, fun i _ => sameP.rf, fun i h3 h4 => by omega, fun i _ => sameP.rf⟩
      simp (disch := first | omega | assumption) only [↓z_m1, li_0, li_1, li_2, li_3, li_4, li_5, li_6, li_7, li_8, li_9, li_10, li_11, li_12, li_13, li_14, li_15, li_16, li_17, li_18, li_19, li_20, li_21, li_22, li_23, li_24, li_25, li_26, li_27, li_28, li_29, li_30, li_31, li_32, li_33, li_34, li_35, li_36, li_37, li_38, li_39, li_40, li_41, li_42, li_43, li_44, li_45, li_46, li_47, li_48, li_49, li_50, li_51, li_52, li_53, li_54, li_55, li_56, li_57, li_58, li_59, li_60, li_61, li_62, li_63, li_64, li_65, li_66, li_67, li_68, li_69, li_70, li_71, li_72, li_73, li_74, li_75, li_76, li_77, li_78, li_79, li_80, li_81, li_82, li_83, li_84, li_85, li_86, li_87, li_88, li_89, li_90, li_91, li_92, li_93, li_94, li_95, li_96, li_97, li_98, li_99, li_100, li_101, li_102, li_103, li_104, li_105, li_106, li_107, li_108, li_109, li_110, li_111, li_112, li_113, li_114, li_115, li_116, li_117, li_118, li_119, li_120, li_121, li_122, li_123, li_124, li_125, li_126, li_127, li_128, li_129, li_130, li_180, li_186, li_192, li_304, li_305, li_306, li_307, li_319, li_320, li_321, li_322, li_408, li_409, li_410, li_416, li_422, li_428, li_458, li_459, li_460, li_2300, li_2760, nI_add, z_m6, z_m12, z_m30, z_l10, z_l12, z_l14, z_l17, z_l30, z_l460, z_sub, z_dec, z_dec0, z_m11, z_cl, z_leT, z_leF, z_ltT, z_ltF, z_eqT, z_eqF, z_em, z_me, z_mlt, z_mle, z_ltm, z_lem, z_mltm, z_mlem, z_nleT, z_nleF, z_nltT, z_nltF, or_false, or_self, false_or, or_true, true_or, not_true_eq_false, not_false_eq_true, ↓reduceIte, lt, z_ob, Nat.zero_add, Nat.add_zero, sp_X7_add_1, bX7_add_1, Nat.add_sub_cancel, h1]
    · obtain ⟨q, wd', ln', ug', fu', e1, e2, e3, e4, e5, e6, e7⟩ := ih (va_cpy wd wd (12 * p) (12 * (p + 1)) 12) (upd ln (p + 1) (ln p)) (upd ug (p + 1) (ug p)) (fu + 1) (by omega) (fun i hi => by rw [pk_un (by omega)]; exact hug i (by omega)) (by omega)
      refine ⟨q, wd', ln', ug', fu', ?_, by omega, e3, fun i h3 h4 => ?_, fun i h3 => ?_, fun i h3 h4 => ?_, fun i h3 => ?_⟩
      · rw [← e1]
        simp (disch := first | omega | assumption) only [↓z_m1, li_0, li_1, li_2, li_3, li_4, li_5, li_6, li_7, li_8, li_9, li_10, li_11, li_12, li_13, li_14, li_15, li_16, li_17, li_18, li_19, li_20, li_21, li_22, li_23, li_24, li_25, li_26, li_27, li_28, li_29, li_30, li_31, li_32, li_33, li_34, li_35, li_36, li_37, li_38, li_39, li_40, li_41, li_42, li_43, li_44, li_45, li_46, li_47, li_48, li_49, li_50, li_51, li_52, li_53, li_54, li_55, li_56, li_57, li_58, li_59, li_60, li_61, li_62, li_63, li_64, li_65, li_66, li_67, li_68, li_69, li_70, li_71, li_72, li_73, li_74, li_75, li_76, li_77, li_78, li_79, li_80, li_81, li_82, li_83, li_84, li_85, li_86, li_87, li_88, li_89, li_90, li_91, li_92, li_93, li_94, li_95, li_96, li_97, li_98, li_99, li_100, li_101, li_102, li_103, li_104, li_105, li_106, li_107, li_108, li_109, li_110, li_111, li_112, li_113, li_114, li_115, li_116, li_117, li_118, li_119, li_120, li_121, li_122, li_123, li_124, li_125, li_126, li_127, li_128, li_129, li_130, li_180, li_186, li_192, li_304, li_305, li_306, li_307, li_319, li_320, li_321, li_322, li_408, li_409, li_410, li_416, li_422, li_428, li_458, li_459, li_460, li_2300, li_2760, nI_add, z_m6, z_m12, z_m30, z_l10, z_l12, z_l14, z_l17, z_l30, z_l460, z_sub, z_dec, z_dec0, z_m11, z_cl, z_leT, z_leF, z_ltT, z_ltF, z_eqT, z_eqF, z_em, z_me, z_mlt, z_mle, z_ltm, z_lem, z_mltm, z_mlem, z_nleT, z_nleF, z_nltT, z_nltF, or_false, or_self, false_or, or_true, true_or, not_true_eq_false, not_false_eq_true, ↓reduceIte, lt, z_ob, Nat.zero_add, Nat.add_zero, sp_X7_add_1, bX7_add_1, Nat.add_sub_cancel, h1, copyP_X]
      · by_cases e8 : i = p
        · subst e8; omega
        · exact e4 i h3 (by omega)
      · exact (sameP_other (by omega) wd ln ug).tr (e5 i h3)
      · by_cases e8 : i = p
        · subst e8
          exact (sameP_copy wd ln ug).tr (e7 (i + 1) (by omega))
        · exact (sameP_other (by omega) wd ln ug).tr (e6 i h3 (by omega))
      · exact (sameP_other (by omega) wd ln ug).tr (e7 i (by omega))
theorem add_X {n u : Nat} (h8 : n < 8) (hu : u ≤ 9) (pl : Int32) (sw : Nat → Int32) (U : Nat → Nat) (hU : ∀ i, i < n → U i ≤ 9) (wd ln ug : Nat → Int32) (hug : ∀ i, i < n → ug i = nI (U i)) :
    ∃ q wd' ln' ug', fX7_add (nI n) wd ln ug pl (nI u) sw = some (nI 1, nI (n + 1), wd', ln', ug') ∧ q ≤ n ∧ (q = 0 ∨ u ≤ U (q - 1)) ∧ (∀ i, q ≤ i → i < n → U i < u) ∧ (∀ i, i < q → sameP wd ln ug wd' ln' ug' i i) ∧ (∀ i, q ≤ i → i < n → sameP wd ln ug wd' ln' ug' i (i + 1)) ∧ ln' q = pl ∧ ug' q = nI u ∧ ∀ j, j < 12 → wd' (12 * q + j) = sw j := by
  obtain ⟨q, wd', ln', ug', fu', e1, e2, e3, e4, e5, e6, e7⟩ := add_r h8 hu pl sw U hU n wd ln ug fuelN (Nat.le_refl _) hug (by show _ < 1000000; omega)
  refine ⟨q, va_cpy sw wd' 0 (12 * q) 12, upd ln' q pl, upd ug' q (nI u), ?_, e2, e3, e4, fun i hi => ?_, fun i h1 h2 => ?_, pk_us, pk_us, fun j hj => ?_⟩
  · unfold fX7_add eX7_add
    simp (disch := first | omega | assumption) only [↓z_m1, li_0, li_1, li_2, li_3, li_4, li_5, li_6, li_7, li_8, li_9, li_10, li_11, li_12, li_13, li_14, li_15, li_16, li_17, li_18, li_19, li_20, li_21, li_22, li_23, li_24, li_25, li_26, li_27, li_28, li_29, li_30, li_31, li_32, li_33, li_34, li_35, li_36, li_37, li_38, li_39, li_40, li_41, li_42, li_43, li_44, li_45, li_46, li_47, li_48, li_49, li_50, li_51, li_52, li_53, li_54, li_55, li_56, li_57, li_58, li_59, li_60, li_61, li_62, li_63, li_64, li_65, li_66, li_67, li_68, li_69, li_70, li_71, li_72, li_73, li_74, li_75, li_76, li_77, li_78, li_79, li_80, li_81, li_82, li_83, li_84, li_85, li_86, li_87, li_88, li_89, li_90, li_91, li_92, li_93, li_94, li_95, li_96, li_97, li_98, li_99, li_100, li_101, li_102, li_103, li_104, li_105, li_106, li_107, li_108, li_109, li_110, li_111, li_112, li_113, li_114, li_115, li_116, li_117, li_118, li_119, li_120, li_121, li_122, li_123, li_124, li_125, li_126, li_127, li_128, li_129, li_130, li_180, li_186, li_192, li_304, li_305, li_306, li_307, li_319, li_320, li_321, li_322, li_408, li_409, li_410, li_416, li_422, li_428, li_458, li_459, li_460, li_2300, li_2760, nI_add, z_m6, z_m12, z_m30, z_l10, z_l12, z_l14, z_l17, z_l30, z_l460, z_sub, z_dec, z_dec0, z_m11, z_cl, z_leT, z_leF, z_ltT, z_ltF, z_eqT, z_eqF, z_em, z_me, z_mlt, z_mle, z_ltm, z_lem, z_mltm, z_mlem, z_nleT, z_nleF, z_nltT, z_nltF, or_false, or_self, false_or, or_true, true_or, not_true_eq_false, not_false_eq_true, ↓reduceIte, lt, z_ob, Nat.zero_add, Nat.add_zero, e1, sp_X7_add_2, bX7_add_2]
  · obtain ⟨y1, y2, y3⟩ := e5 i hi
    exact ⟨by rw [pk_un (by omega)]; exact y1, by rw [pk_un (by omega)]; exact y2, fun j hj => by rw [pk_cpy_out (by omega)]; exact y3 j hj⟩
  · obtain ⟨y1, y2, y3⟩ := e6 i h1 h2
    exact ⟨by rw [pk_un (by omega)]; exact y1, by rw [pk_un (by omega)]; exact y2, fun j hj => by rw [pk_cpy_out (by omega)]; exact y3 j hj⟩
  · rw [pk_cpy_in (by omega) (by omega)]
    congr 1
    omega
theorem add_full (pl u : Int32) (sw wd ln ug : Nat → Int32) : fX7_add (nI 8) wd ln ug pl u sw = some (nI 0, nI 8, wd, ln, ug) := by
  unfold fX7_add eX7_add
  simp (disch := first | omega | assumption) only [↓z_m1, li_0, li_1, li_2, li_3, li_4, li_5, li_6, li_7, li_8, li_9, li_10, li_11, li_12, li_13, li_14, li_15, li_16, li_17, li_18, li_19, li_20, li_21, li_22, li_23, li_24, li_25, li_26, li_27, li_28, li_29, li_30, li_31, li_32, li_33, li_34, li_35, li_36, li_37, li_38, li_39, li_40, li_41, li_42, li_43, li_44, li_45, li_46, li_47, li_48, li_49, li_50, li_51, li_52, li_53, li_54, li_55, li_56, li_57, li_58, li_59, li_60, li_61, li_62, li_63, li_64, li_65, li_66, li_67, li_68, li_69, li_70, li_71, li_72, li_73, li_74, li_75, li_76, li_77, li_78, li_79, li_80, li_81, li_82, li_83, li_84, li_85, li_86, li_87, li_88, li_89, li_90, li_91, li_92, li_93, li_94, li_95, li_96, li_97, li_98, li_99, li_100, li_101, li_102, li_103, li_104, li_105, li_106, li_107, li_108, li_109, li_110, li_111, li_112, li_113, li_114, li_115, li_116, li_117, li_118, li_119, li_120, li_121, li_122, li_123, li_124, li_125, li_126, li_127, li_128, li_129, li_130, li_180, li_186, li_192, li_304, li_305, li_306, li_307, li_319, li_320, li_321, li_322, li_408, li_409, li_410, li_416, li_422, li_428, li_458, li_459, li_460, li_2300, li_2760, nI_add, z_m6, z_m12, z_m30, z_l10, z_l12, z_l14, z_l17, z_l30, z_l460, z_sub, z_dec, z_dec0, z_m11, z_cl, z_leT, z_leF, z_ltT, z_ltF, z_eqT, z_eqF, z_em, z_me, z_mlt, z_mle, z_ltm, z_lem, z_mltm, z_mlem, z_nleT, z_nleF, z_nltT, z_nltF, or_false, or_self, false_or, or_true, true_or, not_true_eq_false, not_false_eq_true, ↓reduceIte, lt, z_ob, Nat.zero_add, Nat.add_zero]
/-- sentence n is new among those that wait -/
def Nws (s s' : Nat → Int32) (n c u : Nat) (ws : List Nat) : Prop := (∀ j, j < 14 * n → s' (192 + j) = s (192 + j)) ∧ s' (192 + 14 * n) = nI c ∧ s' (192 + 14 * n + 1) = nI u ∧ (∀ k, k < 12 → s' (192 + 14 * n + 2 + k) = nI (ws.getD k 0)) ∧ s' 304 = nI (n + 1)
section NW
variable {s s' : Nat → Int32} {n c u : Nat} {ws : List Nat}
theorem Nws.old (h : Nws s s' n c u ws) {a j : Nat} (ha : a < n) (hj : j < 14) : s' (192 + 14 * a + j) = s (192 + 14 * a + j) := by
  have := h.1 (14 * a + j) (by omega)
  rw [← Nat.add_assoc] at this
  exact this
theorem Nws.oldu (h : Nws s s' n c u ws) {a : Nat} (ha : a < n) : urgN s' a = urgN s a := by
  unfold urgN; rw [h.old ha (by omega)]
theorem Nws.oldc (h : Nws s s' n c u ws) {a : Nat} (ha : a < n) : cntN s' a = cntN s a := by
  unfold cntN
  have := h.old ha (j := 0) (by omega)
  rw [Nat.add_zero] at this
  rw [this]
theorem Wt.nws (hw : Wt s n) (h : Nws s s' n c u ws) (h8 : n < 8) (h1 : 1 ≤ c) (h12 : c ≤ 12) (hu : u ≤ 9) (hws : ∀ k, ws.getD k 0 < 30) : Wt s' (n + 1) := by
  refine ⟨h.2.2.2.2, by omega, fun a ha => ?_⟩
  by_cases e : a = n
  · subst e
    exact ⟨⟨c, h1, h12, h.2.1⟩, ⟨u, hu, h.2.2.1⟩, fun k hk => ⟨_, hws k, h.2.2.2.1 k hk⟩⟩
  · have hlt : a < n := by omega
    obtain ⟨q1, q2, q3⟩ := hw.2.2 a hlt
    have g0 := h.old hlt (j := 0) (by omega)
    rw [Nat.add_zero] at g0
    rw [g0, h.old hlt (j := 1) (by omega)]
    exact ⟨q1, q2, fun k hk => by
      have g2 := h.old hlt (j := 2 + k) (by omega)
      rw [← Nat.add_assoc] at g2
      rw [g2]; exact q3 k hk⟩
theorem ahW_old (h : Nws s s' n c u ws) (a b : Nat) (ha : a < n) (hb : b < n) : ahW s' a b = ahW s a b := by
  unfold ahW; rw [h.oldu ha, h.oldu hb]
theorem Nws.urg (h : Nws s s' n c u ws) (hu : u ≤ 9) : urgN s' n = u := by
  unfold urgN; rw [h.2.2.1, nI_clamp (by omega)]
theorem Nws.cnt (h : Nws s s' n c u ws) (h12 : c ≤ 12) : cntN s' n = c := by
  unfold cntN; rw [h.2.1, nI_clamp (by omega)]
theorem Srt.nws {P : List Nat} (hP : Srt (ahW s) n P) (h : Nws s s' n c u ws) (hu : u ≤ 9) {q : Nat} (hq : q ≤ n) (h1 : q = 0 ∨ u ≤ urgN s (P.getD (q - 1) 0)) (h2 : ∀ i, q ≤ i → i < n → urgN s (P.getD i 0) < u) : Srt (ahW s') (n + 1) (P.take q ++ n :: P.drop q) := by
  have hl := hP.len (ahW_asy s)
  refine hP.ins (ahW_old h) q (fun a ha => ?_) (fun a ha => ?_)
  · obtain ⟨p, hp⟩ := List.getElem?_of_mem ha
    have hpq : p < q := by have := (List.getElem?_eq_some_iff.mp hp).1; rw [List.length_take] at this; omega
    rw [List.getElem?_take_of_lt hpq] at hp
    have han : a < n := (hP.2 a).mp (List.mem_of_getElem? hp)
    have hge : u ≤ urgN s a := by
      rcases h1 with h1 | h1
      · omega
      · by_cases e : p = q - 1
        · subst e
          rw [List.getD_eq_getElem?_getD, hp] at h1
          exact h1
        · have h3 : P[q - 1]? = some (P.getD (q - 1) 0) := by
            rw [List.getD_eq_getElem?_getD, List.getElem?_eq_getElem (by omega : q - 1 < P.length)]; rfl
          have h4 := (List.pairwise_iff_getElem.mp hP.1) p (q - 1) (by omega) (by omega) (by omega)
          have h5 : P[p]'(by omega) = a := Option.some.inj ((List.getElem?_eq_getElem (by omega : p < P.length)).symm.trans hp)
          have h6 : P[q - 1]'(by omega) = P.getD (q - 1) 0 := Option.some.inj ((List.getElem?_eq_getElem (by omega : q - 1 < P.length)).symm.trans h3)
          rw [h5, h6] at h4
          unfold ahW at h4
          simp only [Bool.or_eq_true, Bool.and_eq_true, decide_eq_true_eq] at h4
          omega
    unfold ahW
    rw [h.urg hu, h.oldu han]
    simp only [Bool.or_eq_true, Bool.and_eq_true, decide_eq_true_eq]
    omega
  · obtain ⟨p, hp⟩ := List.getElem?_of_mem ha
    rw [List.getElem?_drop] at hp
    have han : a < n := (hP.2 a).mp (List.mem_of_getElem? hp)
    have hpn : q + p < n := by have := (List.getElem?_eq_some_iff.mp hp).1; omega
    have h3 := h2 (q + p) (by omega) hpn
    rw [List.getD_eq_getElem?_getD, hp] at h3
    have h3 : urgN s a < u := h3
    unfold ahW
    rw [h.urg hu, h.oldu han]
    simp only [Bool.or_eq_true, Bool.and_eq_true, decide_eq_true_eq]
    omega
theorem ins_at {P : List Nat} {q : Nat} (hq : q ≤ P.length) (x p : Nat) : (P.take q ++ x :: P.drop q)[p]? = if p < q then P[p]? else if p = q then some x else P[p - 1]? := by
  by_cases h : p < q
  · rw [if_pos h, List.getElem?_append_left (by rw [List.length_take]; omega), List.getElem?_take_of_lt h]
  · rw [if_neg h, List.getElem?_append_right (by rw [List.length_take]; omega), List.length_take, Nat.min_eq_left hq]
    by_cases e : p = q
    · subst e; rw [if_pos rfl, Nat.sub_self]; rfl
    · rw [if_neg e, show p - q = (p - q - 1) + 1 by omega, List.getElem?_cons_succ, List.getElem?_drop]
      congr 1
      omega
theorem WaitX.nws {P : List Nat} (hw : Wt s n) (hP : Srt (ahW s) n P) (h : Nws s s' n c u ws) (h12 : c ≤ 12) (hl : c = ws.length) {sw wd ln ug wd' ln' ug' : Nat → Int32} (hX : WaitX s P wd ln ug) (hsw : isR sw 0 ws) {q : Nat} (hq : q ≤ n) (g1 : ∀ i, i < q → sameP wd ln ug wd' ln' ug' i i) (g2 : ∀ i, q ≤ i → i < n → sameP wd ln ug wd' ln' ug' i (i + 1)) (g3 : ln' q = nI c) (g4 : ug' q = nI u) (g5 : ∀ j, j < 12 → wd' (12 * q + j) = sw j) : WaitX s' (P.take q ++ n :: P.drop q) wd' ln' ug' := by
  have hlen := hP.len (ahW_asy s)
  have key : ∀ i p a, P[i]? = some a → sameP wd ln ug wd' ln' ug' i p → ln' p = s' (192 + 14 * a) ∧ ug' p = s' (192 + 14 * a + 1) ∧ ∀ k, k < cntN s' a → wd' (12 * p + k) = s' (192 + 14 * a + 2 + k) := by
    intro i p a hi hs
    have ha : a < n := (hP.2 a).mp (List.mem_of_getElem? hi)
    obtain ⟨x1, x2, x3⟩ := hX i a hi
    have hc := (hw.cnt ha).2.2
    have g0 := h.old ha (j := 0) (by omega)
    rw [Nat.add_zero] at g0
    rw [g0, h.old ha (j := 1) (by omega), h.oldc ha, hs.1, hs.2.1]
    refine ⟨x1, x2, fun k hk => ?_⟩
    have g2 := h.old ha (j := 2 + k) (by omega)
    rw [← Nat.add_assoc] at g2
    rw [g2, hs.2.2 k (by omega)]
    exact x3 k hk
  intro p a hp
  rw [ins_at (by omega)] at hp
  by_cases e : p < q
  · rw [if_pos e] at hp
    exact key p p a hp (g1 p e)
  · rw [if_neg e] at hp
    by_cases e2 : p = q
    · subst e2
      rw [if_pos rfl] at hp
      obtain rfl : n = a := Option.some.inj hp
      refine ⟨by rw [g3, h.2.1], by rw [g4, h.2.2.1], fun k hk => ?_⟩
      rw [h.cnt h12] at hk
      have h6 := isR_at hsw k (by omega)
      rw [Nat.zero_add] at h6
      rw [g5 k (by omega), h6, h.2.2.2.1 k (by omega)]
    · rw [if_neg e2] at hp
      have hpn : p - 1 < n := by have := (List.getElem?_eq_some_iff.mp hp).1; omega
      have h7 := g2 (p - 1) (by omega) hpn
      rw [show p - 1 + 1 = p by omega] at h7
      exact key (p - 1) p a hp h7
end NW

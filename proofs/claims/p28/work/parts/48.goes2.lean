-- pure: the model sends the first, from the arrivals on
section G2
theorem goes_3 (x1 x2 x3 x4 x5 sz mi pd lo : Int32) (line back : Nat → Int32) : ∀ (k : Nat) (s : Nat → Int32) (fu : Nat), k ≤ 85 → k < fu →
    ∃ s' fu', rX9_goes fu 3 x1 x2 x3 x4 x5 (nI (16 + k)) (nI 0) (nI 0) (nI 0) (nI 0) (nI 0) sz mi pd lo s line back = rX9_goes fu' 4 x1 x2 x3 x4 x5 (nI 0) (nI 0) (nI 0) (nI 0) (nI 0) (nI 0) sz mi pd lo (upd s' 306 sz) line back ∧ (∀ i, i < k → s' (323 + i) = s (306 + i)) ∧ (∀ j, j < 323 ∨ 323 + k ≤ j → s' j = s j) ∧ fu = fu' + k + 1 := by
  intro k
  induction k with
  | zero =>
    intro s fu hk hf
    obtain ⟨fu, rfl⟩ := fuS hf
    refine ⟨s, fu, ?_, fun i hi => absurd hi (Nat.not_lt_zero _), fun j _ => rfl, by omega⟩
    simp (disch := first | omega | assumption) only [↓z_m1, li_0, li_1, li_2, li_3, li_4, li_5, li_6, li_7, li_8, li_9, li_10, li_11, li_12, li_13, li_14, li_15, li_16, li_17, li_18, li_19, li_20, li_21, li_22, li_23, li_24, li_25, li_26, li_27, li_28, li_29, li_30, li_31, li_32, li_33, li_34, li_35, li_36, li_37, li_38, li_39, li_40, li_41, li_42, li_43, li_44, li_45, li_46, li_47, li_48, li_49, li_50, li_51, li_52, li_53, li_54, li_55, li_56, li_57, li_58, li_59, li_60, li_61, li_62, li_63, li_64, li_65, li_66, li_67, li_68, li_69, li_70, li_71, li_72, li_73, li_74, li_75, li_76, li_77, li_78, li_79, li_80, li_81, li_82, li_83, li_84, li_85, li_86, li_87, li_88, li_89, li_90, li_91, li_92, li_93, li_94, li_95, li_96, li_97, li_98, li_99, li_100, li_101, li_102, li_103, li_104, li_105, li_106, li_107, li_108, li_109, li_110, li_111, li_112, li_113, li_114, li_115, li_116, li_117, li_118, li_119, li_120, li_121, li_122, li_123, li_124, li_125, li_126, li_127, li_128, li_129, li_130, li_180, li_186, li_192, li_304, li_305, li_306, li_307, li_319, li_320, li_321, li_322, li_408, li_409, li_410, li_416, li_422, li_428, li_458, li_459, li_460, li_2300, li_2760, nI_add, z_m6, z_m12, z_m30, z_l10, z_l12, z_l14, z_l17, z_l30, z_l460, z_sub, z_dec, z_dec0, z_m11, z_cl, z_leT, z_leF, z_ltT, z_ltF, z_eqT, z_eqF, z_em, z_me, z_mlt, z_mle, z_ltm, z_lem, z_mltm, z_mlem, z_nleT, z_nleF, z_nltT, z_nltF, or_false, or_self, false_or, or_true, true_or, not_true_eq_false, not_false_eq_true, ↓reduceIte, lt, z_ob, Nat.zero_add, Nat.add_zero, sp_X9_goes_3, bX9_goes_3]
  | succ k ih =>
    intro s fu hk hf
    obtain ⟨fu, rfl⟩ := fuS hf
    obtain ⟨s', fu', e1, e2, e3, e4⟩ := ih (upd s (323 + k) (s (306 + k))) fu (by omega) (by omega)
    refine ⟨s', fu', ?_, fun i hi => ?_, fun j hj => ?_, by omega⟩
    · rw [← e1, sp_X9_goes_3]
      simp (disch := first | omega | assumption) only [↓z_m1, li_0, li_1, li_2, li_3, li_4, li_5, li_6, li_7, li_8, li_9, li_10, li_11, li_12, li_13, li_14, li_15, li_16, li_17, li_18, li_19, li_20, li_21, li_22, li_23, li_24, li_25, li_26, li_27, li_28, li_29, li_30, li_31, li_32, li_33, li_34, li_35, li_36, li_37, li_38, li_39, li_40, li_41, li_42, li_43, li_44, li_45, li_46, li_47, li_48, li_49, li_50, li_51, li_52, li_53, li_54, li_55, li_56, li_57, li_58, li_59, li_60, li_61, li_62, li_63, li_64, li_65, li_66, li_67, li_68, li_69, li_70, li_71, li_72, li_73, li_74, li_75, li_76, li_77, li_78, li_79, li_80, li_81, li_82, li_83, li_84, li_85, li_86, li_87, li_88, li_89, li_90, li_91, li_92, li_93, li_94, li_95, li_96, li_97, li_98, li_99, li_100, li_101, li_102, li_103, li_104, li_105, li_106, li_107, li_108, li_109, li_110, li_111, li_112, li_113, li_114, li_115, li_116, li_117, li_118, li_119, li_120, li_121, li_122, li_123, li_124, li_125, li_126, li_127, li_128, li_129, li_130, li_180, li_186, li_192, li_304, li_305, li_306, li_307, li_319, li_320, li_321, li_322, li_408, li_409, li_410, li_416, li_422, li_428, li_458, li_459, li_460, li_2300, li_2760, nI_add, z_m6, z_m12, z_m30, z_l10, z_l12, z_l14, z_l17, z_l30, z_l460, z_sub, z_dec, z_dec0, z_m11, z_cl, z_leT, z_leF, z_ltT, z_ltF, z_eqT, z_eqF, z_em, z_me, z_mlt, z_mle, z_ltm, z_lem, z_mltm, z_mlem, z_nleT, z_nleF, z_nltT, z_nltF, or_false, or_self, false_or, or_true, true_or, not_true_eq_false, not_false_eq_true, ↓reduceIte, lt, z_ob, Nat.zero_add, Nat.add_zero, bX9_goes_3]
      rw [show 306 + (16 + (k + 1)) = 323 + k by omega, show 323 + k - 17 = 306 + k by omega, show 16 + (k + 1) - 1 = 16 + k by omega]
    · by_cases e : i = k
      · subst e
        rw [e3 _ (by omega), pk_us]
      · rw [e2 i (by omega), pk_un (by omega)]
    · rw [e3 j (by omega), pk_un (by omega)]
theorem goes_4 (x1 x2 x3 x4 x5 mi pd lo : Int32) {n : Nat} (h12 : n ≤ 12) (line back : Nat → Int32) : ∀ (k i : Nat) (s : Nat → Int32) (fu : Nat), i + k = 12 → 2 * k < fu →
    ∃ s' fu', rX9_goes fu 4 x1 x2 x3 x4 x5 (nI i) (nI 0) (nI 0) (nI 0) (nI 0) (nI 0) (nI n) mi pd lo s line back = rX9_goes fu' 4 x1 x2 x3 x4 x5 (nI 12) (nI 0) (nI 0) (nI 0) (nI 0) (nI 0) (nI n) mi pd lo s' line back ∧ (∀ j, i ≤ j → j < n → s' (307 + j) = line j) ∧ (∀ j, j < 307 + i ∨ 319 ≤ j → s' j = s j) ∧ fu = fu' + 2 * k := by
  intro k
  induction k with
  | zero =>
    intro i s fu hi hf
    obtain rfl : i = 12 := by omega
    exact ⟨s, fu, rfl, fun j h1 h2 => by omega, fun j _ => rfl, by omega⟩
  | succ k ih =>
    intro i s fu hi hf
    obtain ⟨fu, rfl⟩ : ∃ z, fu = z + 1 + 1 := ⟨fu - 2, by omega⟩
    obtain ⟨s', fu', e1, e2, e3, e4⟩ := ih (i + 1) (upd s (307 + i) (if i < n then line i else nI 0)) fu (by omega) (by omega)
    refine ⟨s', fu', ?_, fun j h1 h2 => ?_, fun j hj => ?_, by omega⟩
    · rw [← e1]
      by_cases e : i < n
      · rw [if_pos e]
        simp (disch := first | omega | assumption) only [↓z_m1, li_0, li_1, li_2, li_3, li_4, li_5, li_6, li_7, li_8, li_9, li_10, li_11, li_12, li_13, li_14, li_15, li_16, li_17, li_18, li_19, li_20, li_21, li_22, li_23, li_24, li_25, li_26, li_27, li_28, li_29, li_30, li_31, li_32, li_33, li_34, li_35, li_36, li_37, li_38, li_39, li_40, li_41, li_42, li_43, li_44, li_45, li_46, li_47, li_48, li_49, li_50, li_51, li_52, li_53, li_54, li_55, li_56, li_57, li_58, li_59, li_60, li_61, li_62, li_63, li_64, li_65, li_66, li_67, li_68, li_69, li_70, li_71, li_72, li_73, li_74, li_75, li_76, li_77, li_78, li_79, li_80, li_81, li_82, li_83, li_84, li_85, li_86, li_87, li_88, li_89, li_90, li_91, li_92, li_93, li_94, li_95, li_96, li_97, li_98, li_99, li_100, li_101, li_102, li_103, li_104, li_105, li_106, li_107, li_108, li_109, li_110, li_111, li_112, li_113, li_114, li_115, li_116, li_117, li_118, li_119, li_120, li_121, li_122, li_123, li_124, li_125, li_126, li_127, li_128, li_129, li_130, li_180, li_186, li_192, li_304, li_305, li_306, li_307, li_319, li_320, li_321, li_322, li_408, li_409, li_410, li_416, li_422, li_428, li_458, li_459, li_460, li_2300, li_2760, nI_add, z_m6, z_m12, z_m30, z_l10, z_l12, z_l14, z_l17, z_l30, z_l460, z_sub, z_dec, z_dec0, z_m11, z_cl, z_leT, z_leF, z_ltT, z_ltF, z_eqT, z_eqF, z_em, z_me, z_mlt, z_mle, z_ltm, z_lem, z_mltm, z_mlem, z_nleT, z_nleF, z_nltT, z_nltF, or_false, or_self, false_or, or_true, true_or, not_true_eq_false, not_false_eq_true, ↓reduceIte, lt, z_ob, Nat.zero_add, Nat.add_zero, sp_X9_goes_4, bX9_goes_4, sp_X9_goes_5, bX9_goes_5]
      · rw [if_neg e]
        simp (disch := first | omega | assumption) only [↓z_m1, li_0, li_1, li_2, li_3, li_4, li_5, li_6, li_7, li_8, li_9, li_10, li_11, li_12, li_13, li_14, li_15, li_16, li_17, li_18, li_19, li_20, li_21, li_22, li_23, li_24, li_25, li_26, li_27, li_28, li_29, li_30, li_31, li_32, li_33, li_34, li_35, li_36, li_37, li_38, li_39, li_40, li_41, li_42, li_43, li_44, li_45, li_46, li_47, li_48, li_49, li_50, li_51, li_52, li_53, li_54, li_55, li_56, li_57, li_58, li_59, li_60, li_61, li_62, li_63, li_64, li_65, li_66, li_67, li_68, li_69, li_70, li_71, li_72, li_73, li_74, li_75, li_76, li_77, li_78, li_79, li_80, li_81, li_82, li_83, li_84, li_85, li_86, li_87, li_88, li_89, li_90, li_91, li_92, li_93, li_94, li_95, li_96, li_97, li_98, li_99, li_100, li_101, li_102, li_103, li_104, li_105, li_106, li_107, li_108, li_109, li_110, li_111, li_112, li_113, li_114, li_115, li_116, li_117, li_118, li_119, li_120, li_121, li_122, li_123, li_124, li_125, li_126, li_127, li_128, li_129, li_130, li_180, li_186, li_192, li_304, li_305, li_306, li_307, li_319, li_320, li_321, li_322, li_408, li_409, li_410, li_416, li_422, li_428, li_458, li_459, li_460, li_2300, li_2760, nI_add, z_m6, z_m12, z_m30, z_l10, z_l12, z_l14, z_l17, z_l30, z_l460, z_sub, z_dec, z_dec0, z_m11, z_cl, z_leT, z_leF, z_ltT, z_ltF, z_eqT, z_eqF, z_em, z_me, z_mlt, z_mle, z_ltm, z_lem, z_mltm, z_mlem, z_nleT, z_nleF, z_nltT, z_nltF, or_false, or_self, false_or, or_true, true_or, not_true_eq_false, not_false_eq_true, ↓reduceIte, lt, z_ob, Nat.zero_add, Nat.add_zero, sp_X9_goes_4, bX9_goes_4, sp_X9_goes_5, bX9_goes_5]
    · by_cases e : j = i
      · subst e
        rw [e3 _ (by omega), pk_us, if_pos h2]
      · exact e2 j (by omega) h2
    · rw [e3 j (by omega), pk_un (by omega)]
/-- the counts of what went -/
theorem goes_6 (x1 : Int32) {L : Nat} (hL : L ≤ 6) (cost bk sent mi pd lo : Int32) {n kp : Nat} (hkp : kp ≤ 6) (s line back : Nat → Int32) (h408 : s 408 = nI kp) (fu : Nat) :
    ∃ s' y, rX9_goes (fu + 1 + 1) 4 x1 (lk L) bk cost sent (nI 12) (nI 0) (nI 0) (nI 0) (nI 0) (nI 0) (nI n) mi pd lo s line back = rX9_goes fu (if L = 6 then 9 else 7) x1 (nI 0) (nI 0) (nI 0) y (nI 0) (nI 0) (nI 0) (nI 0) (nI 0) (nI 0) (nI n) mi pd lo s' line back ∧ (L < 6 → y = sent) ∧
      s' 319 = cost ∧ s' 320 = lk L ∧ s' 321 = bk ∧ s' 322 = sent ∧ s' 408 = nI (if kp < 6 then kp + 1 else 6) ∧ s' 305 = s 305 + nI 1 ∧ (s' 409 = if L < 6 then s 409 + nI 1 else s 409) ∧ (∀ i, i < 6 → s' (422 + i) = if i = L then s (422 + i) + nI 1 else s (422 + i)) ∧
      (∀ j, j < 305 ∨ 305 < j ∧ j < 319 ∨ 322 < j ∧ j < 408 ∨ 409 < j ∧ j < 422 ∨ 428 ≤ j → s' j = s j) := by
  obtain ⟨s1, hs1⟩ : ∃ z, z = upd (upd (upd (upd s 319 cost) 320 (lk L)) 321 bk) 322 sent := ⟨_, rfl⟩
  have g408 : s1 408 = nI kp := by rw [hs1, pk_un (by omega), pk_un (by omega), pk_un (by omega), pk_un (by omega)]; exact h408
  obtain ⟨s2, hs2⟩ : ∃ z, z = upd (upd s1 408 (nI (if kp < 6 then kp + 1 else 6))) 305 (s 305 + nI 1) := ⟨_, rfl⟩
  have g305 : ∀ v, upd s1 408 v 305 = s 305 := fun v => by rw [pk_un (by omega), hs1, pk_un (by omega), pk_un (by omega), pk_un (by omega), pk_un (by omega)]
  have m1 : rX9_goes (fu + 1 + 1) 4 x1 (lk L) bk cost sent (nI 12) (nI 0) (nI 0) (nI 0) (nI 0) (nI 0) (nI n) mi pd lo s line back = (if L = 6 then rX9_goes fu 9 x1 (nI 0) (nI 0) (nI 0) (nI 0) (nI 0) (nI 0) (nI 0) (nI 0) (nI 0) (nI 0) (nI n) mi pd lo s2 line back else rX9_goes fu 7 x1 (nI 0) (nI 0) (nI 0) sent (nI 0) (nI 0) (nI 0) (nI 0) (nI 0) (nI 0) (nI n) mi pd lo (upd (upd s2 409 (s2 409 + nI 1)) (422 + L) (upd s2 409 (s2 409 + nI 1) (422 + L) + nI 1)) line back) := by
    rw [sp_X9_goes_4]
    have step : ∀ (b : Nat) (fu : Nat), nI (kp + b) = nI (if kp < 6 then kp + 1 else 6) → rX9_goes (fu + 1) 6 x1 (lk L) (nI 0) (nI 0) sent (nI 0) (nI 0) (nI 0) (nI b) (nI kp) (nI 408) (nI n) mi pd lo s1 line back = (if L = 6 then rX9_goes fu 9 x1 (nI 0) (nI 0) (nI 0) (nI 0) (nI 0) (nI 0) (nI 0) (nI 0) (nI 0) (nI 0) (nI n) mi pd lo s2 line back else rX9_goes fu 7 x1 (nI 0) (nI 0) (nI 0) sent (nI 0) (nI 0) (nI 0) (nI 0) (nI 0) (nI 0) (nI n) mi pd lo (upd (upd s2 409 (s2 409 + nI 1)) (422 + L) (upd s2 409 (s2 409 + nI 1) (422 + L) + nI 1)) line back) := by
      intro b fu hb
      rw [sp_X9_goes_6]
      by_cases e : L = 6
      · subst e
        rw [if_pos rfl, lk_6]
        simp (disch := first | omega | assumption) only [↓z_m1, li_0, li_1, li_2, li_3, li_4, li_5, li_6, li_7, li_8, li_9, li_10, li_11, li_12, li_13, li_14, li_15, li_16, li_17, li_18, li_19, li_20, li_21, li_22, li_23, li_24, li_25, li_26, li_27, li_28, li_29, li_30, li_31, li_32, li_33, li_34, li_35, li_36, li_37, li_38, li_39, li_40, li_41, li_42, li_43, li_44, li_45, li_46, li_47, li_48, li_49, li_50, li_51, li_52, li_53, li_54, li_55, li_56, li_57, li_58, li_59, li_60, li_61, li_62, li_63, li_64, li_65, li_66, li_67, li_68, li_69, li_70, li_71, li_72, li_73, li_74, li_75, li_76, li_77, li_78, li_79, li_80, li_81, li_82, li_83, li_84, li_85, li_86, li_87, li_88, li_89, li_90, li_91, li_92, li_93, li_94, li_95, li_96, li_97, li_98, li_99, li_100, li_101, li_102, li_103, li_104, li_105, li_106, li_107, li_108, li_109, li_110, li_111, li_112, li_113, li_114, li_115, li_116, li_117, li_118, li_119, li_120, li_121, li_122, li_123, li_124, li_125, li_126, li_127, li_128, li_129, li_130, li_180, li_186, li_192, li_304, li_305, li_306, li_307, li_319, li_320, li_321, li_322, li_408, li_409, li_410, li_416, li_422, li_428, li_458, li_459, li_460, li_2300, li_2760, nI_add, z_m6, z_m12, z_m30, z_l10, z_l12, z_l14, z_l17, z_l30, z_l460, z_sub, z_dec, z_dec0, z_m11, z_cl, z_leT, z_leF, z_ltT, z_ltF, z_eqT, z_eqF, z_em, z_me, z_mlt, z_mle, z_ltm, z_lem, z_mltm, z_mlem, z_nleT, z_nleF, z_nltT, z_nltF, or_false, or_self, false_or, or_true, true_or, not_true_eq_false, not_false_eq_true, ↓reduceIte, lt, z_ob, Nat.zero_add, Nat.add_zero, bX9_goes_6, hb, g305, ← hs2]
      · rw [if_neg e, lk_lt (by omega)]
        simp (disch := first | omega | assumption) only [↓z_m1, li_0, li_1, li_2, li_3, li_4, li_5, li_6, li_7, li_8, li_9, li_10, li_11, li_12, li_13, li_14, li_15, li_16, li_17, li_18, li_19, li_20, li_21, li_22, li_23, li_24, li_25, li_26, li_27, li_28, li_29, li_30, li_31, li_32, li_33, li_34, li_35, li_36, li_37, li_38, li_39, li_40, li_41, li_42, li_43, li_44, li_45, li_46, li_47, li_48, li_49, li_50, li_51, li_52, li_53, li_54, li_55, li_56, li_57, li_58, li_59, li_60, li_61, li_62, li_63, li_64, li_65, li_66, li_67, li_68, li_69, li_70, li_71, li_72, li_73, li_74, li_75, li_76, li_77, li_78, li_79, li_80, li_81, li_82, li_83, li_84, li_85, li_86, li_87, li_88, li_89, li_90, li_91, li_92, li_93, li_94, li_95, li_96, li_97, li_98, li_99, li_100, li_101, li_102, li_103, li_104, li_105, li_106, li_107, li_108, li_109, li_110, li_111, li_112, li_113, li_114, li_115, li_116, li_117, li_118, li_119, li_120, li_121, li_122, li_123, li_124, li_125, li_126, li_127, li_128, li_129, li_130, li_180, li_186, li_192, li_304, li_305, li_306, li_307, li_319, li_320, li_321, li_322, li_408, li_409, li_410, li_416, li_422, li_428, li_458, li_459, li_460, li_2300, li_2760, nI_add, z_m6, z_m12, z_m30, z_l10, z_l12, z_l14, z_l17, z_l30, z_l460, z_sub, z_dec, z_dec0, z_m11, z_cl, z_leT, z_leF, z_ltT, z_ltF, z_eqT, z_eqF, z_em, z_me, z_mlt, z_mle, z_ltm, z_lem, z_mltm, z_mlem, z_nleT, z_nleF, z_nltT, z_nltF, or_false, or_self, false_or, or_true, true_or, not_true_eq_false, not_false_eq_true, ↓reduceIte, lt, z_ob, Nat.zero_add, Nat.add_zero, bX9_goes_6, hb, g305, ← hs2]
    by_cases e : kp < 6
    · rw [← step 1 fu (by rw [if_pos e])]
      simp (disch := first | omega | assumption) only [↓z_m1, li_0, li_1, li_2, li_3, li_4, li_5, li_6, li_7, li_8, li_9, li_10, li_11, li_12, li_13, li_14, li_15, li_16, li_17, li_18, li_19, li_20, li_21, li_22, li_23, li_24, li_25, li_26, li_27, li_28, li_29, li_30, li_31, li_32, li_33, li_34, li_35, li_36, li_37, li_38, li_39, li_40, li_41, li_42, li_43, li_44, li_45, li_46, li_47, li_48, li_49, li_50, li_51, li_52, li_53, li_54, li_55, li_56, li_57, li_58, li_59, li_60, li_61, li_62, li_63, li_64, li_65, li_66, li_67, li_68, li_69, li_70, li_71, li_72, li_73, li_74, li_75, li_76, li_77, li_78, li_79, li_80, li_81, li_82, li_83, li_84, li_85, li_86, li_87, li_88, li_89, li_90, li_91, li_92, li_93, li_94, li_95, li_96, li_97, li_98, li_99, li_100, li_101, li_102, li_103, li_104, li_105, li_106, li_107, li_108, li_109, li_110, li_111, li_112, li_113, li_114, li_115, li_116, li_117, li_118, li_119, li_120, li_121, li_122, li_123, li_124, li_125, li_126, li_127, li_128, li_129, li_130, li_180, li_186, li_192, li_304, li_305, li_306, li_307, li_319, li_320, li_321, li_322, li_408, li_409, li_410, li_416, li_422, li_428, li_458, li_459, li_460, li_2300, li_2760, nI_add, z_m6, z_m12, z_m30, z_l10, z_l12, z_l14, z_l17, z_l30, z_l460, z_sub, z_dec, z_dec0, z_m11, z_cl, z_leT, z_leF, z_ltT, z_ltF, z_eqT, z_eqF, z_em, z_me, z_mlt, z_mle, z_ltm, z_lem, z_mltm, z_mlem, z_nleT, z_nleF, z_nltT, z_nltF, or_false, or_self, false_or, or_true, true_or, not_true_eq_false, not_false_eq_true, ↓reduceIte, lt, z_ob, Nat.zero_add, Nat.add_zero, bX9_goes_4, ← hs1, g408]
    · rw [← step 0 fu (by rw [if_neg e]; congr 1; omega)]
      simp (disch := first | omega | assumption) only [↓z_m1, li_0, li_1, li_2, li_3, li_4, li_5, li_6, li_7, li_8, li_9, li_10, li_11, li_12, li_13, li_14, li_15, li_16, li_17, li_18, li_19, li_20, li_21, li_22, li_23, li_24, li_25, li_26, li_27, li_28, li_29, li_30, li_31, li_32, li_33, li_34, li_35, li_36, li_37, li_38, li_39, li_40, li_41, li_42, li_43, li_44, li_45, li_46, li_47, li_48, li_49, li_50, li_51, li_52, li_53, li_54, li_55, li_56, li_57, li_58, li_59, li_60, li_61, li_62, li_63, li_64, li_65, li_66, li_67, li_68, li_69, li_70, li_71, li_72, li_73, li_74, li_75, li_76, li_77, li_78, li_79, li_80, li_81, li_82, li_83, li_84, li_85, li_86, li_87, li_88, li_89, li_90, li_91, li_92, li_93, li_94, li_95, li_96, li_97, li_98, li_99, li_100, li_101, li_102, li_103, li_104, li_105, li_106, li_107, li_108, li_109, li_110, li_111, li_112, li_113, li_114, li_115, li_116, li_117, li_118, li_119, li_120, li_121, li_122, li_123, li_124, li_125, li_126, li_127, li_128, li_129, li_130, li_180, li_186, li_192, li_304, li_305, li_306, li_307, li_319, li_320, li_321, li_322, li_408, li_409, li_410, li_416, li_422, li_428, li_458, li_459, li_460, li_2300, li_2760, nI_add, z_m6, z_m12, z_m30, z_l10, z_l12, z_l14, z_l17, z_l30, z_l460, z_sub, z_dec, z_dec0, z_m11, z_cl, z_leT, z_leF, z_ltT, z_ltF, z_eqT, z_eqF, z_em, z_me, z_mlt, z_mle, z_ltm, z_lem, z_mltm, z_mlem, z_nleT, z_nleF, z_nltT, z_nltF, or_false, or_self, false_or, or_true, true_or, not_true_eq_false, not_false_eq_true, ↓reduceIte, lt, z_ob, Nat.zero_add, Nat.add_zero, bX9_goes_4, ← hs1, g408]
  have h2o : ∀ j, j ≠ 305 → j ≠ 408 → s2 j = s1 j := fun j h1 h2 => by rw [hs2, pk_un h1, pk_un h2]
  have h1o : ∀ j, j < 319 ∨ 322 < j → s1 j = s j := fun j hj => by rw [hs1, pk_un (by omega), pk_un (by omega), pk_un (by omega), pk_un (by omega)]
  have g319 : s2 319 = cost := by rw [h2o _ (by omega) (by omega), hs1, pk_un (by omega), pk_un (by omega), pk_un (by omega), pk_us]
  have g320 : s2 320 = lk L := by rw [h2o _ (by omega) (by omega), hs1, pk_un (by omega), pk_un (by omega), pk_us]
  have g321 : s2 321 = bk := by rw [h2o _ (by omega) (by omega), hs1, pk_un (by omega), pk_us]
  have g322 : s2 322 = sent := by rw [h2o _ (by omega) (by omega), hs1, pk_us]
  have gk : s2 408 = nI (if kp < 6 then kp + 1 else 6) := by rw [hs2, pk_un (by omega), pk_us]
  have gg : s2 305 = s 305 + nI 1 := by rw [hs2, pk_us]
  by_cases e : L = 6
  · refine ⟨s2, nI 0, by rw [m1, if_pos e, if_pos e], fun h => by omega, g319, g320, g321, g322, gk, gg, ?_, fun i hi => ?_, fun j hj => ?_⟩
    · rw [if_neg (by omega), h2o _ (by omega) (by omega), h1o _ (by omega)]
    · rw [if_neg (by omega), h2o _ (by omega) (by omega), h1o _ (by omega)]
    · rw [h2o _ (by omega) (by omega), h1o _ (by omega)]
  · obtain ⟨s3, hs3⟩ : ∃ z, z = upd (upd s2 409 (s2 409 + nI 1)) (422 + L) (upd s2 409 (s2 409 + nI 1) (422 + L) + nI 1) := ⟨_, rfl⟩
    have h3o : ∀ j, j ≠ 409 → j ≠ 422 + L → s3 j = s2 j := fun j h1 h2 => by rw [hs3, pk_un h2, pk_un h1]
    refine ⟨s3, sent, by rw [m1, if_neg e, if_neg e, hs3], fun _ => rfl, ?_, ?_, ?_, ?_, ?_, ?_, ?_, fun i hi => ?_, fun j hj => ?_⟩
    · rw [h3o _ (by omega) (by omega)]; exact g319
    · rw [h3o _ (by omega) (by omega)]; exact g320
    · rw [h3o _ (by omega) (by omega)]; exact g321
    · rw [h3o _ (by omega) (by omega)]; exact g322
    · rw [h3o _ (by omega) (by omega)]; exact gk
    · rw [h3o _ (by omega) (by omega)]; exact gg
    · rw [if_pos (by omega), hs3, pk_un (by omega), pk_us, h2o _ (by omega) (by omega), h1o _ (by omega)]
    · by_cases e2 : i = L
      · rw [if_pos e2, e2, hs3, pk_us, pk_un (by omega), h2o _ (by omega) (by omega), h1o _ (by omega)]
      · rw [if_neg e2, h3o _ (by omega) (by omega), h2o _ (by omega) (by omega), h1o _ (by omega)]
    · rw [h3o _ (by omega) (by omega), h2o _ (by omega) (by omega), h1o _ (by omega)]
/-- what a word adds to the words that were lost -/
def ltN (s : Nat → Int32) (ws : List Nat) (w : Nat) : Nat := if w ∈ ws ∧ lossN s 6 0 w < 6 then 1 else 0
theorem goes_7 {s0 : Nat → Int32} (hd : Dic s0) {n a : Nat} (hw : Wt s0 n) (ha : a < n) (s1 back : Nat → Int32) (h01 : ∀ j, j < 305 → s1 j = s0 j) {c : Nat} (hc : c ≤ 12) : ∀ (ws dn : List Nat) (p M : Nat) (sz mi pd lo : Int32) (s line : Nat → Int32) (fu : Nat), p + ws.length = c → isR s0 (192 + 14 * a + 2 + p) ws → (∀ x, x ∈ ws → x < 30) → M < 1073741824 → (∀ j, M.testBit j = decide (j ∈ dn)) → (∀ j, j < 428 ∨ 458 ≤ j → s j = s1 j) → (∀ w, w < 30 → s (428 + w) = s1 (428 + w) + nI (ltN s0 dn w)) → 2 * ws.length < fu →
    ∃ s' line' sz' mi' pd' lo' fu', rX9_goes fu 7 (nI a) (nI 0) (nI 0) (nI 0) (nI c) (nI M) (nI p) (nI 0) (nI 0) (nI 0) (nI 0) sz mi pd lo s line back = rX9_goes fu' 9 (nI a) (nI 0) (nI 0) (nI 0) (nI 0) (nI 0) (nI 0) (nI 0) (nI 0) (nI 0) (nI 0) sz' mi' pd' lo' s' line' back ∧ (∀ j, j < 428 ∨ 458 ≤ j → s' j = s1 j) ∧ (∀ w, w < 30 → s' (428 + w) = s1 (428 + w) + nI (ltN s0 (dn ++ ws) w)) ∧ fu = fu' + 2 * ws.length + 1 := by
  have h8 := hw.2.1
  intro ws
  induction ws with
  | nil =>
    intro dn p M sz mi pd lo s line fu hp hr hb hM ht ho hl hf
    obtain ⟨fu, rfl⟩ := fuS hf
    rw [List.length_nil] at hp
    refine ⟨s, line, sz, mi, pd, lo, fu, ?_, ho, by rw [List.append_nil]; exact hl, by rw [List.length_nil]⟩
    simp (disch := first | omega | assumption) only [↓z_m1, li_0, li_1, li_2, li_3, li_4, li_5, li_6, li_7, li_8, li_9, li_10, li_11, li_12, li_13, li_14, li_15, li_16, li_17, li_18, li_19, li_20, li_21, li_22, li_23, li_24, li_25, li_26, li_27, li_28, li_29, li_30, li_31, li_32, li_33, li_34, li_35, li_36, li_37, li_38, li_39, li_40, li_41, li_42, li_43, li_44, li_45, li_46, li_47, li_48, li_49, li_50, li_51, li_52, li_53, li_54, li_55, li_56, li_57, li_58, li_59, li_60, li_61, li_62, li_63, li_64, li_65, li_66, li_67, li_68, li_69, li_70, li_71, li_72, li_73, li_74, li_75, li_76, li_77, li_78, li_79, li_80, li_81, li_82, li_83, li_84, li_85, li_86, li_87, li_88, li_89, li_90, li_91, li_92, li_93, li_94, li_95, li_96, li_97, li_98, li_99, li_100, li_101, li_102, li_103, li_104, li_105, li_106, li_107, li_108, li_109, li_110, li_111, li_112, li_113, li_114, li_115, li_116, li_117, li_118, li_119, li_120, li_121, li_122, li_123, li_124, li_125, li_126, li_127, li_128, li_129, li_130, li_180, li_186, li_192, li_304, li_305, li_306, li_307, li_319, li_320, li_321, li_322, li_408, li_409, li_410, li_416, li_422, li_428, li_458, li_459, li_460, li_2300, li_2760, nI_add, z_m6, z_m12, z_m30, z_l10, z_l12, z_l14, z_l17, z_l30, z_l460, z_sub, z_dec, z_dec0, z_m11, z_cl, z_leT, z_leF, z_ltT, z_ltF, z_eqT, z_eqF, z_em, z_me, z_mlt, z_mle, z_ltm, z_lem, z_mltm, z_mlem, z_nleT, z_nleF, z_nltT, z_nltF, or_false, or_self, false_or, or_true, true_or, not_true_eq_false, not_false_eq_true, ↓reduceIte, lt, z_ob, Nat.zero_add, Nat.add_zero, sp_X9_goes_7, bX9_goes_7]
  | cons w ws ih =>
    intro dn p M sz mi pd lo s line fu hp hr hb hM ht ho hl hf
    rw [List.length_cons] at hp hf
    obtain ⟨fu, rfl⟩ : ∃ z, fu = z + 1 + 1 := ⟨fu - 2, by omega⟩
    have hw30 : w < 30 := hb w List.mem_cons_self
    have hs45 : s (192 + 14 * a + 2 + p) = nI w := by rw [ho _ (by omega), h01 _ (by omega)]; exact hr.1
    have hdic : ∀ j, j < 180 → s j = s0 j := fun j hj => by rw [ho j (by omega), h01 j (by omega)]
    have hl0 := lossN_le s0 6 0 w
    have hlc : lossN s 6 0 w = lossN s0 6 0 w := lossN_c hd hdic 6 0 w (by omega) (by omega)
    have hM2 : M ||| 2 ^ w < 1073741824 := by
      have h1 : (2 : Nat) ^ w < 2 ^ 30 := Nat.pow_lt_pow_right (by decide) hw30
      exact Nat.or_lt_two_pow (n := 30) hM h1
    have ht2 : ∀ j, (M ||| 2 ^ w).testBit j = decide (j ∈ dn ++ [w]) := by
      intro j
      rw [Nat.testBit_or, ht j, Nat.testBit_two_pow]
      by_cases e1 : j ∈ dn <;> by_cases e2 : w = j <;> simp [e1, e2, eq_comm]
    have key : ∀ (bb : Nat) (s2 : Nat → Int32), bb = (if w ∈ dn then 0 else if lossN s0 6 0 w < 6 then 1 else 0) → s2 = upd s (428 + w) (s (428 + w) + nI bb) → (∀ j, j < 428 ∨ 458 ≤ j → s2 j = s1 j) ∧ (∀ v, v < 30 → s2 (428 + v) = s1 (428 + v) + nI (ltN s0 (dn ++ [w]) v)) := by
      intro bb s2 hbb hs2
      refine ⟨fun j hj => by rw [hs2, pk_un (by omega)]; exact ho j hj, fun v hv => ?_⟩
      by_cases e : v = w
      · subst e
        rw [hs2, pk_us, hl v hv, Int32.add_assoc, nI_add, hbb]
        congr 2
        unfold ltN
        by_cases e1 : v ∈ dn <;> by_cases e2 : lossN s0 6 0 v < 6 <;> simp [e1, e2]
      · rw [hs2, pk_un (by omega), hl v hv]
        congr 2
        unfold ltN
        simp [e]
    by_cases e1 : w ∈ dn
    · obtain ⟨q1, q2⟩ := key 0 (upd s (428 + w) (s (428 + w) + nI 0)) (by rw [if_pos e1]) rfl
      obtain ⟨s', line', sz', mi', pd', lo', fu', f1, f2, f3, f4⟩ := ih (dn ++ [w]) (p + 1) (M ||| 2 ^ w) sz mi pd lo (upd s (428 + w) (s (428 + w) + nI 0)) line fu (by omega) hr.2 (fun x hx => hb x (List.mem_cons_of_mem _ hx)) hM2 ht2 q1 q2 (by omega)
      rw [List.append_assoc, List.singleton_append] at f3
      refine ⟨s', line', sz', mi', pd', lo', fu', ?_, f2, f3, by rw [List.length_cons]; omega⟩
      rw [← f1, sp_X9_goes_7]
      simp (disch := first | omega | assumption) only [↓z_m1, li_0, li_1, li_2, li_3, li_4, li_5, li_6, li_7, li_8, li_9, li_10, li_11, li_12, li_13, li_14, li_15, li_16, li_17, li_18, li_19, li_20, li_21, li_22, li_23, li_24, li_25, li_26, li_27, li_28, li_29, li_30, li_31, li_32, li_33, li_34, li_35, li_36, li_37, li_38, li_39, li_40, li_41, li_42, li_43, li_44, li_45, li_46, li_47, li_48, li_49, li_50, li_51, li_52, li_53, li_54, li_55, li_56, li_57, li_58, li_59, li_60, li_61, li_62, li_63, li_64, li_65, li_66, li_67, li_68, li_69, li_70, li_71, li_72, li_73, li_74, li_75, li_76, li_77, li_78, li_79, li_80, li_81, li_82, li_83, li_84, li_85, li_86, li_87, li_88, li_89, li_90, li_91, li_92, li_93, li_94, li_95, li_96, li_97, li_98, li_99, li_100, li_101, li_102, li_103, li_104, li_105, li_106, li_107, li_108, li_109, li_110, li_111, li_112, li_113, li_114, li_115, li_116, li_117, li_118, li_119, li_120, li_121, li_122, li_123, li_124, li_125, li_126, li_127, li_128, li_129, li_130, li_180, li_186, li_192, li_304, li_305, li_306, li_307, li_319, li_320, li_321, li_322, li_408, li_409, li_410, li_416, li_422, li_428, li_458, li_459, li_460, li_2300, li_2760, nI_add, z_m6, z_m12, z_m30, z_l10, z_l12, z_l14, z_l17, z_l30, z_l460, z_sub, z_dec, z_dec0, z_m11, z_cl, z_leT, z_leF, z_ltT, z_ltF, z_eqT, z_eqF, z_em, z_me, z_mlt, z_mle, z_ltm, z_lem, z_mltm, z_mlem, z_nleT, z_nleF, z_nltT, z_nltF, or_false, or_self, false_or, or_true, true_or, not_true_eq_false, not_false_eq_true, ↓reduceIte, lt, z_ob, Nat.zero_add, Nat.add_zero, bX9_goes_7, hs45, bit_w hM hw30, ht w, decide_eq_true e1, b2_t, sp_X9_goes_8, bX9_goes_8, or_w hw30]
    · obtain ⟨sz2, mi2, pd2, b, line2, e3⟩ := lostOf_M (hd.c hdic) (w := w) (by omega) sz mi pd lo line
      rw [hlc] at e3
      by_cases e2 : lossN s0 6 0 w < 6
      · obtain ⟨q1, q2⟩ := key 1 (upd s (428 + w) (s (428 + w) + nI 1)) (by rw [if_neg e1, if_pos e2]) rfl
        obtain ⟨s', line', sz', mi', pd', lo', fu', f1, f2, f3, f4⟩ := ih (dn ++ [w]) (p + 1) (M ||| 2 ^ w) sz2 mi2 pd2 (b2 b) (upd s (428 + w) (s (428 + w) + nI 1)) line2 fu (by omega) hr.2 (fun x hx => hb x (List.mem_cons_of_mem _ hx)) hM2 ht2 q1 q2 (by omega)
        rw [List.append_assoc, List.singleton_append] at f3
        refine ⟨s', line', sz', mi', pd', lo', fu', ?_, f2, f3, by rw [List.length_cons]; omega⟩
        rw [lk_lt e2] at e3
        rw [← f1, sp_X9_goes_7]
        simp (disch := first | omega | assumption) only [↓z_m1, li_0, li_1, li_2, li_3, li_4, li_5, li_6, li_7, li_8, li_9, li_10, li_11, li_12, li_13, li_14, li_15, li_16, li_17, li_18, li_19, li_20, li_21, li_22, li_23, li_24, li_25, li_26, li_27, li_28, li_29, li_30, li_31, li_32, li_33, li_34, li_35, li_36, li_37, li_38, li_39, li_40, li_41, li_42, li_43, li_44, li_45, li_46, li_47, li_48, li_49, li_50, li_51, li_52, li_53, li_54, li_55, li_56, li_57, li_58, li_59, li_60, li_61, li_62, li_63, li_64, li_65, li_66, li_67, li_68, li_69, li_70, li_71, li_72, li_73, li_74, li_75, li_76, li_77, li_78, li_79, li_80, li_81, li_82, li_83, li_84, li_85, li_86, li_87, li_88, li_89, li_90, li_91, li_92, li_93, li_94, li_95, li_96, li_97, li_98, li_99, li_100, li_101, li_102, li_103, li_104, li_105, li_106, li_107, li_108, li_109, li_110, li_111, li_112, li_113, li_114, li_115, li_116, li_117, li_118, li_119, li_120, li_121, li_122, li_123, li_124, li_125, li_126, li_127, li_128, li_129, li_130, li_180, li_186, li_192, li_304, li_305, li_306, li_307, li_319, li_320, li_321, li_322, li_408, li_409, li_410, li_416, li_422, li_428, li_458, li_459, li_460, li_2300, li_2760, nI_add, z_m6, z_m12, z_m30, z_l10, z_l12, z_l14, z_l17, z_l30, z_l460, z_sub, z_dec, z_dec0, z_m11, z_cl, z_leT, z_leF, z_ltT, z_ltF, z_eqT, z_eqF, z_em, z_me, z_mlt, z_mle, z_ltm, z_lem, z_mltm, z_mlem, z_nleT, z_nleF, z_nltT, z_nltF, or_false, or_self, false_or, or_true, true_or, not_true_eq_false, not_false_eq_true, ↓reduceIte, lt, z_ob, Nat.zero_add, Nat.add_zero, bX9_goes_7, hs45, bit_w hM hw30, ht w, decide_eq_false e1, b2_f, e3, sp_X9_goes_8, bX9_goes_8, or_w hw30]
      · obtain ⟨q1, q2⟩ := key 0 (upd s (428 + w) (s (428 + w) + nI 0)) (by rw [if_neg e1, if_neg e2]) rfl
        obtain ⟨s', line', sz', mi', pd', lo', fu', f1, f2, f3, f4⟩ := ih (dn ++ [w]) (p + 1) (M ||| 2 ^ w) sz2 mi2 pd2 (b2 b) (upd s (428 + w) (s (428 + w) + nI 0)) line2 fu (by omega) hr.2 (fun x hx => hb x (List.mem_cons_of_mem _ hx)) hM2 ht2 q1 q2 (by omega)
        rw [List.append_assoc, List.singleton_append] at f3
        refine ⟨s', line', sz', mi', pd', lo', fu', ?_, f2, f3, by rw [List.length_cons]; omega⟩
        rw [show lossN s0 6 0 w = 6 by omega, lk_6] at e3
        rw [← f1, sp_X9_goes_7]
        simp (disch := first | omega | assumption) only [↓z_m1, li_0, li_1, li_2, li_3, li_4, li_5, li_6, li_7, li_8, li_9, li_10, li_11, li_12, li_13, li_14, li_15, li_16, li_17, li_18, li_19, li_20, li_21, li_22, li_23, li_24, li_25, li_26, li_27, li_28, li_29, li_30, li_31, li_32, li_33, li_34, li_35, li_36, li_37, li_38, li_39, li_40, li_41, li_42, li_43, li_44, li_45, li_46, li_47, li_48, li_49, li_50, li_51, li_52, li_53, li_54, li_55, li_56, li_57, li_58, li_59, li_60, li_61, li_62, li_63, li_64, li_65, li_66, li_67, li_68, li_69, li_70, li_71, li_72, li_73, li_74, li_75, li_76, li_77, li_78, li_79, li_80, li_81, li_82, li_83, li_84, li_85, li_86, li_87, li_88, li_89, li_90, li_91, li_92, li_93, li_94, li_95, li_96, li_97, li_98, li_99, li_100, li_101, li_102, li_103, li_104, li_105, li_106, li_107, li_108, li_109, li_110, li_111, li_112, li_113, li_114, li_115, li_116, li_117, li_118, li_119, li_120, li_121, li_122, li_123, li_124, li_125, li_126, li_127, li_128, li_129, li_130, li_180, li_186, li_192, li_304, li_305, li_306, li_307, li_319, li_320, li_321, li_322, li_408, li_409, li_410, li_416, li_422, li_428, li_458, li_459, li_460, li_2300, li_2760, nI_add, z_m6, z_m12, z_m30, z_l10, z_l12, z_l14, z_l17, z_l30, z_l460, z_sub, z_dec, z_dec0, z_m11, z_cl, z_leT, z_leF, z_ltT, z_ltF, z_eqT, z_eqF, z_em, z_me, z_mlt, z_mle, z_ltm, z_lem, z_mltm, z_mlem, z_nleT, z_nleF, z_nltT, z_nltF, or_false, or_self, false_or, or_true, true_or, not_true_eq_false, not_false_eq_true, ↓reduceIte, lt, z_ob, Nat.zero_add, Nat.add_zero, bX9_goes_7, hs45, bit_w hM hw30, ht w, decide_eq_false e1, b2_f, e3, sp_X9_goes_8, bX9_goes_8, or_w hw30]
theorem goes_10 (sz mi pd lo : Int32) (line back : Nat → Int32) {n : Nat} (h8 : n ≤ 8) (h1 : 1 ≤ n) : ∀ (k i : Nat) (s : Nat → Int32) (fu : Nat), i + k = 14 * (n - 1) → s 304 = nI (n - 1) → k < fu →
    ∃ s', rX9_goes fu 10 (nI 0) (nI 0) (nI 0) (nI 0) (nI 0) (nI i) (nI 0) (nI 0) (nI 0) (nI 0) (nI 0) sz mi pd lo s line back = some (sz, mi, pd, lo, s', line, back) ∧ (∀ j, i ≤ j → j < 14 * (n - 1) → s' (192 + j) = s (192 + j + 14)) ∧ (∀ j, j < 192 + i ∨ 192 + 14 * (n - 1) ≤ j → s' j = s j) := by
  intro k
  induction k with
  | zero =>
    intro i s fu hi h4 hf
    obtain ⟨fu, rfl⟩ := fuS hf
    refine ⟨s, ?_, fun j h2 h3 => by omega, fun j _ => rfl⟩
    simp (disch := first | omega | assumption) only [↓z_m1, li_0, li_1, li_2, li_3, li_4, li_5, li_6, li_7, li_8, li_9, li_10, li_11, li_12, li_13, li_14, li_15, li_16, li_17, li_18, li_19, li_20, li_21, li_22, li_23, li_24, li_25, li_26, li_27, li_28, li_29, li_30, li_31, li_32, li_33, li_34, li_35, li_36, li_37, li_38, li_39, li_40, li_41, li_42, li_43, li_44, li_45, li_46, li_47, li_48, li_49, li_50, li_51, li_52, li_53, li_54, li_55, li_56, li_57, li_58, li_59, li_60, li_61, li_62, li_63, li_64, li_65, li_66, li_67, li_68, li_69, li_70, li_71, li_72, li_73, li_74, li_75, li_76, li_77, li_78, li_79, li_80, li_81, li_82, li_83, li_84, li_85, li_86, li_87, li_88, li_89, li_90, li_91, li_92, li_93, li_94, li_95, li_96, li_97, li_98, li_99, li_100, li_101, li_102, li_103, li_104, li_105, li_106, li_107, li_108, li_109, li_110, li_111, li_112, li_113, li_114, li_115, li_116, li_117, li_118, li_119, li_120, li_121, li_122, li_123, li_124, li_125, li_126, li_127, li_128, li_129, li_130, li_180, li_186, li_192, li_304, li_305, li_306, li_307, li_319, li_320, li_321, li_322, li_408, li_409, li_410, li_416, li_422, li_428, li_458, li_459, li_460, li_2300, li_2760, nI_add, z_m6, z_m12, z_m30, z_l10, z_l12, z_l14, z_l17, z_l30, z_l460, z_sub, z_dec, z_dec0, z_m11, z_cl, z_leT, z_leF, z_ltT, z_ltF, z_eqT, z_eqF, z_em, z_me, z_mlt, z_mle, z_ltm, z_lem, z_mltm, z_mlem, z_nleT, z_nleF, z_nltT, z_nltF, or_false, or_self, false_or, or_true, true_or, not_true_eq_false, not_false_eq_true, ↓reduceIte, lt, z_ob, Nat.zero_add, Nat.add_zero, sp_X9_goes_10, bX9_goes_10, h4]
  | succ k ih =>
    intro i s fu hi h4 hf
    obtain ⟨fu, rfl⟩ := fuS hf
    obtain ⟨s', e1, e2, e3⟩ := ih (i + 1) (upd s (192 + i) (s (192 + i + 14))) fu (by omega) (by rw [pk_un (by omega)]; exact h4) (by omega)
    refine ⟨s', ?_, fun j h2 h3 => ?_, fun j hj => ?_⟩
    · rw [← e1, sp_X9_goes_10]
      simp (disch := first | omega | assumption) only [↓z_m1, li_0, li_1, li_2, li_3, li_4, li_5, li_6, li_7, li_8, li_9, li_10, li_11, li_12, li_13, li_14, li_15, li_16, li_17, li_18, li_19, li_20, li_21, li_22, li_23, li_24, li_25, li_26, li_27, li_28, li_29, li_30, li_31, li_32, li_33, li_34, li_35, li_36, li_37, li_38, li_39, li_40, li_41, li_42, li_43, li_44, li_45, li_46, li_47, li_48, li_49, li_50, li_51, li_52, li_53, li_54, li_55, li_56, li_57, li_58, li_59, li_60, li_61, li_62, li_63, li_64, li_65, li_66, li_67, li_68, li_69, li_70, li_71, li_72, li_73, li_74, li_75, li_76, li_77, li_78, li_79, li_80, li_81, li_82, li_83, li_84, li_85, li_86, li_87, li_88, li_89, li_90, li_91, li_92, li_93, li_94, li_95, li_96, li_97, li_98, li_99, li_100, li_101, li_102, li_103, li_104, li_105, li_106, li_107, li_108, li_109, li_110, li_111, li_112, li_113, li_114, li_115, li_116, li_117, li_118, li_119, li_120, li_121, li_122, li_123, li_124, li_125, li_126, li_127, li_128, li_129, li_130, li_180, li_186, li_192, li_304, li_305, li_306, li_307, li_319, li_320, li_321, li_322, li_408, li_409, li_410, li_416, li_422, li_428, li_458, li_459, li_460, li_2300, li_2760, nI_add, z_m6, z_m12, z_m30, z_l10, z_l12, z_l14, z_l17, z_l30, z_l460, z_sub, z_dec, z_dec0, z_m11, z_cl, z_leT, z_leF, z_ltT, z_ltF, z_eqT, z_eqF, z_em, z_me, z_mlt, z_mle, z_ltm, z_lem, z_mltm, z_mlem, z_nleT, z_nleF, z_nltT, z_nltF, or_false, or_self, false_or, or_true, true_or, not_true_eq_false, not_false_eq_true, ↓reduceIte, lt, z_ob, Nat.zero_add, Nat.add_zero, bX9_goes_10, h4]
    · by_cases e : j = i
      · subst e
        rw [e3 _ (by omega), pk_us]
      · rw [e2 j (by omega) h3, pk_un (by omega)]
    · rw [e3 j (by omega), pk_un (by omega)]
/-- what has changed when the sentence a went -/
def Gone (s s' : Nat → Int32) (n a kp : Nat) : Prop :=
  (∀ j, j < 192 ∨ 458 ≤ j → s' j = s j) ∧ Rmv s s' a n ∧ s' 304 = nI (n - 1) ∧ s' 305 = s 305 + nI 1 ∧ s' 306 = nI (chN s (eaM s 6) (senN s a) 6).length ∧ isR s' 307 (chN s (eaM s 6) (senN s a) 6) ∧
  s' 319 = sumI (payN s (eaM s 6) (senN s a)) 6 0 (nI 0) ∧ s' 320 = lk (lossP s (eaM s 6) (senN s a)) ∧ s' 321 = lk (backP s (eaM s 6) (senN s a)) ∧ s' 322 = nI (senN s a).length ∧ (∀ i, i < 85 → s' (323 + i) = s (306 + i)) ∧ s' 408 = nI (if kp < 6 then kp + 1 else 6) ∧
  (s' 409 = if lossP s (eaM s 6) (senN s a) < 6 then s 409 + nI 1 else s 409) ∧ (∀ l, l < 6 → s' (410 + l) = s (410 + l) + nI ((chN s (eaM s 6) (senN s a) l).length - (chN s (eaM s 6) (senN s a) (l + 1)).length)) ∧ (∀ l, l < 6 → s' (416 + l) = s (416 + l) + payN s (eaM s 6) (senN s a) l) ∧
  (∀ l, l < 6 → s' (422 + l) = if l = lossP s (eaM s 6) (senN s a) then s (422 + l) + nI 1 else s (422 + l)) ∧ (∀ w, w < 30 → s' (428 + w) = s (428 + w) + nI (if lossP s (eaM s 6) (senN s a) < 6 then ltN s (senN s a) w else 0))
theorem goes_M {s : Nat → Int32} (hd : Dic s) (hes : Sets s 180) {n a kp : Nat} (hw : Wt s n) {P : List Nat} (hP : Srt (ahW s) n (a :: P)) (hkp : kp ≤ 6) (h408 : s 408 = nI kp) (sz mi pd lo : Int32) (line back : Nat → Int32) :
    ∃ s' sz' mi' pd' lo' line' back', fX9_goes sz mi pd lo s line back = some (sz', mi', pd', lo', s', line', back') ∧ Gone s s' n a kp := by
  have h8 := hw.2.1
  have ha : a < n := (hP.2 a).mp List.mem_cons_self
  obtain ⟨c1, c2, c3⟩ := hw.cnt ha
  have h12 : (senN s a).length ≤ 12 := by rw [sen_len]; exact c3
  have h12c := Nat.le_trans (ch_len s (eaM s 6) (senN s a) 6) h12
  obtain ⟨line1, e1, e2⟩ := lays_M hw ha sz line
  have hrk := ranked_M hw hP (r := 0) (a := a) rfl
  have hA0 : AccG s s (senN s a) 0 := ⟨fun _ _ => rfl, fun i hi => by rw [if_neg (by omega)], fun i hi => by rw [if_neg (by omega)]⟩
  obtain ⟨s1, line2, back1, mi1, pd1, lo1, f1, m1, A1, r1, z1⟩ := goes_1 hd hes hw ha (nI (senN s a).length) 6 0 6 6 (nI 0) mi pd lo s line1 back fuelN (by omega) hA0 (Or.inl ⟨rfl, fun i hi => by omega⟩) (Or.inl ⟨rfl, fun i hi => by omega⟩) e2 (by decide)
  have z1 : (1000000 : Nat) = f1 + 2 * 6 + 1 := z1
  obtain ⟨s2, f2, m2, a2, o2, z2⟩ := goes_3 (nI a) (lk (lossP s (eaM s 6) (senN s a))) (lk (backP s (eaM s 6) (senN s a))) (sumI (payN s (eaM s 6) (senN s a)) 6 0 (nI 0)) (nI (senN s a).length) (nI (chN s (eaM s 6) (senN s a) 6).length) mi1 pd1 lo1 line2 back1 85 s1 f1 (by omega) (by omega)
  obtain ⟨s3, f3, m3, a3, o3, z3⟩ := goes_4 (nI a) (lk (lossP s (eaM s 6) (senN s a))) (lk (backP s (eaM s 6) (senN s a))) (sumI (payN s (eaM s 6) (senN s a)) 6 0 (nI 0)) (nI (senN s a).length) mi1 pd1 lo1 h12c line2 back1 12 0 (upd s2 306 (nI (chN s (eaM s 6) (senN s a) 6).length)) f2 (by omega) (by omega)
  have g408 : s3 408 = nI kp := by rw [o3 _ (by omega), pk_un (by omega), o2 _ (by omega), A1.1 _ (by omega)]; exact h408
  obtain ⟨f4, rfl⟩ : ∃ z, f3 = z + 1 + 1 := ⟨f3 - 2, by omega⟩
  have hL6 : lossP s (eaM s 6) (senN s a) ≤ 6 := lossP_le
  obtain ⟨s4, y4, m4, y4e, b1, b2', b3, b4, b5, b6, b7, b8, b9⟩ := goes_6 (nI a) hL6 (sumI (payN s (eaM s 6) (senN s a)) 6 0 (nI 0)) (lk (backP s (eaM s 6) (senN s a))) (nI (senN s a).length) mi1 pd1 lo1 (n := (chN s (eaM s 6) (senN s a) 6).length) hkp s3 line2 back1 g408 f4
  have h04 : ∀ j, j < 305 → s4 j = s j := fun j hj => by rw [b9 j (by omega), o3 j (by omega), pk_un (by omega), o2 j (by omega), A1.1 j (by omega)]
  have m5 : ∃ s5 line5 sz5 mi5 pd5 lo5 f5, rX9_goes f4 (if lossP s (eaM s 6) (senN s a) = 6 then 9 else 7) (nI a) (nI 0) (nI 0) (nI 0) y4 (nI 0) (nI 0) (nI 0) (nI 0) (nI 0) (nI 0) (nI (chN s (eaM s 6) (senN s a) 6).length) mi1 pd1 lo1 s4 line2 back1 = rX9_goes f5 9 (nI a) (nI 0) (nI 0) (nI 0) (if lossP s (eaM s 6) (senN s a) = 6 then y4 else nI 0) (nI 0) (nI 0) (nI 0) (nI 0) (nI 0) (nI 0) sz5 mi5 pd5 lo5 s5 line5 back1 ∧ (∀ j, j < 428 ∨ 458 ≤ j → s5 j = s4 j) ∧ (∀ w, w < 30 → s5 (428 + w) = s4 (428 + w) + nI (if lossP s (eaM s 6) (senN s a) < 6 then ltN s (senN s a) w else 0)) ∧ f4 ≤ f5 + 26 := by
    by_cases e : lossP s (eaM s 6) (senN s a) = 6
    · rw [if_pos e, if_pos e]
      exact ⟨s4, line2, _, _, _, _, f4, rfl, fun _ _ => rfl, fun w _ => by rw [if_neg (by omega)]; exact (Int32.add_zero _).symm, by omega⟩
    · rw [if_neg e, if_neg e, y4e (by omega)]
      obtain ⟨s5, line5, sz5, mi5, pd5, lo5, f5, m5, q1, q2, q3⟩ := goes_7 hd hw ha s4 back1 h04 h12 (senN s a) [] 0 0 (nI (chN s (eaM s 6) (senN s a) 6).length) mi1 pd1 lo1 s4 line2 f4 (by omega) (sen_isR hw ha) (sen_lt hw ha) (by decide) (fun j => by simp) (fun _ _ => rfl) (fun w _ => by rw [show ltN s [] w = 0 by unfold ltN; simp]; exact (Int32.add_zero _).symm) (by omega)
      exact ⟨s5, line5, sz5, mi5, pd5, lo5, f5, m5, q1, fun w hw => by rw [if_pos (by omega)]; exact q2 w hw, by omega⟩
  obtain ⟨s5, line5, sz5, mi5, pd5, lo5, f5, m5, o5, l5, z5⟩ := m5
  obtain ⟨f6, rfl⟩ : ∃ z, f5 = z + 1 := ⟨f5 - 1, by omega⟩
  have g304 : s5 304 = nI n := by rw [o5 _ (by omega), h04 _ (by omega)]; exact hw.1
  have hc5 : 14 * a ≤ 14 * (n - 1) := by omega
  obtain ⟨s6, m6, a6, o6⟩ := goes_10 sz5 mi5 pd5 lo5 line5 back1 h8 (by omega) (14 * (n - 1) - 14 * a) (14 * a) (upd s5 304 (nI (n - 1))) f6 (by omega) pk_us (by omega)
  have m7 : ∀ y, rX9_goes (f6 + 1) 9 (nI a) (nI 0) (nI 0) (nI 0) y (nI 0) (nI 0) (nI 0) (nI 0) (nI 0) (nI 0) sz5 mi5 pd5 lo5 s5 line5 back1 = some (sz5, mi5, pd5, lo5, s6, line5, back1) := by
    intro y
    rw [← m6, sp_X9_goes_9]
    simp (disch := first | omega | assumption) only [↓z_m1, li_0, li_1, li_2, li_3, li_4, li_5, li_6, li_7, li_8, li_9, li_10, li_11, li_12, li_13, li_14, li_15, li_16, li_17, li_18, li_19, li_20, li_21, li_22, li_23, li_24, li_25, li_26, li_27, li_28, li_29, li_30, li_31, li_32, li_33, li_34, li_35, li_36, li_37, li_38, li_39, li_40, li_41, li_42, li_43, li_44, li_45, li_46, li_47, li_48, li_49, li_50, li_51, li_52, li_53, li_54, li_55, li_56, li_57, li_58, li_59, li_60, li_61, li_62, li_63, li_64, li_65, li_66, li_67, li_68, li_69, li_70, li_71, li_72, li_73, li_74, li_75, li_76, li_77, li_78, li_79, li_80, li_81, li_82, li_83, li_84, li_85, li_86, li_87, li_88, li_89, li_90, li_91, li_92, li_93, li_94, li_95, li_96, li_97, li_98, li_99, li_100, li_101, li_102, li_103, li_104, li_105, li_106, li_107, li_108, li_109, li_110, li_111, li_112, li_113, li_114, li_115, li_116, li_117, li_118, li_119, li_120, li_121, li_122, li_123, li_124, li_125, li_126, li_127, li_128, li_129, li_130, li_180, li_186, li_192, li_304, li_305, li_306, li_307, li_319, li_320, li_321, li_322, li_408, li_409, li_410, li_416, li_422, li_428, li_458, li_459, li_460, li_2300, li_2760, nI_add, z_m6, z_m12, z_m30, z_l10, z_l12, z_l14, z_l17, z_l30, z_l460, z_sub, z_dec, z_dec0, z_m11, z_cl, z_leT, z_leF, z_ltT, z_ltF, z_eqT, z_eqF, z_em, z_me, z_mlt, z_mle, z_ltm, z_lem, z_mltm, z_mlem, z_nleT, z_nleF, z_nltT, z_nltF, or_false, or_self, false_or, or_true, true_or, not_true_eq_false, not_false_eq_true, ↓reduceIte, lt, z_ob, Nat.zero_add, Nat.add_zero, bX9_goes_9, g304]
  refine ⟨s6, sz5, mi5, pd5, lo5, line5, back1, ?_, ?_⟩
  · unfold fX9_goes eX9_goes
    have e5 : rX9_goes fuelN 1 (nI a) mI mI (nI 0) (nI (senN s a).length) (nI 0) (nI 0) (nI 0) (nI 0) (nI 0) (nI 0) (nI (senN s a).length) mi pd lo s line1 back = some (sz5, mi5, pd5, lo5, s6, line5, back1) := by
      refine m1.trans (m2.trans (m3.trans (m4.trans (m5.trans (m7 _)))))
    have c1' : s (192 + 14 * a) = nI (senN s a).length := by rw [sen_len]; exact c1
    have hx : nI (192 + 14 * a) = nI (192 + 14 * a) := rfl
    simp (disch := first | omega | assumption) only [↓z_m1, li_0, li_1, li_2, li_3, li_4, li_5, li_6, li_7, li_8, li_9, li_10, li_11, li_12, li_13, li_14, li_15, li_16, li_17, li_18, li_19, li_20, li_21, li_22, li_23, li_24, li_25, li_26, li_27, li_28, li_29, li_30, li_31, li_32, li_33, li_34, li_35, li_36, li_37, li_38, li_39, li_40, li_41, li_42, li_43, li_44, li_45, li_46, li_47, li_48, li_49, li_50, li_51, li_52, li_53, li_54, li_55, li_56, li_57, li_58, li_59, li_60, li_61, li_62, li_63, li_64, li_65, li_66, li_67, li_68, li_69, li_70, li_71, li_72, li_73, li_74, li_75, li_76, li_77, li_78, li_79, li_80, li_81, li_82, li_83, li_84, li_85, li_86, li_87, li_88, li_89, li_90, li_91, li_92, li_93, li_94, li_95, li_96, li_97, li_98, li_99, li_100, li_101, li_102, li_103, li_104, li_105, li_106, li_107, li_108, li_109, li_110, li_111, li_112, li_113, li_114, li_115, li_116, li_117, li_118, li_119, li_120, li_121, li_122, li_123, li_124, li_125, li_126, li_127, li_128, li_129, li_130, li_180, li_186, li_192, li_304, li_305, li_306, li_307, li_319, li_320, li_321, li_322, li_408, li_409, li_410, li_416, li_422, li_428, li_458, li_459, li_460, li_2300, li_2760, nI_add, z_m6, z_m12, z_m30, z_l10, z_l12, z_l14, z_l17, z_l30, z_l460, z_sub, z_dec, z_dec0, z_m11, z_cl, z_leT, z_leF, z_ltT, z_ltF, z_eqT, z_eqF, z_em, z_me, z_mlt, z_mle, z_ltm, z_lem, z_mltm, z_mlem, z_nleT, z_nleF, z_nltT, z_nltF, or_false, or_self, false_or, or_true, true_or, not_true_eq_false, not_false_eq_true, ↓reduceIte, lt, z_ob, Nat.zero_add, Nat.add_zero, hrk, e1, c1', e5]
  · have k6 : ∀ j, j < 192 ∨ 304 < j → s6 j = s5 j := fun j hj => by rw [o6 j (by omega), pk_un (by omega)]
    have k5 : ∀ j, j < 428 ∨ 458 ≤ j → s5 j = s4 j := o5
    refine ⟨fun j hj => ?_, fun b hb hba j hj => ?_, ?_, ?_, ?_, ?_, ?_, ?_, ?_, ?_, fun i hi => ?_, ?_, ?_, fun l hl => ?_, fun l hl => ?_, fun l hl => ?_, fun w hw30 => ?_⟩
    · rw [k6 j (by omega), k5 j (by omega)]
      rcases hj with hj | hj
      · exact h04 j (by omega)
      · rw [b9 j (by omega), o3 j (by omega), pk_un (by omega), o2 j (by omega), A1.1 j (by omega)]
    · unfold shf
      by_cases e : a < b
      · rw [if_pos e]
        have := a6 (14 * (b - 1) + j) (by omega) (by omega)
        rw [← Nat.add_assoc] at this
        rw [this, show 192 + 14 * (b - 1) + j + 14 = 192 + 14 * b + j by omega, pk_un (by omega), k5 _ (by omega), h04 _ (by omega)]
      · rw [if_neg e, o6 _ (by omega), pk_un (by omega), k5 _ (by omega), h04 _ (by omega)]
    · rw [o6 _ (by omega), pk_us]
    · rw [k6 _ (by omega), k5 _ (by omega), b6, o3 _ (by omega), pk_un (by omega), o2 _ (by omega), A1.1 _ (by omega)]
    · rw [k6 _ (by omega), k5 _ (by omega), b9 _ (by omega), o3 _ (by omega), pk_us]
    · refine isR_shift (o := 0) (fun j hj => ?_) r1
      rw [k6 _ (by omega), k5 _ (by omega), b9 _ (by omega), a3 j (by omega) hj, Nat.zero_add]
    · rw [k6 _ (by omega), k5 _ (by omega), b1]
    · rw [k6 _ (by omega), k5 _ (by omega), b2']
    · rw [k6 _ (by omega), k5 _ (by omega), b3]
    · rw [k6 _ (by omega), k5 _ (by omega), b4]
    · rw [k6 _ (by omega), k5 _ (by omega), b9 _ (by omega), o3 _ (by omega), pk_un (by omega), a2 i hi, A1.1 _ (by omega)]
    · rw [k6 _ (by omega), k5 _ (by omega), b5]
    · rw [k6 _ (by omega), k5 _ (by omega), b7, o3 _ (by omega), pk_un (by omega), o2 _ (by omega), A1.1 _ (by omega)]
    · rw [k6 _ (by omega), k5 _ (by omega), b9 _ (by omega), o3 _ (by omega), pk_un (by omega), o2 _ (by omega), A1.2.1 l hl, if_pos hl]
    · rw [k6 _ (by omega), k5 _ (by omega), b9 _ (by omega), o3 _ (by omega), pk_un (by omega), o2 _ (by omega), A1.2.2 l hl, if_pos hl]
    · rw [k6 _ (by omega), k5 _ (by omega), b8 l hl, o3 _ (by omega), pk_un (by omega), o2 _ (by omega), A1.1 _ (by omega)]
    · rw [k6 _ (by omega), l5 w hw30, b9 _ (by omega), o3 _ (by omega), pk_un (by omega), o2 _ (by omega), A1.1 _ (by omega)]
end G2

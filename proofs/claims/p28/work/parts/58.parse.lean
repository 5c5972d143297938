-- pure: orders as a text
def chrN (tx : Nat → Int32) (n p : Nat) : Nat := if p < n then (tx p).toNatClampNeg else 0
def BR (n : Nat) (cs tx : Nat → Int32) : Prop := n ≤ 60 ∧ ∀ i, i < n → cs i = tx i ∧ ∃ c, 33 ≤ c ∧ c ≤ 126 ∧ tx i = nI c
section PR
variable {n : Nat} {cs tx : Nat → Int32}
theorem BR.chr (h : BR n cs tx) {p : Nat} (hp : p < n) : cs p = nI (chrN tx n p) ∧ tx p = nI (chrN tx n p) ∧ 33 ≤ chrN tx n p ∧ chrN tx n p ≤ 126 := by
  obtain ⟨h1, c, h2, h3, h4⟩ := h.2 p hp
  unfold chrN
  rw [if_pos hp, h1, h4, nI_clamp (by omega)]
  exact ⟨rfl, rfl, h2, h3⟩
theorem chr_le (h : BR n cs tx) (p : Nat) : chrN tx n p ≤ 126 := by
  by_cases e : p < n
  · exact (h.chr e).2.2.2
  · unfold chrN; rw [if_neg e]; omega
theorem chr_lt {p c : Nat} (hc : 0 < c) (e : chrN tx n p = c) : p < n := by
  unfold chrN at e
  by_cases h : p < n
  · exact h
  · rw [if_neg h] at e; omega
theorem next_M (h : BR n cs tx) {p : Nat} (hp : p ≤ 100) : fX9_next (nI n) (nI p) tx = some (nI (chrN tx n p)) := by
  have h60 := h.1
  unfold fX9_next
  by_cases e : p < n
  · have h1 := (h.chr e).2.1
    simp (disch := first | omega | assumption) only [↓z_m1, li_0, li_1, li_2, li_3, li_4, li_5, li_6, li_7, li_8, li_9, li_10, li_11, li_12, li_13, li_14, li_15, li_16, li_17, li_18, li_19, li_20, li_21, li_22, li_23, li_24, li_25, li_26, li_27, li_28, li_29, li_30, li_31, li_32, li_33, li_34, li_35, li_36, li_37, li_38, li_39, li_40, li_41, li_42, li_43, li_44, li_45, li_46, li_47, li_48, li_49, li_50, li_51, li_52, li_53, li_54, li_55, li_56, li_57, li_58, li_59, li_60, li_61, li_62, li_63, li_64, li_65, li_66, li_67, li_68, li_69, li_70, li_71, li_72, li_73, li_74, li_75, li_76, li_77, li_78, li_79, li_80, li_81, li_82, li_83, li_84, li_85, li_86, li_87, li_88, li_89, li_90, li_91, li_92, li_93, li_94, li_95, li_96, li_97, li_98, li_99, li_100, li_101, li_102, li_103, li_104, li_105, li_106, li_107, li_108, li_109, li_110, li_111, li_112, li_113, li_114, li_115, li_116, li_117, li_118, li_119, li_120, li_121, li_122, li_123, li_124, li_125, li_126, li_127, li_128, li_129, li_130, li_180, li_186, li_192, li_304, li_305, li_306, li_307, li_319, li_320, li_321, li_322, li_408, li_409, li_410, li_416, li_422, li_428, li_458, li_459, li_460, li_2300, li_2760, nI_add, z_m6, z_m12, z_m30, z_l10, z_l12, z_l14, z_l17, z_l30, z_l460, z_sub, z_dec, z_dec0, z_m11, z_cl, z_leT, z_leF, z_ltT, z_ltF, z_eqT, z_eqF, z_em, z_me, z_mlt, z_mle, z_ltm, z_lem, z_mltm, z_mlem, z_nleT, z_nleF, z_nltT, z_nltF, or_false, or_self, false_or, or_true, true_or, not_true_eq_false, not_false_eq_true, ↓reduceIte, lt, z_ob, Nat.zero_add, Nat.add_zero, h1]
  · unfold chrN
    rw [if_neg e]
    simp (disch := first | omega | assumption) only [↓z_m1, li_0, li_1, li_2, li_3, li_4, li_5, li_6, li_7, li_8, li_9, li_10, li_11, li_12, li_13, li_14, li_15, li_16, li_17, li_18, li_19, li_20, li_21, li_22, li_23, li_24, li_25, li_26, li_27, li_28, li_29, li_30, li_31, li_32, li_33, li_34, li_35, li_36, li_37, li_38, li_39, li_40, li_41, li_42, li_43, li_44, li_45, li_46, li_47, li_48, li_49, li_50, li_51, li_52, li_53, li_54, li_55, li_56, li_57, li_58, li_59, li_60, li_61, li_62, li_63, li_64, li_65, li_66, li_67, li_68, li_69, li_70, li_71, li_72, li_73, li_74, li_75, li_76, li_77, li_78, li_79, li_80, li_81, li_82, li_83, li_84, li_85, li_86, li_87, li_88, li_89, li_90, li_91, li_92, li_93, li_94, li_95, li_96, li_97, li_98, li_99, li_100, li_101, li_102, li_103, li_104, li_105, li_106, li_107, li_108, li_109, li_110, li_111, li_112, li_113, li_114, li_115, li_116, li_117, li_118, li_119, li_120, li_121, li_122, li_123, li_124, li_125, li_126, li_127, li_128, li_129, li_130, li_180, li_186, li_192, li_304, li_305, li_306, li_307, li_319, li_320, li_321, li_322, li_408, li_409, li_410, li_416, li_422, li_428, li_458, li_459, li_460, li_2300, li_2760, nI_add, z_m6, z_m12, z_m30, z_l10, z_l12, z_l14, z_l17, z_l30, z_l460, z_sub, z_dec, z_dec0, z_m11, z_cl, z_leT, z_leF, z_ltT, z_ltF, z_eqT, z_eqF, z_em, z_me, z_mlt, z_mle, z_ltm, z_lem, z_mltm, z_mlem, z_nleT, z_nleF, z_nltT, z_nltF, or_false, or_self, false_or, or_true, true_or, not_true_eq_false, not_false_eq_true, ↓reduceIte, lt, z_ob, Nat.zero_add, Nat.add_zero]
theorem codeAt_in (h : BR n cs tx) {p : Nat} (hp : p < n) : fX3_codeAt (nI p) (nI n) cs = some (nI (chrN tx n p)) := by
  have h60 := h.1
  have h1 := (h.chr hp).1
  unfold fX3_codeAt
  simp (disch := first | omega | assumption) only [↓z_m1, li_0, li_1, li_2, li_3, li_4, li_5, li_6, li_7, li_8, li_9, li_10, li_11, li_12, li_13, li_14, li_15, li_16, li_17, li_18, li_19, li_20, li_21, li_22, li_23, li_24, li_25, li_26, li_27, li_28, li_29, li_30, li_31, li_32, li_33, li_34, li_35, li_36, li_37, li_38, li_39, li_40, li_41, li_42, li_43, li_44, li_45, li_46, li_47, li_48, li_49, li_50, li_51, li_52, li_53, li_54, li_55, li_56, li_57, li_58, li_59, li_60, li_61, li_62, li_63, li_64, li_65, li_66, li_67, li_68, li_69, li_70, li_71, li_72, li_73, li_74, li_75, li_76, li_77, li_78, li_79, li_80, li_81, li_82, li_83, li_84, li_85, li_86, li_87, li_88, li_89, li_90, li_91, li_92, li_93, li_94, li_95, li_96, li_97, li_98, li_99, li_100, li_101, li_102, li_103, li_104, li_105, li_106, li_107, li_108, li_109, li_110, li_111, li_112, li_113, li_114, li_115, li_116, li_117, li_118, li_119, li_120, li_121, li_122, li_123, li_124, li_125, li_126, li_127, li_128, li_129, li_130, li_180, li_186, li_192, li_304, li_305, li_306, li_307, li_319, li_320, li_321, li_322, li_408, li_409, li_410, li_416, li_422, li_428, li_458, li_459, li_460, li_2300, li_2760, nI_add, z_m6, z_m12, z_m30, z_l10, z_l12, z_l14, z_l17, z_l30, z_l460, z_sub, z_dec, z_dec0, z_m11, z_cl, z_leT, z_leF, z_ltT, z_ltF, z_eqT, z_eqF, z_em, z_me, z_mlt, z_mle, z_ltm, z_lem, z_mltm, z_mlem, z_nleT, z_nleF, z_nltT, z_nltF, or_false, or_self, false_or, or_true, true_or, not_true_eq_false, not_false_eq_true, ↓reduceIte, lt, z_ob, Nat.zero_add, Nat.add_zero, h1]
theorem codeAt_out (h : BR n cs tx) {p : Nat} (hp : n ≤ p) (h100 : p ≤ 100) : fX3_codeAt (nI p) (nI n) cs = some mI := by
  have h60 := h.1
  unfold fX3_codeAt
  simp (disch := first | omega | assumption) only [↓z_m1, li_0, li_1, li_2, li_3, li_4, li_5, li_6, li_7, li_8, li_9, li_10, li_11, li_12, li_13, li_14, li_15, li_16, li_17, li_18, li_19, li_20, li_21, li_22, li_23, li_24, li_25, li_26, li_27, li_28, li_29, li_30, li_31, li_32, li_33, li_34, li_35, li_36, li_37, li_38, li_39, li_40, li_41, li_42, li_43, li_44, li_45, li_46, li_47, li_48, li_49, li_50, li_51, li_52, li_53, li_54, li_55, li_56, li_57, li_58, li_59, li_60, li_61, li_62, li_63, li_64, li_65, li_66, li_67, li_68, li_69, li_70, li_71, li_72, li_73, li_74, li_75, li_76, li_77, li_78, li_79, li_80, li_81, li_82, li_83, li_84, li_85, li_86, li_87, li_88, li_89, li_90, li_91, li_92, li_93, li_94, li_95, li_96, li_97, li_98, li_99, li_100, li_101, li_102, li_103, li_104, li_105, li_106, li_107, li_108, li_109, li_110, li_111, li_112, li_113, li_114, li_115, li_116, li_117, li_118, li_119, li_120, li_121, li_122, li_123, li_124, li_125, li_126, li_127, li_128, li_129, li_130, li_180, li_186, li_192, li_304, li_305, li_306, li_307, li_319, li_320, li_321, li_322, li_408, li_409, li_410, li_416, li_422, li_428, li_458, li_459, li_460, li_2300, li_2760, nI_add, z_m6, z_m12, z_m30, z_l10, z_l12, z_l14, z_l17, z_l30, z_l460, z_sub, z_dec, z_dec0, z_m11, z_cl, z_leT, z_leF, z_ltT, z_ltF, z_eqT, z_eqF, z_em, z_me, z_mlt, z_mle, z_ltm, z_lem, z_mltm, z_mlem, z_nleT, z_nleF, z_nltT, z_nltF, or_false, or_self, false_or, or_true, true_or, not_true_eq_false, not_false_eq_true, ↓reduceIte, lt, z_ob, Nat.zero_add, Nat.add_zero]
theorem take_X (h : BR n cs tx) {p c : Nat} (hp : p ≤ 100) (hc : 0 < c) (hc2 : c ≤ 126) : fX3_take (nI c) (nI n) (nI p) cs = (if chrN tx n p = c then some (nI 1, nI (p + 1)) else some (nI 0, nI p)) := by
  have h60 := h.1
  have hle := chr_le h p
  unfold fX3_take
  by_cases e : p < n
  · rw [codeAt_in h e]
    by_cases e2 : chrN tx n p = c
    · rw [if_pos e2]
      simp (disch := first | omega | assumption) only [↓z_m1, li_0, li_1, li_2, li_3, li_4, li_5, li_6, li_7, li_8, li_9, li_10, li_11, li_12, li_13, li_14, li_15, li_16, li_17, li_18, li_19, li_20, li_21, li_22, li_23, li_24, li_25, li_26, li_27, li_28, li_29, li_30, li_31, li_32, li_33, li_34, li_35, li_36, li_37, li_38, li_39, li_40, li_41, li_42, li_43, li_44, li_45, li_46, li_47, li_48, li_49, li_50, li_51, li_52, li_53, li_54, li_55, li_56, li_57, li_58, li_59, li_60, li_61, li_62, li_63, li_64, li_65, li_66, li_67, li_68, li_69, li_70, li_71, li_72, li_73, li_74, li_75, li_76, li_77, li_78, li_79, li_80, li_81, li_82, li_83, li_84, li_85, li_86, li_87, li_88, li_89, li_90, li_91, li_92, li_93, li_94, li_95, li_96, li_97, li_98, li_99, li_100, li_101, li_102, li_103, li_104, li_105, li_106, li_107, li_108, li_109, li_110, li_111, li_112, li_113, li_114, li_115, li_116, li_117, li_118, li_119, li_120, li_121, li_122, li_123, li_124, li_125, li_126, li_127, li_128, li_129, li_130, li_180, li_186, li_192, li_304, li_305, li_306, li_307, li_319, li_320, li_321, li_322, li_408, li_409, li_410, li_416, li_422, li_428, li_458, li_459, li_460, li_2300, li_2760, nI_add, z_m6, z_m12, z_m30, z_l10, z_l12, z_l14, z_l17, z_l30, z_l460, z_sub, z_dec, z_dec0, z_m11, z_cl, z_leT, z_leF, z_ltT, z_ltF, z_eqT, z_eqF, z_em, z_me, z_mlt, z_mle, z_ltm, z_lem, z_mltm, z_mlem, z_nleT, z_nleF, z_nltT, z_nltF, or_false, or_self, false_or, or_true, true_or, not_true_eq_false, not_false_eq_true, ↓reduceIte, lt, z_ob, Nat.zero_add, Nat.add_zero, e2]
    · rw [if_neg e2]
      simp (disch := first | omega | assumption) only [↓z_m1, li_0, li_1, li_2, li_3, li_4, li_5, li_6, li_7, li_8, li_9, li_10, li_11, li_12, li_13, li_14, li_15, li_16, li_17, li_18, li_19, li_20, li_21, li_22, li_23, li_24, li_25, li_26, li_27, li_28, li_29, li_30, li_31, li_32, li_33, li_34, li_35, li_36, li_37, li_38, li_39, li_40, li_41, li_42, li_43, li_44, li_45, li_46, li_47, li_48, li_49, li_50, li_51, li_52, li_53, li_54, li_55, li_56, li_57, li_58, li_59, li_60, li_61, li_62, li_63, li_64, li_65, li_66, li_67, li_68, li_69, li_70, li_71, li_72, li_73, li_74, li_75, li_76, li_77, li_78, li_79, li_80, li_81, li_82, li_83, li_84, li_85, li_86, li_87, li_88, li_89, li_90, li_91, li_92, li_93, li_94, li_95, li_96, li_97, li_98, li_99, li_100, li_101, li_102, li_103, li_104, li_105, li_106, li_107, li_108, li_109, li_110, li_111, li_112, li_113, li_114, li_115, li_116, li_117, li_118, li_119, li_120, li_121, li_122, li_123, li_124, li_125, li_126, li_127, li_128, li_129, li_130, li_180, li_186, li_192, li_304, li_305, li_306, li_307, li_319, li_320, li_321, li_322, li_408, li_409, li_410, li_416, li_422, li_428, li_458, li_459, li_460, li_2300, li_2760, nI_add, z_m6, z_m12, z_m30, z_l10, z_l12, z_l14, z_l17, z_l30, z_l460, z_sub, z_dec, z_dec0, z_m11, z_cl, z_leT, z_leF, z_ltT, z_ltF, z_eqT, z_eqF, z_em, z_me, z_mlt, z_mle, z_ltm, z_lem, z_mltm, z_mlem, z_nleT, z_nleF, z_nltT, z_nltF, or_false, or_self, false_or, or_true, true_or, not_true_eq_false, not_false_eq_true, ↓reduceIte, lt, z_ob, Nat.zero_add, Nat.add_zero]
  · rw [codeAt_out h (by omega) hp, if_neg (fun e2 => e (chr_lt hc e2))]
    simp (disch := first | omega | assumption) only [↓z_m1, li_0, li_1, li_2, li_3, li_4, li_5, li_6, li_7, li_8, li_9, li_10, li_11, li_12, li_13, li_14, li_15, li_16, li_17, li_18, li_19, li_20, li_21, li_22, li_23, li_24, li_25, li_26, li_27, li_28, li_29, li_30, li_31, li_32, li_33, li_34, li_35, li_36, li_37, li_38, li_39, li_40, li_41, li_42, li_43, li_44, li_45, li_46, li_47, li_48, li_49, li_50, li_51, li_52, li_53, li_54, li_55, li_56, li_57, li_58, li_59, li_60, li_61, li_62, li_63, li_64, li_65, li_66, li_67, li_68, li_69, li_70, li_71, li_72, li_73, li_74, li_75, li_76, li_77, li_78, li_79, li_80, li_81, li_82, li_83, li_84, li_85, li_86, li_87, li_88, li_89, li_90, li_91, li_92, li_93, li_94, li_95, li_96, li_97, li_98, li_99, li_100, li_101, li_102, li_103, li_104, li_105, li_106, li_107, li_108, li_109, li_110, li_111, li_112, li_113, li_114, li_115, li_116, li_117, li_118, li_119, li_120, li_121, li_122, li_123, li_124, li_125, li_126, li_127, li_128, li_129, li_130, li_180, li_186, li_192, li_304, li_305, li_306, li_307, li_319, li_320, li_321, li_322, li_408, li_409, li_410, li_416, li_422, li_428, li_458, li_459, li_460, li_2300, li_2760, nI_add, z_m6, z_m12, z_m30, z_l10, z_l12, z_l14, z_l17, z_l30, z_l460, z_sub, z_dec, z_dec0, z_m11, z_cl, z_leT, z_leF, z_ltT, z_ltF, z_eqT, z_eqF, z_em, z_me, z_mlt, z_mle, z_ltm, z_lem, z_mltm, z_mlem, z_nleT, z_nleF, z_nltT, z_nltF, or_false, or_self, false_or, or_true, true_or, not_true_eq_false, not_false_eq_true, ↓reduceIte, lt, z_ob, Nat.zero_add, Nat.add_zero]
theorem take_1 (h : BR n cs tx) {p c : Nat} (hp : p ≤ 100) (hc : 0 < c) (hc2 : c ≤ 126) (e : chrN tx n p = c) : fX3_take (nI c) (nI n) (nI p) cs = some (nI 1, nI (p + 1)) := by rw [take_X h hp hc hc2, if_pos e]
theorem take_0 (h : BR n cs tx) {p c : Nat} (hp : p ≤ 100) (hc : 0 < c) (hc2 : c ≤ 126) (e : ¬ chrN tx n p = c) : fX3_take (nI c) (nI n) (nI p) cs = some (nI 0, nI p) := by rw [take_X h hp hc hc2, if_neg e]
theorem sign_1 (h : BR n cs tx) {p c : Nat} (hp : p ≤ 100) (hc2 : c ≤ 126) (e : chrN tx n p = c) : fX9_sign (nI c) (nI n) (nI p) (nI 0) tx = some (nI (p + 1), nI 0) := by
  unfold fX9_sign eX9_sign
  rw [show fuelN = 999998 + 1 + 1 from rfl]
  simp (disch := first | omega | assumption) only [↓z_m1, li_0, li_1, li_2, li_3, li_4, li_5, li_6, li_7, li_8, li_9, li_10, li_11, li_12, li_13, li_14, li_15, li_16, li_17, li_18, li_19, li_20, li_21, li_22, li_23, li_24, li_25, li_26, li_27, li_28, li_29, li_30, li_31, li_32, li_33, li_34, li_35, li_36, li_37, li_38, li_39, li_40, li_41, li_42, li_43, li_44, li_45, li_46, li_47, li_48, li_49, li_50, li_51, li_52, li_53, li_54, li_55, li_56, li_57, li_58, li_59, li_60, li_61, li_62, li_63, li_64, li_65, li_66, li_67, li_68, li_69, li_70, li_71, li_72, li_73, li_74, li_75, li_76, li_77, li_78, li_79, li_80, li_81, li_82, li_83, li_84, li_85, li_86, li_87, li_88, li_89, li_90, li_91, li_92, li_93, li_94, li_95, li_96, li_97, li_98, li_99, li_100, li_101, li_102, li_103, li_104, li_105, li_106, li_107, li_108, li_109, li_110, li_111, li_112, li_113, li_114, li_115, li_116, li_117, li_118, li_119, li_120, li_121, li_122, li_123, li_124, li_125, li_126, li_127, li_128, li_129, li_130, li_180, li_186, li_192, li_304, li_305, li_306, li_307, li_319, li_320, li_321, li_322, li_408, li_409, li_410, li_416, li_422, li_428, li_458, li_459, li_460, li_2300, li_2760, nI_add, z_m6, z_m12, z_m30, z_l10, z_l12, z_l14, z_l17, z_l30, z_l460, z_sub, z_dec, z_dec0, z_m11, z_cl, z_leT, z_leF, z_ltT, z_ltF, z_eqT, z_eqF, z_em, z_me, z_mlt, z_mle, z_ltm, z_lem, z_mltm, z_mlem, z_nleT, z_nleF, z_nltT, z_nltF, or_false, or_self, false_or, or_true, true_or, not_true_eq_false, not_false_eq_true, ↓reduceIte, lt, z_ob, Nat.zero_add, Nat.add_zero, next_M h hp, e, sp_X9_sign_1, bX9_sign_1, sp_X9_sign_2, bX9_sign_2]
theorem sign_0 (h : BR n cs tx) {p c : Nat} (hp : p ≤ 100) (hc2 : c ≤ 126) (e : ¬ chrN tx n p = c) : fX9_sign (nI c) (nI n) (nI p) (nI 0) tx = some (nI p, nI 1) := by
  have hle := chr_le h p
  unfold fX9_sign eX9_sign
  rw [show fuelN = 999998 + 1 + 1 from rfl]
  simp (disch := first | omega | assumption) only [↓z_m1, li_0, li_1, li_2, li_3, li_4, li_5, li_6, li_7, li_8, li_9, li_10, li_11, li_12, li_13, li_14, li_15, li_16, li_17, li_18, li_19, li_20, li_21, li_22, li_23, li_24, li_25, li_26, li_27, li_28, li_29, li_30, li_31, li_32, li_33, li_34, li_35, li_36, li_37, li_38, li_39, li_40, li_41, li_42, li_43, li_44, li_45, li_46, li_47, li_48, li_49, li_50, li_51, li_52, li_53, li_54, li_55, li_56, li_57, li_58, li_59, li_60, li_61, li_62, li_63, li_64, li_65, li_66, li_67, li_68, li_69, li_70, li_71, li_72, li_73, li_74, li_75, li_76, li_77, li_78, li_79, li_80, li_81, li_82, li_83, li_84, li_85, li_86, li_87, li_88, li_89, li_90, li_91, li_92, li_93, li_94, li_95, li_96, li_97, li_98, li_99, li_100, li_101, li_102, li_103, li_104, li_105, li_106, li_107, li_108, li_109, li_110, li_111, li_112, li_113, li_114, li_115, li_116, li_117, li_118, li_119, li_120, li_121, li_122, li_123, li_124, li_125, li_126, li_127, li_128, li_129, li_130, li_180, li_186, li_192, li_304, li_305, li_306, li_307, li_319, li_320, li_321, li_322, li_408, li_409, li_410, li_416, li_422, li_428, li_458, li_459, li_460, li_2300, li_2760, nI_add, z_m6, z_m12, z_m30, z_l10, z_l12, z_l14, z_l17, z_l30, z_l460, z_sub, z_dec, z_dec0, z_m11, z_cl, z_leT, z_leF, z_ltT, z_ltF, z_eqT, z_eqF, z_em, z_me, z_mlt, z_mle, z_ltm, z_lem, z_mltm, z_mlem, z_nleT, z_nleF, z_nltT, z_nltF, or_false, or_self, false_or, or_true, true_or, not_true_eq_false, not_false_eq_true, ↓reduceIte, lt, z_ob, Nat.zero_add, Nat.add_zero, next_M h hp, sp_X9_sign_1, bX9_sign_1, sp_X9_sign_2, bX9_sign_2]
theorem sign_w (c : Int32) (n p : Nat) (tx : Nat → Int32) : fX9_sign c (nI n) (nI p) (nI 1) tx = some (nI p, nI 1) := by
  unfold fX9_sign eX9_sign
  rw [show fuelN = 999998 + 1 + 1 from rfl]
  simp (disch := first | omega | assumption) only [↓z_m1, li_0, li_1, li_2, li_3, li_4, li_5, li_6, li_7, li_8, li_9, li_10, li_11, li_12, li_13, li_14, li_15, li_16, li_17, li_18, li_19, li_20, li_21, li_22, li_23, li_24, li_25, li_26, li_27, li_28, li_29, li_30, li_31, li_32, li_33, li_34, li_35, li_36, li_37, li_38, li_39, li_40, li_41, li_42, li_43, li_44, li_45, li_46, li_47, li_48, li_49, li_50, li_51, li_52, li_53, li_54, li_55, li_56, li_57, li_58, li_59, li_60, li_61, li_62, li_63, li_64, li_65, li_66, li_67, li_68, li_69, li_70, li_71, li_72, li_73, li_74, li_75, li_76, li_77, li_78, li_79, li_80, li_81, li_82, li_83, li_84, li_85, li_86, li_87, li_88, li_89, li_90, li_91, li_92, li_93, li_94, li_95, li_96, li_97, li_98, li_99, li_100, li_101, li_102, li_103, li_104, li_105, li_106, li_107, li_108, li_109, li_110, li_111, li_112, li_113, li_114, li_115, li_116, li_117, li_118, li_119, li_120, li_121, li_122, li_123, li_124, li_125, li_126, li_127, li_128, li_129, li_130, li_180, li_186, li_192, li_304, li_305, li_306, li_307, li_319, li_320, li_321, li_322, li_408, li_409, li_410, li_416, li_422, li_428, li_458, li_459, li_460, li_2300, li_2760, nI_add, z_m6, z_m12, z_m30, z_l10, z_l12, z_l14, z_l17, z_l30, z_l460, z_sub, z_dec, z_dec0, z_m11, z_cl, z_leT, z_leF, z_ltT, z_ltF, z_eqT, z_eqF, z_em, z_me, z_mlt, z_mle, z_ltm, z_lem, z_mltm, z_mlem, z_nleT, z_nleF, z_nltT, z_nltF, or_false, or_self, false_or, or_true, true_or, not_true_eq_false, not_false_eq_true, ↓reduceIte, lt, z_ob, Nat.zero_add, Nat.add_zero, sp_X9_sign_1, bX9_sign_1, sp_X9_sign_2, bX9_sign_2]
theorem dig_lt {c lo : Nat} (hc : c ≤ 126) (hl : lo ≤ 9) : (nI c - nI 48 < nI lo) = (c < 48 + lo) := by
  rw [Int32.lt_iff_toInt_lt, pk_sub_toInt (by omega) (by omega), nI_toInt (by omega)]
  exact propext ⟨fun h => by omega, fun h => by omega⟩
theorem dig_le {c hi : Nat} (hc : c ≤ 126) (hl : hi ≤ 9) : (nI c - nI 48 ≤ nI hi) = (c ≤ 48 + hi) := by
  rw [Int32.le_iff_toInt_le, pk_sub_toInt (by omega) (by omega), nI_toInt (by omega)]
  exact propext ⟨fun h => by omega, fun h => by omega⟩
theorem dig_gt {c hi : Nat} (hc : c ≤ 126) (hl : hi ≤ 9) : (nI hi < nI c - nI 48) = (48 + hi < c) := by
  rw [Int32.lt_iff_toInt_lt, pk_sub_toInt (by omega) (by omega), nI_toInt (by omega)]
  exact propext ⟨fun h => by omega, fun h => by omega⟩
theorem dig_m {lo : Nat} (hl : lo ≤ 9) : (mI - nI 48 < nI lo) = True := by
  refine eq_true ?_
  rw [Int32.lt_iff_toInt_lt, nI_toInt (by omega), show (mI - nI 48).toInt = -49 by decide]
  omega
/-- a digit -/
def dgO (tx : Nat → Int32) (n lo hi p : Nat) : Option Nat := if 48 + lo ≤ chrN tx n p ∧ chrN tx n p ≤ 48 + hi then some (chrN tx n p - 48) else none
theorem dg_some {lo hi p d : Nat} (h : dgO tx n lo hi p = some d) : lo ≤ d ∧ d ≤ hi ∧ chrN tx n p = 48 + d ∧ p < n := by
  unfold dgO at h
  by_cases e : 48 + lo ≤ chrN tx n p ∧ chrN tx n p ≤ 48 + hi
  · rw [if_pos e] at h
    have := Option.some.inj h
    have h3 : chrN tx n p = 48 + d := by omega
    exact ⟨by omega, by omega, h3, chr_lt (by omega) h3⟩
  · rw [if_neg e] at h; cases h
theorem dg_none {lo hi p : Nat} (h : dgO tx n lo hi p = none) : chrN tx n p < 48 + lo ∨ 48 + hi < chrN tx n p := by
  unfold dgO at h
  by_cases e : 48 + lo ≤ chrN tx n p ∧ chrN tx n p ≤ 48 + hi
  · rw [if_pos e] at h; cases h
  · omega
theorem digX_1 (h : BR n cs tx) {lo hi p d : Nat} (hl : lo ≤ 9) (hh : hi ≤ 9) (e : dgO tx n lo hi p = some d) : fX3_readDigit (nI lo) (nI hi) (nI n) (nI p) cs = some (nI d, nI (p + 1)) := by
  obtain ⟨h1, h2, h3, h4⟩ := dg_some e
  have h60 := h.1
  unfold fX3_readDigit
  rw [codeAt_in h h4, h3]
  simp (disch := first | omega | assumption) only [↓z_m1, li_0, li_1, li_2, li_3, li_4, li_5, li_6, li_7, li_8, li_9, li_10, li_11, li_12, li_13, li_14, li_15, li_16, li_17, li_18, li_19, li_20, li_21, li_22, li_23, li_24, li_25, li_26, li_27, li_28, li_29, li_30, li_31, li_32, li_33, li_34, li_35, li_36, li_37, li_38, li_39, li_40, li_41, li_42, li_43, li_44, li_45, li_46, li_47, li_48, li_49, li_50, li_51, li_52, li_53, li_54, li_55, li_56, li_57, li_58, li_59, li_60, li_61, li_62, li_63, li_64, li_65, li_66, li_67, li_68, li_69, li_70, li_71, li_72, li_73, li_74, li_75, li_76, li_77, li_78, li_79, li_80, li_81, li_82, li_83, li_84, li_85, li_86, li_87, li_88, li_89, li_90, li_91, li_92, li_93, li_94, li_95, li_96, li_97, li_98, li_99, li_100, li_101, li_102, li_103, li_104, li_105, li_106, li_107, li_108, li_109, li_110, li_111, li_112, li_113, li_114, li_115, li_116, li_117, li_118, li_119, li_120, li_121, li_122, li_123, li_124, li_125, li_126, li_127, li_128, li_129, li_130, li_180, li_186, li_192, li_304, li_305, li_306, li_307, li_319, li_320, li_321, li_322, li_408, li_409, li_410, li_416, li_422, li_428, li_458, li_459, li_460, li_2300, li_2760, nI_add, z_m6, z_m12, z_m30, z_l10, z_l12, z_l14, z_l17, z_l30, z_l460, z_sub, z_dec, z_dec0, z_m11, z_cl, z_leT, z_leF, z_ltT, z_ltF, z_eqT, z_eqF, z_em, z_me, z_mlt, z_mle, z_ltm, z_lem, z_mltm, z_mlem, z_nleT, z_nleF, z_nltT, z_nltF, or_false, or_self, false_or, or_true, true_or, not_true_eq_false, not_false_eq_true, ↓reduceIte, lt, z_ob, Nat.zero_add, Nat.add_zero, show 48 + d - 48 = d by omega]
theorem digX_0 (h : BR n cs tx) {lo hi p : Nat} (hp : p ≤ 100) (hl : lo ≤ 9) (hh : hi ≤ 9) (e : dgO tx n lo hi p = none) : fX3_readDigit (nI lo) (nI hi) (nI n) (nI p) cs = some (mI, nI p) := by
  have h1 := dg_none e
  have hle := chr_le h p
  unfold fX3_readDigit
  by_cases hn : p < n
  · rw [codeAt_in h hn, z_ob, show (48 : Int32) = nI 48 from rfl]
    by_cases e3 : chrN tx n p < 48 + lo
    · rw [if_pos (by rw [dig_lt hle hl]; exact e3)]; rfl
    · rw [if_neg (by rw [dig_lt hle hl]; exact e3), if_neg (by rw [dig_le hle hh]; omega)]; rfl
  · rw [codeAt_out h (by omega) hp, z_ob, show (48 : Int32) = nI 48 from rfl, if_pos (by rw [dig_m hl]; trivial)]; rfl
theorem digM_1 (h : BR n cs tx) {lo hi p d : Nat} (hl : lo ≤ 9) (hh : hi ≤ 9) (e : dgO tx n lo hi p = some d) : fX9_digit (nI lo) (nI hi) (nI n) (nI p) (nI 0) tx = some (nI d, nI (p + 1), nI 0) := by
  obtain ⟨h1, h2, h3, h4⟩ := dg_some e
  have h60 := h.1
  unfold fX9_digit eX9_digit
  rw [show fuelN = 999998 + 1 + 1 from rfl]
  simp (disch := first | omega | assumption) only [↓z_m1, li_0, li_1, li_2, li_3, li_4, li_5, li_6, li_7, li_8, li_9, li_10, li_11, li_12, li_13, li_14, li_15, li_16, li_17, li_18, li_19, li_20, li_21, li_22, li_23, li_24, li_25, li_26, li_27, li_28, li_29, li_30, li_31, li_32, li_33, li_34, li_35, li_36, li_37, li_38, li_39, li_40, li_41, li_42, li_43, li_44, li_45, li_46, li_47, li_48, li_49, li_50, li_51, li_52, li_53, li_54, li_55, li_56, li_57, li_58, li_59, li_60, li_61, li_62, li_63, li_64, li_65, li_66, li_67, li_68, li_69, li_70, li_71, li_72, li_73, li_74, li_75, li_76, li_77, li_78, li_79, li_80, li_81, li_82, li_83, li_84, li_85, li_86, li_87, li_88, li_89, li_90, li_91, li_92, li_93, li_94, li_95, li_96, li_97, li_98, li_99, li_100, li_101, li_102, li_103, li_104, li_105, li_106, li_107, li_108, li_109, li_110, li_111, li_112, li_113, li_114, li_115, li_116, li_117, li_118, li_119, li_120, li_121, li_122, li_123, li_124, li_125, li_126, li_127, li_128, li_129, li_130, li_180, li_186, li_192, li_304, li_305, li_306, li_307, li_319, li_320, li_321, li_322, li_408, li_409, li_410, li_416, li_422, li_428, li_458, li_459, li_460, li_2300, li_2760, nI_add, z_m6, z_m12, z_m30, z_l10, z_l12, z_l14, z_l17, z_l30, z_l460, z_sub, z_dec, z_dec0, z_m11, z_cl, z_leT, z_leF, z_ltT, z_ltF, z_eqT, z_eqF, z_em, z_me, z_mlt, z_mle, z_ltm, z_lem, z_mltm, z_mlem, z_nleT, z_nleF, z_nltT, z_nltF, or_false, or_self, false_or, or_true, true_or, not_true_eq_false, not_false_eq_true, ↓reduceIte, lt, z_ob, Nat.zero_add, Nat.add_zero, next_M h (show p ≤ 100 by omega), h3, show 48 + d - 48 = d by omega, in_ok h1 h2 (show hi < 2147483648 by omega), sp_X9_digit_1, bX9_digit_1, sp_X9_digit_2, bX9_digit_2]
theorem digM_0 (h : BR n cs tx) {lo hi p : Nat} (hp : p ≤ 100) (hl : lo ≤ 9) (hh : hi ≤ 9) (e : dgO tx n lo hi p = none) : ∃ v, fX9_digit (nI lo) (nI hi) (nI n) (nI p) (nI 0) tx = some (v, nI p, nI 1) := by
  have h1 := dg_none e
  have hle := chr_le h p
  refine ⟨nI (chrN tx n p) - nI 48, ?_⟩
  have hin : fX9_in (nI (chrN tx n p) - nI 48) (nI lo) (nI hi) = some (nI 0) := in_no (by rw [dig_lt hle hl, dig_gt hle hh]; exact h1)
  unfold fX9_digit eX9_digit
  rw [show fuelN = 999998 + 1 + 1 from rfl, next_M h hp, z_ob, show (48 : Int32) = nI 48 from rfl, if_pos (show nI 0 = (0 : Int32) from rfl), hin]
  generalize nI (chrN tx n p) - nI 48 = v
  simp (disch := first | omega | assumption) only [↓z_m1, li_0, li_1, li_2, li_3, li_4, li_5, li_6, li_7, li_8, li_9, li_10, li_11, li_12, li_13, li_14, li_15, li_16, li_17, li_18, li_19, li_20, li_21, li_22, li_23, li_24, li_25, li_26, li_27, li_28, li_29, li_30, li_31, li_32, li_33, li_34, li_35, li_36, li_37, li_38, li_39, li_40, li_41, li_42, li_43, li_44, li_45, li_46, li_47, li_48, li_49, li_50, li_51, li_52, li_53, li_54, li_55, li_56, li_57, li_58, li_59, li_60, li_61, li_62, li_63, li_64, li_65, li_66, li_67, li_68, li_69, li_70, li_71, li_72, li_73, li_74, li_75, li_76, li_77, li_78, li_79, li_80, li_81, li_82, li_83, li_84, li_85, li_86, li_87, li_88, li_89, li_90, li_91, li_92, li_93, li_94, li_95, li_96, li_97, li_98, li_99, li_100, li_101, li_102, li_103, li_104, li_105, li_106, li_107, li_108, li_109, li_110, li_111, li_112, li_113, li_114, li_115, li_116, li_117, li_118, li_119, li_120, li_121, li_122, li_123, li_124, li_125, li_126, li_127, li_128, li_129, li_130, li_180, li_186, li_192, li_304, li_305, li_306, li_307, li_319, li_320, li_321, li_322, li_408, li_409, li_410, li_416, li_422, li_428, li_458, li_459, li_460, li_2300, li_2760, nI_add, z_m6, z_m12, z_m30, z_l10, z_l12, z_l14, z_l17, z_l30, z_l460, z_sub, z_dec, z_dec0, z_m11, z_cl, z_leT, z_leF, z_ltT, z_ltF, z_eqT, z_eqF, z_em, z_me, z_mlt, z_mle, z_ltm, z_lem, z_mltm, z_mlem, z_nleT, z_nleF, z_nltT, z_nltF, or_false, or_self, false_or, or_true, true_or, not_true_eq_false, not_false_eq_true, ↓reduceIte, lt, z_ob, Nat.zero_add, Nat.add_zero, sp_X9_digit_1, bX9_digit_1, sp_X9_digit_2, bX9_digit_2]
theorem digM_w (h : BR n cs tx) (lo hi : Int32) {p : Nat} (hp : p ≤ 100) : ∃ v, fX9_digit lo hi (nI n) (nI p) (nI 1) tx = some (v, nI p, nI 1) := by
  refine ⟨nI (chrN tx n p) - nI 48, ?_⟩
  unfold fX9_digit eX9_digit
  rw [show fuelN = 999998 + 1 + 1 from rfl, next_M h hp, z_ob, show (48 : Int32) = nI 48 from rfl]
  generalize nI (chrN tx n p) - nI 48 = v
  simp (disch := first | omega | assumption) only [↓z_m1, li_0, li_1, li_2, li_3, li_4, li_5, li_6, li_7, li_8, li_9, li_10, li_11, li_12, li_13, li_14, li_15, li_16, li_17, li_18, li_19, li_20, li_21, li_22, li_23, li_24, li_25, li_26, li_27, li_28, li_29, li_30, li_31, li_32, li_33, li_34, li_35, li_36, li_37, li_38, li_39, li_40, li_41, li_42, li_43, li_44, li_45, li_46, li_47, li_48, li_49, li_50, li_51, li_52, li_53, li_54, li_55, li_56, li_57, li_58, li_59, li_60, li_61, li_62, li_63, li_64, li_65, li_66, li_67, li_68, li_69, li_70, li_71, li_72, li_73, li_74, li_75, li_76, li_77, li_78, li_79, li_80, li_81, li_82, li_83, li_84, li_85, li_86, li_87, li_88, li_89, li_90, li_91, li_92, li_93, li_94, li_95, li_96, li_97, li_98, li_99, li_100, li_101, li_102, li_103, li_104, li_105, li_106, li_107, li_108, li_109, li_110, li_111, li_112, li_113, li_114, li_115, li_116, li_117, li_118, li_119, li_120, li_121, li_122, li_123, li_124, li_125, li_126, li_127, li_128, li_129, li_130, li_180, li_186, li_192, li_304, li_305, li_306, li_307, li_319, li_320, li_321, li_322, li_408, li_409, li_410, li_416, li_422, li_428, li_458, li_459, li_460, li_2300, li_2760, nI_add, z_m6, z_m12, z_m30, z_l10, z_l12, z_l14, z_l17, z_l30, z_l460, z_sub, z_dec, z_dec0, z_m11, z_cl, z_leT, z_leF, z_ltT, z_ltF, z_eqT, z_eqF, z_em, z_me, z_mlt, z_mle, z_ltm, z_lem, z_mltm, z_mlem, z_nleT, z_nleF, z_nltT, z_nltF, or_false, or_self, false_or, or_true, true_or, not_true_eq_false, not_false_eq_true, ↓reduceIte, lt, z_ob, Nat.zero_add, Nat.add_zero, sp_X9_digit_1, bX9_digit_1, sp_X9_digit_2, bX9_digit_2]
/-- a word -/
def wdO (tx : Nat → Int32) (n p : Nat) : Nat × Option Nat :=
  match dgO tx n 0 9 p with
  | none => (p, none)
  | some d => if d = 1 ∨ d = 2 then (match dgO tx n 0 9 (p + 1) with
    | some u => (p + 2, some (10 * d + u))
    | none => (p + 1, some d)) else (p + 1, some d)
theorem wd_some {p q w : Nat} (h : wdO tx n p = (q, some w)) : p < q ∧ q ≤ n ∧ w < 30 := by
  unfold wdO at h
  cases hd : dgO tx n 0 9 p with
  | none => rw [hd] at h; cases h
  | some d =>
    rw [hd] at h
    obtain ⟨-, h2, -, h4⟩ := dg_some hd
    dsimp only at h
    by_cases e : d = 1 ∨ d = 2
    · rw [if_pos e] at h
      cases hu : dgO tx n 0 9 (p + 1) with
      | none =>
        rw [hu] at h
        cases h
        exact ⟨by omega, by omega, by omega⟩
      | some u =>
        rw [hu] at h
        obtain ⟨-, h6, -, h8⟩ := dg_some hu
        cases h
        exact ⟨by omega, by omega, by omega⟩
    · rw [if_neg e] at h
      cases h
      exact ⟨by omega, by omega, by omega⟩
theorem wd_none {p q : Nat} (h : wdO tx n p = (q, none)) : q = p ∧ dgO tx n 0 9 p = none := by
  unfold wdO at h
  cases hd : dgO tx n 0 9 p with
  | none => rw [hd] at h; cases h; exact ⟨rfl, rfl⟩
  | some d =>
    rw [hd] at h
    dsimp only at h
    by_cases e : d = 1 ∨ d = 2
    · rw [if_pos e] at h
      cases hu : dgO tx n 0 9 (p + 1) with
      | none => rw [hu] at h; cases h
      | some u => rw [hu] at h; cases h
    · rw [if_neg e] at h; cases h
theorem wdX_1 (h : BR n cs tx) {p q w : Nat} (e : wdO tx n p = (q, some w)) : fX3_readWord (nI n) (nI p) cs = some (nI w, nI q) := by
  have h60 := h.1
  unfold fX3_readWord eX3_readWord
  rw [fuN1]
  unfold wdO at e
  cases hd : dgO tx n 0 9 p with
  | none => rw [hd] at e; cases e
  | some d =>
    rw [hd] at e
    dsimp only at e
    obtain ⟨-, h2, -, h4⟩ := dg_some hd
    by_cases e1 : d = 1 ∨ d = 2
    · rw [if_pos e1] at e
      cases hu : dgO tx n 0 9 (p + 1) with
      | none =>
        rw [hu] at e
        cases e
        have g := digX_0 h (show p + 1 ≤ 100 by omega) (by omega) (by omega) hu
        rcases e1 with rfl | rfl
        · simp (disch := first | omega | assumption) only [↓z_m1, li_0, li_1, li_2, li_3, li_4, li_5, li_6, li_7, li_8, li_9, li_10, li_11, li_12, li_13, li_14, li_15, li_16, li_17, li_18, li_19, li_20, li_21, li_22, li_23, li_24, li_25, li_26, li_27, li_28, li_29, li_30, li_31, li_32, li_33, li_34, li_35, li_36, li_37, li_38, li_39, li_40, li_41, li_42, li_43, li_44, li_45, li_46, li_47, li_48, li_49, li_50, li_51, li_52, li_53, li_54, li_55, li_56, li_57, li_58, li_59, li_60, li_61, li_62, li_63, li_64, li_65, li_66, li_67, li_68, li_69, li_70, li_71, li_72, li_73, li_74, li_75, li_76, li_77, li_78, li_79, li_80, li_81, li_82, li_83, li_84, li_85, li_86, li_87, li_88, li_89, li_90, li_91, li_92, li_93, li_94, li_95, li_96, li_97, li_98, li_99, li_100, li_101, li_102, li_103, li_104, li_105, li_106, li_107, li_108, li_109, li_110, li_111, li_112, li_113, li_114, li_115, li_116, li_117, li_118, li_119, li_120, li_121, li_122, li_123, li_124, li_125, li_126, li_127, li_128, li_129, li_130, li_180, li_186, li_192, li_304, li_305, li_306, li_307, li_319, li_320, li_321, li_322, li_408, li_409, li_410, li_416, li_422, li_428, li_458, li_459, li_460, li_2300, li_2760, nI_add, z_m6, z_m12, z_m30, z_l10, z_l12, z_l14, z_l17, z_l30, z_l460, z_sub, z_dec, z_dec0, z_m11, z_cl, z_leT, z_leF, z_ltT, z_ltF, z_eqT, z_eqF, z_em, z_me, z_mlt, z_mle, z_ltm, z_lem, z_mltm, z_mlem, z_nleT, z_nleF, z_nltT, z_nltF, or_false, or_self, false_or, or_true, true_or, not_true_eq_false, not_false_eq_true, ↓reduceIte, lt, z_ob, Nat.zero_add, Nat.add_zero, digX_1 h (show 0 ≤ 9 by omega) (show 9 ≤ 9 by omega) hd, sp_X3_readWord_1, bX3_readWord_1, g]
        · simp (disch := first | omega | assumption) only [↓z_m1, li_0, li_1, li_2, li_3, li_4, li_5, li_6, li_7, li_8, li_9, li_10, li_11, li_12, li_13, li_14, li_15, li_16, li_17, li_18, li_19, li_20, li_21, li_22, li_23, li_24, li_25, li_26, li_27, li_28, li_29, li_30, li_31, li_32, li_33, li_34, li_35, li_36, li_37, li_38, li_39, li_40, li_41, li_42, li_43, li_44, li_45, li_46, li_47, li_48, li_49, li_50, li_51, li_52, li_53, li_54, li_55, li_56, li_57, li_58, li_59, li_60, li_61, li_62, li_63, li_64, li_65, li_66, li_67, li_68, li_69, li_70, li_71, li_72, li_73, li_74, li_75, li_76, li_77, li_78, li_79, li_80, li_81, li_82, li_83, li_84, li_85, li_86, li_87, li_88, li_89, li_90, li_91, li_92, li_93, li_94, li_95, li_96, li_97, li_98, li_99, li_100, li_101, li_102, li_103, li_104, li_105, li_106, li_107, li_108, li_109, li_110, li_111, li_112, li_113, li_114, li_115, li_116, li_117, li_118, li_119, li_120, li_121, li_122, li_123, li_124, li_125, li_126, li_127, li_128, li_129, li_130, li_180, li_186, li_192, li_304, li_305, li_306, li_307, li_319, li_320, li_321, li_322, li_408, li_409, li_410, li_416, li_422, li_428, li_458, li_459, li_460, li_2300, li_2760, nI_add, z_m6, z_m12, z_m30, z_l10, z_l12, z_l14, z_l17, z_l30, z_l460, z_sub, z_dec, z_dec0, z_m11, z_cl, z_leT, z_leF, z_ltT, z_ltF, z_eqT, z_eqF, z_em, z_me, z_mlt, z_mle, z_ltm, z_lem, z_mltm, z_mlem, z_nleT, z_nleF, z_nltT, z_nltF, or_false, or_self, false_or, or_true, true_or, not_true_eq_false, not_false_eq_true, ↓reduceIte, lt, z_ob, Nat.zero_add, Nat.add_zero, digX_1 h (show 0 ≤ 9 by omega) (show 9 ≤ 9 by omega) hd, sp_X3_readWord_1, bX3_readWord_1, g]
      | some u =>
        rw [hu] at e
        cases e
        obtain ⟨-, h6, -, -⟩ := dg_some hu
        have g := digX_1 h (show 0 ≤ 9 by omega) (show 9 ≤ 9 by omega) hu
        rcases e1 with rfl | rfl
        · simp (disch := first | omega | assumption) only [↓z_m1, li_0, li_1, li_2, li_3, li_4, li_5, li_6, li_7, li_8, li_9, li_10, li_11, li_12, li_13, li_14, li_15, li_16, li_17, li_18, li_19, li_20, li_21, li_22, li_23, li_24, li_25, li_26, li_27, li_28, li_29, li_30, li_31, li_32, li_33, li_34, li_35, li_36, li_37, li_38, li_39, li_40, li_41, li_42, li_43, li_44, li_45, li_46, li_47, li_48, li_49, li_50, li_51, li_52, li_53, li_54, li_55, li_56, li_57, li_58, li_59, li_60, li_61, li_62, li_63, li_64, li_65, li_66, li_67, li_68, li_69, li_70, li_71, li_72, li_73, li_74, li_75, li_76, li_77, li_78, li_79, li_80, li_81, li_82, li_83, li_84, li_85, li_86, li_87, li_88, li_89, li_90, li_91, li_92, li_93, li_94, li_95, li_96, li_97, li_98, li_99, li_100, li_101, li_102, li_103, li_104, li_105, li_106, li_107, li_108, li_109, li_110, li_111, li_112, li_113, li_114, li_115, li_116, li_117, li_118, li_119, li_120, li_121, li_122, li_123, li_124, li_125, li_126, li_127, li_128, li_129, li_130, li_180, li_186, li_192, li_304, li_305, li_306, li_307, li_319, li_320, li_321, li_322, li_408, li_409, li_410, li_416, li_422, li_428, li_458, li_459, li_460, li_2300, li_2760, nI_add, z_m6, z_m12, z_m30, z_l10, z_l12, z_l14, z_l17, z_l30, z_l460, z_sub, z_dec, z_dec0, z_m11, z_cl, z_leT, z_leF, z_ltT, z_ltF, z_eqT, z_eqF, z_em, z_me, z_mlt, z_mle, z_ltm, z_lem, z_mltm, z_mlem, z_nleT, z_nleF, z_nltT, z_nltF, or_false, or_self, false_or, or_true, true_or, not_true_eq_false, not_false_eq_true, ↓reduceIte, lt, z_ob, Nat.zero_add, Nat.add_zero, digX_1 h (show 0 ≤ 9 by omega) (show 9 ≤ 9 by omega) hd, sp_X3_readWord_1, bX3_readWord_1, g]
        · simp (disch := first | omega | assumption) only [↓z_m1, li_0, li_1, li_2, li_3, li_4, li_5, li_6, li_7, li_8, li_9, li_10, li_11, li_12, li_13, li_14, li_15, li_16, li_17, li_18, li_19, li_20, li_21, li_22, li_23, li_24, li_25, li_26, li_27, li_28, li_29, li_30, li_31, li_32, li_33, li_34, li_35, li_36, li_37, li_38, li_39, li_40, li_41, li_42, li_43, li_44, li_45, li_46, li_47, li_48, li_49, li_50, li_51, li_52, li_53, li_54, li_55, li_56, li_57, li_58, li_59, li_60, li_61, li_62, li_63, li_64, li_65, li_66, li_67, li_68, li_69, li_70, li_71, li_72, li_73, li_74, li_75, li_76, li_77, li_78, li_79, li_80, li_81, li_82, li_83, li_84, li_85, li_86, li_87, li_88, li_89, li_90, li_91, li_92, li_93, li_94, li_95, li_96, li_97, li_98, li_99, li_100, li_101, li_102, li_103, li_104, li_105, li_106, li_107, li_108, li_109, li_110, li_111, li_112, li_113, li_114, li_115, li_116, li_117, li_118, li_119, li_120, li_121, li_122, li_123, li_124, li_125, li_126, li_127, li_128, li_129, li_130, li_180, li_186, li_192, li_304, li_305, li_306, li_307, li_319, li_320, li_321, li_322, li_408, li_409, li_410, li_416, li_422, li_428, li_458, li_459, li_460, li_2300, li_2760, nI_add, z_m6, z_m12, z_m30, z_l10, z_l12, z_l14, z_l17, z_l30, z_l460, z_sub, z_dec, z_dec0, z_m11, z_cl, z_leT, z_leF, z_ltT, z_ltF, z_eqT, z_eqF, z_em, z_me, z_mlt, z_mle, z_ltm, z_lem, z_mltm, z_mlem, z_nleT, z_nleF, z_nltT, z_nltF, or_false, or_self, false_or, or_true, true_or, not_true_eq_false, not_false_eq_true, ↓reduceIte, lt, z_ob, Nat.zero_add, Nat.add_zero, digX_1 h (show 0 ≤ 9 by omega) (show 9 ≤ 9 by omega) hd, sp_X3_readWord_1, bX3_readWord_1, g]
    · rw [if_neg e1] at e
      cases e
      simp (disch := first | omega | assumption) only [↓z_m1, li_0, li_1, li_2, li_3, li_4, li_5, li_6, li_7, li_8, li_9, li_10, li_11, li_12, li_13, li_14, li_15, li_16, li_17, li_18, li_19, li_20, li_21, li_22, li_23, li_24, li_25, li_26, li_27, li_28, li_29, li_30, li_31, li_32, li_33, li_34, li_35, li_36, li_37, li_38, li_39, li_40, li_41, li_42, li_43, li_44, li_45, li_46, li_47, li_48, li_49, li_50, li_51, li_52, li_53, li_54, li_55, li_56, li_57, li_58, li_59, li_60, li_61, li_62, li_63, li_64, li_65, li_66, li_67, li_68, li_69, li_70, li_71, li_72, li_73, li_74, li_75, li_76, li_77, li_78, li_79, li_80, li_81, li_82, li_83, li_84, li_85, li_86, li_87, li_88, li_89, li_90, li_91, li_92, li_93, li_94, li_95, li_96, li_97, li_98, li_99, li_100, li_101, li_102, li_103, li_104, li_105, li_106, li_107, li_108, li_109, li_110, li_111, li_112, li_113, li_114, li_115, li_116, li_117, li_118, li_119, li_120, li_121, li_122, li_123, li_124, li_125, li_126, li_127, li_128, li_129, li_130, li_180, li_186, li_192, li_304, li_305, li_306, li_307, li_319, li_320, li_321, li_322, li_408, li_409, li_410, li_416, li_422, li_428, li_458, li_459, li_460, li_2300, li_2760, nI_add, z_m6, z_m12, z_m30, z_l10, z_l12, z_l14, z_l17, z_l30, z_l460, z_sub, z_dec, z_dec0, z_m11, z_cl, z_leT, z_leF, z_ltT, z_ltF, z_eqT, z_eqF, z_em, z_me, z_mlt, z_mle, z_ltm, z_lem, z_mltm, z_mlem, z_nleT, z_nleF, z_nltT, z_nltF, or_false, or_self, false_or, or_true, true_or, not_true_eq_false, not_false_eq_true, ↓reduceIte, lt, z_ob, Nat.zero_add, Nat.add_zero, digX_1 h (show 0 ≤ 9 by omega) (show 9 ≤ 9 by omega) hd]
theorem wdX_0 (h : BR n cs tx) {p q : Nat} (hp : p ≤ 100) (e : wdO tx n p = (q, none)) : fX3_readWord (nI n) (nI p) cs = some (mI, nI q) := by
  obtain ⟨rfl, e⟩ := wd_none e
  unfold fX3_readWord eX3_readWord
  rw [fuN1]
  simp (disch := first | omega | assumption) only [↓z_m1, li_0, li_1, li_2, li_3, li_4, li_5, li_6, li_7, li_8, li_9, li_10, li_11, li_12, li_13, li_14, li_15, li_16, li_17, li_18, li_19, li_20, li_21, li_22, li_23, li_24, li_25, li_26, li_27, li_28, li_29, li_30, li_31, li_32, li_33, li_34, li_35, li_36, li_37, li_38, li_39, li_40, li_41, li_42, li_43, li_44, li_45, li_46, li_47, li_48, li_49, li_50, li_51, li_52, li_53, li_54, li_55, li_56, li_57, li_58, li_59, li_60, li_61, li_62, li_63, li_64, li_65, li_66, li_67, li_68, li_69, li_70, li_71, li_72, li_73, li_74, li_75, li_76, li_77, li_78, li_79, li_80, li_81, li_82, li_83, li_84, li_85, li_86, li_87, li_88, li_89, li_90, li_91, li_92, li_93, li_94, li_95, li_96, li_97, li_98, li_99, li_100, li_101, li_102, li_103, li_104, li_105, li_106, li_107, li_108, li_109, li_110, li_111, li_112, li_113, li_114, li_115, li_116, li_117, li_118, li_119, li_120, li_121, li_122, li_123, li_124, li_125, li_126, li_127, li_128, li_129, li_130, li_180, li_186, li_192, li_304, li_305, li_306, li_307, li_319, li_320, li_321, li_322, li_408, li_409, li_410, li_416, li_422, li_428, li_458, li_459, li_460, li_2300, li_2760, nI_add, z_m6, z_m12, z_m30, z_l10, z_l12, z_l14, z_l17, z_l30, z_l460, z_sub, z_dec, z_dec0, z_m11, z_cl, z_leT, z_leF, z_ltT, z_ltF, z_eqT, z_eqF, z_em, z_me, z_mlt, z_mle, z_ltm, z_lem, z_mltm, z_mlem, z_nleT, z_nleF, z_nltT, z_nltF, or_false, or_self, false_or, or_true, true_or, not_true_eq_false, not_false_eq_true, ↓reduceIte, lt, z_ob, Nat.zero_add, Nat.add_zero, digX_0 h hp (show 0 ≤ 9 by omega) (show 9 ≤ 9 by omega) e]
theorem wdM_1 (h : BR n cs tx) {p q w : Nat} (e : wdO tx n p = (q, some w)) : fX9_word (nI n) (nI p) (nI 0) tx = some (nI w, nI q, nI 0) := by
  have h60 := h.1
  unfold fX9_word
  unfold wdO at e
  cases hd : dgO tx n 0 9 p with
  | none => rw [hd] at e; cases e
  | some d =>
    rw [hd] at e
    dsimp only at e
    obtain ⟨-, h2, -, h4⟩ := dg_some hd
    have hm := digM_1 h (show 0 ≤ 9 by omega) (show 9 ≤ 9 by omega) hd
    by_cases e1 : d = 1 ∨ d = 2
    · rw [if_pos e1] at e
      have hin : fX9_in (nI d) (nI 1) (nI 2) = some (nI 1) := in_ok (by omega) (by omega) (by omega)
      have hnx := next_M h (show p + 1 ≤ 100 by omega)
      have hle := chr_le h (p + 1)
      cases hu : dgO tx n 0 9 (p + 1) with
      | none =>
        rw [hu] at e
        cases e
        have g := dg_none hu
        have hin2 : fX9_in (nI (chrN tx n (p + 1))) (nI 48) (nI 57) = some (nI 0) := in_no (by rw [z_lt (by omega) (by omega), z_lt (by omega) (by omega)]; omega)
        simp (disch := first | omega | assumption) only [↓z_m1, li_0, li_1, li_2, li_3, li_4, li_5, li_6, li_7, li_8, li_9, li_10, li_11, li_12, li_13, li_14, li_15, li_16, li_17, li_18, li_19, li_20, li_21, li_22, li_23, li_24, li_25, li_26, li_27, li_28, li_29, li_30, li_31, li_32, li_33, li_34, li_35, li_36, li_37, li_38, li_39, li_40, li_41, li_42, li_43, li_44, li_45, li_46, li_47, li_48, li_49, li_50, li_51, li_52, li_53, li_54, li_55, li_56, li_57, li_58, li_59, li_60, li_61, li_62, li_63, li_64, li_65, li_66, li_67, li_68, li_69, li_70, li_71, li_72, li_73, li_74, li_75, li_76, li_77, li_78, li_79, li_80, li_81, li_82, li_83, li_84, li_85, li_86, li_87, li_88, li_89, li_90, li_91, li_92, li_93, li_94, li_95, li_96, li_97, li_98, li_99, li_100, li_101, li_102, li_103, li_104, li_105, li_106, li_107, li_108, li_109, li_110, li_111, li_112, li_113, li_114, li_115, li_116, li_117, li_118, li_119, li_120, li_121, li_122, li_123, li_124, li_125, li_126, li_127, li_128, li_129, li_130, li_180, li_186, li_192, li_304, li_305, li_306, li_307, li_319, li_320, li_321, li_322, li_408, li_409, li_410, li_416, li_422, li_428, li_458, li_459, li_460, li_2300, li_2760, nI_add, z_m6, z_m12, z_m30, z_l10, z_l12, z_l14, z_l17, z_l30, z_l460, z_sub, z_dec, z_dec0, z_m11, z_cl, z_leT, z_leF, z_ltT, z_ltF, z_eqT, z_eqF, z_em, z_me, z_mlt, z_mle, z_ltm, z_lem, z_mltm, z_mlem, z_nleT, z_nleF, z_nltT, z_nltF, or_false, or_self, false_or, or_true, true_or, not_true_eq_false, not_false_eq_true, ↓reduceIte, lt, z_ob, Nat.zero_add, Nat.add_zero, hm, hin, hnx, hin2]
      | some u =>
        rw [hu] at e
        cases e
        obtain ⟨-, h6, h7, -⟩ := dg_some hu
        have hin2 : fX9_in (nI (chrN tx n (p + 1))) (nI 48) (nI 57) = some (nI 1) := in_ok (by omega) (by omega) (by omega)
        simp (disch := first | omega | assumption) only [↓z_m1, li_0, li_1, li_2, li_3, li_4, li_5, li_6, li_7, li_8, li_9, li_10, li_11, li_12, li_13, li_14, li_15, li_16, li_17, li_18, li_19, li_20, li_21, li_22, li_23, li_24, li_25, li_26, li_27, li_28, li_29, li_30, li_31, li_32, li_33, li_34, li_35, li_36, li_37, li_38, li_39, li_40, li_41, li_42, li_43, li_44, li_45, li_46, li_47, li_48, li_49, li_50, li_51, li_52, li_53, li_54, li_55, li_56, li_57, li_58, li_59, li_60, li_61, li_62, li_63, li_64, li_65, li_66, li_67, li_68, li_69, li_70, li_71, li_72, li_73, li_74, li_75, li_76, li_77, li_78, li_79, li_80, li_81, li_82, li_83, li_84, li_85, li_86, li_87, li_88, li_89, li_90, li_91, li_92, li_93, li_94, li_95, li_96, li_97, li_98, li_99, li_100, li_101, li_102, li_103, li_104, li_105, li_106, li_107, li_108, li_109, li_110, li_111, li_112, li_113, li_114, li_115, li_116, li_117, li_118, li_119, li_120, li_121, li_122, li_123, li_124, li_125, li_126, li_127, li_128, li_129, li_130, li_180, li_186, li_192, li_304, li_305, li_306, li_307, li_319, li_320, li_321, li_322, li_408, li_409, li_410, li_416, li_422, li_428, li_458, li_459, li_460, li_2300, li_2760, nI_add, z_m6, z_m12, z_m30, z_l10, z_l12, z_l14, z_l17, z_l30, z_l460, z_sub, z_dec, z_dec0, z_m11, z_cl, z_leT, z_leF, z_ltT, z_ltF, z_eqT, z_eqF, z_em, z_me, z_mlt, z_mle, z_ltm, z_lem, z_mltm, z_mlem, z_nleT, z_nleF, z_nltT, z_nltF, or_false, or_self, false_or, or_true, true_or, not_true_eq_false, not_false_eq_true, ↓reduceIte, lt, z_ob, Nat.zero_add, Nat.add_zero, hm, hin, hnx, hin2]
        rw [h7, show 10 * d + (48 + u) - 48 = 10 * d + u by omega]
    · rw [if_neg e1] at e
      cases e
      have hin : fX9_in (nI w) (nI 1) (nI 2) = some (nI 0) := in_no (by rw [z_lt (by omega) (by omega), z_lt (by omega) (by omega)]; omega)
      simp (disch := first | omega | assumption) only [↓z_m1, li_0, li_1, li_2, li_3, li_4, li_5, li_6, li_7, li_8, li_9, li_10, li_11, li_12, li_13, li_14, li_15, li_16, li_17, li_18, li_19, li_20, li_21, li_22, li_23, li_24, li_25, li_26, li_27, li_28, li_29, li_30, li_31, li_32, li_33, li_34, li_35, li_36, li_37, li_38, li_39, li_40, li_41, li_42, li_43, li_44, li_45, li_46, li_47, li_48, li_49, li_50, li_51, li_52, li_53, li_54, li_55, li_56, li_57, li_58, li_59, li_60, li_61, li_62, li_63, li_64, li_65, li_66, li_67, li_68, li_69, li_70, li_71, li_72, li_73, li_74, li_75, li_76, li_77, li_78, li_79, li_80, li_81, li_82, li_83, li_84, li_85, li_86, li_87, li_88, li_89, li_90, li_91, li_92, li_93, li_94, li_95, li_96, li_97, li_98, li_99, li_100, li_101, li_102, li_103, li_104, li_105, li_106, li_107, li_108, li_109, li_110, li_111, li_112, li_113, li_114, li_115, li_116, li_117, li_118, li_119, li_120, li_121, li_122, li_123, li_124, li_125, li_126, li_127, li_128, li_129, li_130, li_180, li_186, li_192, li_304, li_305, li_306, li_307, li_319, li_320, li_321, li_322, li_408, li_409, li_410, li_416, li_422, li_428, li_458, li_459, li_460, li_2300, li_2760, nI_add, z_m6, z_m12, z_m30, z_l10, z_l12, z_l14, z_l17, z_l30, z_l460, z_sub, z_dec, z_dec0, z_m11, z_cl, z_leT, z_leF, z_ltT, z_ltF, z_eqT, z_eqF, z_em, z_me, z_mlt, z_mle, z_ltm, z_lem, z_mltm, z_mlem, z_nleT, z_nleF, z_nltT, z_nltF, or_false, or_self, false_or, or_true, true_or, not_true_eq_false, not_false_eq_true, ↓reduceIte, lt, z_ob, Nat.zero_add, Nat.add_zero, hm, hin]
theorem wdM_0 (h : BR n cs tx) {p q : Nat} (hp : p ≤ 100) (e : wdO tx n p = (q, none)) : ∃ v, fX9_word (nI n) (nI p) (nI 0) tx = some (v, nI q, nI 1) := by
  obtain ⟨rfl, e⟩ := wd_none e
  obtain ⟨v, hv⟩ := digM_0 h hp (show 0 ≤ 9 by omega) (show 9 ≤ 9 by omega) e
  refine ⟨v, ?_⟩
  unfold fX9_word
  simp (disch := first | omega | assumption) only [↓z_m1, li_0, li_1, li_2, li_3, li_4, li_5, li_6, li_7, li_8, li_9, li_10, li_11, li_12, li_13, li_14, li_15, li_16, li_17, li_18, li_19, li_20, li_21, li_22, li_23, li_24, li_25, li_26, li_27, li_28, li_29, li_30, li_31, li_32, li_33, li_34, li_35, li_36, li_37, li_38, li_39, li_40, li_41, li_42, li_43, li_44, li_45, li_46, li_47, li_48, li_49, li_50, li_51, li_52, li_53, li_54, li_55, li_56, li_57, li_58, li_59, li_60, li_61, li_62, li_63, li_64, li_65, li_66, li_67, li_68, li_69, li_70, li_71, li_72, li_73, li_74, li_75, li_76, li_77, li_78, li_79, li_80, li_81, li_82, li_83, li_84, li_85, li_86, li_87, li_88, li_89, li_90, li_91, li_92, li_93, li_94, li_95, li_96, li_97, li_98, li_99, li_100, li_101, li_102, li_103, li_104, li_105, li_106, li_107, li_108, li_109, li_110, li_111, li_112, li_113, li_114, li_115, li_116, li_117, li_118, li_119, li_120, li_121, li_122, li_123, li_124, li_125, li_126, li_127, li_128, li_129, li_130, li_180, li_186, li_192, li_304, li_305, li_306, li_307, li_319, li_320, li_321, li_322, li_408, li_409, li_410, li_416, li_422, li_428, li_458, li_459, li_460, li_2300, li_2760, nI_add, z_m6, z_m12, z_m30, z_l10, z_l12, z_l14, z_l17, z_l30, z_l460, z_sub, z_dec, z_dec0, z_m11, z_cl, z_leT, z_leF, z_ltT, z_ltF, z_eqT, z_eqF, z_em, z_me, z_mlt, z_mle, z_ltm, z_lem, z_mltm, z_mlem, z_nleT, z_nleF, z_nltT, z_nltF, or_false, or_self, false_or, or_true, true_or, not_true_eq_false, not_false_eq_true, ↓reduceIte, lt, z_ob, Nat.zero_add, Nat.add_zero, hv]
theorem wdM_w (h : BR n cs tx) {p : Nat} (hp : p ≤ 100) : ∃ v, fX9_word (nI n) (nI p) (nI 1) tx = some (v, nI p, nI 1) := by
  obtain ⟨v, hv⟩ := digM_w h (nI 0) (nI 9) hp
  refine ⟨v, ?_⟩
  unfold fX9_word
  simp (disch := first | omega | assumption) only [↓z_m1, li_0, li_1, li_2, li_3, li_4, li_5, li_6, li_7, li_8, li_9, li_10, li_11, li_12, li_13, li_14, li_15, li_16, li_17, li_18, li_19, li_20, li_21, li_22, li_23, li_24, li_25, li_26, li_27, li_28, li_29, li_30, li_31, li_32, li_33, li_34, li_35, li_36, li_37, li_38, li_39, li_40, li_41, li_42, li_43, li_44, li_45, li_46, li_47, li_48, li_49, li_50, li_51, li_52, li_53, li_54, li_55, li_56, li_57, li_58, li_59, li_60, li_61, li_62, li_63, li_64, li_65, li_66, li_67, li_68, li_69, li_70, li_71, li_72, li_73, li_74, li_75, li_76, li_77, li_78, li_79, li_80, li_81, li_82, li_83, li_84, li_85, li_86, li_87, li_88, li_89, li_90, li_91, li_92, li_93, li_94, li_95, li_96, li_97, li_98, li_99, li_100, li_101, li_102, li_103, li_104, li_105, li_106, li_107, li_108, li_109, li_110, li_111, li_112, li_113, li_114, li_115, li_116, li_117, li_118, li_119, li_120, li_121, li_122, li_123, li_124, li_125, li_126, li_127, li_128, li_129, li_130, li_180, li_186, li_192, li_304, li_305, li_306, li_307, li_319, li_320, li_321, li_322, li_408, li_409, li_410, li_416, li_422, li_428, li_458, li_459, li_460, li_2300, li_2760, nI_add, z_m6, z_m12, z_m30, z_l10, z_l12, z_l14, z_l17, z_l30, z_l460, z_sub, z_dec, z_dec0, z_m11, z_cl, z_leT, z_leF, z_ltT, z_ltF, z_eqT, z_eqF, z_em, z_me, z_mlt, z_mle, z_ltm, z_lem, z_mltm, z_mlem, z_nleT, z_nleF, z_nltT, z_nltF, or_false, or_self, false_or, or_true, true_or, not_true_eq_false, not_false_eq_true, ↓reduceIte, lt, z_ob, Nat.zero_add, Nat.add_zero, hv]
-- a sentence
def snF (tx : Nat → Int32) (n : Nat) : Nat → Nat → List Nat → Nat × Option (List Nat)
  | 0, p, acc => (p, some acc)
  | k + 1, p, acc => match wdO tx n p with
    | (q, none) => (q, none)
    | (q, some w) => if k = 0 then (q, some (acc ++ [w])) else if chrN tx n q = 44 then snF tx n k (q + 1) (acc ++ [w]) else (q, some (acc ++ [w]))
def snO (tx : Nat → Int32) (n p : Nat) : Nat × Option (List Nat × Nat) :=
  match snF tx n 12 p [] with
  | (q, none) => (q, none)
  | (q, some L) => if chrN tx n q = 35 then (match dgO tx n 1 9 (q + 1) with
    | some u => (q + 2, some (L, u))
    | none => (q + 1, none)) else (q, some (L, 1))
theorem snF_ok : ∀ (k p : Nat) (acc : List Nat) (q : Nat) (L : List Nat), 0 < k → acc.length + k = 12 → (∀ x, x ∈ acc → x < 30) → snF tx n k p acc = (q, some L) → p < q ∧ q ≤ n ∧ 1 ≤ L.length ∧ L.length ≤ 12 ∧ ∀ x, x ∈ L → x < 30 := by
  intro k
  induction k with
  | zero => intro p acc q L h0; omega
  | succ k ih =>
    intro p acc q L _ hk ha h
    rw [snF] at h
    cases hw : wdO tx n p with
    | mk q1 o =>
      rw [hw] at h
      cases o with
      | none => cases h
      | some w =>
        obtain ⟨h1, h2, h3⟩ := wd_some hw
        dsimp only at h
        have ha2 : ∀ x, x ∈ acc ++ [w] → x < 30 := fun x hx => by
          rcases List.mem_append.mp hx with hx | hx
          · exact ha x hx
          · rw [List.mem_singleton.mp hx]; exact h3
        by_cases e : k = 0
        · rw [if_pos e] at h
          cases h
          refine ⟨h1, h2, ?_, ?_, ha2⟩ <;> rw [List.length_append, List.length_singleton] <;> omega
        · rw [if_neg e] at h
          by_cases e2 : chrN tx n q1 = 44
          · rw [if_pos e2] at h
            obtain ⟨g1, g2, g3, g4, g5⟩ := ih (q1 + 1) (acc ++ [w]) q L (by omega) (by rw [List.length_append, List.length_singleton]; omega) ha2 h
            exact ⟨by omega, g2, g3, g4, g5⟩
          · rw [if_neg e2] at h
            cases h
            refine ⟨h1, h2, ?_, ?_, ha2⟩ <;> rw [List.length_append, List.length_singleton] <;> omega
theorem snF_no : ∀ (k p : Nat) (acc : List Nat) (q : Nat), snF tx n k p acc = (q, none) → p ≤ q ∧ q ≤ max p n := by
  intro k
  induction k with
  | zero => intro p acc q h; cases h
  | succ k ih =>
    intro p acc q h
    rw [snF] at h
    cases hw : wdO tx n p with
    | mk q1 o =>
      rw [hw] at h
      cases o with
      | none =>
        cases h
        have := (wd_none hw).1
        omega
      | some w =>
        obtain ⟨h1, h2, h3⟩ := wd_some hw
        dsimp only at h
        by_cases e : k = 0
        · rw [if_pos e] at h; cases h
        · rw [if_neg e] at h
          by_cases e2 : chrN tx n q1 = 44
          · rw [if_pos e2] at h
            have h5 := chr_lt (by omega) e2
            have := ih (q1 + 1) (acc ++ [w]) q h
            omega
          · rw [if_neg e2] at h; cases h
/-- the words of a sentence, this side -/
theorem snX_r (h : BR n cs tx) : ∀ (k p : Nat) (acc : List Nat) (su : Int32) (sw : Nat → Int32) (fu : Nat), acc.length + (k + 1) = 12 → p ≤ n → isR sw 0 acc → 14 ≤ fu + acc.length →
    (∀ q, snF tx n (k + 1) p acc = (q, none) → ∃ sl' sw', rX3_readSentence (nI n) cs fu 1 (nI 1) (nI (acc.length + 1)) (nI p) (nI acc.length) su sw = some (nI 0, nI q, sl', su, sw')) ∧
    (∀ q L, snF tx n (k + 1) p acc = (q, some L) → ∃ sw' fu', rX3_readSentence (nI n) cs fu 1 (nI 1) (nI (acc.length + 1)) (nI p) (nI acc.length) su sw = rX3_readSentence (nI n) cs (fu' + 1) 2 (nI 0) (nI 0) (nI q) (nI L.length) su sw' ∧ isR sw' 0 L) := by
  have h60 := h.1
  intro k
  induction k with
  | zero =>
    intro p acc su sw fu hk hp hr hf
    obtain ⟨fu, rfl⟩ : ∃ z, fu = z + 1 + 1 + 1 := ⟨fu - 3, by omega⟩
    rw [snF]
    cases hw : wdO tx n p with
    | mk q1 o =>
      cases o with
      | none =>
        refine ⟨fun q e => ?_, fun q L e => by cases e⟩
        cases e
        refine ⟨nI acc.length, sw, ?_⟩
        rw [sp_X3_readSentence_1]
        simp (disch := first | omega | assumption) only [↓z_m1, li_0, li_1, li_2, li_3, li_4, li_5, li_6, li_7, li_8, li_9, li_10, li_11, li_12, li_13, li_14, li_15, li_16, li_17, li_18, li_19, li_20, li_21, li_22, li_23, li_24, li_25, li_26, li_27, li_28, li_29, li_30, li_31, li_32, li_33, li_34, li_35, li_36, li_37, li_38, li_39, li_40, li_41, li_42, li_43, li_44, li_45, li_46, li_47, li_48, li_49, li_50, li_51, li_52, li_53, li_54, li_55, li_56, li_57, li_58, li_59, li_60, li_61, li_62, li_63, li_64, li_65, li_66, li_67, li_68, li_69, li_70, li_71, li_72, li_73, li_74, li_75, li_76, li_77, li_78, li_79, li_80, li_81, li_82, li_83, li_84, li_85, li_86, li_87, li_88, li_89, li_90, li_91, li_92, li_93, li_94, li_95, li_96, li_97, li_98, li_99, li_100, li_101, li_102, li_103, li_104, li_105, li_106, li_107, li_108, li_109, li_110, li_111, li_112, li_113, li_114, li_115, li_116, li_117, li_118, li_119, li_120, li_121, li_122, li_123, li_124, li_125, li_126, li_127, li_128, li_129, li_130, li_180, li_186, li_192, li_304, li_305, li_306, li_307, li_319, li_320, li_321, li_322, li_408, li_409, li_410, li_416, li_422, li_428, li_458, li_459, li_460, li_2300, li_2760, nI_add, z_m6, z_m12, z_m30, z_l10, z_l12, z_l14, z_l17, z_l30, z_l460, z_sub, z_dec, z_dec0, z_m11, z_cl, z_leT, z_leF, z_ltT, z_ltF, z_eqT, z_eqF, z_em, z_me, z_mlt, z_mle, z_ltm, z_lem, z_mltm, z_mlem, z_nleT, z_nleF, z_nltT, z_nltF, or_false, or_self, false_or, or_true, true_or, not_true_eq_false, not_false_eq_true, ↓reduceIte, lt, z_ob, Nat.zero_add, Nat.add_zero, bX3_readSentence_1, wdX_0 h (show p ≤ 100 by omega) hw]
      | some w =>
        dsimp only
        rw [if_pos rfl]
        refine ⟨fun q e => by (cases e), fun q L e => ?_⟩
        cases e
        refine ⟨upd sw acc.length (nI w), fu, ?_, isR_snoc (isR_congr (fun j _ h2 => pk_un (by omega)) hr) (by rw [Nat.zero_add]; exact pk_us)⟩
        rw [List.length_append, List.length_singleton]
        have hq := (wd_some hw).2
        rw [sp_X3_readSentence_1]
        simp (disch := first | omega | assumption) only [↓z_m1, li_0, li_1, li_2, li_3, li_4, li_5, li_6, li_7, li_8, li_9, li_10, li_11, li_12, li_13, li_14, li_15, li_16, li_17, li_18, li_19, li_20, li_21, li_22, li_23, li_24, li_25, li_26, li_27, li_28, li_29, li_30, li_31, li_32, li_33, li_34, li_35, li_36, li_37, li_38, li_39, li_40, li_41, li_42, li_43, li_44, li_45, li_46, li_47, li_48, li_49, li_50, li_51, li_52, li_53, li_54, li_55, li_56, li_57, li_58, li_59, li_60, li_61, li_62, li_63, li_64, li_65, li_66, li_67, li_68, li_69, li_70, li_71, li_72, li_73, li_74, li_75, li_76, li_77, li_78, li_79, li_80, li_81, li_82, li_83, li_84, li_85, li_86, li_87, li_88, li_89, li_90, li_91, li_92, li_93, li_94, li_95, li_96, li_97, li_98, li_99, li_100, li_101, li_102, li_103, li_104, li_105, li_106, li_107, li_108, li_109, li_110, li_111, li_112, li_113, li_114, li_115, li_116, li_117, li_118, li_119, li_120, li_121, li_122, li_123, li_124, li_125, li_126, li_127, li_128, li_129, li_130, li_180, li_186, li_192, li_304, li_305, li_306, li_307, li_319, li_320, li_321, li_322, li_408, li_409, li_410, li_416, li_422, li_428, li_458, li_459, li_460, li_2300, li_2760, nI_add, z_m6, z_m12, z_m30, z_l10, z_l12, z_l14, z_l17, z_l30, z_l460, z_sub, z_dec, z_dec0, z_m11, z_cl, z_leT, z_leF, z_ltT, z_ltF, z_eqT, z_eqF, z_em, z_me, z_mlt, z_mle, z_ltm, z_lem, z_mltm, z_mlem, z_nleT, z_nleF, z_nltT, z_nltF, or_false, or_self, false_or, or_true, true_or, not_true_eq_false, not_false_eq_true, ↓reduceIte, lt, z_ob, Nat.zero_add, Nat.add_zero, bX3_readSentence_1, wdX_1 h hw, fX4_addWord]
        rw [sp_X3_readSentence_1]
        simp (disch := first | omega | assumption) only [↓z_m1, li_0, li_1, li_2, li_3, li_4, li_5, li_6, li_7, li_8, li_9, li_10, li_11, li_12, li_13, li_14, li_15, li_16, li_17, li_18, li_19, li_20, li_21, li_22, li_23, li_24, li_25, li_26, li_27, li_28, li_29, li_30, li_31, li_32, li_33, li_34, li_35, li_36, li_37, li_38, li_39, li_40, li_41, li_42, li_43, li_44, li_45, li_46, li_47, li_48, li_49, li_50, li_51, li_52, li_53, li_54, li_55, li_56, li_57, li_58, li_59, li_60, li_61, li_62, li_63, li_64, li_65, li_66, li_67, li_68, li_69, li_70, li_71, li_72, li_73, li_74, li_75, li_76, li_77, li_78, li_79, li_80, li_81, li_82, li_83, li_84, li_85, li_86, li_87, li_88, li_89, li_90, li_91, li_92, li_93, li_94, li_95, li_96, li_97, li_98, li_99, li_100, li_101, li_102, li_103, li_104, li_105, li_106, li_107, li_108, li_109, li_110, li_111, li_112, li_113, li_114, li_115, li_116, li_117, li_118, li_119, li_120, li_121, li_122, li_123, li_124, li_125, li_126, li_127, li_128, li_129, li_130, li_180, li_186, li_192, li_304, li_305, li_306, li_307, li_319, li_320, li_321, li_322, li_408, li_409, li_410, li_416, li_422, li_428, li_458, li_459, li_460, li_2300, li_2760, nI_add, z_m6, z_m12, z_m30, z_l10, z_l12, z_l14, z_l17, z_l30, z_l460, z_sub, z_dec, z_dec0, z_m11, z_cl, z_leT, z_leF, z_ltT, z_ltF, z_eqT, z_eqF, z_em, z_me, z_mlt, z_mle, z_ltm, z_lem, z_mltm, z_mlem, z_nleT, z_nleF, z_nltT, z_nltF, or_false, or_self, false_or, or_true, true_or, not_true_eq_false, not_false_eq_true, ↓reduceIte, lt, z_ob, Nat.zero_add, Nat.add_zero, bX3_readSentence_1]
  | succ k ih =>
    intro p acc su sw fu hk hp hr hf
    obtain ⟨fu, rfl⟩ : ∃ z, fu = z + 1 + 1 + 1 := ⟨fu - 3, by omega⟩
    rw [snF]
    cases hw : wdO tx n p with
    | mk q1 o =>
      cases o with
      | none =>
        refine ⟨fun q e => ?_, fun q L e => by cases e⟩
        cases e
        refine ⟨nI acc.length, sw, ?_⟩
        rw [sp_X3_readSentence_1]
        simp (disch := first | omega | assumption) only [↓z_m1, li_0, li_1, li_2, li_3, li_4, li_5, li_6, li_7, li_8, li_9, li_10, li_11, li_12, li_13, li_14, li_15, li_16, li_17, li_18, li_19, li_20, li_21, li_22, li_23, li_24, li_25, li_26, li_27, li_28, li_29, li_30, li_31, li_32, li_33, li_34, li_35, li_36, li_37, li_38, li_39, li_40, li_41, li_42, li_43, li_44, li_45, li_46, li_47, li_48, li_49, li_50, li_51, li_52, li_53, li_54, li_55, li_56, li_57, li_58, li_59, li_60, li_61, li_62, li_63, li_64, li_65, li_66, li_67, li_68, li_69, li_70, li_71, li_72, li_73, li_74, li_75, li_76, li_77, li_78, li_79, li_80, li_81, li_82, li_83, li_84, li_85, li_86, li_87, li_88, li_89, li_90, li_91, li_92, li_93, li_94, li_95, li_96, li_97, li_98, li_99, li_100, li_101, li_102, li_103, li_104, li_105, li_106, li_107, li_108, li_109, li_110, li_111, li_112, li_113, li_114, li_115, li_116, li_117, li_118, li_119, li_120, li_121, li_122, li_123, li_124, li_125, li_126, li_127, li_128, li_129, li_130, li_180, li_186, li_192, li_304, li_305, li_306, li_307, li_319, li_320, li_321, li_322, li_408, li_409, li_410, li_416, li_422, li_428, li_458, li_459, li_460, li_2300, li_2760, nI_add, z_m6, z_m12, z_m30, z_l10, z_l12, z_l14, z_l17, z_l30, z_l460, z_sub, z_dec, z_dec0, z_m11, z_cl, z_leT, z_leF, z_ltT, z_ltF, z_eqT, z_eqF, z_em, z_me, z_mlt, z_mle, z_ltm, z_lem, z_mltm, z_mlem, z_nleT, z_nleF, z_nltT, z_nltF, or_false, or_self, false_or, or_true, true_or, not_true_eq_false, not_false_eq_true, ↓reduceIte, lt, z_ob, Nat.zero_add, Nat.add_zero, bX3_readSentence_1, wdX_0 h (show p ≤ 100 by omega) hw]
      | some w =>
        dsimp only
        rw [if_neg (by omega)]
        have hq := (wd_some hw).2
        have hr2 : isR (upd sw acc.length (nI w)) 0 (acc ++ [w]) := isR_snoc (isR_congr (fun j _ h2 => pk_un (by omega)) hr) (by rw [Nat.zero_add]; exact pk_us)
        by_cases e2 : chrN tx n q1 = 44
        · rw [if_pos e2]
          have hq2 := chr_lt (by omega) e2
          obtain ⟨i1, i2⟩ := ih (q1 + 1) (acc ++ [w]) su (upd sw acc.length (nI w)) (fu + 1 + 1) (by rw [List.length_append, List.length_singleton]; omega) (by omega) hr2 (by rw [List.length_append, List.length_singleton]; omega)
          rw [List.length_append, List.length_singleton] at i1 i2
          have st : rX3_readSentence (nI n) cs (fu + 1 + 1 + 1) 1 (nI 1) (nI (acc.length + 1)) (nI p) (nI acc.length) su sw = rX3_readSentence (nI n) cs (fu + 1 + 1) 1 (nI 1) (nI (acc.length + 1 + 1)) (nI (q1 + 1)) (nI (acc.length + 1)) su (upd sw acc.length (nI w)) := by
            rw [sp_X3_readSentence_1]
            simp (disch := first | omega | assumption) only [↓z_m1, li_0, li_1, li_2, li_3, li_4, li_5, li_6, li_7, li_8, li_9, li_10, li_11, li_12, li_13, li_14, li_15, li_16, li_17, li_18, li_19, li_20, li_21, li_22, li_23, li_24, li_25, li_26, li_27, li_28, li_29, li_30, li_31, li_32, li_33, li_34, li_35, li_36, li_37, li_38, li_39, li_40, li_41, li_42, li_43, li_44, li_45, li_46, li_47, li_48, li_49, li_50, li_51, li_52, li_53, li_54, li_55, li_56, li_57, li_58, li_59, li_60, li_61, li_62, li_63, li_64, li_65, li_66, li_67, li_68, li_69, li_70, li_71, li_72, li_73, li_74, li_75, li_76, li_77, li_78, li_79, li_80, li_81, li_82, li_83, li_84, li_85, li_86, li_87, li_88, li_89, li_90, li_91, li_92, li_93, li_94, li_95, li_96, li_97, li_98, li_99, li_100, li_101, li_102, li_103, li_104, li_105, li_106, li_107, li_108, li_109, li_110, li_111, li_112, li_113, li_114, li_115, li_116, li_117, li_118, li_119, li_120, li_121, li_122, li_123, li_124, li_125, li_126, li_127, li_128, li_129, li_130, li_180, li_186, li_192, li_304, li_305, li_306, li_307, li_319, li_320, li_321, li_322, li_408, li_409, li_410, li_416, li_422, li_428, li_458, li_459, li_460, li_2300, li_2760, nI_add, z_m6, z_m12, z_m30, z_l10, z_l12, z_l14, z_l17, z_l30, z_l460, z_sub, z_dec, z_dec0, z_m11, z_cl, z_leT, z_leF, z_ltT, z_ltF, z_eqT, z_eqF, z_em, z_me, z_mlt, z_mle, z_ltm, z_lem, z_mltm, z_mlem, z_nleT, z_nleF, z_nltT, z_nltF, or_false, or_self, false_or, or_true, true_or, not_true_eq_false, not_false_eq_true, ↓reduceIte, lt, z_ob, Nat.zero_add, Nat.add_zero, bX3_readSentence_1, wdX_1 h hw, fX4_addWord, take_1 h (show q1 ≤ 100 by omega) (show 0 < 44 by omega) (show 44 ≤ 126 by omega) e2]
          refine ⟨fun q e => ?_, fun q L e => ?_⟩
          · obtain ⟨sl', sw', g⟩ := i1 q e
            exact ⟨sl', sw', st.trans g⟩
          · obtain ⟨sw', fu', g1, g2⟩ := i2 q L e
            exact ⟨sw', fu', st.trans g1, g2⟩
        · rw [if_neg e2]
          refine ⟨fun q e => by (cases e), fun q L e => ?_⟩
          cases e
          refine ⟨upd sw acc.length (nI w), fu, ?_, hr2⟩
          rw [List.length_append, List.length_singleton]
          rw [sp_X3_readSentence_1]
          simp (disch := first | omega | assumption) only [↓z_m1, li_0, li_1, li_2, li_3, li_4, li_5, li_6, li_7, li_8, li_9, li_10, li_11, li_12, li_13, li_14, li_15, li_16, li_17, li_18, li_19, li_20, li_21, li_22, li_23, li_24, li_25, li_26, li_27, li_28, li_29, li_30, li_31, li_32, li_33, li_34, li_35, li_36, li_37, li_38, li_39, li_40, li_41, li_42, li_43, li_44, li_45, li_46, li_47, li_48, li_49, li_50, li_51, li_52, li_53, li_54, li_55, li_56, li_57, li_58, li_59, li_60, li_61, li_62, li_63, li_64, li_65, li_66, li_67, li_68, li_69, li_70, li_71, li_72, li_73, li_74, li_75, li_76, li_77, li_78, li_79, li_80, li_81, li_82, li_83, li_84, li_85, li_86, li_87, li_88, li_89, li_90, li_91, li_92, li_93, li_94, li_95, li_96, li_97, li_98, li_99, li_100, li_101, li_102, li_103, li_104, li_105, li_106, li_107, li_108, li_109, li_110, li_111, li_112, li_113, li_114, li_115, li_116, li_117, li_118, li_119, li_120, li_121, li_122, li_123, li_124, li_125, li_126, li_127, li_128, li_129, li_130, li_180, li_186, li_192, li_304, li_305, li_306, li_307, li_319, li_320, li_321, li_322, li_408, li_409, li_410, li_416, li_422, li_428, li_458, li_459, li_460, li_2300, li_2760, nI_add, z_m6, z_m12, z_m30, z_l10, z_l12, z_l14, z_l17, z_l30, z_l460, z_sub, z_dec, z_dec0, z_m11, z_cl, z_leT, z_leF, z_ltT, z_ltF, z_eqT, z_eqF, z_em, z_me, z_mlt, z_mle, z_ltm, z_lem, z_mltm, z_mlem, z_nleT, z_nleF, z_nltT, z_nltF, or_false, or_self, false_or, or_true, true_or, not_true_eq_false, not_false_eq_true, ↓reduceIte, lt, z_ob, Nat.zero_add, Nat.add_zero, bX3_readSentence_1, wdX_1 h hw, fX4_addWord, take_0 h (show q1 ≤ 100 by omega) (show 0 < 44 by omega) (show 44 ≤ 126 by omega) e2]
          rw [sp_X3_readSentence_1]
          simp (disch := first | omega | assumption) only [↓z_m1, li_0, li_1, li_2, li_3, li_4, li_5, li_6, li_7, li_8, li_9, li_10, li_11, li_12, li_13, li_14, li_15, li_16, li_17, li_18, li_19, li_20, li_21, li_22, li_23, li_24, li_25, li_26, li_27, li_28, li_29, li_30, li_31, li_32, li_33, li_34, li_35, li_36, li_37, li_38, li_39, li_40, li_41, li_42, li_43, li_44, li_45, li_46, li_47, li_48, li_49, li_50, li_51, li_52, li_53, li_54, li_55, li_56, li_57, li_58, li_59, li_60, li_61, li_62, li_63, li_64, li_65, li_66, li_67, li_68, li_69, li_70, li_71, li_72, li_73, li_74, li_75, li_76, li_77, li_78, li_79, li_80, li_81, li_82, li_83, li_84, li_85, li_86, li_87, li_88, li_89, li_90, li_91, li_92, li_93, li_94, li_95, li_96, li_97, li_98, li_99, li_100, li_101, li_102, li_103, li_104, li_105, li_106, li_107, li_108, li_109, li_110, li_111, li_112, li_113, li_114, li_115, li_116, li_117, li_118, li_119, li_120, li_121, li_122, li_123, li_124, li_125, li_126, li_127, li_128, li_129, li_130, li_180, li_186, li_192, li_304, li_305, li_306, li_307, li_319, li_320, li_321, li_322, li_408, li_409, li_410, li_416, li_422, li_428, li_458, li_459, li_460, li_2300, li_2760, nI_add, z_m6, z_m12, z_m30, z_l10, z_l12, z_l14, z_l17, z_l30, z_l460, z_sub, z_dec, z_dec0, z_m11, z_cl, z_leT, z_leF, z_ltT, z_ltF, z_eqT, z_eqF, z_em, z_me, z_mlt, z_mle, z_ltm, z_lem, z_mltm, z_mlem, z_nleT, z_nleF, z_nltT, z_nltF, or_false, or_self, false_or, or_true, true_or, not_true_eq_false, not_false_eq_true, ↓reduceIte, lt, z_ob, Nat.zero_add, Nat.add_zero, bX3_readSentence_1]
theorem snX (h : BR n cs tx) {p : Nat} (hp : p ≤ n) (sl su : Int32) (sw : Nat → Int32) :
    (∀ q, snO tx n p = (q, none) → ∃ sl' su' sw', fX3_readSentence (nI n) (nI p) cs sl su sw = some (nI 0, nI q, sl', su', sw')) ∧
    (∀ q L u, snO tx n p = (q, some (L, u)) → ∃ sw', fX3_readSentence (nI n) (nI p) cs sl su sw = some (nI 1, nI q, nI L.length, nI u, sw') ∧ isR sw' 0 L) := by
  have h60 := h.1
  obtain ⟨i1, i2⟩ := snX_r h 11 p [] (nI 1) sw fuelN (by rfl) hp trivial (by show _ ≤ 1000000 + _; omega)
  have st : ∀ r, rX3_readSentence (nI n) cs fuelN 1 (nI 1) (nI (([] : List Nat).length + 1)) (nI p) (nI ([] : List Nat).length) (nI 1) sw = r → fX3_readSentence (nI n) (nI p) cs sl su sw = r := fun r hr => hr
  unfold snO
  rw [show (11 : Nat) + 1 = 12 from rfl] at i1 i2
  cases hs : snF tx n 12 p [] with
  | mk q1 o =>
    cases o with
    | none =>
      refine ⟨fun q e => ?_, fun q L u e => by (cases e)⟩
      cases e
      obtain ⟨sl', sw', g⟩ := i1 _ hs
      exact ⟨sl', nI 1, sw', st _ g⟩
    | some L1 =>
      dsimp only
      obtain ⟨sw', fu', g1, g2⟩ := i2 _ _ hs
      obtain ⟨b1, b2, b3, b4, b5⟩ := snF_ok 12 p [] q1 L1 (by omega) rfl (fun x hx => absurd hx List.not_mem_nil) hs
      by_cases e2 : chrN tx n q1 = 35
      · rw [if_pos e2]
        have hq2 := chr_lt (by omega) e2
        cases hd : dgO tx n 1 9 (q1 + 1) with
        | none =>
          refine ⟨fun q e => ?_, fun q L u e => by (cases e)⟩
          cases e
          refine ⟨nI L1.length, mI, sw', st _ (g1.trans ?_)⟩
          simp (disch := first | omega | assumption) only [↓z_m1, li_0, li_1, li_2, li_3, li_4, li_5, li_6, li_7, li_8, li_9, li_10, li_11, li_12, li_13, li_14, li_15, li_16, li_17, li_18, li_19, li_20, li_21, li_22, li_23, li_24, li_25, li_26, li_27, li_28, li_29, li_30, li_31, li_32, li_33, li_34, li_35, li_36, li_37, li_38, li_39, li_40, li_41, li_42, li_43, li_44, li_45, li_46, li_47, li_48, li_49, li_50, li_51, li_52, li_53, li_54, li_55, li_56, li_57, li_58, li_59, li_60, li_61, li_62, li_63, li_64, li_65, li_66, li_67, li_68, li_69, li_70, li_71, li_72, li_73, li_74, li_75, li_76, li_77, li_78, li_79, li_80, li_81, li_82, li_83, li_84, li_85, li_86, li_87, li_88, li_89, li_90, li_91, li_92, li_93, li_94, li_95, li_96, li_97, li_98, li_99, li_100, li_101, li_102, li_103, li_104, li_105, li_106, li_107, li_108, li_109, li_110, li_111, li_112, li_113, li_114, li_115, li_116, li_117, li_118, li_119, li_120, li_121, li_122, li_123, li_124, li_125, li_126, li_127, li_128, li_129, li_130, li_180, li_186, li_192, li_304, li_305, li_306, li_307, li_319, li_320, li_321, li_322, li_408, li_409, li_410, li_416, li_422, li_428, li_458, li_459, li_460, li_2300, li_2760, nI_add, z_m6, z_m12, z_m30, z_l10, z_l12, z_l14, z_l17, z_l30, z_l460, z_sub, z_dec, z_dec0, z_m11, z_cl, z_leT, z_leF, z_ltT, z_ltF, z_eqT, z_eqF, z_em, z_me, z_mlt, z_mle, z_ltm, z_lem, z_mltm, z_mlem, z_nleT, z_nleF, z_nltT, z_nltF, or_false, or_self, false_or, or_true, true_or, not_true_eq_false, not_false_eq_true, ↓reduceIte, lt, z_ob, Nat.zero_add, Nat.add_zero, sp_X3_readSentence_2, bX3_readSentence_2, take_1 h (show q1 ≤ 100 by omega) (show 0 < 35 by omega) (show 35 ≤ 126 by omega) e2, digX_0 h (show q1 + 1 ≤ 100 by omega) (show 1 ≤ 9 by omega) (show 9 ≤ 9 by omega) hd]
        | some v =>
          refine ⟨fun q e => by (cases e), fun q L u e => ?_⟩
          cases e
          have hv := dg_some hd
          refine ⟨sw', st _ (g1.trans ?_), g2⟩
          simp (disch := first | omega | assumption) only [↓z_m1, li_0, li_1, li_2, li_3, li_4, li_5, li_6, li_7, li_8, li_9, li_10, li_11, li_12, li_13, li_14, li_15, li_16, li_17, li_18, li_19, li_20, li_21, li_22, li_23, li_24, li_25, li_26, li_27, li_28, li_29, li_30, li_31, li_32, li_33, li_34, li_35, li_36, li_37, li_38, li_39, li_40, li_41, li_42, li_43, li_44, li_45, li_46, li_47, li_48, li_49, li_50, li_51, li_52, li_53, li_54, li_55, li_56, li_57, li_58, li_59, li_60, li_61, li_62, li_63, li_64, li_65, li_66, li_67, li_68, li_69, li_70, li_71, li_72, li_73, li_74, li_75, li_76, li_77, li_78, li_79, li_80, li_81, li_82, li_83, li_84, li_85, li_86, li_87, li_88, li_89, li_90, li_91, li_92, li_93, li_94, li_95, li_96, li_97, li_98, li_99, li_100, li_101, li_102, li_103, li_104, li_105, li_106, li_107, li_108, li_109, li_110, li_111, li_112, li_113, li_114, li_115, li_116, li_117, li_118, li_119, li_120, li_121, li_122, li_123, li_124, li_125, li_126, li_127, li_128, li_129, li_130, li_180, li_186, li_192, li_304, li_305, li_306, li_307, li_319, li_320, li_321, li_322, li_408, li_409, li_410, li_416, li_422, li_428, li_458, li_459, li_460, li_2300, li_2760, nI_add, z_m6, z_m12, z_m30, z_l10, z_l12, z_l14, z_l17, z_l30, z_l460, z_sub, z_dec, z_dec0, z_m11, z_cl, z_leT, z_leF, z_ltT, z_ltF, z_eqT, z_eqF, z_em, z_me, z_mlt, z_mle, z_ltm, z_lem, z_mltm, z_mlem, z_nleT, z_nleF, z_nltT, z_nltF, or_false, or_self, false_or, or_true, true_or, not_true_eq_false, not_false_eq_true, ↓reduceIte, lt, z_ob, Nat.zero_add, Nat.add_zero, sp_X3_readSentence_2, bX3_readSentence_2, take_1 h (show q1 ≤ 100 by omega) (show 0 < 35 by omega) (show 35 ≤ 126 by omega) e2, digX_1 h (show 1 ≤ 9 by omega) (show 9 ≤ 9 by omega) hd]
      · rw [if_neg e2]
        refine ⟨fun q e => by (cases e), fun q L u e => ?_⟩
        cases e
        refine ⟨sw', st _ (g1.trans ?_), g2⟩
        simp (disch := first | omega | assumption) only [↓z_m1, li_0, li_1, li_2, li_3, li_4, li_5, li_6, li_7, li_8, li_9, li_10, li_11, li_12, li_13, li_14, li_15, li_16, li_17, li_18, li_19, li_20, li_21, li_22, li_23, li_24, li_25, li_26, li_27, li_28, li_29, li_30, li_31, li_32, li_33, li_34, li_35, li_36, li_37, li_38, li_39, li_40, li_41, li_42, li_43, li_44, li_45, li_46, li_47, li_48, li_49, li_50, li_51, li_52, li_53, li_54, li_55, li_56, li_57, li_58, li_59, li_60, li_61, li_62, li_63, li_64, li_65, li_66, li_67, li_68, li_69, li_70, li_71, li_72, li_73, li_74, li_75, li_76, li_77, li_78, li_79, li_80, li_81, li_82, li_83, li_84, li_85, li_86, li_87, li_88, li_89, li_90, li_91, li_92, li_93, li_94, li_95, li_96, li_97, li_98, li_99, li_100, li_101, li_102, li_103, li_104, li_105, li_106, li_107, li_108, li_109, li_110, li_111, li_112, li_113, li_114, li_115, li_116, li_117, li_118, li_119, li_120, li_121, li_122, li_123, li_124, li_125, li_126, li_127, li_128, li_129, li_130, li_180, li_186, li_192, li_304, li_305, li_306, li_307, li_319, li_320, li_321, li_322, li_408, li_409, li_410, li_416, li_422, li_428, li_458, li_459, li_460, li_2300, li_2760, nI_add, z_m6, z_m12, z_m30, z_l10, z_l12, z_l14, z_l17, z_l30, z_l460, z_sub, z_dec, z_dec0, z_m11, z_cl, z_leT, z_leF, z_ltT, z_ltF, z_eqT, z_eqF, z_em, z_me, z_mlt, z_mle, z_ltm, z_lem, z_mltm, z_mlem, z_nleT, z_nleF, z_nltT, z_nltF, or_false, or_self, false_or, or_true, true_or, not_true_eq_false, not_false_eq_true, ↓reduceIte, lt, z_ob, Nat.zero_add, Nat.add_zero, sp_X3_readSentence_2, bX3_readSentence_2, take_0 h (show q1 ≤ 100 by omega) (show 0 < 35 by omega) (show 35 ≤ 126 by omega) e2]
/-- the words of a sentence, the model -/
theorem snM_r (h : BR n cs tx) : ∀ (k p : Nat) (acc : List Nat) (fi : Int32) (wo : Nat → Int32) (z1 : Int32) (fu : Nat), acc.length + (k + 1) = 12 → p ≤ n → isR wo 0 acc → 60 ≤ fu + 4 * acc.length →
    (∀ q, snF tx n (k + 1) p acc = (q, none) → ∃ ma' wo', rX9_says (nI n) tx fu 1 (nI 1) z1 (nI 0) (nI 0) (nI p) (nI 0) fi (nI acc.length) wo = some (nI q, nI 1, nI 1, ma', wo')) ∧
    (∀ q L, snF tx n (k + 1) p acc = (q, some L) → ∃ wo' z2 fu', rX9_says (nI n) tx fu 1 (nI 1) z1 (nI 0) (nI 0) (nI p) (nI 0) fi (nI acc.length) wo = rX9_says (nI n) tx (fu' + 1) 1 (nI 0) z2 (nI 0) (nI 0) (nI q) (nI 0) fi (nI L.length) wo' ∧ isR wo' 0 L) := by
  have h60 := h.1
  intro k
  induction k with
  | zero =>
    intro p acc fi wo z1 fu hk hp hr hf
    obtain ⟨fu, rfl⟩ : ∃ z, fu = z + 1 + 1 + 1 + 1 + 1 := ⟨fu - 5, by omega⟩
    rw [snF]
    cases hw : wdO tx n p with
    | mk q1 o =>
      cases o with
      | none =>
        refine ⟨fun q e => ?_, fun q L e => by cases e⟩
        cases e
        obtain ⟨v, hv⟩ := wdM_0 h (show p ≤ 100 by omega) hw
        refine ⟨nI acc.length, wo, ?_⟩
        simp (disch := first | omega | assumption) only [↓z_m1, li_0, li_1, li_2, li_3, li_4, li_5, li_6, li_7, li_8, li_9, li_10, li_11, li_12, li_13, li_14, li_15, li_16, li_17, li_18, li_19, li_20, li_21, li_22, li_23, li_24, li_25, li_26, li_27, li_28, li_29, li_30, li_31, li_32, li_33, li_34, li_35, li_36, li_37, li_38, li_39, li_40, li_41, li_42, li_43, li_44, li_45, li_46, li_47, li_48, li_49, li_50, li_51, li_52, li_53, li_54, li_55, li_56, li_57, li_58, li_59, li_60, li_61, li_62, li_63, li_64, li_65, li_66, li_67, li_68, li_69, li_70, li_71, li_72, li_73, li_74, li_75, li_76, li_77, li_78, li_79, li_80, li_81, li_82, li_83, li_84, li_85, li_86, li_87, li_88, li_89, li_90, li_91, li_92, li_93, li_94, li_95, li_96, li_97, li_98, li_99, li_100, li_101, li_102, li_103, li_104, li_105, li_106, li_107, li_108, li_109, li_110, li_111, li_112, li_113, li_114, li_115, li_116, li_117, li_118, li_119, li_120, li_121, li_122, li_123, li_124, li_125, li_126, li_127, li_128, li_129, li_130, li_180, li_186, li_192, li_304, li_305, li_306, li_307, li_319, li_320, li_321, li_322, li_408, li_409, li_410, li_416, li_422, li_428, li_458, li_459, li_460, li_2300, li_2760, nI_add, z_m6, z_m12, z_m30, z_l10, z_l12, z_l14, z_l17, z_l30, z_l460, z_sub, z_dec, z_dec0, z_m11, z_cl, z_leT, z_leF, z_ltT, z_ltF, z_eqT, z_eqF, z_em, z_me, z_mlt, z_mle, z_ltm, z_lem, z_mltm, z_mlem, z_nleT, z_nleF, z_nltT, z_nltF, or_false, or_self, false_or, or_true, true_or, not_true_eq_false, not_false_eq_true, ↓reduceIte, lt, z_ob, Nat.zero_add, Nat.add_zero, sp_X9_says_1, bX9_says_1, hv, sp_X9_says_2, bX9_says_2]
      | some w =>
        dsimp only
        rw [if_pos rfl]
        refine ⟨fun q e => by (cases e), fun q L e => ?_⟩
        cases e
        have hq := (wd_some hw).2
        have hle := chr_le h q1
        refine ⟨upd wo acc.length (nI w), nI 0, fu, ?_, isR_snoc (isR_congr (fun j _ h2 => pk_un (by omega)) hr) (by rw [Nat.zero_add]; exact pk_us)⟩
        rw [List.length_append, List.length_singleton]
        by_cases e2 : chrN tx n q1 = 44
        · simp (disch := first | omega | assumption) only [↓z_m1, li_0, li_1, li_2, li_3, li_4, li_5, li_6, li_7, li_8, li_9, li_10, li_11, li_12, li_13, li_14, li_15, li_16, li_17, li_18, li_19, li_20, li_21, li_22, li_23, li_24, li_25, li_26, li_27, li_28, li_29, li_30, li_31, li_32, li_33, li_34, li_35, li_36, li_37, li_38, li_39, li_40, li_41, li_42, li_43, li_44, li_45, li_46, li_47, li_48, li_49, li_50, li_51, li_52, li_53, li_54, li_55, li_56, li_57, li_58, li_59, li_60, li_61, li_62, li_63, li_64, li_65, li_66, li_67, li_68, li_69, li_70, li_71, li_72, li_73, li_74, li_75, li_76, li_77, li_78, li_79, li_80, li_81, li_82, li_83, li_84, li_85, li_86, li_87, li_88, li_89, li_90, li_91, li_92, li_93, li_94, li_95, li_96, li_97, li_98, li_99, li_100, li_101, li_102, li_103, li_104, li_105, li_106, li_107, li_108, li_109, li_110, li_111, li_112, li_113, li_114, li_115, li_116, li_117, li_118, li_119, li_120, li_121, li_122, li_123, li_124, li_125, li_126, li_127, li_128, li_129, li_130, li_180, li_186, li_192, li_304, li_305, li_306, li_307, li_319, li_320, li_321, li_322, li_408, li_409, li_410, li_416, li_422, li_428, li_458, li_459, li_460, li_2300, li_2760, nI_add, z_m6, z_m12, z_m30, z_l10, z_l12, z_l14, z_l17, z_l30, z_l460, z_sub, z_dec, z_dec0, z_m11, z_cl, z_leT, z_leF, z_ltT, z_ltF, z_eqT, z_eqF, z_em, z_me, z_mlt, z_mle, z_ltm, z_lem, z_mltm, z_mlem, z_nleT, z_nleF, z_nltT, z_nltF, or_false, or_self, false_or, or_true, true_or, not_true_eq_false, not_false_eq_true, ↓reduceIte, lt, z_ob, Nat.zero_add, Nat.add_zero, sp_X9_says_1, bX9_says_1, wdM_1 h hw, sp_X9_says_2, bX9_says_2, next_M h (show q1 ≤ 100 by omega), e2, sp_X9_says_3, bX9_says_3, sp_X9_says_4, bX9_says_4]
        · simp (disch := first | omega | assumption) only [↓z_m1, li_0, li_1, li_2, li_3, li_4, li_5, li_6, li_7, li_8, li_9, li_10, li_11, li_12, li_13, li_14, li_15, li_16, li_17, li_18, li_19, li_20, li_21, li_22, li_23, li_24, li_25, li_26, li_27, li_28, li_29, li_30, li_31, li_32, li_33, li_34, li_35, li_36, li_37, li_38, li_39, li_40, li_41, li_42, li_43, li_44, li_45, li_46, li_47, li_48, li_49, li_50, li_51, li_52, li_53, li_54, li_55, li_56, li_57, li_58, li_59, li_60, li_61, li_62, li_63, li_64, li_65, li_66, li_67, li_68, li_69, li_70, li_71, li_72, li_73, li_74, li_75, li_76, li_77, li_78, li_79, li_80, li_81, li_82, li_83, li_84, li_85, li_86, li_87, li_88, li_89, li_90, li_91, li_92, li_93, li_94, li_95, li_96, li_97, li_98, li_99, li_100, li_101, li_102, li_103, li_104, li_105, li_106, li_107, li_108, li_109, li_110, li_111, li_112, li_113, li_114, li_115, li_116, li_117, li_118, li_119, li_120, li_121, li_122, li_123, li_124, li_125, li_126, li_127, li_128, li_129, li_130, li_180, li_186, li_192, li_304, li_305, li_306, li_307, li_319, li_320, li_321, li_322, li_408, li_409, li_410, li_416, li_422, li_428, li_458, li_459, li_460, li_2300, li_2760, nI_add, z_m6, z_m12, z_m30, z_l10, z_l12, z_l14, z_l17, z_l30, z_l460, z_sub, z_dec, z_dec0, z_m11, z_cl, z_leT, z_leF, z_ltT, z_ltF, z_eqT, z_eqF, z_em, z_me, z_mlt, z_mle, z_ltm, z_lem, z_mltm, z_mlem, z_nleT, z_nleF, z_nltT, z_nltF, or_false, or_self, false_or, or_true, true_or, not_true_eq_false, not_false_eq_true, ↓reduceIte, lt, z_ob, Nat.zero_add, Nat.add_zero, sp_X9_says_1, bX9_says_1, wdM_1 h hw, sp_X9_says_2, bX9_says_2, next_M h (show q1 ≤ 100 by omega), sp_X9_says_3, bX9_says_3, sp_X9_says_4, bX9_says_4]
  | succ k ih =>
    intro p acc fi wo z1 fu hk hp hr hf
    obtain ⟨fu, rfl⟩ : ∃ z, fu = z + 1 + 1 + 1 + 1 + 1 := ⟨fu - 5, by omega⟩
    rw [snF]
    cases hw : wdO tx n p with
    | mk q1 o =>
      cases o with
      | none =>
        refine ⟨fun q e => ?_, fun q L e => by cases e⟩
        cases e
        obtain ⟨v, hv⟩ := wdM_0 h (show p ≤ 100 by omega) hw
        refine ⟨nI acc.length, wo, ?_⟩
        simp (disch := first | omega | assumption) only [↓z_m1, li_0, li_1, li_2, li_3, li_4, li_5, li_6, li_7, li_8, li_9, li_10, li_11, li_12, li_13, li_14, li_15, li_16, li_17, li_18, li_19, li_20, li_21, li_22, li_23, li_24, li_25, li_26, li_27, li_28, li_29, li_30, li_31, li_32, li_33, li_34, li_35, li_36, li_37, li_38, li_39, li_40, li_41, li_42, li_43, li_44, li_45, li_46, li_47, li_48, li_49, li_50, li_51, li_52, li_53, li_54, li_55, li_56, li_57, li_58, li_59, li_60, li_61, li_62, li_63, li_64, li_65, li_66, li_67, li_68, li_69, li_70, li_71, li_72, li_73, li_74, li_75, li_76, li_77, li_78, li_79, li_80, li_81, li_82, li_83, li_84, li_85, li_86, li_87, li_88, li_89, li_90, li_91, li_92, li_93, li_94, li_95, li_96, li_97, li_98, li_99, li_100, li_101, li_102, li_103, li_104, li_105, li_106, li_107, li_108, li_109, li_110, li_111, li_112, li_113, li_114, li_115, li_116, li_117, li_118, li_119, li_120, li_121, li_122, li_123, li_124, li_125, li_126, li_127, li_128, li_129, li_130, li_180, li_186, li_192, li_304, li_305, li_306, li_307, li_319, li_320, li_321, li_322, li_408, li_409, li_410, li_416, li_422, li_428, li_458, li_459, li_460, li_2300, li_2760, nI_add, z_m6, z_m12, z_m30, z_l10, z_l12, z_l14, z_l17, z_l30, z_l460, z_sub, z_dec, z_dec0, z_m11, z_cl, z_leT, z_leF, z_ltT, z_ltF, z_eqT, z_eqF, z_em, z_me, z_mlt, z_mle, z_ltm, z_lem, z_mltm, z_mlem, z_nleT, z_nleF, z_nltT, z_nltF, or_false, or_self, false_or, or_true, true_or, not_true_eq_false, not_false_eq_true, ↓reduceIte, lt, z_ob, Nat.zero_add, Nat.add_zero, sp_X9_says_1, bX9_says_1, hv, sp_X9_says_2, bX9_says_2]
      | some w =>
        dsimp only
        rw [if_neg (by omega)]
        have hq := (wd_some hw).2
        have hle := chr_le h q1
        have hr2 : isR (upd wo acc.length (nI w)) 0 (acc ++ [w]) := isR_snoc (isR_congr (fun j _ h2 => pk_un (by omega)) hr) (by rw [Nat.zero_add]; exact pk_us)
        by_cases e2 : chrN tx n q1 = 44
        · rw [if_pos e2]
          have hq2 := chr_lt (by omega) e2
          obtain ⟨i1, i2⟩ := ih (q1 + 1) (acc ++ [w]) fi (upd wo acc.length (nI w)) (nI 0) (fu + 1) (by rw [List.length_append, List.length_singleton]; omega) (by omega) hr2 (by rw [List.length_append, List.length_singleton]; omega)
          rw [List.length_append, List.length_singleton] at i1 i2
          have st : rX9_says (nI n) tx (fu + 1 + 1 + 1 + 1 + 1) 1 (nI 1) z1 (nI 0) (nI 0) (nI p) (nI 0) fi (nI acc.length) wo = rX9_says (nI n) tx (fu + 1) 1 (nI 1) (nI 0) (nI 0) (nI 0) (nI (q1 + 1)) (nI 0) fi (nI (acc.length + 1)) (upd wo acc.length (nI w)) := by
            simp (disch := first | omega | assumption) only [↓z_m1, li_0, li_1, li_2, li_3, li_4, li_5, li_6, li_7, li_8, li_9, li_10, li_11, li_12, li_13, li_14, li_15, li_16, li_17, li_18, li_19, li_20, li_21, li_22, li_23, li_24, li_25, li_26, li_27, li_28, li_29, li_30, li_31, li_32, li_33, li_34, li_35, li_36, li_37, li_38, li_39, li_40, li_41, li_42, li_43, li_44, li_45, li_46, li_47, li_48, li_49, li_50, li_51, li_52, li_53, li_54, li_55, li_56, li_57, li_58, li_59, li_60, li_61, li_62, li_63, li_64, li_65, li_66, li_67, li_68, li_69, li_70, li_71, li_72, li_73, li_74, li_75, li_76, li_77, li_78, li_79, li_80, li_81, li_82, li_83, li_84, li_85, li_86, li_87, li_88, li_89, li_90, li_91, li_92, li_93, li_94, li_95, li_96, li_97, li_98, li_99, li_100, li_101, li_102, li_103, li_104, li_105, li_106, li_107, li_108, li_109, li_110, li_111, li_112, li_113, li_114, li_115, li_116, li_117, li_118, li_119, li_120, li_121, li_122, li_123, li_124, li_125, li_126, li_127, li_128, li_129, li_130, li_180, li_186, li_192, li_304, li_305, li_306, li_307, li_319, li_320, li_321, li_322, li_408, li_409, li_410, li_416, li_422, li_428, li_458, li_459, li_460, li_2300, li_2760, nI_add, z_m6, z_m12, z_m30, z_l10, z_l12, z_l14, z_l17, z_l30, z_l460, z_sub, z_dec, z_dec0, z_m11, z_cl, z_leT, z_leF, z_ltT, z_ltF, z_eqT, z_eqF, z_em, z_me, z_mlt, z_mle, z_ltm, z_lem, z_mltm, z_mlem, z_nleT, z_nleF, z_nltT, z_nltF, or_false, or_self, false_or, or_true, true_or, not_true_eq_false, not_false_eq_true, ↓reduceIte, lt, z_ob, Nat.zero_add, Nat.add_zero, sp_X9_says_1, bX9_says_1, wdM_1 h hw, sp_X9_says_2, bX9_says_2, next_M h (show q1 ≤ 100 by omega), e2, sp_X9_says_3, bX9_says_3, sp_X9_says_4, bX9_says_4]
          refine ⟨fun q e => ?_, fun q L e => ?_⟩
          · obtain ⟨ma', wo', g⟩ := i1 q e
            exact ⟨ma', wo', st.trans g⟩
          · obtain ⟨wo', z2, fu', g1, g2⟩ := i2 q L e
            exact ⟨wo', z2, fu', st.trans g1, g2⟩
        · rw [if_neg e2]
          refine ⟨fun q e => by (cases e), fun q L e => ?_⟩
          cases e
          refine ⟨upd wo acc.length (nI w), nI 0, fu, ?_, hr2⟩
          rw [List.length_append, List.length_singleton]
          simp (disch := first | omega | assumption) only [↓z_m1, li_0, li_1, li_2, li_3, li_4, li_5, li_6, li_7, li_8, li_9, li_10, li_11, li_12, li_13, li_14, li_15, li_16, li_17, li_18, li_19, li_20, li_21, li_22, li_23, li_24, li_25, li_26, li_27, li_28, li_29, li_30, li_31, li_32, li_33, li_34, li_35, li_36, li_37, li_38, li_39, li_40, li_41, li_42, li_43, li_44, li_45, li_46, li_47, li_48, li_49, li_50, li_51, li_52, li_53, li_54, li_55, li_56, li_57, li_58, li_59, li_60, li_61, li_62, li_63, li_64, li_65, li_66, li_67, li_68, li_69, li_70, li_71, li_72, li_73, li_74, li_75, li_76, li_77, li_78, li_79, li_80, li_81, li_82, li_83, li_84, li_85, li_86, li_87, li_88, li_89, li_90, li_91, li_92, li_93, li_94, li_95, li_96, li_97, li_98, li_99, li_100, li_101, li_102, li_103, li_104, li_105, li_106, li_107, li_108, li_109, li_110, li_111, li_112, li_113, li_114, li_115, li_116, li_117, li_118, li_119, li_120, li_121, li_122, li_123, li_124, li_125, li_126, li_127, li_128, li_129, li_130, li_180, li_186, li_192, li_304, li_305, li_306, li_307, li_319, li_320, li_321, li_322, li_408, li_409, li_410, li_416, li_422, li_428, li_458, li_459, li_460, li_2300, li_2760, nI_add, z_m6, z_m12, z_m30, z_l10, z_l12, z_l14, z_l17, z_l30, z_l460, z_sub, z_dec, z_dec0, z_m11, z_cl, z_leT, z_leF, z_ltT, z_ltF, z_eqT, z_eqF, z_em, z_me, z_mlt, z_mle, z_ltm, z_lem, z_mltm, z_mlem, z_nleT, z_nleF, z_nltT, z_nltF, or_false, or_self, false_or, or_true, true_or, not_true_eq_false, not_false_eq_true, ↓reduceIte, lt, z_ob, Nat.zero_add, Nat.add_zero, sp_X9_says_1, bX9_says_1, wdM_1 h hw, sp_X9_says_2, bX9_says_2, next_M h (show q1 ≤ 100 by omega), sp_X9_says_3, bX9_says_3, sp_X9_says_4, bX9_says_4]
theorem snM (h : BR n cs tx) {p : Nat} (hp : p ≤ n) (fi ma : Int32) (wo : Nat → Int32) :
    (∀ q, snO tx n p = (q, none) → ∃ fi' ma' wo', fX9_says (nI n) (nI p) (nI 0) fi ma tx wo = some (nI q, nI 1, fi', ma', wo')) ∧
    (∀ q L u, snO tx n p = (q, some (L, u)) → ∃ wo', fX9_says (nI n) (nI p) (nI 0) fi ma tx wo = some (nI q, nI 0, nI u, nI L.length, wo') ∧ isR wo' 0 L) := by
  have h60 := h.1
  obtain ⟨i1, i2⟩ := snM_r h 11 p [] fi wo (nI 0) fuelN (by rfl) hp trivial (by show _ ≤ 1000000 + _; omega)
  have st : ∀ r, rX9_says (nI n) tx fuelN 1 (nI 1) (nI 0) (nI 0) (nI 0) (nI p) (nI 0) fi (nI ([] : List Nat).length) wo = r → fX9_says (nI n) (nI p) (nI 0) fi ma tx wo = r := fun r hr => hr
  unfold snO
  rw [show (11 : Nat) + 1 = 12 from rfl] at i1 i2
  cases hs : snF tx n 12 p [] with
  | mk q1 o =>
    cases o with
    | none =>
      refine ⟨fun q e => ?_, fun q L u e => by (cases e)⟩
      cases e
      obtain ⟨ma', wo', g⟩ := i1 _ hs
      exact ⟨nI 1, ma', wo', st _ g⟩
    | some L1 =>
      dsimp only
      obtain ⟨wo', z2, fu', g1, g2⟩ := i2 _ _ hs
      obtain ⟨b1, b2, b3, b4, b5⟩ := snF_ok 12 p [] q1 L1 (by omega) rfl (fun x hx => absurd hx List.not_mem_nil) hs
      have hle := chr_le h q1
      by_cases e2 : chrN tx n q1 = 35
      · rw [if_pos e2]
        have hq2 := chr_lt (by omega) e2
        cases hd : dgO tx n 1 9 (q1 + 1) with
        | none =>
          refine ⟨fun q e => ?_, fun q L u e => by (cases e)⟩
          cases e
          obtain ⟨v, hv⟩ := digM_0 h (show q1 + 1 ≤ 100 by omega) (show 1 ≤ 9 by omega) (show 9 ≤ 9 by omega) hd
          refine ⟨v, nI L1.length, wo', st _ (g1.trans ?_)⟩
          simp (disch := first | omega | assumption) only [↓z_m1, li_0, li_1, li_2, li_3, li_4, li_5, li_6, li_7, li_8, li_9, li_10, li_11, li_12, li_13, li_14, li_15, li_16, li_17, li_18, li_19, li_20, li_21, li_22, li_23, li_24, li_25, li_26, li_27, li_28, li_29, li_30, li_31, li_32, li_33, li_34, li_35, li_36, li_37, li_38, li_39, li_40, li_41, li_42, li_43, li_44, li_45, li_46, li_47, li_48, li_49, li_50, li_51, li_52, li_53, li_54, li_55, li_56, li_57, li_58, li_59, li_60, li_61, li_62, li_63, li_64, li_65, li_66, li_67, li_68, li_69, li_70, li_71, li_72, li_73, li_74, li_75, li_76, li_77, li_78, li_79, li_80, li_81, li_82, li_83, li_84, li_85, li_86, li_87, li_88, li_89, li_90, li_91, li_92, li_93, li_94, li_95, li_96, li_97, li_98, li_99, li_100, li_101, li_102, li_103, li_104, li_105, li_106, li_107, li_108, li_109, li_110, li_111, li_112, li_113, li_114, li_115, li_116, li_117, li_118, li_119, li_120, li_121, li_122, li_123, li_124, li_125, li_126, li_127, li_128, li_129, li_130, li_180, li_186, li_192, li_304, li_305, li_306, li_307, li_319, li_320, li_321, li_322, li_408, li_409, li_410, li_416, li_422, li_428, li_458, li_459, li_460, li_2300, li_2760, nI_add, z_m6, z_m12, z_m30, z_l10, z_l12, z_l14, z_l17, z_l30, z_l460, z_sub, z_dec, z_dec0, z_m11, z_cl, z_leT, z_leF, z_ltT, z_ltF, z_eqT, z_eqF, z_em, z_me, z_mlt, z_mle, z_ltm, z_lem, z_mltm, z_mlem, z_nleT, z_nleF, z_nltT, z_nltF, or_false, or_self, false_or, or_true, true_or, not_true_eq_false, not_false_eq_true, ↓reduceIte, lt, z_ob, Nat.zero_add, Nat.add_zero, sp_X9_says_1, bX9_says_1, next_M h (show q1 ≤ 100 by omega), e2, hv]
        | some v =>
          refine ⟨fun q e => by (cases e), fun q L u e => ?_⟩
          cases e
          refine ⟨wo', st _ (g1.trans ?_), g2⟩
          simp (disch := first | omega | assumption) only [↓z_m1, li_0, li_1, li_2, li_3, li_4, li_5, li_6, li_7, li_8, li_9, li_10, li_11, li_12, li_13, li_14, li_15, li_16, li_17, li_18, li_19, li_20, li_21, li_22, li_23, li_24, li_25, li_26, li_27, li_28, li_29, li_30, li_31, li_32, li_33, li_34, li_35, li_36, li_37, li_38, li_39, li_40, li_41, li_42, li_43, li_44, li_45, li_46, li_47, li_48, li_49, li_50, li_51, li_52, li_53, li_54, li_55, li_56, li_57, li_58, li_59, li_60, li_61, li_62, li_63, li_64, li_65, li_66, li_67, li_68, li_69, li_70, li_71, li_72, li_73, li_74, li_75, li_76, li_77, li_78, li_79, li_80, li_81, li_82, li_83, li_84, li_85, li_86, li_87, li_88, li_89, li_90, li_91, li_92, li_93, li_94, li_95, li_96, li_97, li_98, li_99, li_100, li_101, li_102, li_103, li_104, li_105, li_106, li_107, li_108, li_109, li_110, li_111, li_112, li_113, li_114, li_115, li_116, li_117, li_118, li_119, li_120, li_121, li_122, li_123, li_124, li_125, li_126, li_127, li_128, li_129, li_130, li_180, li_186, li_192, li_304, li_305, li_306, li_307, li_319, li_320, li_321, li_322, li_408, li_409, li_410, li_416, li_422, li_428, li_458, li_459, li_460, li_2300, li_2760, nI_add, z_m6, z_m12, z_m30, z_l10, z_l12, z_l14, z_l17, z_l30, z_l460, z_sub, z_dec, z_dec0, z_m11, z_cl, z_leT, z_leF, z_ltT, z_ltF, z_eqT, z_eqF, z_em, z_me, z_mlt, z_mle, z_ltm, z_lem, z_mltm, z_mlem, z_nleT, z_nleF, z_nltT, z_nltF, or_false, or_self, false_or, or_true, true_or, not_true_eq_false, not_false_eq_true, ↓reduceIte, lt, z_ob, Nat.zero_add, Nat.add_zero, sp_X9_says_1, bX9_says_1, next_M h (show q1 ≤ 100 by omega), e2, digM_1 h (show 1 ≤ 9 by omega) (show 9 ≤ 9 by omega) hd]
      · rw [if_neg e2]
        refine ⟨fun q e => by (cases e), fun q L u e => ?_⟩
        cases e
        refine ⟨wo', st _ (g1.trans ?_), g2⟩
        simp (disch := first | omega | assumption) only [↓z_m1, li_0, li_1, li_2, li_3, li_4, li_5, li_6, li_7, li_8, li_9, li_10, li_11, li_12, li_13, li_14, li_15, li_16, li_17, li_18, li_19, li_20, li_21, li_22, li_23, li_24, li_25, li_26, li_27, li_28, li_29, li_30, li_31, li_32, li_33, li_34, li_35, li_36, li_37, li_38, li_39, li_40, li_41, li_42, li_43, li_44, li_45, li_46, li_47, li_48, li_49, li_50, li_51, li_52, li_53, li_54, li_55, li_56, li_57, li_58, li_59, li_60, li_61, li_62, li_63, li_64, li_65, li_66, li_67, li_68, li_69, li_70, li_71, li_72, li_73, li_74, li_75, li_76, li_77, li_78, li_79, li_80, li_81, li_82, li_83, li_84, li_85, li_86, li_87, li_88, li_89, li_90, li_91, li_92, li_93, li_94, li_95, li_96, li_97, li_98, li_99, li_100, li_101, li_102, li_103, li_104, li_105, li_106, li_107, li_108, li_109, li_110, li_111, li_112, li_113, li_114, li_115, li_116, li_117, li_118, li_119, li_120, li_121, li_122, li_123, li_124, li_125, li_126, li_127, li_128, li_129, li_130, li_180, li_186, li_192, li_304, li_305, li_306, li_307, li_319, li_320, li_321, li_322, li_408, li_409, li_410, li_416, li_422, li_428, li_458, li_459, li_460, li_2300, li_2760, nI_add, z_m6, z_m12, z_m30, z_l10, z_l12, z_l14, z_l17, z_l30, z_l460, z_sub, z_dec, z_dec0, z_m11, z_cl, z_leT, z_leF, z_ltT, z_ltF, z_eqT, z_eqF, z_em, z_me, z_mlt, z_mle, z_ltm, z_lem, z_mltm, z_mlem, z_nleT, z_nleF, z_nltT, z_nltF, or_false, or_self, false_or, or_true, true_or, not_true_eq_false, not_false_eq_true, ↓reduceIte, lt, z_ob, Nat.zero_add, Nat.add_zero, sp_X9_says_1, bX9_says_1, next_M h (show q1 ≤ 100 by omega)]
theorem snO_ok {p q u : Nat} {L : List Nat} (h : snO tx n p = (q, some (L, u))) : p < q ∧ q ≤ n ∧ 1 ≤ L.length ∧ L.length ≤ 12 ∧ (∀ x, x ∈ L → x < 30) ∧ 1 ≤ u ∧ u ≤ 9 := by
  unfold snO at h
  cases hs : snF tx n 12 p [] with
  | mk q1 o =>
    rw [hs] at h
    cases o with
    | none => cases h
    | some L1 =>
      dsimp only at h
      obtain ⟨b1, b2, b3, b4, b5⟩ := snF_ok 12 p [] q1 L1 (by omega) rfl (fun x hx => absurd hx List.not_mem_nil) hs
      by_cases e2 : chrN tx n q1 = 35
      · rw [if_pos e2] at h
        cases hd : dgO tx n 1 9 (q1 + 1) with
        | none => rw [hd] at h; cases h
        | some v =>
          rw [hd] at h
          have := dg_some hd
          cases h
          exact ⟨by omega, by omega, b3, b4, b5, by omega, by omega⟩
      · rw [if_neg e2] at h
        cases h
        exact ⟨b1, b2, b3, b4, b5, by omega, by omega⟩
theorem snO_no {p q : Nat} (hp : p ≤ n) (h : snO tx n p = (q, none)) : q ≤ n := by
  unfold snO at h
  cases hs : snF tx n 12 p [] with
  | mk q1 o =>
    rw [hs] at h
    cases o with
    | none =>
      cases h
      have := snF_no 12 p [] _ hs
      omega
    | some L1 =>
      dsimp only at h
      by_cases e2 : chrN tx n q1 = 35
      · rw [if_pos e2] at h
        have := chr_lt (by omega) e2
        cases hd : dgO tx n 1 9 (q1 + 1) with
        | none => rw [hd] at h; cases h; omega
        | some v => rw [hd] at h; cases h
      · rw [if_neg e2] at h
        cases h
end PR

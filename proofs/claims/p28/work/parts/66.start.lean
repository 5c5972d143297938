-- pure: the start
theorem z_mod30 {i : Nat} (h : i < 180) : nI i - nI i / nI 30 * nI 30 = nI (i % 30) :=
  (by decide +kernel : ∀ i : Fin 180, nI i.val - nI i.val / nI 30 * nI 30 = nI (i.val % 30)) ⟨i, h⟩
theorem z_m30' (a : Nat) : nI a * nI 30 = nI (30 * a) := by rw [show nI a * nI 30 = nI (a * 30) from pk_mul _ _, Nat.mul_comm]
theorem ini_1 (n2 n3 n4 n5 n6 n0 : Nat → Int32) {l : Nat} (hl : l < 6) : ∀ (k i : Nat) (n1 : Nat → Int32) (fu : Nat), i + k = 30 → k < fu → (∀ j, n1 j = if 30 * l ≤ j ∧ j < 30 * l + i then nI (j % 30) else n0 j) → ∃ n1' fu', rX2_init fu 2 (nI l) (nI i) n1 n2 n3 n4 n5 n6 = rX2_init fu' 1 (nI (l + 1)) (nI 0) n1' n2 n3 n4 n5 n6 ∧ (∀ j, n1' j = if 30 * l ≤ j ∧ j < 30 * l + 30 then nI (j % 30) else n0 j) ∧ fu = fu' + k + 1 := by
  intro k
  induction k with
  | zero =>
    intro i n1 fu hi hf h
    obtain ⟨fu, rfl⟩ := fuS hf
    obtain rfl : i = 30 := by omega
    refine ⟨n1, fu, ?_, h, by omega⟩
    rw [sp_X2_init_2]
    simp (disch := first | omega | assumption) only [↓z_m1, li_0, li_1, li_2, li_3, li_4, li_5, li_6, li_7, li_8, li_9, li_10, li_11, li_12, li_13, li_14, li_15, li_16, li_17, li_18, li_19, li_20, li_21, li_22, li_23, li_24, li_25, li_26, li_27, li_28, li_29, li_30, li_31, li_32, li_33, li_34, li_35, li_36, li_37, li_38, li_39, li_40, li_41, li_42, li_43, li_44, li_45, li_46, li_47, li_48, li_49, li_50, li_51, li_52, li_53, li_54, li_55, li_56, li_57, li_58, li_59, li_60, li_61, li_62, li_63, li_64, li_65, li_66, li_67, li_68, li_69, li_70, li_71, li_72, li_73, li_74, li_75, li_76, li_77, li_78, li_79, li_80, li_81, li_82, li_83, li_84, li_85, li_86, li_87, li_88, li_89, li_90, li_91, li_92, li_93, li_94, li_95, li_96, li_97, li_98, li_99, li_100, li_101, li_102, li_103, li_104, li_105, li_106, li_107, li_108, li_109, li_110, li_111, li_112, li_113, li_114, li_115, li_116, li_117, li_118, li_119, li_120, li_121, li_122, li_123, li_124, li_125, li_126, li_127, li_128, li_129, li_130, li_180, li_186, li_192, li_304, li_305, li_306, li_307, li_319, li_320, li_321, li_322, li_408, li_409, li_410, li_416, li_422, li_428, li_458, li_459, li_460, li_2300, li_2760, nI_add, z_m6, z_m12, z_m30, z_l10, z_l12, z_l14, z_l17, z_l30, z_l460, z_sub, z_dec, z_dec0, z_m11, z_cl, z_leT, z_leF, z_ltT, z_ltF, z_eqT, z_eqF, z_em, z_me, z_mlt, z_mle, z_ltm, z_lem, z_mltm, z_mlem, z_nleT, z_nleF, z_nltT, z_nltF, or_false, or_self, false_or, or_true, true_or, not_true_eq_false, not_false_eq_true, ↓reduceIte, lt, z_ob, Nat.zero_add, Nat.add_zero, bX2_init_2]
  | succ k ih =>
    intro i n1 fu hi hf h
    obtain ⟨fu, rfl⟩ := fuS hf
    obtain ⟨n1', fu', e, h1, h2⟩ := ih (i + 1) (upd n1 (30 * l + i) (nI i)) fu (by omega) (by omega) (fun j => by
      by_cases ej : j = 30 * l + i
      · subst ej
        rw [pk_us, if_pos ⟨by omega, by omega⟩, show (30 * l + i) % 30 = i by omega]
      · rw [pk_un ej, h j]
        by_cases e2 : 30 * l ≤ j ∧ j < 30 * l + i
        · rw [if_pos e2, if_pos ⟨e2.1, by omega⟩]
        · rw [if_neg e2, if_neg (by omega)])
    refine ⟨n1', fu', ?_, h1, by omega⟩
    rw [← e, sp_X2_init_2]
    simp (disch := first | omega | assumption) only [↓z_m1, li_0, li_1, li_2, li_3, li_4, li_5, li_6, li_7, li_8, li_9, li_10, li_11, li_12, li_13, li_14, li_15, li_16, li_17, li_18, li_19, li_20, li_21, li_22, li_23, li_24, li_25, li_26, li_27, li_28, li_29, li_30, li_31, li_32, li_33, li_34, li_35, li_36, li_37, li_38, li_39, li_40, li_41, li_42, li_43, li_44, li_45, li_46, li_47, li_48, li_49, li_50, li_51, li_52, li_53, li_54, li_55, li_56, li_57, li_58, li_59, li_60, li_61, li_62, li_63, li_64, li_65, li_66, li_67, li_68, li_69, li_70, li_71, li_72, li_73, li_74, li_75, li_76, li_77, li_78, li_79, li_80, li_81, li_82, li_83, li_84, li_85, li_86, li_87, li_88, li_89, li_90, li_91, li_92, li_93, li_94, li_95, li_96, li_97, li_98, li_99, li_100, li_101, li_102, li_103, li_104, li_105, li_106, li_107, li_108, li_109, li_110, li_111, li_112, li_113, li_114, li_115, li_116, li_117, li_118, li_119, li_120, li_121, li_122, li_123, li_124, li_125, li_126, li_127, li_128, li_129, li_130, li_180, li_186, li_192, li_304, li_305, li_306, li_307, li_319, li_320, li_321, li_322, li_408, li_409, li_410, li_416, li_422, li_428, li_458, li_459, li_460, li_2300, li_2760, nI_add, z_m6, z_m12, z_m30, z_l10, z_l12, z_l14, z_l17, z_l30, z_l460, z_sub, z_dec, z_dec0, z_m11, z_cl, z_leT, z_leF, z_ltT, z_ltF, z_eqT, z_eqF, z_em, z_me, z_mlt, z_mle, z_ltm, z_lem, z_mltm, z_mlem, z_nleT, z_nleF, z_nltT, z_nltF, or_false, or_self, false_or, or_true, true_or, not_true_eq_false, not_false_eq_true, ↓reduceIte, lt, z_ob, Nat.zero_add, Nat.add_zero, bX2_init_2, z_m30']
theorem ini_2 : ∀ (k l : Nat) (n1 n2 n3 n4 n5 n6 : Nat → Int32) (fu : Nat), l + k = 6 → 32 * k < fu → (∀ j, n1 j = if j < 30 * l then nI (j % 30) else nI 0) → (∀ j, n3 j = if j < l then nI 1 else nI 0) → ∃ mn fe, rX2_init fu 1 (nI l) (nI 0) n1 n2 n3 n4 n5 n6 = some (mn, n2, fe, n4, n5, n6) ∧ (∀ j, j < 180 → mn j = nI (j % 30)) ∧ ∀ j, j < 6 → fe j = nI 1 := by
  intro k
  induction k with
  | zero =>
    intro l n1 n2 n3 n4 n5 n6 fu hl hf h h3
    obtain ⟨fu, rfl⟩ := fuS hf
    obtain rfl : l = 6 := by omega
    refine ⟨n1, n3, ?_, fun j hj => by rw [h j, if_pos (by omega)], fun j hj => by rw [h3 j, if_pos hj]⟩
    rw [sp_X2_init_1]
    simp (disch := first | omega | assumption) only [↓z_m1, li_0, li_1, li_2, li_3, li_4, li_5, li_6, li_7, li_8, li_9, li_10, li_11, li_12, li_13, li_14, li_15, li_16, li_17, li_18, li_19, li_20, li_21, li_22, li_23, li_24, li_25, li_26, li_27, li_28, li_29, li_30, li_31, li_32, li_33, li_34, li_35, li_36, li_37, li_38, li_39, li_40, li_41, li_42, li_43, li_44, li_45, li_46, li_47, li_48, li_49, li_50, li_51, li_52, li_53, li_54, li_55, li_56, li_57, li_58, li_59, li_60, li_61, li_62, li_63, li_64, li_65, li_66, li_67, li_68, li_69, li_70, li_71, li_72, li_73, li_74, li_75, li_76, li_77, li_78, li_79, li_80, li_81, li_82, li_83, li_84, li_85, li_86, li_87, li_88, li_89, li_90, li_91, li_92, li_93, li_94, li_95, li_96, li_97, li_98, li_99, li_100, li_101, li_102, li_103, li_104, li_105, li_106, li_107, li_108, li_109, li_110, li_111, li_112, li_113, li_114, li_115, li_116, li_117, li_118, li_119, li_120, li_121, li_122, li_123, li_124, li_125, li_126, li_127, li_128, li_129, li_130, li_180, li_186, li_192, li_304, li_305, li_306, li_307, li_319, li_320, li_321, li_322, li_408, li_409, li_410, li_416, li_422, li_428, li_458, li_459, li_460, li_2300, li_2760, nI_add, z_m6, z_m12, z_m30, z_l10, z_l12, z_l14, z_l17, z_l30, z_l460, z_sub, z_dec, z_dec0, z_m11, z_cl, z_leT, z_leF, z_ltT, z_ltF, z_eqT, z_eqF, z_em, z_me, z_mlt, z_mle, z_ltm, z_lem, z_mltm, z_mlem, z_nleT, z_nleF, z_nltT, z_nltF, or_false, or_self, false_or, or_true, true_or, not_true_eq_false, not_false_eq_true, ↓reduceIte, lt, z_ob, Nat.zero_add, Nat.add_zero, bX2_init_1]
  | succ k ih =>
    intro l n1 n2 n3 n4 n5 n6 fu hl hf h h3
    obtain ⟨fu, rfl⟩ := fuS hf
    obtain ⟨n1', fu', e, h1, h2⟩ := ini_1 n2 (upd n3 l (nI 1)) n4 n5 n6 n1 (l := l) (by omega) 30 0 n1 fu (by omega) (by omega) (fun j => by rw [if_neg (by omega)])
    obtain ⟨mn, fe, g, g1, g2⟩ := ih (l + 1) n1' n2 (upd n3 l (nI 1)) n4 n5 n6 fu' (by omega) (by omega) (fun j => by
      rw [h1 j, h j]
      by_cases e1 : 30 * l ≤ j ∧ j < 30 * l + 30
      · rw [if_pos e1, if_pos (by omega)]
      · rw [if_neg e1]
        by_cases e2 : j < 30 * l
        · rw [if_pos e2, if_pos (by omega)]
        · rw [if_neg e2, if_neg (by omega)]) (fun j => by
      by_cases ej : j = l
      · subst ej
        rw [pk_us, if_pos (by omega)]
      · rw [pk_un ej, h3 j]
        by_cases e2 : j < l
        · rw [if_pos e2, if_pos (by omega)]
        · rw [if_neg e2, if_neg (by omega)])
    refine ⟨mn, fe, ?_, g1, g2⟩
    rw [← g, ← e, sp_X2_init_1]
    simp (disch := first | omega | assumption) only [↓z_m1, li_0, li_1, li_2, li_3, li_4, li_5, li_6, li_7, li_8, li_9, li_10, li_11, li_12, li_13, li_14, li_15, li_16, li_17, li_18, li_19, li_20, li_21, li_22, li_23, li_24, li_25, li_26, li_27, li_28, li_29, li_30, li_31, li_32, li_33, li_34, li_35, li_36, li_37, li_38, li_39, li_40, li_41, li_42, li_43, li_44, li_45, li_46, li_47, li_48, li_49, li_50, li_51, li_52, li_53, li_54, li_55, li_56, li_57, li_58, li_59, li_60, li_61, li_62, li_63, li_64, li_65, li_66, li_67, li_68, li_69, li_70, li_71, li_72, li_73, li_74, li_75, li_76, li_77, li_78, li_79, li_80, li_81, li_82, li_83, li_84, li_85, li_86, li_87, li_88, li_89, li_90, li_91, li_92, li_93, li_94, li_95, li_96, li_97, li_98, li_99, li_100, li_101, li_102, li_103, li_104, li_105, li_106, li_107, li_108, li_109, li_110, li_111, li_112, li_113, li_114, li_115, li_116, li_117, li_118, li_119, li_120, li_121, li_122, li_123, li_124, li_125, li_126, li_127, li_128, li_129, li_130, li_180, li_186, li_192, li_304, li_305, li_306, li_307, li_319, li_320, li_321, li_322, li_408, li_409, li_410, li_416, li_422, li_428, li_458, li_459, li_460, li_2300, li_2760, nI_add, z_m6, z_m12, z_m30, z_l10, z_l12, z_l14, z_l17, z_l30, z_l460, z_sub, z_dec, z_dec0, z_m11, z_cl, z_leT, z_leF, z_ltT, z_ltF, z_eqT, z_eqF, z_em, z_me, z_mlt, z_mle, z_ltm, z_lem, z_mltm, z_mlem, z_nleT, z_nleF, z_nltT, z_nltF, or_false, or_self, false_or, or_true, true_or, not_true_eq_false, not_false_eq_true, ↓reduceIte, lt, z_ob, Nat.zero_add, Nat.add_zero, bX2_init_1]
theorem ini_X2 : ∃ mn fe : Nat → Int32, fX2_init = some (mn, (fun _ => nI 0), fe, (fun _ => nI 0), (fun _ => nI 0), (fun _ => nI 0)) ∧ (∀ j, j < 180 → mn j = nI (j % 30)) ∧ ∀ j, j < 6 → fe j = nI 1 := by
  obtain ⟨mn, fe, g, g1, g2⟩ := ini_2 6 0 (fun _ => nI 0) (fun _ => nI 0) (fun _ => nI 0) (fun _ => nI 0) (fun _ => nI 0) (fun _ => nI 0) fuelN (by omega) (by decide) (fun j => by rw [if_neg (by omega)]) (fun j => by rw [if_neg (by omega)])
  exact ⟨mn, fe, g, g1, g2⟩
/-- the start's numbers, the model -/
def stF (s : Nat → Int32) : Prop := ∀ j, s j = if j < 180 then nI (j % 30) else if 186 ≤ j ∧ j < 192 then nI 1 else nI 0
theorem ini_X5 : ∃ r0 : R0T, fX5_init = some r0 ∧ ∀ s, stF s → CR s 0 0 [] r0.1 r0.2.1 r0.2.2.1 r0.2.2.2.1 r0.2.2.2.2.1 r0.2.2.2.2.2.1 r0.2.2.2.2.2.2.1 r0.2.2.2.2.2.2.2.1 r0.2.2.2.2.2.2.2.2.1 r0.2.2.2.2.2.2.2.2.2.1 r0.2.2.2.2.2.2.2.2.2.2.1 r0.2.2.2.2.2.2.2.2.2.2.2.1 r0.2.2.2.2.2.2.2.2.2.2.2.2.1 r0.2.2.2.2.2.2.2.2.2.2.2.2.2.1 r0.2.2.2.2.2.2.2.2.2.2.2.2.2.2.1 r0.2.2.2.2.2.2.2.2.2.2.2.2.2.2.2.1 r0.2.2.2.2.2.2.2.2.2.2.2.2.2.2.2.2 := by
  obtain ⟨mn, fe, e, h1, h2⟩ := ini_X2
  refine ⟨(nI 0, mI, mI, mn, (fun _ => nI 0), fe, (fun _ => nI 0), (fun _ => nI 0), (fun _ => nI 0), nI 0, (fun _ => nI 0), (fun _ => nI 0), (fun _ => nI 0), nI 0, (fun _ => nI 0), (fun _ => nI 0), (fun _ => nI 0)), ?_, fun s hs => ?_⟩
  · unfold fX5_init
    rw [e]
    rfl
  · have hz : ∀ j, 180 ≤ j → ¬ (186 ≤ j ∧ j < 192) → s j = nI 0 := fun j h1 h2 => by rw [hs j, if_neg (by omega), if_neg h2]
    have ho : ∀ j, 186 ≤ j → j < 192 → s j = nI 1 := fun j h1 h2 => by rw [hs j, if_neg (by omega), if_pos ⟨h1, h2⟩]
    refine ⟨⟨fun j hj => ?_, fun j hj => ⟨j % 30, by omega, ?_⟩⟩, ⟨fun j hj => (hz _ (by omega) (by omega)).symm, fun l hl => ⟨0, by omega, hz _ (by omega) (by omega)⟩⟩, ⟨fun j hj => (h2 j hj).trans (ho _ (by omega) (by omega)).symm, fun l hl => ⟨1, by omega, ho _ (by omega) (by omega)⟩⟩, fun j hj => (hz _ (by omega) (by omega)).symm, fun j hj => (hz _ (by omega) (by omega)).symm, fun j hj => (hz _ (by omega) (by omega)).symm, fun j hj => (hz _ (by omega) (by omega)).symm, ⟨⟨hz _ (by omega) (by omega), by omega, fun a ha => absurd ha (Nat.not_lt_zero a)⟩, ⟨List.Pairwise.nil, fun a => ⟨fun h => absurd h List.not_mem_nil, fun h => absurd h (Nat.not_lt_zero a)⟩⟩, rfl, fun p a h => by cases h⟩, ⟨0, by omega, hz _ (by omega) (by omega), rfl, fun b hb => absurd hb (Nat.not_lt_zero b)⟩, (hz _ (by omega) (by omega)).symm, Or.inl ⟨hz _ (by omega) (by omega), rfl, rfl⟩, ⟨0, 0, hz _ (by omega) (by omega), hz _ (by omega) (by omega), by omega, by omega, fun w hw => ⟨0, by omega, hz _ (by omega) (by omega)⟩, ?_, ⟨fun l hl => ⟨0, 0, 0, hz _ (by omega) (by omega), by omega, hz _ (by omega) (by omega), by omega, hz _ (by omega) (by omega), by omega⟩, ⟨fun _ => 0, fun w hw => ⟨hz _ (by omega) (by omega), Nat.le_refl _⟩, by decide⟩, hz _ (by omega) (by omega), Or.inl (hz _ (by omega) (by omega)), fun a ha => absurd ha (Nat.not_lt_zero a), fun b _ hb => absurd hb (Nat.not_lt_zero b)⟩⟩⟩
    · rw [Nat.zero_add, hs j, if_pos hj]
      exact h1 j hj
    · rw [hs j, if_pos hj, mz_lt (by omega)]
    · rw [hz 409 (by omega) (by omega)]
      show nI 0 + s (422 + 0) + s (422 + 1) + s (422 + 2) + s (422 + 3) + s (422 + 4) + s (422 + 5) = nI 0
      rw [hz _ (by omega) (by omega), hz _ (by omega) (by omega), hz _ (by omega) (by omega), hz _ (by omega) (by omega), hz _ (by omega) (by omega), hz _ (by omega) (by omega)]
      rfl
theorem ini_3 (t1 t2 t3 t4 t5 t6 t7 t8 t9 t10 t11 t12 t13 t14 t15 : Int32) (n2 n3 n4 n5 n6 n7 : Nat → Int32) : ∀ (k i : Nat) (n1 : Nat → Int32) (fu : Nat), i + k = 180 → k < fu → (∀ j, n1 j = if j < i then nI (j % 30) else nI 0) → ∃ n1' fu', rX9_init fu 1 (nI i) t1 t2 t3 t4 t5 t6 t7 t8 t9 t10 t11 t12 t13 t14 t15 n1 n2 n3 n4 n5 n6 n7 = rX9_init fu' 2 (nI 0) t1 t2 t3 t4 t5 t6 t7 t8 t9 t10 t11 t12 t13 t14 t15 n1' n2 n3 n4 n5 n6 n7 ∧ (∀ j, n1' j = if j < 180 then nI (j % 30) else nI 0) ∧ fu = fu' + k + 1 := by
  intro k
  induction k with
  | zero =>
    intro i n1 fu hi hf h
    obtain ⟨fu, rfl⟩ := fuS hf
    obtain rfl : i = 180 := by omega
    refine ⟨n1, fu, ?_, h, by omega⟩
    rw [sp_X9_init_1]
    simp (disch := first | omega | assumption) only [↓z_m1, li_0, li_1, li_2, li_3, li_4, li_5, li_6, li_7, li_8, li_9, li_10, li_11, li_12, li_13, li_14, li_15, li_16, li_17, li_18, li_19, li_20, li_21, li_22, li_23, li_24, li_25, li_26, li_27, li_28, li_29, li_30, li_31, li_32, li_33, li_34, li_35, li_36, li_37, li_38, li_39, li_40, li_41, li_42, li_43, li_44, li_45, li_46, li_47, li_48, li_49, li_50, li_51, li_52, li_53, li_54, li_55, li_56, li_57, li_58, li_59, li_60, li_61, li_62, li_63, li_64, li_65, li_66, li_67, li_68, li_69, li_70, li_71, li_72, li_73, li_74, li_75, li_76, li_77, li_78, li_79, li_80, li_81, li_82, li_83, li_84, li_85, li_86, li_87, li_88, li_89, li_90, li_91, li_92, li_93, li_94, li_95, li_96, li_97, li_98, li_99, li_100, li_101, li_102, li_103, li_104, li_105, li_106, li_107, li_108, li_109, li_110, li_111, li_112, li_113, li_114, li_115, li_116, li_117, li_118, li_119, li_120, li_121, li_122, li_123, li_124, li_125, li_126, li_127, li_128, li_129, li_130, li_180, li_186, li_192, li_304, li_305, li_306, li_307, li_319, li_320, li_321, li_322, li_408, li_409, li_410, li_416, li_422, li_428, li_458, li_459, li_460, li_2300, li_2760, nI_add, z_m6, z_m12, z_m30, z_l10, z_l12, z_l14, z_l17, z_l30, z_l460, z_sub, z_dec, z_dec0, z_m11, z_cl, z_leT, z_leF, z_ltT, z_ltF, z_eqT, z_eqF, z_em, z_me, z_mlt, z_mle, z_ltm, z_lem, z_mltm, z_mlem, z_nleT, z_nleF, z_nltT, z_nltF, or_false, or_self, false_or, or_true, true_or, not_true_eq_false, not_false_eq_true, ↓reduceIte, lt, z_ob, Nat.zero_add, Nat.add_zero, bX9_init_1]
  | succ k ih =>
    intro i n1 fu hi hf h
    obtain ⟨fu, rfl⟩ := fuS hf
    obtain ⟨n1', fu', e, h1, h2⟩ := ih (i + 1) (upd n1 i (nI (i % 30))) fu (by omega) (by omega) (fun j => by
      by_cases ej : j = i
      · subst ej
        rw [pk_us, if_pos (by omega)]
      · rw [pk_un ej, h j]
        by_cases e2 : j < i
        · rw [if_pos e2, if_pos (by omega)]
        · rw [if_neg e2, if_neg (by omega)])
    refine ⟨n1', fu', ?_, h1, by omega⟩
    rw [← e, sp_X9_init_1, ← z_mod30 (show i < 180 by omega)]
    generalize hv : nI i - nI i / nI 30 * nI 30 = v
    unfold bX9_init_1
    rw [show (30 : Int32) = nI 30 from rfl, hv]
    simp (disch := first | omega | assumption) only [↓z_m1, li_0, li_1, li_2, li_3, li_4, li_5, li_6, li_7, li_8, li_9, li_10, li_11, li_12, li_13, li_14, li_15, li_16, li_17, li_18, li_19, li_20, li_21, li_22, li_23, li_24, li_25, li_26, li_27, li_28, li_29, li_30, li_31, li_32, li_33, li_34, li_35, li_36, li_37, li_38, li_39, li_40, li_41, li_42, li_43, li_44, li_45, li_46, li_47, li_48, li_49, li_50, li_51, li_52, li_53, li_54, li_55, li_56, li_57, li_58, li_59, li_60, li_61, li_62, li_63, li_64, li_65, li_66, li_67, li_68, li_69, li_70, li_71, li_72, li_73, li_74, li_75, li_76, li_77, li_78, li_79, li_80, li_81, li_82, li_83, li_84, li_85, li_86, li_87, li_88, li_89, li_90, li_91, li_92, li_93, li_94, li_95, li_96, li_97, li_98, li_99, li_100, li_101, li_102, li_103, li_104, li_105, li_106, li_107, li_108, li_109, li_110, li_111, li_112, li_113, li_114, li_115, li_116, li_117, li_118, li_119, li_120, li_121, li_122, li_123, li_124, li_125, li_126, li_127, li_128, li_129, li_130, li_180, li_186, li_192, li_304, li_305, li_306, li_307, li_319, li_320, li_321, li_322, li_408, li_409, li_410, li_416, li_422, li_428, li_458, li_459, li_460, li_2300, li_2760, nI_add, z_m6, z_m12, z_m30, z_l10, z_l12, z_l14, z_l17, z_l30, z_l460, z_sub, z_dec, z_dec0, z_m11, z_cl, z_leT, z_leF, z_ltT, z_ltF, z_eqT, z_eqF, z_em, z_me, z_mlt, z_mle, z_ltm, z_lem, z_mltm, z_mlem, z_nleT, z_nleF, z_nltT, z_nltF, or_false, or_self, false_or, or_true, true_or, not_true_eq_false, not_false_eq_true, ↓reduceIte, lt, z_ob, Nat.zero_add, Nat.add_zero]
theorem ini_4 (t1 t2 t3 t4 t5 t6 t7 t8 t9 t10 t11 t12 t13 t14 t15 : Int32) (n2 n3 n4 n5 n6 n7 n0 : Nat → Int32) : ∀ (k i : Nat) (n1 : Nat → Int32) (fu : Nat), i + k = 6 → k < fu → (∀ j, n1 j = if 186 ≤ j ∧ j < 186 + i then nI 1 else n0 j) → ∃ n1', rX9_init fu 2 (nI i) t1 t2 t3 t4 t5 t6 t7 t8 t9 t10 t11 t12 t13 t14 t15 n1 n2 n3 n4 n5 n6 n7 = some (t1, t2, t3, t4, t5, t6, t7, t8, t9, t10, t11, t12, t13, t14, t15, n1', n2, n3, n4, n5, n6, n7) ∧ (∀ j, n1' j = if 186 ≤ j ∧ j < 192 then nI 1 else n0 j) := by
  intro k
  induction k with
  | zero =>
    intro i n1 fu hi hf h
    obtain ⟨fu, rfl⟩ := fuS hf
    obtain rfl : i = 6 := by omega
    refine ⟨n1, ?_, h⟩
    rw [sp_X9_init_2]
    simp (disch := first | omega | assumption) only [↓z_m1, li_0, li_1, li_2, li_3, li_4, li_5, li_6, li_7, li_8, li_9, li_10, li_11, li_12, li_13, li_14, li_15, li_16, li_17, li_18, li_19, li_20, li_21, li_22, li_23, li_24, li_25, li_26, li_27, li_28, li_29, li_30, li_31, li_32, li_33, li_34, li_35, li_36, li_37, li_38, li_39, li_40, li_41, li_42, li_43, li_44, li_45, li_46, li_47, li_48, li_49, li_50, li_51, li_52, li_53, li_54, li_55, li_56, li_57, li_58, li_59, li_60, li_61, li_62, li_63, li_64, li_65, li_66, li_67, li_68, li_69, li_70, li_71, li_72, li_73, li_74, li_75, li_76, li_77, li_78, li_79, li_80, li_81, li_82, li_83, li_84, li_85, li_86, li_87, li_88, li_89, li_90, li_91, li_92, li_93, li_94, li_95, li_96, li_97, li_98, li_99, li_100, li_101, li_102, li_103, li_104, li_105, li_106, li_107, li_108, li_109, li_110, li_111, li_112, li_113, li_114, li_115, li_116, li_117, li_118, li_119, li_120, li_121, li_122, li_123, li_124, li_125, li_126, li_127, li_128, li_129, li_130, li_180, li_186, li_192, li_304, li_305, li_306, li_307, li_319, li_320, li_321, li_322, li_408, li_409, li_410, li_416, li_422, li_428, li_458, li_459, li_460, li_2300, li_2760, nI_add, z_m6, z_m12, z_m30, z_l10, z_l12, z_l14, z_l17, z_l30, z_l460, z_sub, z_dec, z_dec0, z_m11, z_cl, z_leT, z_leF, z_ltT, z_ltF, z_eqT, z_eqF, z_em, z_me, z_mlt, z_mle, z_ltm, z_lem, z_mltm, z_mlem, z_nleT, z_nleF, z_nltT, z_nltF, or_false, or_self, false_or, or_true, true_or, not_true_eq_false, not_false_eq_true, ↓reduceIte, lt, z_ob, Nat.zero_add, Nat.add_zero, bX9_init_2]
  | succ k ih =>
    intro i n1 fu hi hf h
    obtain ⟨fu, rfl⟩ := fuS hf
    obtain ⟨n1', e, h1⟩ := ih (i + 1) (upd n1 (186 + i) (nI 1)) fu (by omega) (by omega) (fun j => by
      by_cases ej : j = 186 + i
      · subst ej
        rw [pk_us, if_pos ⟨by omega, by omega⟩]
      · rw [pk_un ej, h j]
        by_cases e2 : 186 ≤ j ∧ j < 186 + i
        · rw [if_pos e2, if_pos ⟨e2.1, by omega⟩]
        · rw [if_neg e2, if_neg (by omega)])
    refine ⟨n1', ?_, h1⟩
    rw [← e, sp_X9_init_2]
    simp (disch := first | omega | assumption) only [↓z_m1, li_0, li_1, li_2, li_3, li_4, li_5, li_6, li_7, li_8, li_9, li_10, li_11, li_12, li_13, li_14, li_15, li_16, li_17, li_18, li_19, li_20, li_21, li_22, li_23, li_24, li_25, li_26, li_27, li_28, li_29, li_30, li_31, li_32, li_33, li_34, li_35, li_36, li_37, li_38, li_39, li_40, li_41, li_42, li_43, li_44, li_45, li_46, li_47, li_48, li_49, li_50, li_51, li_52, li_53, li_54, li_55, li_56, li_57, li_58, li_59, li_60, li_61, li_62, li_63, li_64, li_65, li_66, li_67, li_68, li_69, li_70, li_71, li_72, li_73, li_74, li_75, li_76, li_77, li_78, li_79, li_80, li_81, li_82, li_83, li_84, li_85, li_86, li_87, li_88, li_89, li_90, li_91, li_92, li_93, li_94, li_95, li_96, li_97, li_98, li_99, li_100, li_101, li_102, li_103, li_104, li_105, li_106, li_107, li_108, li_109, li_110, li_111, li_112, li_113, li_114, li_115, li_116, li_117, li_118, li_119, li_120, li_121, li_122, li_123, li_124, li_125, li_126, li_127, li_128, li_129, li_130, li_180, li_186, li_192, li_304, li_305, li_306, li_307, li_319, li_320, li_321, li_322, li_408, li_409, li_410, li_416, li_422, li_428, li_458, li_459, li_460, li_2300, li_2760, nI_add, z_m6, z_m12, z_m30, z_l10, z_l12, z_l14, z_l17, z_l30, z_l460, z_sub, z_dec, z_dec0, z_m11, z_cl, z_leT, z_leF, z_ltT, z_ltF, z_eqT, z_eqF, z_em, z_me, z_mlt, z_mle, z_ltm, z_lem, z_mltm, z_mlem, z_nleT, z_nleF, z_nltT, z_nltF, or_false, or_self, false_or, or_true, true_or, not_true_eq_false, not_false_eq_true, ↓reduceIte, lt, z_ob, Nat.zero_add, Nat.add_zero, bX9_init_2]
theorem ini_X9 : ∃ s : Nat → Int32, fX9_init = some (nI 0, nI 0, nI 0, nI 0, nI 0, nI 0, nI 0, nI 0, nI 0, nI 0, nI 0, nI 0, nI 0, nI 0, nI 0, s, (fun _ => nI 0), (fun _ => nI 0), (fun _ => nI 0), (fun _ => nI 0), (fun _ => nI 0), (fun _ => nI 0)) ∧ stF s := by
  obtain ⟨n1, fu, e, h, hf⟩ := ini_3 (nI 0) (nI 0) (nI 0) (nI 0) (nI 0) (nI 0) (nI 0) (nI 0) (nI 0) (nI 0) (nI 0) (nI 0) (nI 0) (nI 0) (nI 0) (fun _ => nI 0) (fun _ => nI 0) (fun _ => nI 0) (fun _ => nI 0) (fun _ => nI 0) (fun _ => nI 0) 180 0 (fun _ => nI 0) fuelN (by omega) (by decide) (fun j => by rw [if_neg (by omega)])
  have hf : (1000000 : Nat) = fu + 180 + 1 := hf
  obtain ⟨s, e2, h2⟩ := ini_4 (nI 0) (nI 0) (nI 0) (nI 0) (nI 0) (nI 0) (nI 0) (nI 0) (nI 0) (nI 0) (nI 0) (nI 0) (nI 0) (nI 0) (nI 0) (fun _ => nI 0) (fun _ => nI 0) (fun _ => nI 0) (fun _ => nI 0) (fun _ => nI 0) (fun _ => nI 0) n1 6 0 n1 fu (by omega) (by omega) (fun j => by rw [if_neg (by omega)])
  refine ⟨s, e.trans e2, fun j => ?_⟩
  rw [h2 j, h j]
  by_cases e1 : j < 180
  · rw [if_pos e1, if_neg (by omega), if_pos e1]
  · rw [if_neg e1, if_neg e1]
theorem HR_0 (past : Nat → Int32) : HR [] 0 0 past := ⟨by omega, Nat.zero_le _, Nat.zero_le _, fun k hk => absurd hk (Nat.not_lt_zero k)⟩

-- pure: the chain as it is held, saved and brought back
section CC
variable {s s' : Nat → Int32} {n K K' : Nat} {P : List Nat} {went sp sr : Int32} {mn er fe ms pa lo : Nat → Int32} {wz : Int32} {ww wl wu : Nat → Int32} {az : Int32} {aw af tw : Nat → Int32}
theorem Srt_c {ah ah' : Nat → Nat → Bool} (h : ∀ a b, a < n → b < n → ah' a b = ah a b) (hP : Srt ah n P) : Srt ah' n P := by
  refine ⟨List.Pairwise.imp_of_mem ?_ hP.1, hP.2⟩
  intro a b ha hb hab
  rw [h a b ((hP.2 a).mp ha) ((hP.2 b).mp hb)]
  exact hab
theorem CR.cong (h : ∀ j, j < 460 → s' j = s j) (hK : K ≤ K') (hc : CR s n K P went sp sr mn er fe ms pa lo wz ww wl wu az aw af tw) : CR s' n K' P went sp sr mn er fe ms pa lo wz ww wl wu az aw af tw := by
  obtain ⟨⟨h1, hd⟩, ⟨h2, hes⟩, ⟨h3, hfs⟩, h4, h5, h6, h7, ⟨hw, hP, hz, h8⟩, ⟨kp, hkp, h408, haz, h9⟩, h10, h11, h12⟩ := hc
  have n8 := hw.2.1
  refine ⟨⟨fun j hj => by rw [h1 j hj, h _ (by omega)], hd.c (fun j hj => h j (by omega))⟩, ⟨fun j hj => by rw [h2 j hj, h _ (by omega)], fun l hl => by rw [h _ (by omega)]; exact hes l hl⟩, ⟨fun j hj => by rw [h3 j hj, h _ (by omega)], fun l hl => by rw [h _ (by omega)]; exact hfs l hl⟩, fun j hj => by rw [h4 j hj, h _ (by omega)], fun j hj => by rw [h5 j hj, h _ (by omega)], fun j hj => by rw [h6 j hj, h _ (by omega)], fun j hj => by rw [h7 j hj, h _ (by omega)], ⟨hw.c (fun j hj => h _ (by omega)) (h _ (by omega)), Srt_c (fun a b ha hb => ?_) hP, hz, fun p a hp => ?_⟩, ⟨kp, hkp, by rw [h _ (by omega)]; exact h408, haz, fun b hb => ?_⟩, by rw [h _ (by omega)]; exact h10, ?_, ?_⟩
  · unfold ahW urgN
    rw [h _ (by omega), h _ (by omega)]
  · have ha : a < n := (hP.2 a).mp (List.mem_of_getElem? hp)
    obtain ⟨x1, x2, x3⟩ := h8 p a hp
    have hcn := (sen_c (s := s) (s' := s') (a := a) (fun j hj => h _ (by omega)) (hw.cnt ha).2.2).1
    have hc12 := (hw.cnt ha).2.2
    rw [h _ (by omega), h _ (by omega), hcn]
    exact ⟨x1, x2, fun k hk => by rw [h _ (by omega)]; exact x3 k hk⟩
  · obtain ⟨M, m1, m2, m3, m4, m5, m6, m7, m8, m9, m10, m11⟩ := h9 b hb
    exact ⟨M, m1, m2, by rw [h _ (by omega)]; exact m3, isR_congr (fun j h1 h2 => h _ (by omega)) m4, m5, m6, m7, by rw [h _ (by omega)]; exact m8, by rw [h _ (by omega)]; exact m9, by rw [h _ (by omega)]; exact m10, by rw [h _ (by omega)]; exact m11⟩
  · rcases h11 with ⟨t1, t2, t3⟩ | ⟨k, t0, t1, t2, t3⟩
    · exact Or.inl ⟨by rw [h _ (by omega)]; exact t1, t2, t3⟩
    · exact Or.inr ⟨k, t0, by rw [h _ (by omega)]; exact t1, t2, by rw [h _ (by omega)]; exact t3⟩
  · obtain ⟨g, q, c1, c2, c3, c4, c5, c6, c7⟩ := h12
    have e : ∀ g : Nat → Int32, sumI g 6 0 (nI 0) = nI 0 + g 0 + g 1 + g 2 + g 3 + g 4 + g 5 := fun g => rfl
    refine ⟨g, q, by rw [h _ (by omega)]; exact c1, by rw [h _ (by omega)]; exact c2, c3, by omega, fun w hw => ?_, ?_, ?_⟩
    · obtain ⟨t, t1, t2⟩ := c5 w hw
      exact ⟨t, t1, by rw [h _ (by omega)]; exact t2⟩
    · rw [e] at c6 ⊢
      simp only [h (422 + 0) (by omega), h (422 + 1) (by omega), h (422 + 2) (by omega), h (422 + 3) (by omega), h (422 + 4) (by omega), h (422 + 5) (by omega), h 409 (by omega)]
      exact c6
    · refine c7.mv (fun j j1 j2 => h j (by omega)) (by rw [h _ (by omega), h _ (by omega)]; exact c7.2.2.2.1) (fun a ha => ?_)
      unfold urgN
      rw [h _ (by omega)]
      exact c7.2.2.2.2.1 a ha
end CC
/-- the same by the values of a block -/
def CV (s : Nat → Int32) (n K : Nat) (P : List Nat) (v : Nat → Nat → Int32) : Prop := CR s n K P (v 0 0) (v 1 0) (v 2 0) (v 3) (v 4) (v 5) (v 6) (v 7) (v 8) (v 9 0) (v 10) (v 11) (v 12) (v 13 0) (v 14) (v 15) (v 16)
theorem cpy_in {f g : Nat → Int32} {n j : Nat} (n' : Int32) (hn : n'.toNatClampNeg = n) (hj : j < n) : va_cpy f g (0 : Int32).toNatClampNeg (0 : Int32).toNatClampNeg n'.toNatClampNeg j = f j := by
  rw [hn, show (0 : Int32).toNatClampNeg = 0 from rfl, pk_cpy_in (by omega) (by omega)]
  congr 1
  omega
theorem CV.copy {s : Nat → Int32} {n K : Nat} {P : List Nat} {v : Nat → Nat → Int32} (w : Nat → Nat → Int32) (h : CV s n K P v) : CV s n K P (cpV v w) := by
  obtain ⟨⟨h1, hd⟩, ⟨h2, hes⟩, ⟨h3, hfs⟩, h4, h5, h6, h7, ⟨hw, hP, hz, h8⟩, ⟨kp, hkp, h408, haz, h9⟩, h10, h11, h12⟩ := h
  have n8 := hw.2.1
  refine ⟨⟨fun j hj => ?_, hd⟩, ⟨fun j hj => ?_, hes⟩, ⟨fun j hj => ?_, hfs⟩, fun j hj => ?_, fun j hj => ?_, fun j hj => ?_, fun j hj => ?_, ⟨hw, hP, hz, fun p a hp => ?_⟩, ⟨kp, hkp, h408, haz, fun b hb => ?_⟩, h10, h11, h12⟩
  · exact (cpy_in (n := 180) 180 (by decide) hj).trans (h1 j hj)
  · exact (cpy_in (n := 6) 6 (by decide) hj).trans (h2 j hj)
  · exact (cpy_in (n := 6) 6 (by decide) hj).trans (h3 j hj)
  · exact (cpy_in (n := 6) 6 (by decide) hj).trans (h4 j hj)
  · exact (cpy_in (n := 6) 6 (by decide) hj).trans (h5 j hj)
  · exact (cpy_in (n := 6) 6 (by decide) hj).trans (h6 j hj)
  · exact (cpy_in (n := 30) 30 (by decide) hj).trans (h7 j hj)
  · have ha : a < n := (hP.2 a).mp (List.mem_of_getElem? hp)
    have hpn : p < n := by have := (List.getElem?_eq_some_iff.mp hp).1; rw [hP.len (ahW_asy s)] at this; exact this
    have hc12 := (hw.cnt ha).2.2
    obtain ⟨x1, x2, x3⟩ := h8 p a hp
    exact ⟨(cpy_in (n := 8) 8 (by decide) (by omega)).trans x1, (cpy_in (n := 8) 8 (by decide) (by omega)).trans x2, fun k hk => (cpy_in (n := 96) 96 (by decide) (by omega)).trans (x3 k hk)⟩
  · obtain ⟨M, m1, m2, m3, m4, m5, m6, m7, m8, m9, m10, m11⟩ := h9 b hb
    exact ⟨M, m1, m2, m3, m4, isR_congr (fun j h1 h2 => cpy_in (n := 72) 72 (by decide) (by omega)) m5, (cpy_in (n := 36) 36 (by decide) (by omega)).trans m6, (cpy_in (n := 36) 36 (by decide) (by omega)).trans m7, (cpy_in (n := 36) 36 (by decide) (by omega)).trans m8, (cpy_in (n := 36) 36 (by decide) (by omega)).trans m9, (cpy_in (n := 36) 36 (by decide) (by omega)).trans m10, (cpy_in (n := 36) 36 (by decide) (by omega)).trans m11⟩
-- the model's saved states
theorem cg_f {f : Nat → Int32} {a b : Nat} (h : a = b) : f a = f b := by rw [h]
def SavM (np : Nat) (past s past' : Nat → Int32) : Prop := (∀ k j, k < (if np < 6 then np else 5) → j < 460 → past' (460 * k + j) = past (460 * (if np < 6 then k else k + 1) + j)) ∧ ∀ j, j < 460 → past' (460 * (if np < 6 then np else 5) + j) = s j
theorem sav_1 (s : Nat → Int32) (p0 : Nat → Int32) (np : Int32) : ∀ (k i : Nat) (past : Nat → Int32) (fu : Nat), i + k = 2300 → k < fu → (∀ j, past j = if j < i then p0 (460 + j) else p0 j) → ∃ past' fu', rX9_saves s fu 1 (nI i) np past = rX9_saves s fu' 2 (nI 0) (np - nI 1) past' ∧ (∀ j, past' j = if j < 2300 then p0 (460 + j) else p0 j) ∧ fu = fu' + k + 1 := by
  intro k
  induction k with
  | zero =>
    intro i past fu hi hf h
    obtain ⟨fu, rfl⟩ := fuS hf
    obtain rfl : i = 2300 := by omega
    refine ⟨past, fu, ?_, h, by omega⟩
    simp (disch := first | omega | assumption) only [↓z_m1, li_0, li_1, li_2, li_3, li_4, li_5, li_6, li_7, li_8, li_9, li_10, li_11, li_12, li_13, li_14, li_15, li_16, li_17, li_18, li_19, li_20, li_21, li_22, li_23, li_24, li_25, li_26, li_27, li_28, li_29, li_30, li_31, li_32, li_33, li_34, li_35, li_36, li_37, li_38, li_39, li_40, li_41, li_42, li_43, li_44, li_45, li_46, li_47, li_48, li_49, li_50, li_51, li_52, li_53, li_54, li_55, li_56, li_57, li_58, li_59, li_60, li_61, li_62, li_63, li_64, li_65, li_66, li_67, li_68, li_69, li_70, li_71, li_72, li_73, li_74, li_75, li_76, li_77, li_78, li_79, li_80, li_81, li_82, li_83, li_84, li_85, li_86, li_87, li_88, li_89, li_90, li_91, li_92, li_93, li_94, li_95, li_96, li_97, li_98, li_99, li_100, li_101, li_102, li_103, li_104, li_105, li_106, li_107, li_108, li_109, li_110, li_111, li_112, li_113, li_114, li_115, li_116, li_117, li_118, li_119, li_120, li_121, li_122, li_123, li_124, li_125, li_126, li_127, li_128, li_129, li_130, li_180, li_186, li_192, li_304, li_305, li_306, li_307, li_319, li_320, li_321, li_322, li_408, li_409, li_410, li_416, li_422, li_428, li_458, li_459, li_460, li_2300, li_2760, nI_add, z_m6, z_m12, z_m30, z_l10, z_l12, z_l14, z_l17, z_l30, z_l460, z_sub, z_dec, z_dec0, z_m11, z_cl, z_leT, z_leF, z_ltT, z_ltF, z_eqT, z_eqF, z_em, z_me, z_mlt, z_mle, z_ltm, z_lem, z_mltm, z_mlem, z_nleT, z_nleF, z_nltT, z_nltF, or_false, or_self, false_or, or_true, true_or, not_true_eq_false, not_false_eq_true, ↓reduceIte, lt, z_ob, Nat.zero_add, Nat.add_zero, sp_X9_saves_1, bX9_saves_1]
  | succ k ih =>
    intro i past fu hi hf h
    obtain ⟨fu, rfl⟩ := fuS hf
    have h1 := h (460 + i)
    rw [if_neg (by omega)] at h1
    obtain ⟨past', fu', e1, e2, e3⟩ := ih (i + 1) (upd past i (p0 (460 + i))) fu (by omega) (by omega) (fun j => by
      by_cases e : j = i
      · rw [e, pk_us, if_pos (by omega)]
      · rw [pk_un e, h j]
        by_cases e2 : j < i
        · rw [if_pos e2, if_pos (by omega)]
        · rw [if_neg e2, if_neg (by omega)])
    refine ⟨past', fu', ?_, e2, by omega⟩
    rw [← e1, sp_X9_saves_1]
    simp (disch := first | omega | assumption) only [↓z_m1, li_0, li_1, li_2, li_3, li_4, li_5, li_6, li_7, li_8, li_9, li_10, li_11, li_12, li_13, li_14, li_15, li_16, li_17, li_18, li_19, li_20, li_21, li_22, li_23, li_24, li_25, li_26, li_27, li_28, li_29, li_30, li_31, li_32, li_33, li_34, li_35, li_36, li_37, li_38, li_39, li_40, li_41, li_42, li_43, li_44, li_45, li_46, li_47, li_48, li_49, li_50, li_51, li_52, li_53, li_54, li_55, li_56, li_57, li_58, li_59, li_60, li_61, li_62, li_63, li_64, li_65, li_66, li_67, li_68, li_69, li_70, li_71, li_72, li_73, li_74, li_75, li_76, li_77, li_78, li_79, li_80, li_81, li_82, li_83, li_84, li_85, li_86, li_87, li_88, li_89, li_90, li_91, li_92, li_93, li_94, li_95, li_96, li_97, li_98, li_99, li_100, li_101, li_102, li_103, li_104, li_105, li_106, li_107, li_108, li_109, li_110, li_111, li_112, li_113, li_114, li_115, li_116, li_117, li_118, li_119, li_120, li_121, li_122, li_123, li_124, li_125, li_126, li_127, li_128, li_129, li_130, li_180, li_186, li_192, li_304, li_305, li_306, li_307, li_319, li_320, li_321, li_322, li_408, li_409, li_410, li_416, li_422, li_428, li_458, li_459, li_460, li_2300, li_2760, nI_add, z_m6, z_m12, z_m30, z_l10, z_l12, z_l14, z_l17, z_l30, z_l460, z_sub, z_dec, z_dec0, z_m11, z_cl, z_leT, z_leF, z_ltT, z_ltF, z_eqT, z_eqF, z_em, z_me, z_mlt, z_mle, z_ltm, z_lem, z_mltm, z_mlem, z_nleT, z_nleF, z_nltT, z_nltF, or_false, or_self, false_or, or_true, true_or, not_true_eq_false, not_false_eq_true, ↓reduceIte, lt, z_ob, Nat.zero_add, Nat.add_zero, bX9_saves_1, h1]
theorem sav_2 (s : Nat → Int32) (p0 : Nat → Int32) {np : Nat} (hnp : np ≤ 5) : ∀ (k i : Nat) (past : Nat → Int32) (fu : Nat), i + k = 460 → k < fu → (∀ j, past j = if 460 * np ≤ j ∧ j < 460 * np + i then s (j - 460 * np) else p0 j) → ∃ past', rX9_saves s fu 2 (nI i) (nI np) past = some (nI (np + 1), past') ∧ (∀ j, past' j = if 460 * np ≤ j ∧ j < 460 * np + 460 then s (j - 460 * np) else p0 j) := by
  intro k
  induction k with
  | zero =>
    intro i past fu hi hf h
    obtain ⟨fu, rfl⟩ := fuS hf
    obtain rfl : i = 460 := by omega
    refine ⟨past, ?_, h⟩
    simp (disch := first | omega | assumption) only [↓z_m1, li_0, li_1, li_2, li_3, li_4, li_5, li_6, li_7, li_8, li_9, li_10, li_11, li_12, li_13, li_14, li_15, li_16, li_17, li_18, li_19, li_20, li_21, li_22, li_23, li_24, li_25, li_26, li_27, li_28, li_29, li_30, li_31, li_32, li_33, li_34, li_35, li_36, li_37, li_38, li_39, li_40, li_41, li_42, li_43, li_44, li_45, li_46, li_47, li_48, li_49, li_50, li_51, li_52, li_53, li_54, li_55, li_56, li_57, li_58, li_59, li_60, li_61, li_62, li_63, li_64, li_65, li_66, li_67, li_68, li_69, li_70, li_71, li_72, li_73, li_74, li_75, li_76, li_77, li_78, li_79, li_80, li_81, li_82, li_83, li_84, li_85, li_86, li_87, li_88, li_89, li_90, li_91, li_92, li_93, li_94, li_95, li_96, li_97, li_98, li_99, li_100, li_101, li_102, li_103, li_104, li_105, li_106, li_107, li_108, li_109, li_110, li_111, li_112, li_113, li_114, li_115, li_116, li_117, li_118, li_119, li_120, li_121, li_122, li_123, li_124, li_125, li_126, li_127, li_128, li_129, li_130, li_180, li_186, li_192, li_304, li_305, li_306, li_307, li_319, li_320, li_321, li_322, li_408, li_409, li_410, li_416, li_422, li_428, li_458, li_459, li_460, li_2300, li_2760, nI_add, z_m6, z_m12, z_m30, z_l10, z_l12, z_l14, z_l17, z_l30, z_l460, z_sub, z_dec, z_dec0, z_m11, z_cl, z_leT, z_leF, z_ltT, z_ltF, z_eqT, z_eqF, z_em, z_me, z_mlt, z_mle, z_ltm, z_lem, z_mltm, z_mlem, z_nleT, z_nleF, z_nltT, z_nltF, or_false, or_self, false_or, or_true, true_or, not_true_eq_false, not_false_eq_true, ↓reduceIte, lt, z_ob, Nat.zero_add, Nat.add_zero, sp_X9_saves_2, bX9_saves_2]
  | succ k ih =>
    intro i past fu hi hf h
    obtain ⟨fu, rfl⟩ := fuS hf
    obtain ⟨past', e1, e2⟩ := ih (i + 1) (upd past (460 * np + i) (s i)) fu (by omega) (by omega) (fun j => by
      by_cases e : j = 460 * np + i
      · rw [e, pk_us, if_pos (by omega)]; exact cg_f (by omega)
      · rw [pk_un e, h j]
        by_cases e2 : 460 * np ≤ j ∧ j < 460 * np + i
        · rw [if_pos e2, if_pos (by omega)]
        · rw [if_neg e2, if_neg (by omega)])
    refine ⟨past', ?_, e2⟩
    rw [← e1, sp_X9_saves_2]
    simp (disch := first | omega | assumption) only [↓z_m1, li_0, li_1, li_2, li_3, li_4, li_5, li_6, li_7, li_8, li_9, li_10, li_11, li_12, li_13, li_14, li_15, li_16, li_17, li_18, li_19, li_20, li_21, li_22, li_23, li_24, li_25, li_26, li_27, li_28, li_29, li_30, li_31, li_32, li_33, li_34, li_35, li_36, li_37, li_38, li_39, li_40, li_41, li_42, li_43, li_44, li_45, li_46, li_47, li_48, li_49, li_50, li_51, li_52, li_53, li_54, li_55, li_56, li_57, li_58, li_59, li_60, li_61, li_62, li_63, li_64, li_65, li_66, li_67, li_68, li_69, li_70, li_71, li_72, li_73, li_74, li_75, li_76, li_77, li_78, li_79, li_80, li_81, li_82, li_83, li_84, li_85, li_86, li_87, li_88, li_89, li_90, li_91, li_92, li_93, li_94, li_95, li_96, li_97, li_98, li_99, li_100, li_101, li_102, li_103, li_104, li_105, li_106, li_107, li_108, li_109, li_110, li_111, li_112, li_113, li_114, li_115, li_116, li_117, li_118, li_119, li_120, li_121, li_122, li_123, li_124, li_125, li_126, li_127, li_128, li_129, li_130, li_180, li_186, li_192, li_304, li_305, li_306, li_307, li_319, li_320, li_321, li_322, li_408, li_409, li_410, li_416, li_422, li_428, li_458, li_459, li_460, li_2300, li_2760, nI_add, z_m6, z_m12, z_m30, z_l10, z_l12, z_l14, z_l17, z_l30, z_l460, z_sub, z_dec, z_dec0, z_m11, z_cl, z_leT, z_leF, z_ltT, z_ltF, z_eqT, z_eqF, z_em, z_me, z_mlt, z_mle, z_ltm, z_lem, z_mltm, z_mlem, z_nleT, z_nleF, z_nltT, z_nltF, or_false, or_self, false_or, or_true, true_or, not_true_eq_false, not_false_eq_true, ↓reduceIte, lt, z_ob, Nat.zero_add, Nat.add_zero, bX9_saves_2]
theorem saves_6 (s past : Nat → Int32) (fu : Nat) (hf : 3000 < fu) : ∃ past', rX9_saves s fu 1 (nI 0) (nI 6) past = some (nI 6, past') ∧ SavM 6 past s past' := by
  obtain ⟨p1, fu1, e1, e2, e3⟩ := sav_1 s past (nI 6) 2300 0 past fu (by omega) (by omega) (fun j => by rw [if_neg (by omega)])
  obtain ⟨p2, e4, e5⟩ := sav_2 s p1 (np := 5) (by omega) 460 0 p1 fu1 (by omega) (by omega) (fun j => by rw [if_neg (by omega)])
  refine ⟨p2, e1.trans e4, fun k j hk hj => ?_, fun j hj => ?_⟩
  · rw [if_neg (by omega)] at hk
    rw [if_neg (show ¬ (6 : Nat) < 6 by omega), e5, if_neg (by omega), e2, if_pos (by omega)]
    exact cg_f (by omega)
  · rw [if_neg (show ¬ (6 : Nat) < 6 by omega), e5, if_pos (by omega)]
    exact cg_f (by omega)
theorem saves_5 (s past : Nat → Int32) {np : Nat} (hnp : np ≤ 5) (fu : Nat) (hf : 3000 < fu) : ∃ past', rX9_saves s fu 2 (nI 0) (nI np) past = some (nI (np + 1), past') ∧ SavM np past s past' := by
  obtain ⟨p2, e4, e5⟩ := sav_2 s past (np := np) (by omega) 460 0 past fu (by omega) (by omega) (fun j => by rw [if_neg (by omega)])
  refine ⟨p2, e4, fun k j hk hj => ?_, fun j hj => ?_⟩
  · rw [if_pos (show np < 6 by omega)] at hk
    rw [if_pos (show np < 6 by omega), e5, if_neg (by omega)]
  · rw [if_pos (show np < 6 by omega), e5, if_pos (by omega)]
    exact cg_f (by omega)
theorem saves_M (s past : Nat → Int32) {np : Nat} (hnp : np ≤ 6) : ∃ past', fX9_saves (nI np) s past = some (nI (if np < 6 then np + 1 else 6), past') ∧ SavM np past s past' := by
  unfold fX9_saves eX9_saves
  by_cases e : np = 6
  · obtain ⟨p2, e1, e2⟩ := saves_6 s past fuelN (Nat.le_of_ble_eq_true rfl)
    refine ⟨p2, ?_, by rw [e]; exact e2⟩
    rw [e, if_neg (show ¬ (6 : Nat) < 6 by omega), if_pos (show nI 6 = (6 : Int32) from rfl)]
    exact e1
  · obtain ⟨p2, e1, e2⟩ := saves_5 s past (np := np) (by omega) fuelN (Nat.le_of_ble_eq_true rfl)
    refine ⟨p2, ?_, e2⟩
    rw [if_pos (show np < 6 by omega), if_neg (show ¬ nI np = (6 : Int32) from fun h => e ((nI_eq (by omega) (by omega)).mp h))]
    exact e1
/-- the saved states of both sides -/
def HR (bs : List Blk) (np K : Nat) (past : Nat → Int32) : Prop := np ≤ 6 ∧ np ≤ bs.length ∧ bs.length ≤ 6 ∧ ∀ k, k < np → ∃ b n P, bs[k]? = some b ∧ CV (fun j => past (460 * k + j)) n K P b.2
theorem HR.mono {bs : List Blk} {np K K' : Nat} {past : Nat → Int32} (hK : K ≤ K') (h : HR bs np K past) : HR bs np K' past := by
  refine ⟨h.1, h.2.1, h.2.2.1, fun k hk => ?_⟩
  obtain ⟨b, n, P, e1, e2⟩ := h.2.2.2 k hk
  exact ⟨b, n, P, e1, CR.cong (fun _ _ => rfl) hK e2⟩
theorem HR.save {bs bs' : List Blk} {np n K : Nat} {P : List Nat} {past past' s : Nat → Int32} {v : Nat → Nat → Int32} (h : HR bs np K past) (hv : CV s n K P v) (hs : SaveR np bs v bs') (hm : SavM np past s past') : HR bs' (if np < 6 then np + 1 else 6) K past' := by
  obtain ⟨q1, q2, q3, q4⟩ := h
  obtain ⟨m1, m2⟩ := hm
  rcases hs with ⟨h6, hr⟩ | ⟨h6, g1, g2, a, w, g3⟩
  · rw [if_pos h6] at m1 m2 ⊢
    obtain ⟨r2, r1, r3, a, w, r4⟩ := hr
    refine ⟨by omega, r1, r2, fun k hk => ?_⟩
    by_cases e : k = np
    · subst e
      exact ⟨_, n, P, r4, CR.cong (fun j hj => m2 j hj) (Nat.le_refl _) (CV.copy w hv)⟩
    · obtain ⟨b, n2, P2, e1, e2⟩ := q4 k (by omega)
      refine ⟨b, n2, P2, (r3 k (by omega)).trans e1, CR.cong (fun j hj => ?_) (Nat.le_refl _) e2⟩
      have := m1 k j (by omega) hj
      rw [if_pos h6] at this
      exact this
  · subst h6
    rw [if_neg (by omega)] at m1 m2 ⊢
    refine ⟨by omega, by omega, by omega, fun k hk => ?_⟩
    by_cases e : k = 5
    · subst e
      exact ⟨_, n, P, g3, CR.cong (fun j hj => m2 j hj) (Nat.le_refl _) (CV.copy w hv)⟩
    · obtain ⟨b, n2, P2, e1, e2⟩ := q4 (k + 1) (by omega)
      refine ⟨b, n2, P2, (g2 k (by omega)).trans e1, CR.cong (fun j hj => ?_) (Nat.le_refl _) e2⟩
      have := m1 k j (by omega) hj
      rw [if_neg (by omega)] at this
      exact this

-- pure: all of it hangs together
section HZ
variable {aM : Int32 → Int32 → Int32 → Option Int32} {aL : Int32 → Int32 → Option Int32} {aC : Int32 → Option Int32} {aW aA aT aO : Int32 → Int32 → Option Int32} {aS : Int32 → Option Int32} {aG : Int32 → Int32 → Option Int32} {vsh : UInt64} {vcs vwo : Int32} {s : Nat → Int32} {P : List Nat} {n : Nat}
/-- what a link asks for one that waits is a small number -/
theorem pay_n (hfs : Sets s 186) {a : Nat} (hc : cntN s a ≤ 12) {l : Nat} (hl : l < 6) : ∃ y, y ≤ 108 ∧ payN s (eaM s 6) (senN s a) l = nI y := by
  obtain ⟨e, he, h1⟩ := hfs l hl
  have h2 := ch_len s (eaM s 6) (senN s a) (l + 1)
  rw [sen_len] at h2
  refine ⟨(chN s (eaM s 6) (senN s a) (l + 1)).length * e, Nat.le_trans (Nat.mul_le_mul (show _ ≤ 12 by omega) (show e ≤ 9 by omega)) (by decide), ?_⟩
  show nI (chN s (eaM s 6) (senN s a) (l + 1)).length * s (186 + l) = _
  rw [h1, pk_mul]
/-- what sending it costs -/
theorem cost_n (hfs : Sets s 186) {a : Nat} (hc : cntN s a ≤ 12) : ∃ c y, c ≤ 648 ∧ costN s a = nI c ∧ payN s (eaM s 6) (senN s a) 0 = nI y ∧ y ≤ c := by
  obtain ⟨y0, a0, b0⟩ := pay_n hfs hc (show 0 < 6 by omega)
  obtain ⟨y1, a1, b1⟩ := pay_n hfs hc (show 1 < 6 by omega)
  obtain ⟨y2, a2, b2⟩ := pay_n hfs hc (show 2 < 6 by omega)
  obtain ⟨y3, a3, b3⟩ := pay_n hfs hc (show 3 < 6 by omega)
  obtain ⟨y4, a4, b4⟩ := pay_n hfs hc (show 4 < 6 by omega)
  obtain ⟨y5, a5, b5⟩ := pay_n hfs hc (show 5 < 6 by omega)
  refine ⟨0 + y0 + y1 + y2 + y3 + y4 + y5, y0, by omega, ?_, b0, by omega⟩
  show nI 0 + payN s (eaM s 6) (senN s a) 0 + payN s (eaM s 6) (senN s a) 1 + payN s (eaM s 6) (senN s a) 2 + payN s (eaM s 6) (senN s a) 3 + payN s (eaM s 6) (senN s a) 4 + payN s (eaM s 6) (senN s a) 5 = _
  rw [b0, b1, b2, b3, b4, b5, nI_add, nI_add, nI_add, nI_add, nI_add, nI_add]
/-- the costs of all that wait -/
theorem costs_n (hfs : Sets s 186) : ∀ (L : List Nat) (c0 : Nat), (∀ a, a ∈ L → cntN s a ≤ 12) → ∃ c, L.foldl (fun x b => x + costN s b) (nI c0) = nI c ∧ c0 ≤ c ∧ c ≤ c0 + 648 * L.length
  | [], c0, _ => ⟨c0, rfl, Nat.le_refl _, Nat.le_add_right _ _⟩
  | a :: L, c0, h => by
    obtain ⟨c, y, h1, h2, -, -⟩ := cost_n hfs (h a List.mem_cons_self)
    obtain ⟨d, d1, d2, d3⟩ := costs_n hfs L (c0 + c) (fun b hb => h b (List.mem_cons_of_mem _ hb))
    refine ⟨d, ?_, by omega, by rw [List.length_cons]; omega⟩
    show L.foldl (fun x b => x + costN s b) (nI c0 + costN s a) = nI d
    rw [h2, nI_add]
    exact d1
/-- the sums -/
theorem hg_20 {sb : UInt64} {g q kp sm : Nat} {x1 x2 st sw : Int32} (hg : g ≤ 128) (hq : q ≤ g) (hkg : kp = (if g < 6 then g else 6)) (n8 : n ≤ 8) (hsm : sm ≤ 12 * q) (k1 : aC (nI 1) = some (nI g)) (k3 : aC (nI 3) = some (nI q)) (k4 : aC (nI 4) = some x1) (k5 : aC (nI 5) = some x2) (kw : aW (nI n) (nI 0) = some mI) (h0 : aS (nI 0) = some st) (h1 : aS (nI 1) = some sw) (fu : Nat) :
    rL_hangs aM aL aC aW aA aT aO aS aG vsh vcs vwo (fu + 1) 20 x1 x2 (nI q) (nI 1) (nI n) (nI 0) (nI kp) (nI sm) (nI 0) (nI 0) (nI 0) (nI 0) (nI 0) (nI 0) (nI 0) 0 0 = rL_hangs aM aL aC aW aA aT aO aS aG vsh vcs vwo fu 21 (nI 0) (nI 0) (nI q) (nI 0) (nI n) (nI 0) (nI 0) (nI 0) (nI 0) (nI 0) st sw (nI g) (nI kp) (nI kp) 0 0 := by
  rw [sp_L_hangs_20]
  by_cases e : g < 6
  · rw [if_pos e] at hkg
    subst hkg
    simp (disch := first | omega | assumption) only [↓z_m1, li_0, li_1, li_2, li_3, li_4, li_5, li_6, li_7, li_8, li_9, li_10, li_11, li_12, li_13, li_14, li_15, li_16, li_17, li_18, li_19, li_20, li_21, li_22, li_23, li_24, li_25, li_26, li_27, li_28, li_29, li_30, li_31, li_32, li_33, li_34, li_35, li_36, li_37, li_38, li_39, li_40, li_41, li_42, li_43, li_44, li_45, li_46, li_47, li_48, li_49, li_50, li_51, li_52, li_53, li_54, li_55, li_56, li_57, li_58, li_59, li_60, li_61, li_62, li_63, li_64, li_65, li_66, li_67, li_68, li_69, li_70, li_71, li_72, li_73, li_74, li_75, li_76, li_77, li_78, li_79, li_80, li_81, li_82, li_83, li_84, li_85, li_86, li_87, li_88, li_89, li_90, li_91, li_92, li_93, li_94, li_95, li_96, li_97, li_98, li_99, li_100, li_101, li_102, li_103, li_104, li_105, li_106, li_107, li_108, li_109, li_110, li_111, li_112, li_113, li_114, li_115, li_116, li_117, li_118, li_119, li_120, li_121, li_122, li_123, li_124, li_125, li_126, li_127, li_128, li_129, li_130, li_180, li_186, li_192, li_304, li_305, li_306, li_307, li_319, li_320, li_321, li_322, li_408, li_409, li_410, li_416, li_422, li_428, li_458, li_459, li_460, li_2300, li_2760, nI_add, z_m6, z_m12, z_m30, z_l10, z_l12, z_l14, z_l17, z_l30, z_l460, z_sub, z_dec, z_dec0, z_m11, z_cl, z_leT, z_leF, z_ltT, z_ltF, z_eqT, z_eqF, z_em, z_me, z_mlt, z_mle, z_ltm, z_lem, z_mltm, z_mlem, z_nleT, z_nleF, z_nltT, z_nltF, or_false, or_self, false_or, or_true, true_or, not_true_eq_false, not_false_eq_true, ↓reduceIte, lt, z_ob, Nat.zero_add, Nat.add_zero, bL_hangs_20, h0, h1, k1, k3, k4, k5, kw, eq_self]
  · rw [if_neg e] at hkg
    subst hkg
    simp (disch := first | omega | assumption) only [↓z_m1, li_0, li_1, li_2, li_3, li_4, li_5, li_6, li_7, li_8, li_9, li_10, li_11, li_12, li_13, li_14, li_15, li_16, li_17, li_18, li_19, li_20, li_21, li_22, li_23, li_24, li_25, li_26, li_27, li_28, li_29, li_30, li_31, li_32, li_33, li_34, li_35, li_36, li_37, li_38, li_39, li_40, li_41, li_42, li_43, li_44, li_45, li_46, li_47, li_48, li_49, li_50, li_51, li_52, li_53, li_54, li_55, li_56, li_57, li_58, li_59, li_60, li_61, li_62, li_63, li_64, li_65, li_66, li_67, li_68, li_69, li_70, li_71, li_72, li_73, li_74, li_75, li_76, li_77, li_78, li_79, li_80, li_81, li_82, li_83, li_84, li_85, li_86, li_87, li_88, li_89, li_90, li_91, li_92, li_93, li_94, li_95, li_96, li_97, li_98, li_99, li_100, li_101, li_102, li_103, li_104, li_105, li_106, li_107, li_108, li_109, li_110, li_111, li_112, li_113, li_114, li_115, li_116, li_117, li_118, li_119, li_120, li_121, li_122, li_123, li_124, li_125, li_126, li_127, li_128, li_129, li_130, li_180, li_186, li_192, li_304, li_305, li_306, li_307, li_319, li_320, li_321, li_322, li_408, li_409, li_410, li_416, li_422, li_428, li_458, li_459, li_460, li_2300, li_2760, nI_add, z_m6, z_m12, z_m30, z_l10, z_l12, z_l14, z_l17, z_l30, z_l460, z_sub, z_dec, z_dec0, z_m11, z_cl, z_leT, z_leF, z_ltT, z_ltF, z_eqT, z_eqF, z_em, z_me, z_mlt, z_mle, z_ltm, z_lem, z_mltm, z_mlem, z_nleT, z_nleF, z_nltT, z_nltF, or_false, or_self, false_or, or_true, true_or, not_true_eq_false, not_false_eq_true, ↓reduceIte, lt, z_ob, Nat.zero_add, Nat.add_zero, bL_hangs_20, h0, h1, k1, k3, k4, k5, kw, eq_self]
/-- the stop, and why -/
theorem hg_21 {g q kp : Nat} {st sw : Int32} (hg : g ≤ 128) (hq : q ≤ g) (hs : (st = mI ∧ sw = mI) ∨ ∃ k j, k < 1000 ∧ st = nI k ∧ sw = nI j ∧ 1 ≤ j ∧ j ≤ 2) (fu : Nat) :
    ∃ z, z ≤ 1 ∧ rL_hangs aM aL aC aW aA aT aO aS aG vsh vcs vwo (fu + 1 + 1) 21 (nI 0) (nI 0) (nI q) (nI 0) (nI n) (nI 0) (nI 0) (nI 0) (nI 0) (nI 0) st sw (nI g) (nI kp) (nI kp) 0 0 = rL_hangs aM aL aC aW aA aT aO aS aG vsh vcs vwo fu 23 (nI 0) (nI 0) (nI q) (nI 0) (nI n) (nI 0) (nI 0) (nI 0) (nI 0) (nI 0) (nI 0) sw (nI g) (nI z) (nI z) 0 0 := by
  rcases hs with ⟨rfl, rfl⟩ | ⟨k, j, hk, rfl, rfl, hj1, hj2⟩
  · refine ⟨1, by omega, ?_⟩
    rw [sp_L_hangs_21]
    simp (disch := first | omega | assumption) only [↓z_m1, li_0, li_1, li_2, li_3, li_4, li_5, li_6, li_7, li_8, li_9, li_10, li_11, li_12, li_13, li_14, li_15, li_16, li_17, li_18, li_19, li_20, li_21, li_22, li_23, li_24, li_25, li_26, li_27, li_28, li_29, li_30, li_31, li_32, li_33, li_34, li_35, li_36, li_37, li_38, li_39, li_40, li_41, li_42, li_43, li_44, li_45, li_46, li_47, li_48, li_49, li_50, li_51, li_52, li_53, li_54, li_55, li_56, li_57, li_58, li_59, li_60, li_61, li_62, li_63, li_64, li_65, li_66, li_67, li_68, li_69, li_70, li_71, li_72, li_73, li_74, li_75, li_76, li_77, li_78, li_79, li_80, li_81, li_82, li_83, li_84, li_85, li_86, li_87, li_88, li_89, li_90, li_91, li_92, li_93, li_94, li_95, li_96, li_97, li_98, li_99, li_100, li_101, li_102, li_103, li_104, li_105, li_106, li_107, li_108, li_109, li_110, li_111, li_112, li_113, li_114, li_115, li_116, li_117, li_118, li_119, li_120, li_121, li_122, li_123, li_124, li_125, li_126, li_127, li_128, li_129, li_130, li_180, li_186, li_192, li_304, li_305, li_306, li_307, li_319, li_320, li_321, li_322, li_408, li_409, li_410, li_416, li_422, li_428, li_458, li_459, li_460, li_2300, li_2760, nI_add, z_m6, z_m12, z_m30, z_l10, z_l12, z_l14, z_l17, z_l30, z_l460, z_sub, z_dec, z_dec0, z_m11, z_cl, z_leT, z_leF, z_ltT, z_ltF, z_eqT, z_eqF, z_em, z_me, z_mlt, z_mle, z_ltm, z_lem, z_mltm, z_mlem, z_nleT, z_nleF, z_nltT, z_nltF, or_false, or_self, false_or, or_true, true_or, not_true_eq_false, not_false_eq_true, ↓reduceIte, lt, z_ob, Nat.zero_add, Nat.add_zero, bL_hangs_21, eq_self]
    rw [sp_L_hangs_22]
    simp (disch := first | omega | assumption) only [↓z_m1, li_0, li_1, li_2, li_3, li_4, li_5, li_6, li_7, li_8, li_9, li_10, li_11, li_12, li_13, li_14, li_15, li_16, li_17, li_18, li_19, li_20, li_21, li_22, li_23, li_24, li_25, li_26, li_27, li_28, li_29, li_30, li_31, li_32, li_33, li_34, li_35, li_36, li_37, li_38, li_39, li_40, li_41, li_42, li_43, li_44, li_45, li_46, li_47, li_48, li_49, li_50, li_51, li_52, li_53, li_54, li_55, li_56, li_57, li_58, li_59, li_60, li_61, li_62, li_63, li_64, li_65, li_66, li_67, li_68, li_69, li_70, li_71, li_72, li_73, li_74, li_75, li_76, li_77, li_78, li_79, li_80, li_81, li_82, li_83, li_84, li_85, li_86, li_87, li_88, li_89, li_90, li_91, li_92, li_93, li_94, li_95, li_96, li_97, li_98, li_99, li_100, li_101, li_102, li_103, li_104, li_105, li_106, li_107, li_108, li_109, li_110, li_111, li_112, li_113, li_114, li_115, li_116, li_117, li_118, li_119, li_120, li_121, li_122, li_123, li_124, li_125, li_126, li_127, li_128, li_129, li_130, li_180, li_186, li_192, li_304, li_305, li_306, li_307, li_319, li_320, li_321, li_322, li_408, li_409, li_410, li_416, li_422, li_428, li_458, li_459, li_460, li_2300, li_2760, nI_add, z_m6, z_m12, z_m30, z_l10, z_l12, z_l14, z_l17, z_l30, z_l460, z_sub, z_dec, z_dec0, z_m11, z_cl, z_leT, z_leF, z_ltT, z_ltF, z_eqT, z_eqF, z_em, z_me, z_mlt, z_mle, z_ltm, z_lem, z_mltm, z_mlem, z_nleT, z_nleF, z_nltT, z_nltF, or_false, or_self, false_or, or_true, true_or, not_true_eq_false, not_false_eq_true, ↓reduceIte, lt, z_ob, Nat.zero_add, Nat.add_zero, bL_hangs_22, eq_self]
  · refine ⟨0, by omega, ?_⟩
    rw [sp_L_hangs_21]
    simp (disch := first | omega | assumption) only [↓z_m1, li_0, li_1, li_2, li_3, li_4, li_5, li_6, li_7, li_8, li_9, li_10, li_11, li_12, li_13, li_14, li_15, li_16, li_17, li_18, li_19, li_20, li_21, li_22, li_23, li_24, li_25, li_26, li_27, li_28, li_29, li_30, li_31, li_32, li_33, li_34, li_35, li_36, li_37, li_38, li_39, li_40, li_41, li_42, li_43, li_44, li_45, li_46, li_47, li_48, li_49, li_50, li_51, li_52, li_53, li_54, li_55, li_56, li_57, li_58, li_59, li_60, li_61, li_62, li_63, li_64, li_65, li_66, li_67, li_68, li_69, li_70, li_71, li_72, li_73, li_74, li_75, li_76, li_77, li_78, li_79, li_80, li_81, li_82, li_83, li_84, li_85, li_86, li_87, li_88, li_89, li_90, li_91, li_92, li_93, li_94, li_95, li_96, li_97, li_98, li_99, li_100, li_101, li_102, li_103, li_104, li_105, li_106, li_107, li_108, li_109, li_110, li_111, li_112, li_113, li_114, li_115, li_116, li_117, li_118, li_119, li_120, li_121, li_122, li_123, li_124, li_125, li_126, li_127, li_128, li_129, li_130, li_180, li_186, li_192, li_304, li_305, li_306, li_307, li_319, li_320, li_321, li_322, li_408, li_409, li_410, li_416, li_422, li_428, li_458, li_459, li_460, li_2300, li_2760, nI_add, z_m6, z_m12, z_m30, z_l10, z_l12, z_l14, z_l17, z_l30, z_l460, z_sub, z_dec, z_dec0, z_m11, z_cl, z_leT, z_leF, z_ltT, z_ltF, z_eqT, z_eqF, z_em, z_me, z_mlt, z_mle, z_ltm, z_lem, z_mltm, z_mlem, z_nleT, z_nleF, z_nltT, z_nltF, or_false, or_self, false_or, or_true, true_or, not_true_eq_false, not_false_eq_true, ↓reduceIte, lt, z_ob, Nat.zero_add, Nat.add_zero, bL_hangs_21, eq_self]
    rw [sp_L_hangs_22]
    simp (disch := first | omega | assumption) only [↓z_m1, li_0, li_1, li_2, li_3, li_4, li_5, li_6, li_7, li_8, li_9, li_10, li_11, li_12, li_13, li_14, li_15, li_16, li_17, li_18, li_19, li_20, li_21, li_22, li_23, li_24, li_25, li_26, li_27, li_28, li_29, li_30, li_31, li_32, li_33, li_34, li_35, li_36, li_37, li_38, li_39, li_40, li_41, li_42, li_43, li_44, li_45, li_46, li_47, li_48, li_49, li_50, li_51, li_52, li_53, li_54, li_55, li_56, li_57, li_58, li_59, li_60, li_61, li_62, li_63, li_64, li_65, li_66, li_67, li_68, li_69, li_70, li_71, li_72, li_73, li_74, li_75, li_76, li_77, li_78, li_79, li_80, li_81, li_82, li_83, li_84, li_85, li_86, li_87, li_88, li_89, li_90, li_91, li_92, li_93, li_94, li_95, li_96, li_97, li_98, li_99, li_100, li_101, li_102, li_103, li_104, li_105, li_106, li_107, li_108, li_109, li_110, li_111, li_112, li_113, li_114, li_115, li_116, li_117, li_118, li_119, li_120, li_121, li_122, li_123, li_124, li_125, li_126, li_127, li_128, li_129, li_130, li_180, li_186, li_192, li_304, li_305, li_306, li_307, li_319, li_320, li_321, li_322, li_408, li_409, li_410, li_416, li_422, li_428, li_458, li_459, li_460, li_2300, li_2760, nI_add, z_m6, z_m12, z_m30, z_l10, z_l12, z_l14, z_l17, z_l30, z_l460, z_sub, z_dec, z_dec0, z_m11, z_cl, z_leT, z_leF, z_ltT, z_ltF, z_eqT, z_eqF, z_em, z_me, z_mlt, z_mle, z_ltm, z_lem, z_mltm, z_mlem, z_nleT, z_nleF, z_nltT, z_nltF, or_false, or_self, false_or, or_true, true_or, not_true_eq_false, not_false_eq_true, ↓reduceIte, lt, z_ob, Nat.zero_add, Nat.add_zero, bL_hangs_22, eq_self]
/-- the share of those that came through -/
theorem hg_23 {g q z : Nat} {sw : Int32} (hg : g ≤ 128) (hq : q ≤ g) (hz : z ≤ 1) (hs : sw = mI ∨ ∃ j, sw = nI j ∧ 1 ≤ j ∧ j ≤ 2) (hsh : vsh = if nI g = nI 0 then FP.dconst1 else FP.ddiv (FP.i2d (nI g - nI q)) (FP.i2d (nI g))) (fu : Nat) :
    rL_hangs aM aL aC aW aA aT aO aS aG vsh vcs vwo (fu + 1) 23 (nI 0) (nI 0) (nI q) (nI 0) (nI n) (nI 0) (nI 0) (nI 0) (nI 0) (nI 0) (nI 0) sw (nI g) (nI z) (nI z) 0 0 = rL_hangs aM aL aC aW aA aT aO aS aG vsh vcs vwo fu 24 (nI 0) (nI 0) (nI 0) (nI 0) (nI n) (nI 0) (nI 0) (nI 0) (nI 0) (nI 0) (nI 0) (nI 0) (nI 0) (nI 0) (nI 0) vsh vsh ∧ Op.cmpValue (FP.dcmp vsh vsh) .l = 0 := by
  have h1 : ¬ (3 : Int32) ≤ sw := by
    rcases hs with rfl | ⟨j, rfl, j1, j2⟩
    · decide
    · rw [li_3, z_le (by omega) (by omega)]; omega
  have h2 : ¬ sw = (0 : Int32) := by
    rcases hs with rfl | ⟨j, rfl, j1, j2⟩
    · decide
    · exact nI_ne0 (by omega) (by omega)
  by_cases e : g = 0
  · subst e
    rw [if_pos rfl] at hsh
    refine ⟨?_, by rw [hsh]; exact one_ok.2⟩
    rw [sp_L_hangs_23]
    unfold bL_hangs_23
    rw [if_pos rfl, if_neg h1, if_neg h2, if_pos (show nI 0 = (0 : Int32) from rfl), ← hsh]
    rfl
  · have hne : ¬ nI g = (0 : Int32) := nI_ne0 (by omega) (by omega)
    obtain ⟨o1, o2, o3⟩ := share_ok (a := g - q) (b := g) (by omega) (by omega) (by omega)
    have o1' : FP.ddiv (FP.i2d (nI (g - q))) (FP.i2d (nI g)) &&& 0x7fffffffffffffff ≤ 0x7ff0000000000000 := o1
    rw [if_neg (show ¬ nI g = nI 0 from hne), pk_sub hq] at hsh
    refine ⟨?_, by rw [hsh]; exact o3⟩
    rw [sp_L_hangs_23]
    unfold bL_hangs_23
    rw [if_pos rfl, if_neg h1, if_neg h2, if_neg hne, pk_sub hq, if_neg (fun h => h o1'), ← hsh]
    rfl
/-- what waits -/
theorem hg_24 (hfs : Sets s 186) (hw : Wt s n) (hP : Srt (ahW s) n P) (HW : ∀ p k, p < 1000 → k < 3 → aW (nI p) (nI k) = some (vWait s P p k)) (HG : ∀ i k, i < 6 → k < 4 → aG (nI i) (nI k) = some (vIf s P i k)) (hvcs : vcs = P.foldl (fun x b => x + costN s b) (nI 0)) (hvwo : P = [] → vwo = mI) {D : UInt64} (hD : Op.cmpValue (FP.dcmp D D) .l = 0) (fu : Nat) :
    rL_hangs aM aL aC aW aA aT aO aS aG vsh vcs vwo (fu + 1) 24 (nI 0) (nI 0) (nI 0) (nI 0) (nI n) (nI 0) (nI 0) (nI 0) (nI 0) (nI 0) (nI 0) (nI 0) (nI 0) (nI 0) (nI 0) D D = some (nI 1) := by
  have n8 := hw.2.1
  have hlen := hP.len (ahW_asy s)
  rw [sp_L_hangs_24]
  unfold bL_hangs_24
  rw [if_pos hD]
  cases P with
  | nil =>
    have hn : n = 0 := hlen.symm
    have g1 : aG (nI 3) (nI 1) = some mI := (HG 3 1 (by omega) (by omega)).trans rfl
    have c1 : vcs = nI 0 := hvcs
    rw [hvwo rfl, c1, hn]
    simp (disch := first | omega | assumption) only [↓z_m1, li_0, li_1, li_2, li_3, li_4, li_5, li_6, li_7, li_8, li_9, li_10, li_11, li_12, li_13, li_14, li_15, li_16, li_17, li_18, li_19, li_20, li_21, li_22, li_23, li_24, li_25, li_26, li_27, li_28, li_29, li_30, li_31, li_32, li_33, li_34, li_35, li_36, li_37, li_38, li_39, li_40, li_41, li_42, li_43, li_44, li_45, li_46, li_47, li_48, li_49, li_50, li_51, li_52, li_53, li_54, li_55, li_56, li_57, li_58, li_59, li_60, li_61, li_62, li_63, li_64, li_65, li_66, li_67, li_68, li_69, li_70, li_71, li_72, li_73, li_74, li_75, li_76, li_77, li_78, li_79, li_80, li_81, li_82, li_83, li_84, li_85, li_86, li_87, li_88, li_89, li_90, li_91, li_92, li_93, li_94, li_95, li_96, li_97, li_98, li_99, li_100, li_101, li_102, li_103, li_104, li_105, li_106, li_107, li_108, li_109, li_110, li_111, li_112, li_113, li_114, li_115, li_116, li_117, li_118, li_119, li_120, li_121, li_122, li_123, li_124, li_125, li_126, li_127, li_128, li_129, li_130, li_180, li_186, li_192, li_304, li_305, li_306, li_307, li_319, li_320, li_321, li_322, li_408, li_409, li_410, li_416, li_422, li_428, li_458, li_459, li_460, li_2300, li_2760, nI_add, z_m6, z_m12, z_m30, z_l10, z_l12, z_l14, z_l17, z_l30, z_l460, z_sub, z_dec, z_dec0, z_m11, z_cl, z_leT, z_leF, z_ltT, z_ltF, z_eqT, z_eqF, z_em, z_me, z_mlt, z_mle, z_ltm, z_lem, z_mltm, z_mlem, z_nleT, z_nleF, z_nltT, z_nltF, or_false, or_self, false_or, or_true, true_or, not_true_eq_false, not_false_eq_true, ↓reduceIte, lt, z_ob, Nat.zero_add, Nat.add_zero, g1, eq_self]
  | cons a P =>
    rw [List.length_cons] at hlen
    have ha : a < n := (hP.2 a).mp List.mem_cons_self
    obtain ⟨c1, c2, c3⟩ := hw.cnt ha
    obtain ⟨c, y, d1, d2, d3, d4⟩ := cost_n (a := a) hfs c3
    obtain ⟨d, f1, f2, f3⟩ := costs_n hfs P (0 + c) (fun b hb => (hw.cnt ((hP.2 b).mp (List.mem_cons_of_mem _ hb))).2.2)
    have hv : vcs = nI d := by
      rw [hvcs]
      show P.foldl (fun x b => x + costN s b) (nI 0 + costN s a) = nI d
      rw [d2, nI_add]
      exact f1
    have hl := ch_len s (eaM s 6) (senN s a) (5 + 1)
    rw [sen_len] at hl
    have g1 : aG (nI 5) (nI 0) = some (nI (chN s (eaM s 6) (senN s a) (5 + 1)).length) := (HG 5 0 (by omega) (by omega)).trans rfl
    have g2 : aG (nI 0) (nI 2) = some (nI y) := (HG 0 2 (by omega) (by omega)).trans (by rw [← d3]; rfl)
    have g3 : aW (nI 0) (nI 0) = some (nI (cntN s a)) := (HW 0 0 (by omega) (by omega)).trans (by rw [← c1]; rfl)
    rw [hv]
    generalize (chN s (eaM s 6) (senN s a) (5 + 1)).length = w at hl g1
    generalize cntN s a = v at hl g3 c2 c3
    simp (disch := first | omega | assumption) only [↓z_m1, li_0, li_1, li_2, li_3, li_4, li_5, li_6, li_7, li_8, li_9, li_10, li_11, li_12, li_13, li_14, li_15, li_16, li_17, li_18, li_19, li_20, li_21, li_22, li_23, li_24, li_25, li_26, li_27, li_28, li_29, li_30, li_31, li_32, li_33, li_34, li_35, li_36, li_37, li_38, li_39, li_40, li_41, li_42, li_43, li_44, li_45, li_46, li_47, li_48, li_49, li_50, li_51, li_52, li_53, li_54, li_55, li_56, li_57, li_58, li_59, li_60, li_61, li_62, li_63, li_64, li_65, li_66, li_67, li_68, li_69, li_70, li_71, li_72, li_73, li_74, li_75, li_76, li_77, li_78, li_79, li_80, li_81, li_82, li_83, li_84, li_85, li_86, li_87, li_88, li_89, li_90, li_91, li_92, li_93, li_94, li_95, li_96, li_97, li_98, li_99, li_100, li_101, li_102, li_103, li_104, li_105, li_106, li_107, li_108, li_109, li_110, li_111, li_112, li_113, li_114, li_115, li_116, li_117, li_118, li_119, li_120, li_121, li_122, li_123, li_124, li_125, li_126, li_127, li_128, li_129, li_130, li_180, li_186, li_192, li_304, li_305, li_306, li_307, li_319, li_320, li_321, li_322, li_408, li_409, li_410, li_416, li_422, li_428, li_458, li_459, li_460, li_2300, li_2760, nI_add, z_m6, z_m12, z_m30, z_l10, z_l12, z_l14, z_l17, z_l30, z_l460, z_sub, z_dec, z_dec0, z_m11, z_cl, z_leT, z_leF, z_ltT, z_ltF, z_eqT, z_eqF, z_em, z_me, z_mlt, z_mle, z_ltm, z_lem, z_mltm, z_mlem, z_nleT, z_nleF, z_nltT, z_nltF, or_false, or_self, false_or, or_true, true_or, not_true_eq_false, not_false_eq_true, ↓reduceIte, lt, z_ob, Nat.zero_add, Nat.add_zero, g1, g2, g3]
/-- all of it -/
theorem hangs_1 {K : Nat} {went sp sr : Int32} {mn er fe ms pa lo : Nat → Int32} {wz : Int32} {ww wl wu : Nat → Int32} {az : Int32} {aw af tw : Nat → Int32} (hC : CR s n K P went sp sr mn er fe ms pa lo wz ww wl wu az aw af tw) (hK : K ≤ 512) {npN : Nat} {PL : List Nat} (hPL : Srt (ahL s) 30 PL) (HM : ∀ l w k, l < 6 → w < 30 → k < 3 → aM (nI l) (nI w) (nI k) = some (vMean s l w k)) (HL : ∀ l k, l < 6 → k < 7 → aL (nI l) (nI k) = some (vLink s l k)) (HC : ∀ k, k < 6 → aC (nI k) = some (vCount s npN k)) (HW : ∀ p k, p < 1000 → k < 3 → aW (nI p) (nI k) = some (vWait s P p k)) (HA : ∀ b k, b < 6 → k < 6 → aA (nI b) (nI k) = some (vArrv s b k)) (HT : ∀ b i, b < 6 → i < 1000 → aT (nI b) (nI i) = some (vTold s b i)) (HO : ∀ p a k, PL[p]? = some a → k < 2 → aO (nI p) (nI k) = some (vLost s a k)) (HS : ∀ k, k < 2 → aS (nI k) = some (vStop s k)) (HG : ∀ i k, i < 6 → k < 4 → aG (nI i) (nI k) = some (vIf s P i k)) (hvsh : vsh = shareN s) (hvcs : vcs = P.foldl (fun x b => x + costN s b) (nI 0)) (hvwo : P = [] → vwo = mI) : fL_hangs aM aL aC aW aA aT aO aS aG vsh vcs vwo = some (nI 1) := by
  obtain ⟨⟨-, hd⟩, ⟨-, hes⟩, ⟨-, hfs⟩, -, -, -, -, ⟨hw, hP, hz, -⟩, ⟨kp, hkp, h408, haz, -⟩, -, hst, g, q, c1, c2, c3, c4, c5, c6, x1, ⟨T, x2, x3⟩, x4, x5, x6, x7⟩ := hC
  have n8 := hw.2.1
  have hlen := hP.len (ahW_asy s)
  have hg : g ≤ 128 := by omega
  have hkg : kp = (if g < 6 then g else 6) := by
    rw [h408] at x4
    exact (nI_eq (by omega) (by split <;> omega)).mp x4
  have hkg2 : kp ≤ g := by rw [hkg]; split <;> omega
  have k0 : aC (nI 0) = some (nI n) := (HC 0 (by omega)).trans (congrArg some hw.1)
  have k1 : aC (nI 1) = some (nI g) := (HC 1 (by omega)).trans (congrArg some c1)
  have k2 : aC (nI 2) = some (nI kp) := (HC 2 (by omega)).trans (congrArg some h408)
  have k3 : aC (nI 3) = some (nI q) := (HC 3 (by omega)).trans (congrArg some c2)
  have k4 : aC (nI 4) = some (sumI (fun i => s (416 + i)) 6 0 (nI 0)) := HC 4 (by omega)
  have k5 : aC (nI 5) = some (sumI (fun i => s (410 + i)) 6 0 (nI 0)) := HC 5 (by omega)
  have kw : aW (nI n) (nI 0) = some mI := (HW n 0 (by omega) (by omega)).trans (by unfold vWait; rw [List.getElem?_eq_none (by omega)])
  have hstop : (vStop s 0 = mI ∧ vStop s 1 = mI) ∨ ∃ k j, k < 1000 ∧ vStop s 0 = nI k ∧ vStop s 1 = nI j ∧ 1 ≤ j ∧ j ≤ 2 := by
    rcases hst with ⟨t1, -, -⟩ | ⟨k, t0, t1, -, -⟩
    · left
      exact ⟨if_pos t1, if_pos t1⟩
    · right
      have hne : ¬ s 458 = nI 0 := by rw [t1]; exact nI_ne0 (by omega) (by omega)
      have v0 : vStop s 0 = nI k := by unfold vStop; rw [if_neg hne, if_pos rfl, t1, pk_sub (by omega)]; rfl
      have v1 : vStop s 1 = s 459 := by unfold vStop; rw [if_neg hne, if_neg (by decide)]
      rcases x5 with h | h | h
      · exact absurd h hne
      · exact ⟨k, 1, t0, v0, v1.trans h, by omega, by omega⟩
      · exact ⟨k, 2, t0, v0, v1.trans h, by omega, by omega⟩
  have hsw : vStop s 1 = mI ∨ ∃ j, vStop s 1 = nI j ∧ 1 ≤ j ∧ j ≤ 2 := by
    rcases hstop with h | ⟨k, j, -, -, h1, h2, h3⟩
    · exact Or.inl h.2
    · exact Or.inr ⟨j, h1, h2, h3⟩
  have hsum : (PL.map T).sum = sumN T 30 := by rw [← sumN_range]; exact (List.Perm.map T (hPL.perm (ahL_asy s))).sum_nat
  have hF : fuelN = 1000000 := rfl
  obtain ⟨f1, r1, b1⟩ := hg_l (aM := aM) (aL := aL) (aC := aC) (aW := aW) (aA := aA) (aT := aT) (aO := aO) (aS := aS) (aG := aG) (vsh := vsh) (vcs := vcs) (vwo := vwo) hd HM HL hes hfs (g := g) (by omega) x1 6 0 (nI 0) (nI 0) (nI 0) fuelN rfl (by decide)
  rw [hF] at b1
  obtain ⟨f1, rfl⟩ : ∃ z, f1 = z + 1 := ⟨f1 - 1, by omega⟩
  have c6' : sumI (fun i => s (422 + i)) 6 0 (nI 0) = nI q := c6.trans c2
  rw [c6'] at r1
  obtain ⟨f2, r2, b2⟩ := hg_p (aM := aM) (aL := aL) (aC := aC) (aW := aW) (aA := aA) (aT := aT) (aO := aO) (aS := aS) (aG := aG) (vsh := vsh) (vcs := vcs) (vwo := vwo) hw hP x6 HW (sumI (fun i => s (416 + i)) 6 0 (nI 0)) (sumI (fun i => s (410 + i)) 6 0 (nI 0)) (nI q) n 0 f1 (by omega) (by omega)
  rw [show lastF s P 0 = 10 from if_pos rfl] at r2
  obtain ⟨f2, rfl⟩ : ∃ z, f2 = z + 1 := ⟨f2 - 1, by omega⟩
  obtain ⟨f3, r3, b3⟩ := hg_a (aM := aM) (aL := aL) (aC := aC) (aW := aW) (aA := aA) (aT := aT) (aO := aO) (aS := aS) (aG := aG) (vsh := vsh) (vcs := vcs) (vwo := vwo) h408 hkp (fun b hb => x7 b (by omega) (by omega)) HA HT (sumI (fun i => s (416 + i)) 6 0 (nI 0)) (sumI (fun i => s (410 + i)) 6 0 (nI 0)) (nI q) (nI n) 6 0 f2 (by omega) (by omega)
  obtain ⟨f3, rfl⟩ : ∃ z, f3 = z + 1 := ⟨f3 - 1, by omega⟩
  have hl30 := hPL.len (ahL_asy s)
  obtain ⟨f4, r4, b4⟩ := hg_o (aM := aM) (aL := aL) (aC := aC) (aW := aW) (aA := aA) (aT := aT) (aS := aS) (aG := aG) (vsh := vsh) (vcs := vcs) (vwo := vwo) (q := q) (by omega) x2 hPL HO (sumI (fun i => s (416 + i)) 6 0 (nI 0)) (sumI (fun i => s (410 + i)) 6 0 (nI 0)) (nI n) (nI kp) PL [] 0 1073741824 0 f3 rfl (by decide) (fun w _ => by rw [Nat.zero_testBit]; rfl) (Nat.le_refl _) (fun a ha => by have := (x2 a ((hPL.2 a).mp ha)).2; omega) (by decide) (by omega)
  rw [List.length_nil, hsum, Nat.zero_add] at r4
  obtain ⟨f4, rfl⟩ : ∃ z, f4 = z + 1 + 1 + 1 + 1 + 1 := ⟨f4 - 5, by omega⟩
  refine Eq.trans r1 ?_
  generalize hX : sumI (fun i => s (416 + i)) 6 0 (nI 0) = X at r1 r2 r3 r4 k4 ⊢
  generalize hY : sumI (fun i => s (410 + i)) 6 0 (nI 0) = Y at r1 r2 r3 r4 k5 ⊢
  rw [sp_L_hangs_8]
  simp (disch := first | omega | assumption) only [↓z_m1, li_0, li_1, li_2, li_3, li_4, li_5, li_6, li_7, li_8, li_9, li_10, li_11, li_12, li_13, li_14, li_15, li_16, li_17, li_18, li_19, li_20, li_21, li_22, li_23, li_24, li_25, li_26, li_27, li_28, li_29, li_30, li_31, li_32, li_33, li_34, li_35, li_36, li_37, li_38, li_39, li_40, li_41, li_42, li_43, li_44, li_45, li_46, li_47, li_48, li_49, li_50, li_51, li_52, li_53, li_54, li_55, li_56, li_57, li_58, li_59, li_60, li_61, li_62, li_63, li_64, li_65, li_66, li_67, li_68, li_69, li_70, li_71, li_72, li_73, li_74, li_75, li_76, li_77, li_78, li_79, li_80, li_81, li_82, li_83, li_84, li_85, li_86, li_87, li_88, li_89, li_90, li_91, li_92, li_93, li_94, li_95, li_96, li_97, li_98, li_99, li_100, li_101, li_102, li_103, li_104, li_105, li_106, li_107, li_108, li_109, li_110, li_111, li_112, li_113, li_114, li_115, li_116, li_117, li_118, li_119, li_120, li_121, li_122, li_123, li_124, li_125, li_126, li_127, li_128, li_129, li_130, li_180, li_186, li_192, li_304, li_305, li_306, li_307, li_319, li_320, li_321, li_322, li_408, li_409, li_410, li_416, li_422, li_428, li_458, li_459, li_460, li_2300, li_2760, nI_add, z_m6, z_m12, z_m30, z_l10, z_l12, z_l14, z_l17, z_l30, z_l460, z_sub, z_dec, z_dec0, z_m11, z_cl, z_leT, z_leF, z_ltT, z_ltF, z_eqT, z_eqF, z_em, z_me, z_mlt, z_mle, z_ltm, z_lem, z_mltm, z_mlem, z_nleT, z_nleF, z_nltT, z_nltF, or_false, or_self, false_or, or_true, true_or, not_true_eq_false, not_false_eq_true, ↓reduceIte, lt, z_ob, Nat.zero_add, Nat.add_zero, bL_hangs_8, k0]
  rw [r2, sp_L_hangs_11]
  simp (disch := first | omega | assumption) only [↓z_m1, li_0, li_1, li_2, li_3, li_4, li_5, li_6, li_7, li_8, li_9, li_10, li_11, li_12, li_13, li_14, li_15, li_16, li_17, li_18, li_19, li_20, li_21, li_22, li_23, li_24, li_25, li_26, li_27, li_28, li_29, li_30, li_31, li_32, li_33, li_34, li_35, li_36, li_37, li_38, li_39, li_40, li_41, li_42, li_43, li_44, li_45, li_46, li_47, li_48, li_49, li_50, li_51, li_52, li_53, li_54, li_55, li_56, li_57, li_58, li_59, li_60, li_61, li_62, li_63, li_64, li_65, li_66, li_67, li_68, li_69, li_70, li_71, li_72, li_73, li_74, li_75, li_76, li_77, li_78, li_79, li_80, li_81, li_82, li_83, li_84, li_85, li_86, li_87, li_88, li_89, li_90, li_91, li_92, li_93, li_94, li_95, li_96, li_97, li_98, li_99, li_100, li_101, li_102, li_103, li_104, li_105, li_106, li_107, li_108, li_109, li_110, li_111, li_112, li_113, li_114, li_115, li_116, li_117, li_118, li_119, li_120, li_121, li_122, li_123, li_124, li_125, li_126, li_127, li_128, li_129, li_130, li_180, li_186, li_192, li_304, li_305, li_306, li_307, li_319, li_320, li_321, li_322, li_408, li_409, li_410, li_416, li_422, li_428, li_458, li_459, li_460, li_2300, li_2760, nI_add, z_m6, z_m12, z_m30, z_l10, z_l12, z_l14, z_l17, z_l30, z_l460, z_sub, z_dec, z_dec0, z_m11, z_cl, z_leT, z_leF, z_ltT, z_ltF, z_eqT, z_eqF, z_em, z_me, z_mlt, z_mle, z_ltm, z_lem, z_mltm, z_mlem, z_nleT, z_nleF, z_nltT, z_nltF, or_false, or_self, false_or, or_true, true_or, not_true_eq_false, not_false_eq_true, ↓reduceIte, lt, z_ob, Nat.zero_add, Nat.add_zero, bL_hangs_11, k2]
  rw [r3, sp_L_hangs_16]
  unfold bL_hangs_16
  refine Eq.trans r4 ?_
  rw [hg_20 (n := n) (sb := 0) hg c3 hkg n8 x3 k1 k3 k4 k5 kw (HS 0 (by omega)) (HS 1 (by omega)) (f4 + 1 + 1 + 1 + 1)]
  obtain ⟨z, z1, z2⟩ := hg_21 (aM := aM) (aL := aL) (aC := aC) (aW := aW) (aA := aA) (aT := aT) (aO := aO) (aS := aS) (aG := aG) (vsh := vsh) (vcs := vcs) (vwo := vwo) (n := n) (kp := kp) hg c3 hstop (f4 + 1 + 1)
  rw [z2]
  obtain ⟨w1, w2⟩ := hg_23 (aM := aM) (aL := aL) (aC := aC) (aW := aW) (aA := aA) (aT := aT) (aO := aO) (aS := aS) (aG := aG) (vsh := vsh) (vcs := vcs) (vwo := vwo) (n := n) hg c3 z1 hsw (by rw [hvsh, ← c1, ← c2]; rfl) (f4 + 1)
  rw [w1]
  exact hg_24 hfs hw hP HW HG hvcs hvwo w2 f4
end HZ

-- pure: what arrived, and the words that were lost most
section HA
variable {aM : Int32 → Int32 → Int32 → Option Int32} {aL : Int32 → Int32 → Option Int32} {aC : Int32 → Option Int32} {aW aA aT aO : Int32 → Int32 → Option Int32} {aS : Int32 → Option Int32} {aG : Int32 → Int32 → Option Int32} {vsh : UInt64} {vcs vwo : Int32} {s : Nat → Int32} {P : List Nat}
theorem mum_le : ∀ L : List Nat, mumN L ≤ L.length
  | [] => Nat.le_refl _
  | w :: L => by
    have h := mum_le L
    show (if w = 30 then 1 else 0) + mumN L ≤ L.length + 1
    split <;> omega
theorem mum_0 : ∀ L : List Nat, (∀ x, x ∈ L → x < 30) → mumN L = 0
  | [], _ => rfl
  | w :: L, h => by
    have h1 := mum_0 L (fun x hx => h x (List.mem_cons_of_mem _ hx))
    have h2 := h w List.mem_cons_self
    show (if w = 30 then 1 else 0) + mumN L = 0
    rw [h1, if_neg (by omega)]
/-- the text of an arrival -/
theorem hg_t0 {bb : Nat} (hb : bb < 6) (HT : ∀ b i, b < 6 → i < 1000 → aT (nI b) (nI i) = some (vTold s b i)) (x1 x2 x3 x5 x7 x9 : Int32) (L : List Nat) (h12 : L.length ≤ 12) (hL : bd L) (ht : ∀ j, vTold s bb j = chT L j) (fu : Nat) (hf : 80 < fu) :
    ∃ fu' e, rL_hangs aM aL aC aW aA aT aO aS aG vsh vcs vwo fu 13 x1 x2 x3 (nI 0) x5 (nI 0) x7 (nI bb) x9 (nI 0) (nI 0) (nI 0) (nI 0) (nI 0) (nI 0) 0 0 = rL_hangs aM aL aC aW aA aT aO aS aG vsh vcs vwo fu' 15 x1 x2 x3 (nI 0) x5 (nI 0) x7 (nI bb) x9 (nI (mumN L)) (nI L.length) (nI e) (nI 0) (nI 0) (nI 0) 0 0 ∧ fu ≤ fu' + 80 := by
  cases L with
  | nil =>
    obtain ⟨fu, rfl⟩ := fuS hf
    have t0 : aT (nI bb) (nI 0) = some mI := (HT bb 0 hb (by omega)).trans (by rw [ht 0]; rfl)
    refine ⟨fu, 0, ?_, by omega⟩
    rw [sp_L_hangs_13]
    simp (disch := first | omega | assumption) only [↓z_m1, li_0, li_1, li_2, li_3, li_4, li_5, li_6, li_7, li_8, li_9, li_10, li_11, li_12, li_13, li_14, li_15, li_16, li_17, li_18, li_19, li_20, li_21, li_22, li_23, li_24, li_25, li_26, li_27, li_28, li_29, li_30, li_31, li_32, li_33, li_34, li_35, li_36, li_37, li_38, li_39, li_40, li_41, li_42, li_43, li_44, li_45, li_46, li_47, li_48, li_49, li_50, li_51, li_52, li_53, li_54, li_55, li_56, li_57, li_58, li_59, li_60, li_61, li_62, li_63, li_64, li_65, li_66, li_67, li_68, li_69, li_70, li_71, li_72, li_73, li_74, li_75, li_76, li_77, li_78, li_79, li_80, li_81, li_82, li_83, li_84, li_85, li_86, li_87, li_88, li_89, li_90, li_91, li_92, li_93, li_94, li_95, li_96, li_97, li_98, li_99, li_100, li_101, li_102, li_103, li_104, li_105, li_106, li_107, li_108, li_109, li_110, li_111, li_112, li_113, li_114, li_115, li_116, li_117, li_118, li_119, li_120, li_121, li_122, li_123, li_124, li_125, li_126, li_127, li_128, li_129, li_130, li_180, li_186, li_192, li_304, li_305, li_306, li_307, li_319, li_320, li_321, li_322, li_408, li_409, li_410, li_416, li_422, li_428, li_458, li_459, li_460, li_2300, li_2760, nI_add, z_m6, z_m12, z_m30, z_l10, z_l12, z_l14, z_l17, z_l30, z_l460, z_sub, z_dec, z_dec0, z_m11, z_cl, z_leT, z_leF, z_ltT, z_ltF, z_eqT, z_eqF, z_em, z_me, z_mlt, z_mle, z_ltm, z_lem, z_mltm, z_mlem, z_nleT, z_nleF, z_nltT, z_nltF, or_false, or_self, false_or, or_true, true_or, not_true_eq_false, not_false_eq_true, ↓reduceIte, lt, z_ob, Nat.zero_add, Nat.add_zero, bL_hangs_13, t0, mumN, List.length_nil]
  | cons w M =>
    rw [List.length_cons] at h12
    obtain ⟨fu', e, r1, r2⟩ := hg_t (aM := aM) (aL := aL) (aC := aC) (aW := aW) (aA := aA) (aO := aO) (aS := aS) (aG := aG) (vsh := vsh) (vcs := vcs) (vwo := vwo) hb HT x1 x2 x3 x5 x7 x9 M w 0 0 0 fu (hL w List.mem_cons_self) (fun x hx => hL x (List.mem_cons_of_mem _ hx)) (fun j => by rw [Nat.zero_add]; exact ht j) (by omega) (by omega) (by omega) (by omega)
    rw [Nat.zero_add, Nat.zero_add, if_pos rfl] at r1
    refine ⟨fu', e, ?_, by omega⟩
    rw [List.length_cons]
    exact r1
/-- the arrivals -/
theorem hg_a {kp : Nat} (h408 : s 408 = nI kp) (hkp : kp ≤ 6) (hE : ∀ b, b < kp → ArE s b) (HA : ∀ b k, b < 6 → k < 6 → aA (nI b) (nI k) = some (vArrv s b k)) (HT : ∀ b i, b < 6 → i < 1000 → aT (nI b) (nI i) = some (vTold s b i)) (x1 x2 x3 x5 : Int32) : ∀ (k b : Nat) (fu : Nat), b + k = 6 → 100 * k + 1 < fu →
    ∃ fu', rL_hangs aM aL aC aW aA aT aO aS aG vsh vcs vwo fu 12 x1 x2 x3 (nI 1) x5 (nI 0) (nI kp) (nI b) (nI 0) (nI 0) (nI 0) (nI 0) (nI 0) (nI 0) (nI 0) 0 0 = rL_hangs aM aL aC aW aA aT aO aS aG vsh vcs vwo fu' 16 x1 x2 x3 (nI 1) x5 (nI 0) (nI kp) (nI 0) (nI 0) (nI 0) (nI 0) (nI 0) (nI 0) (nI 0) (nI 0) 0 0 ∧ fu ≤ fu' + 100 * k + 1 := by
  have hk8 : (s 408).toNatClampNeg = kp := by rw [h408, z_cl (by omega)]
  intro k
  induction k with
  | zero =>
    intro b fu hb hf
    obtain ⟨fu, rfl⟩ := fuS hf
    obtain rfl : b = 6 := by omega
    refine ⟨fu, ?_, by omega⟩
    rw [sp_L_hangs_12]
    simp (disch := first | omega | assumption) only [↓z_m1, li_0, li_1, li_2, li_3, li_4, li_5, li_6, li_7, li_8, li_9, li_10, li_11, li_12, li_13, li_14, li_15, li_16, li_17, li_18, li_19, li_20, li_21, li_22, li_23, li_24, li_25, li_26, li_27, li_28, li_29, li_30, li_31, li_32, li_33, li_34, li_35, li_36, li_37, li_38, li_39, li_40, li_41, li_42, li_43, li_44, li_45, li_46, li_47, li_48, li_49, li_50, li_51, li_52, li_53, li_54, li_55, li_56, li_57, li_58, li_59, li_60, li_61, li_62, li_63, li_64, li_65, li_66, li_67, li_68, li_69, li_70, li_71, li_72, li_73, li_74, li_75, li_76, li_77, li_78, li_79, li_80, li_81, li_82, li_83, li_84, li_85, li_86, li_87, li_88, li_89, li_90, li_91, li_92, li_93, li_94, li_95, li_96, li_97, li_98, li_99, li_100, li_101, li_102, li_103, li_104, li_105, li_106, li_107, li_108, li_109, li_110, li_111, li_112, li_113, li_114, li_115, li_116, li_117, li_118, li_119, li_120, li_121, li_122, li_123, li_124, li_125, li_126, li_127, li_128, li_129, li_130, li_180, li_186, li_192, li_304, li_305, li_306, li_307, li_319, li_320, li_321, li_322, li_408, li_409, li_410, li_416, li_422, li_428, li_458, li_459, li_460, li_2300, li_2760, nI_add, z_m6, z_m12, z_m30, z_l10, z_l12, z_l14, z_l17, z_l30, z_l460, z_sub, z_dec, z_dec0, z_m11, z_cl, z_leT, z_leF, z_ltT, z_ltF, z_eqT, z_eqF, z_em, z_me, z_mlt, z_mle, z_ltm, z_lem, z_mltm, z_mlem, z_nleT, z_nleF, z_nltT, z_nltF, or_false, or_self, false_or, or_true, true_or, not_true_eq_false, not_false_eq_true, ↓reduceIte, lt, z_ob, Nat.zero_add, Nat.add_zero, bL_hangs_12]
  | succ k ih =>
    intro b fu hb hf
    obtain ⟨fu, rfl⟩ : ∃ z, fu = z + 1 := ⟨fu - 1, by omega⟩
    have hb6 : b < 6 := by omega
    by_cases e : b < kp
    · obtain ⟨L, t, p, M, a1, a2, a3, a4, a5, a6, a7, a8, a9, a10, a11, a12⟩ := hE b e
      have hL := arrN_eq (s := s) (b := b) (by omega) a1 a2 a3
      have hmu := mum_le L
      have v0 : aA (nI b) (nI 0) = some (nI L.length) := (HA b 0 hb6 (by omega)).trans (by unfold vArrv; rw [hk8, if_pos e, hL]; rfl)
      have v1 : aA (nI b) (nI 1) = some (nI (mumN L)) := (HA b 1 hb6 (by omega)).trans (by unfold vArrv; rw [hk8, if_pos e, hL]; rfl)
      have v2 : aA (nI b) (nI 2) = some (nI p) := (HA b 2 hb6 (by omega)).trans (by unfold vArrv; rw [hk8, if_pos e, ← a7]; rfl)
      have v3 : aA (nI b) (nI 3) = some (lk M) := (HA b 3 hb6 (by omega)).trans (by unfold vArrv; rw [hk8, if_pos e, ← a10]; rfl)
      have v4 : aA (nI b) (nI 4) = some (lk M) := (HA b 4 hb6 (by omega)).trans (by unfold vArrv; rw [hk8, if_pos e, ← a11]; rfl)
      have v5 : aA (nI b) (nI 5) = some (nI t) := (HA b 5 hb6 (by omega)).trans (by unfold vArrv; rw [hk8, if_pos e, ← a6]; rfl)
      obtain ⟨f2, ee, r1, r2⟩ := hg_t0 (aM := aM) (aL := aL) (aC := aC) (aW := aW) (aA := aA) (aO := aO) (aS := aS) (aG := aG) (vsh := vsh) (vcs := vcs) (vwo := vwo) (bb := b) hb6 HT x1 x2 x3 x5 (nI kp) (nI L.length) L (by omega) a3 (fun j => by unfold vTold; rw [hk8, if_pos e, hL]) fu (by omega)
      obtain ⟨f2, rfl⟩ : ∃ z, f2 = z + 1 := ⟨f2 - 1, by omega⟩
      obtain ⟨fu', r3, r4⟩ := ih (b + 1) f2 (by omega) (by omega)
      refine ⟨fu', ?_, by omega⟩
      rw [← r3, sp_L_hangs_12]
      simp (disch := first | omega | assumption) only [↓z_m1, li_0, li_1, li_2, li_3, li_4, li_5, li_6, li_7, li_8, li_9, li_10, li_11, li_12, li_13, li_14, li_15, li_16, li_17, li_18, li_19, li_20, li_21, li_22, li_23, li_24, li_25, li_26, li_27, li_28, li_29, li_30, li_31, li_32, li_33, li_34, li_35, li_36, li_37, li_38, li_39, li_40, li_41, li_42, li_43, li_44, li_45, li_46, li_47, li_48, li_49, li_50, li_51, li_52, li_53, li_54, li_55, li_56, li_57, li_58, li_59, li_60, li_61, li_62, li_63, li_64, li_65, li_66, li_67, li_68, li_69, li_70, li_71, li_72, li_73, li_74, li_75, li_76, li_77, li_78, li_79, li_80, li_81, li_82, li_83, li_84, li_85, li_86, li_87, li_88, li_89, li_90, li_91, li_92, li_93, li_94, li_95, li_96, li_97, li_98, li_99, li_100, li_101, li_102, li_103, li_104, li_105, li_106, li_107, li_108, li_109, li_110, li_111, li_112, li_113, li_114, li_115, li_116, li_117, li_118, li_119, li_120, li_121, li_122, li_123, li_124, li_125, li_126, li_127, li_128, li_129, li_130, li_180, li_186, li_192, li_304, li_305, li_306, li_307, li_319, li_320, li_321, li_322, li_408, li_409, li_410, li_416, li_422, li_428, li_458, li_459, li_460, li_2300, li_2760, nI_add, z_m6, z_m12, z_m30, z_l10, z_l12, z_l14, z_l17, z_l30, z_l460, z_sub, z_dec, z_dec0, z_m11, z_cl, z_leT, z_leF, z_ltT, z_ltF, z_eqT, z_eqF, z_em, z_me, z_mlt, z_mle, z_ltm, z_lem, z_mltm, z_mlem, z_nleT, z_nleF, z_nltT, z_nltF, or_false, or_self, false_or, or_true, true_or, not_true_eq_false, not_false_eq_true, ↓reduceIte, lt, z_ob, Nat.zero_add, Nat.add_zero, bL_hangs_12, v0]
      rw [r1, sp_L_hangs_15]
      by_cases e6 : M = 6
      · obtain ⟨g1, g2⟩ := a12 e6
        have g3 := mum_0 L g2
        rw [e6, lk_6] at v3 v4
        rw [g3] at v1 ⊢
        rw [g1] at v0 ⊢
        simp (disch := first | omega | assumption) only [↓z_m1, li_0, li_1, li_2, li_3, li_4, li_5, li_6, li_7, li_8, li_9, li_10, li_11, li_12, li_13, li_14, li_15, li_16, li_17, li_18, li_19, li_20, li_21, li_22, li_23, li_24, li_25, li_26, li_27, li_28, li_29, li_30, li_31, li_32, li_33, li_34, li_35, li_36, li_37, li_38, li_39, li_40, li_41, li_42, li_43, li_44, li_45, li_46, li_47, li_48, li_49, li_50, li_51, li_52, li_53, li_54, li_55, li_56, li_57, li_58, li_59, li_60, li_61, li_62, li_63, li_64, li_65, li_66, li_67, li_68, li_69, li_70, li_71, li_72, li_73, li_74, li_75, li_76, li_77, li_78, li_79, li_80, li_81, li_82, li_83, li_84, li_85, li_86, li_87, li_88, li_89, li_90, li_91, li_92, li_93, li_94, li_95, li_96, li_97, li_98, li_99, li_100, li_101, li_102, li_103, li_104, li_105, li_106, li_107, li_108, li_109, li_110, li_111, li_112, li_113, li_114, li_115, li_116, li_117, li_118, li_119, li_120, li_121, li_122, li_123, li_124, li_125, li_126, li_127, li_128, li_129, li_130, li_180, li_186, li_192, li_304, li_305, li_306, li_307, li_319, li_320, li_321, li_322, li_408, li_409, li_410, li_416, li_422, li_428, li_458, li_459, li_460, li_2300, li_2760, nI_add, z_m6, z_m12, z_m30, z_l10, z_l12, z_l14, z_l17, z_l30, z_l460, z_sub, z_dec, z_dec0, z_m11, z_cl, z_leT, z_leF, z_ltT, z_ltF, z_eqT, z_eqF, z_em, z_me, z_mlt, z_mle, z_ltm, z_lem, z_mltm, z_mlem, z_nleT, z_nleF, z_nltT, z_nltF, or_false, or_self, false_or, or_true, true_or, not_true_eq_false, not_false_eq_true, ↓reduceIte, lt, z_ob, Nat.zero_add, Nat.add_zero, bL_hangs_15, v1, v2, v3, v4, v5]
      · rw [lk_lt (by omega)] at v3 v4
        simp (disch := first | omega | assumption) only [↓z_m1, li_0, li_1, li_2, li_3, li_4, li_5, li_6, li_7, li_8, li_9, li_10, li_11, li_12, li_13, li_14, li_15, li_16, li_17, li_18, li_19, li_20, li_21, li_22, li_23, li_24, li_25, li_26, li_27, li_28, li_29, li_30, li_31, li_32, li_33, li_34, li_35, li_36, li_37, li_38, li_39, li_40, li_41, li_42, li_43, li_44, li_45, li_46, li_47, li_48, li_49, li_50, li_51, li_52, li_53, li_54, li_55, li_56, li_57, li_58, li_59, li_60, li_61, li_62, li_63, li_64, li_65, li_66, li_67, li_68, li_69, li_70, li_71, li_72, li_73, li_74, li_75, li_76, li_77, li_78, li_79, li_80, li_81, li_82, li_83, li_84, li_85, li_86, li_87, li_88, li_89, li_90, li_91, li_92, li_93, li_94, li_95, li_96, li_97, li_98, li_99, li_100, li_101, li_102, li_103, li_104, li_105, li_106, li_107, li_108, li_109, li_110, li_111, li_112, li_113, li_114, li_115, li_116, li_117, li_118, li_119, li_120, li_121, li_122, li_123, li_124, li_125, li_126, li_127, li_128, li_129, li_130, li_180, li_186, li_192, li_304, li_305, li_306, li_307, li_319, li_320, li_321, li_322, li_408, li_409, li_410, li_416, li_422, li_428, li_458, li_459, li_460, li_2300, li_2760, nI_add, z_m6, z_m12, z_m30, z_l10, z_l12, z_l14, z_l17, z_l30, z_l460, z_sub, z_dec, z_dec0, z_m11, z_cl, z_leT, z_leF, z_ltT, z_ltF, z_eqT, z_eqF, z_em, z_me, z_mlt, z_mle, z_ltm, z_lem, z_mltm, z_mlem, z_nleT, z_nleF, z_nltT, z_nltF, or_false, or_self, false_or, or_true, true_or, not_true_eq_false, not_false_eq_true, ↓reduceIte, lt, z_ob, Nat.zero_add, Nat.add_zero, bL_hangs_15, v1, v2, v3, v4, v5]
    · obtain ⟨fu, rfl⟩ : ∃ z, fu = z + 1 + 1 := ⟨fu - 2, by omega⟩
      have v0 : aA (nI b) (nI 0) = some mI := (HA b 0 hb6 (by omega)).trans (by unfold vArrv; rw [hk8, if_neg e])
      have v4 : aA (nI b) (nI 4) = some mI := (HA b 4 hb6 (by omega)).trans (by unfold vArrv; rw [hk8, if_neg e])
      have t0 : aT (nI b) (nI 0) = some mI := (HT b 0 hb6 (by omega)).trans (by unfold vTold; rw [hk8, if_neg e])
      obtain ⟨fu', r3, r4⟩ := ih (b + 1) fu (by omega) (by omega)
      refine ⟨fu', ?_, by omega⟩
      rw [← r3, sp_L_hangs_12]
      simp (disch := first | omega | assumption) only [↓z_m1, li_0, li_1, li_2, li_3, li_4, li_5, li_6, li_7, li_8, li_9, li_10, li_11, li_12, li_13, li_14, li_15, li_16, li_17, li_18, li_19, li_20, li_21, li_22, li_23, li_24, li_25, li_26, li_27, li_28, li_29, li_30, li_31, li_32, li_33, li_34, li_35, li_36, li_37, li_38, li_39, li_40, li_41, li_42, li_43, li_44, li_45, li_46, li_47, li_48, li_49, li_50, li_51, li_52, li_53, li_54, li_55, li_56, li_57, li_58, li_59, li_60, li_61, li_62, li_63, li_64, li_65, li_66, li_67, li_68, li_69, li_70, li_71, li_72, li_73, li_74, li_75, li_76, li_77, li_78, li_79, li_80, li_81, li_82, li_83, li_84, li_85, li_86, li_87, li_88, li_89, li_90, li_91, li_92, li_93, li_94, li_95, li_96, li_97, li_98, li_99, li_100, li_101, li_102, li_103, li_104, li_105, li_106, li_107, li_108, li_109, li_110, li_111, li_112, li_113, li_114, li_115, li_116, li_117, li_118, li_119, li_120, li_121, li_122, li_123, li_124, li_125, li_126, li_127, li_128, li_129, li_130, li_180, li_186, li_192, li_304, li_305, li_306, li_307, li_319, li_320, li_321, li_322, li_408, li_409, li_410, li_416, li_422, li_428, li_458, li_459, li_460, li_2300, li_2760, nI_add, z_m6, z_m12, z_m30, z_l10, z_l12, z_l14, z_l17, z_l30, z_l460, z_sub, z_dec, z_dec0, z_m11, z_cl, z_leT, z_leF, z_ltT, z_ltF, z_eqT, z_eqF, z_em, z_me, z_mlt, z_mle, z_ltm, z_lem, z_mltm, z_mlem, z_nleT, z_nleF, z_nltT, z_nltF, or_false, or_self, false_or, or_true, true_or, not_true_eq_false, not_false_eq_true, ↓reduceIte, lt, z_ob, Nat.zero_add, Nat.add_zero, bL_hangs_12, v0]
      rw [sp_L_hangs_13]
      simp (disch := first | omega | assumption) only [↓z_m1, li_0, li_1, li_2, li_3, li_4, li_5, li_6, li_7, li_8, li_9, li_10, li_11, li_12, li_13, li_14, li_15, li_16, li_17, li_18, li_19, li_20, li_21, li_22, li_23, li_24, li_25, li_26, li_27, li_28, li_29, li_30, li_31, li_32, li_33, li_34, li_35, li_36, li_37, li_38, li_39, li_40, li_41, li_42, li_43, li_44, li_45, li_46, li_47, li_48, li_49, li_50, li_51, li_52, li_53, li_54, li_55, li_56, li_57, li_58, li_59, li_60, li_61, li_62, li_63, li_64, li_65, li_66, li_67, li_68, li_69, li_70, li_71, li_72, li_73, li_74, li_75, li_76, li_77, li_78, li_79, li_80, li_81, li_82, li_83, li_84, li_85, li_86, li_87, li_88, li_89, li_90, li_91, li_92, li_93, li_94, li_95, li_96, li_97, li_98, li_99, li_100, li_101, li_102, li_103, li_104, li_105, li_106, li_107, li_108, li_109, li_110, li_111, li_112, li_113, li_114, li_115, li_116, li_117, li_118, li_119, li_120, li_121, li_122, li_123, li_124, li_125, li_126, li_127, li_128, li_129, li_130, li_180, li_186, li_192, li_304, li_305, li_306, li_307, li_319, li_320, li_321, li_322, li_408, li_409, li_410, li_416, li_422, li_428, li_458, li_459, li_460, li_2300, li_2760, nI_add, z_m6, z_m12, z_m30, z_l10, z_l12, z_l14, z_l17, z_l30, z_l460, z_sub, z_dec, z_dec0, z_m11, z_cl, z_leT, z_leF, z_ltT, z_ltF, z_eqT, z_eqF, z_em, z_me, z_mlt, z_mle, z_ltm, z_lem, z_mltm, z_mlem, z_nleT, z_nleF, z_nltT, z_nltF, or_false, or_self, false_or, or_true, true_or, not_true_eq_false, not_false_eq_true, ↓reduceIte, lt, z_ob, Nat.zero_add, Nat.add_zero, bL_hangs_13, t0]
      rw [sp_L_hangs_15]
      simp (disch := first | omega | assumption) only [↓z_m1, li_0, li_1, li_2, li_3, li_4, li_5, li_6, li_7, li_8, li_9, li_10, li_11, li_12, li_13, li_14, li_15, li_16, li_17, li_18, li_19, li_20, li_21, li_22, li_23, li_24, li_25, li_26, li_27, li_28, li_29, li_30, li_31, li_32, li_33, li_34, li_35, li_36, li_37, li_38, li_39, li_40, li_41, li_42, li_43, li_44, li_45, li_46, li_47, li_48, li_49, li_50, li_51, li_52, li_53, li_54, li_55, li_56, li_57, li_58, li_59, li_60, li_61, li_62, li_63, li_64, li_65, li_66, li_67, li_68, li_69, li_70, li_71, li_72, li_73, li_74, li_75, li_76, li_77, li_78, li_79, li_80, li_81, li_82, li_83, li_84, li_85, li_86, li_87, li_88, li_89, li_90, li_91, li_92, li_93, li_94, li_95, li_96, li_97, li_98, li_99, li_100, li_101, li_102, li_103, li_104, li_105, li_106, li_107, li_108, li_109, li_110, li_111, li_112, li_113, li_114, li_115, li_116, li_117, li_118, li_119, li_120, li_121, li_122, li_123, li_124, li_125, li_126, li_127, li_128, li_129, li_130, li_180, li_186, li_192, li_304, li_305, li_306, li_307, li_319, li_320, li_321, li_322, li_408, li_409, li_410, li_416, li_422, li_428, li_458, li_459, li_460, li_2300, li_2760, nI_add, z_m6, z_m12, z_m30, z_l10, z_l12, z_l14, z_l17, z_l30, z_l460, z_sub, z_dec, z_dec0, z_m11, z_cl, z_leT, z_leF, z_ltT, z_ltF, z_eqT, z_eqF, z_em, z_me, z_mlt, z_mle, z_ltm, z_lem, z_mltm, z_mlem, z_nleT, z_nleF, z_nltT, z_nltF, or_false, or_self, false_or, or_true, true_or, not_true_eq_false, not_false_eq_true, ↓reduceIte, lt, z_ob, Nat.zero_add, Nat.add_zero, bL_hangs_15, v4]
/-- the words, by how often they were lost -/
theorem hg_o {q : Nat} (hq : q ≤ 128) {T : Nat → Nat} (hT : ∀ w, w < 30 → s (428 + w) = nI (T w) ∧ T w ≤ q) {PL : List Nat} (hPL : Srt (ahL s) 30 PL) (HO : ∀ p a k, PL[p]? = some a → k < 2 → aO (nI p) (nI k) = some (vLost s a k)) (x1 x2 x5 x7 : Int32) : ∀ (Q pre : List Nat) (M bf S fu : Nat), PL = pre ++ Q → M < 1073741824 → (∀ w, w < 30 → M.testBit w = decide (w ∈ pre)) → bf ≤ 1073741824 → (∀ a, a ∈ Q → T a ≤ bf) → S ≤ 128 * pre.length → 3 * Q.length + 1 < fu →
    ∃ fu', rL_hangs aM aL aC aW aA aT aO aS aG vsh vcs vwo fu 17 x1 x2 (nI q) (nI 1) x5 (nI 0) x7 (nI S) (nI M) (nI bf) (nI pre.length) (nI 0) (nI 0) (nI 0) (nI 0) 0 0 = rL_hangs aM aL aC aW aA aT aO aS aG vsh vcs vwo fu' 20 x1 x2 (nI q) (nI 1) x5 (nI 0) x7 (nI (S + (Q.map T).sum)) (nI 0) (nI 0) (nI 0) (nI 0) (nI 0) (nI 0) (nI 0) 0 0 ∧ fu ≤ fu' + 3 * Q.length + 1 := by
  have hlen := hPL.len (ahL_asy s)
  intro Q
  induction Q with
  | nil =>
    intro pre M bf S fu hp hM hb hbf ha hS hf
    obtain ⟨fu, rfl⟩ := fuS hf
    have h30 : pre.length = 30 := by rw [← hlen, hp, List.append_nil]
    refine ⟨fu, ?_, by omega⟩
    rw [h30, sp_L_hangs_17]
    simp (disch := first | omega | assumption) only [↓z_m1, li_0, li_1, li_2, li_3, li_4, li_5, li_6, li_7, li_8, li_9, li_10, li_11, li_12, li_13, li_14, li_15, li_16, li_17, li_18, li_19, li_20, li_21, li_22, li_23, li_24, li_25, li_26, li_27, li_28, li_29, li_30, li_31, li_32, li_33, li_34, li_35, li_36, li_37, li_38, li_39, li_40, li_41, li_42, li_43, li_44, li_45, li_46, li_47, li_48, li_49, li_50, li_51, li_52, li_53, li_54, li_55, li_56, li_57, li_58, li_59, li_60, li_61, li_62, li_63, li_64, li_65, li_66, li_67, li_68, li_69, li_70, li_71, li_72, li_73, li_74, li_75, li_76, li_77, li_78, li_79, li_80, li_81, li_82, li_83, li_84, li_85, li_86, li_87, li_88, li_89, li_90, li_91, li_92, li_93, li_94, li_95, li_96, li_97, li_98, li_99, li_100, li_101, li_102, li_103, li_104, li_105, li_106, li_107, li_108, li_109, li_110, li_111, li_112, li_113, li_114, li_115, li_116, li_117, li_118, li_119, li_120, li_121, li_122, li_123, li_124, li_125, li_126, li_127, li_128, li_129, li_130, li_180, li_186, li_192, li_304, li_305, li_306, li_307, li_319, li_320, li_321, li_322, li_408, li_409, li_410, li_416, li_422, li_428, li_458, li_459, li_460, li_2300, li_2760, nI_add, z_m6, z_m12, z_m30, z_l10, z_l12, z_l14, z_l17, z_l30, z_l460, z_sub, z_dec, z_dec0, z_m11, z_cl, z_leT, z_leF, z_ltT, z_ltF, z_eqT, z_eqF, z_em, z_me, z_mlt, z_mle, z_ltm, z_lem, z_mltm, z_mlem, z_nleT, z_nleF, z_nltT, z_nltF, or_false, or_self, false_or, or_true, true_or, not_true_eq_false, not_false_eq_true, ↓reduceIte, lt, z_ob, Nat.zero_add, Nat.add_zero, bL_hangs_17, List.map_nil, List.sum_nil, Nat.add_zero]
  | cons a Q ih =>
    intro pre M bf S fu hp hM hb hbf ha hS hf
    rw [List.length_cons] at hf
    obtain ⟨fu, rfl⟩ : ∃ z, fu = z + 1 + 1 + 1 := ⟨fu - 3, by omega⟩
    have hpl : pre.length < 30 := by
      have := congrArg List.length hp
      rw [List.length_append, List.length_cons, hlen] at this
      omega
    have hpa : PL[pre.length]? = some a := by rw [hp, List.getElem?_append_right (Nat.le_refl _), Nat.sub_self]; rfl
    have ha30 : a < 30 := (hPL.2 a).mp (List.mem_of_getElem? hpa)
    obtain ⟨t1, t2⟩ := hT a ha30
    have t3 := ha a List.mem_cons_self
    have hpw := hPL.1
    rw [hp, List.pairwise_append] at hpw
    obtain ⟨-, w1, w2⟩ := hpw
    have hn : a ∉ pre := fun h => by
      have h1 := w2 a h a List.mem_cons_self
      have h2 := ahL_asy s a a h1
      rw [h1] at h2
      cases h2
    have v0 : aO (nI pre.length) (nI 0) = some (nI a) := (HO pre.length a 0 hpa (by omega)).trans rfl
    have v1 : aO (nI pre.length) (nI 1) = some (nI (T a)) := (HO pre.length a 1 hpa (by omega)).trans (by rw [← t1]; rfl)
    have hbit : ((nI M >>> (nI a &&& nI 31)) &&& nI 1) = nI 0 := by rw [bit_w hM ha30, hb a ha30, decide_eq_false hn]; rfl
    have hor := or_w (M := M) ha30
    have hM2 : M ||| 2 ^ a < 1073741824 := Nat.or_lt_two_pow (n := 30) hM (Nat.pow_lt_pow_right (by decide) ha30)
    obtain ⟨fu', r1, r2⟩ := ih (pre ++ [a]) (M ||| 2 ^ a) (T a) (S + T a) fu (by rw [hp, List.append_assoc]; rfl) hM2 (fun w hw => by
        rw [Nat.testBit_or, hb w hw, Nat.testBit_two_pow]
        by_cases e : a = w
        · subst e
          rw [decide_eq_true rfl, Bool.or_true, decide_eq_true (List.mem_append_right _ List.mem_cons_self)]
        · rw [decide_eq_false e, Bool.or_false]
          refine decide_eq_decide.mpr ⟨fun h => List.mem_append_left _ h, fun h => ?_⟩
          rcases List.mem_append.mp h with h | h
          · exact h
          · exact absurd (List.mem_singleton.mp h).symm e) (by omega) (fun b hb2 => by
        have h1 := (List.pairwise_cons.mp w1).1 b hb2
        have hb30 : b < 30 := (hPL.2 b).mp (by rw [hp]; exact List.mem_append_right _ (List.mem_cons_of_mem _ hb2))
        obtain ⟨u1, u2⟩ := hT b hb30
        have k1 : ltv s a = T a := by unfold ltv; rw [t1, z_cl (by omega)]
        have k2 : ltv s b = T b := by unfold ltv; rw [u1, z_cl (by omega)]
        unfold ahL at h1
        rw [k1, k2, Bool.or_eq_true, Bool.and_eq_true, decide_eq_true_eq, decide_eq_true_eq] at h1
        omega) (by rw [List.length_append, List.length_singleton]; omega) (by omega)
    refine ⟨fu', ?_, by rw [List.length_cons]; omega⟩
    rw [List.map_cons, List.sum_cons, ← Nat.add_assoc, ← r1, List.length_append, List.length_singleton, sp_L_hangs_17]
    simp (disch := first | omega | assumption) only [↓z_m1, li_0, li_1, li_2, li_3, li_4, li_5, li_6, li_7, li_8, li_9, li_10, li_11, li_12, li_13, li_14, li_15, li_16, li_17, li_18, li_19, li_20, li_21, li_22, li_23, li_24, li_25, li_26, li_27, li_28, li_29, li_30, li_31, li_32, li_33, li_34, li_35, li_36, li_37, li_38, li_39, li_40, li_41, li_42, li_43, li_44, li_45, li_46, li_47, li_48, li_49, li_50, li_51, li_52, li_53, li_54, li_55, li_56, li_57, li_58, li_59, li_60, li_61, li_62, li_63, li_64, li_65, li_66, li_67, li_68, li_69, li_70, li_71, li_72, li_73, li_74, li_75, li_76, li_77, li_78, li_79, li_80, li_81, li_82, li_83, li_84, li_85, li_86, li_87, li_88, li_89, li_90, li_91, li_92, li_93, li_94, li_95, li_96, li_97, li_98, li_99, li_100, li_101, li_102, li_103, li_104, li_105, li_106, li_107, li_108, li_109, li_110, li_111, li_112, li_113, li_114, li_115, li_116, li_117, li_118, li_119, li_120, li_121, li_122, li_123, li_124, li_125, li_126, li_127, li_128, li_129, li_130, li_180, li_186, li_192, li_304, li_305, li_306, li_307, li_319, li_320, li_321, li_322, li_408, li_409, li_410, li_416, li_422, li_428, li_458, li_459, li_460, li_2300, li_2760, nI_add, z_m6, z_m12, z_m30, z_l10, z_l12, z_l14, z_l17, z_l30, z_l460, z_sub, z_dec, z_dec0, z_m11, z_cl, z_leT, z_leF, z_ltT, z_ltF, z_eqT, z_eqF, z_em, z_me, z_mlt, z_mle, z_ltm, z_lem, z_mltm, z_mlem, z_nleT, z_nleF, z_nltT, z_nltF, or_false, or_self, false_or, or_true, true_or, not_true_eq_false, not_false_eq_true, ↓reduceIte, lt, z_ob, Nat.zero_add, Nat.add_zero, bL_hangs_17, v0, v1, hbit]
    rw [sp_L_hangs_18]
    simp (disch := first | omega | assumption) only [↓z_m1, li_0, li_1, li_2, li_3, li_4, li_5, li_6, li_7, li_8, li_9, li_10, li_11, li_12, li_13, li_14, li_15, li_16, li_17, li_18, li_19, li_20, li_21, li_22, li_23, li_24, li_25, li_26, li_27, li_28, li_29, li_30, li_31, li_32, li_33, li_34, li_35, li_36, li_37, li_38, li_39, li_40, li_41, li_42, li_43, li_44, li_45, li_46, li_47, li_48, li_49, li_50, li_51, li_52, li_53, li_54, li_55, li_56, li_57, li_58, li_59, li_60, li_61, li_62, li_63, li_64, li_65, li_66, li_67, li_68, li_69, li_70, li_71, li_72, li_73, li_74, li_75, li_76, li_77, li_78, li_79, li_80, li_81, li_82, li_83, li_84, li_85, li_86, li_87, li_88, li_89, li_90, li_91, li_92, li_93, li_94, li_95, li_96, li_97, li_98, li_99, li_100, li_101, li_102, li_103, li_104, li_105, li_106, li_107, li_108, li_109, li_110, li_111, li_112, li_113, li_114, li_115, li_116, li_117, li_118, li_119, li_120, li_121, li_122, li_123, li_124, li_125, li_126, li_127, li_128, li_129, li_130, li_180, li_186, li_192, li_304, li_305, li_306, li_307, li_319, li_320, li_321, li_322, li_408, li_409, li_410, li_416, li_422, li_428, li_458, li_459, li_460, li_2300, li_2760, nI_add, z_m6, z_m12, z_m30, z_l10, z_l12, z_l14, z_l17, z_l30, z_l460, z_sub, z_dec, z_dec0, z_m11, z_cl, z_leT, z_leF, z_ltT, z_ltF, z_eqT, z_eqF, z_em, z_me, z_mlt, z_mle, z_ltm, z_lem, z_mltm, z_mlem, z_nleT, z_nleF, z_nltT, z_nltF, or_false, or_self, false_or, or_true, true_or, not_true_eq_false, not_false_eq_true, ↓reduceIte, lt, z_ob, Nat.zero_add, Nat.add_zero, bL_hangs_18]
    rw [sp_L_hangs_19]
    simp (disch := first | omega | assumption) only [↓z_m1, li_0, li_1, li_2, li_3, li_4, li_5, li_6, li_7, li_8, li_9, li_10, li_11, li_12, li_13, li_14, li_15, li_16, li_17, li_18, li_19, li_20, li_21, li_22, li_23, li_24, li_25, li_26, li_27, li_28, li_29, li_30, li_31, li_32, li_33, li_34, li_35, li_36, li_37, li_38, li_39, li_40, li_41, li_42, li_43, li_44, li_45, li_46, li_47, li_48, li_49, li_50, li_51, li_52, li_53, li_54, li_55, li_56, li_57, li_58, li_59, li_60, li_61, li_62, li_63, li_64, li_65, li_66, li_67, li_68, li_69, li_70, li_71, li_72, li_73, li_74, li_75, li_76, li_77, li_78, li_79, li_80, li_81, li_82, li_83, li_84, li_85, li_86, li_87, li_88, li_89, li_90, li_91, li_92, li_93, li_94, li_95, li_96, li_97, li_98, li_99, li_100, li_101, li_102, li_103, li_104, li_105, li_106, li_107, li_108, li_109, li_110, li_111, li_112, li_113, li_114, li_115, li_116, li_117, li_118, li_119, li_120, li_121, li_122, li_123, li_124, li_125, li_126, li_127, li_128, li_129, li_130, li_180, li_186, li_192, li_304, li_305, li_306, li_307, li_319, li_320, li_321, li_322, li_408, li_409, li_410, li_416, li_422, li_428, li_458, li_459, li_460, li_2300, li_2760, nI_add, z_m6, z_m12, z_m30, z_l10, z_l12, z_l14, z_l17, z_l30, z_l460, z_sub, z_dec, z_dec0, z_m11, z_cl, z_leT, z_leF, z_ltT, z_ltF, z_eqT, z_eqF, z_em, z_me, z_mlt, z_mle, z_ltm, z_lem, z_mltm, z_mlem, z_nleT, z_nleF, z_nltT, z_nltF, or_false, or_self, false_or, or_true, true_or, not_true_eq_false, not_false_eq_true, ↓reduceIte, lt, z_ob, Nat.zero_add, Nat.add_zero, bL_hangs_19, v1, hor]
theorem sumN_range (T : Nat → Nat) : ∀ k, ((List.range k).map T).sum = sumN T k
  | 0 => rfl
  | k + 1 => by
    rw [List.range_succ, List.map_append, List.sum_append, sumN_range T k]
    rfl
end HA

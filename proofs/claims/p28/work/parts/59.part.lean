-- pure: one order, and all of them
section PT
variable {n : Nat} {cs tx : Nat → Int32}
/-- letters of a word, one after the other -/
def takL (tx : Nat → Int32) (n : Nat) : List Nat → Nat → Nat × Bool
  | [], p => (p, true)
  | c :: L, p => if chrN tx n p = c then takL tx n L (p + 1) else (p, false)
theorem tak_le : ∀ (L : List Nat) (p q : Nat) (b : Bool), (∀ c, c ∈ L → 0 < c) → p ≤ n → takL tx n L p = (q, b) → q ≤ n ∧ p ≤ q ∧ (b = true → q = p + L.length) := by
  intro L
  induction L with
  | nil => intro p q b _ hp h; cases h; exact ⟨hp, Nat.le_refl _, fun _ => rfl⟩
  | cons c L ih =>
    intro p q b hc hp h
    rw [takL] at h
    by_cases e : chrN tx n p = c
    · rw [if_pos e] at h
      have := chr_lt (hc c List.mem_cons_self) e
      obtain ⟨h1, h2, h3⟩ := ih (p + 1) q b (fun d hd => hc d (List.mem_cons_of_mem _ hd)) (by omega) h
      exact ⟨h1, by omega, fun hb => by rw [h3 hb, List.length_cons]; omega⟩
    · rw [if_neg e] at h
      cases h
      exact ⟨hp, Nat.le_refl _, fun hb => by cases hb⟩
theorem takA_r (h : BR n cs tx) (i : Nat) {L : List Nat} (hl : litLen.getD i 0 = L.length) (hL : ∀ j c, L[j]? = some c → litCh i j = nI c ∧ 0 < c ∧ c ≤ 126) (h9 : L.length ≤ 9) : ∀ (M : List Nat) (j p q : Nat) (b : Bool) (fu : Nat), j + M.length = L.length → (∀ k, M[k]? = L[j + k]?) → p ≤ n → takL tx n M p = (q, b) → M.length < fu → rX3_takeAll i (nI n) cs fu 1 (nI j) (nI p) = some (b2 b, nI q) := by
  have h60 := h.1
  intro M
  induction M with
  | nil =>
    intro j p q b fu hj hM hp ht hf
    obtain ⟨fu, rfl⟩ := fuS hf
    cases ht
    rw [List.length_nil] at hj
    rw [sp_X3_takeAll_1]
    unfold bX3_takeAll_1
    rw [hl, if_pos (nI_le (by omega) (by omega))]
    rfl
  | cons c M ih =>
    intro j p q b fu hj hM hp ht hf
    rw [List.length_cons] at hj hf
    obtain ⟨fu, rfl⟩ := fuS hf
    have hc := hM 0
    rw [List.getElem?_cons_zero, Nat.add_zero] at hc
    obtain ⟨c1, c2, c3⟩ := hL j c hc.symm
    rw [takL] at ht
    rw [sp_X3_takeAll_1]
    unfold bX3_takeAll_1
    rw [hl, if_neg (nI_ge (by omega) (by omega)), if_neg (nI_in (by omega) (by omega)), nI_clamp (by omega), c1]
    by_cases e : chrN tx n p = c
    · rw [if_pos e] at ht
      have hp2 := chr_lt c2 e
      rw [take_1 h (by omega) c2 c3 e]
      have := ih (j + 1) (p + 1) q b fu (by omega) (fun k => by have := hM (k + 1); rw [List.getElem?_cons_succ] at this; rw [this, show j + (k + 1) = j + 1 + k by omega]) (by omega) ht (by omega)
      rw [← this]
      simp (disch := first | omega | assumption) only [↓z_m1, li_0, li_1, li_2, li_3, li_4, li_5, li_6, li_7, li_8, li_9, li_10, li_11, li_12, li_13, li_14, li_15, li_16, li_17, li_18, li_19, li_20, li_21, li_22, li_23, li_24, li_25, li_26, li_27, li_28, li_29, li_30, li_31, li_32, li_33, li_34, li_35, li_36, li_37, li_38, li_39, li_40, li_41, li_42, li_43, li_44, li_45, li_46, li_47, li_48, li_49, li_50, li_51, li_52, li_53, li_54, li_55, li_56, li_57, li_58, li_59, li_60, li_61, li_62, li_63, li_64, li_65, li_66, li_67, li_68, li_69, li_70, li_71, li_72, li_73, li_74, li_75, li_76, li_77, li_78, li_79, li_80, li_81, li_82, li_83, li_84, li_85, li_86, li_87, li_88, li_89, li_90, li_91, li_92, li_93, li_94, li_95, li_96, li_97, li_98, li_99, li_100, li_101, li_102, li_103, li_104, li_105, li_106, li_107, li_108, li_109, li_110, li_111, li_112, li_113, li_114, li_115, li_116, li_117, li_118, li_119, li_120, li_121, li_122, li_123, li_124, li_125, li_126, li_127, li_128, li_129, li_130, li_180, li_186, li_192, li_304, li_305, li_306, li_307, li_319, li_320, li_321, li_322, li_408, li_409, li_410, li_416, li_422, li_428, li_458, li_459, li_460, li_2300, li_2760, nI_add, z_m6, z_m12, z_m30, z_l10, z_l12, z_l14, z_l17, z_l30, z_l460, z_sub, z_dec, z_dec0, z_m11, z_cl, z_leT, z_leF, z_ltT, z_ltF, z_eqT, z_eqF, z_em, z_me, z_mlt, z_mle, z_ltm, z_lem, z_mltm, z_mlem, z_nleT, z_nleF, z_nltT, z_nltF, or_false, or_self, false_or, or_true, true_or, not_true_eq_false, not_false_eq_true, ↓reduceIte, lt, z_ob, Nat.zero_add, Nat.add_zero]
    · rw [if_neg e] at ht
      cases ht
      rw [take_0 h (by omega) c2 c3 e]
      simp (disch := first | omega | assumption) only [↓z_m1, li_0, li_1, li_2, li_3, li_4, li_5, li_6, li_7, li_8, li_9, li_10, li_11, li_12, li_13, li_14, li_15, li_16, li_17, li_18, li_19, li_20, li_21, li_22, li_23, li_24, li_25, li_26, li_27, li_28, li_29, li_30, li_31, li_32, li_33, li_34, li_35, li_36, li_37, li_38, li_39, li_40, li_41, li_42, li_43, li_44, li_45, li_46, li_47, li_48, li_49, li_50, li_51, li_52, li_53, li_54, li_55, li_56, li_57, li_58, li_59, li_60, li_61, li_62, li_63, li_64, li_65, li_66, li_67, li_68, li_69, li_70, li_71, li_72, li_73, li_74, li_75, li_76, li_77, li_78, li_79, li_80, li_81, li_82, li_83, li_84, li_85, li_86, li_87, li_88, li_89, li_90, li_91, li_92, li_93, li_94, li_95, li_96, li_97, li_98, li_99, li_100, li_101, li_102, li_103, li_104, li_105, li_106, li_107, li_108, li_109, li_110, li_111, li_112, li_113, li_114, li_115, li_116, li_117, li_118, li_119, li_120, li_121, li_122, li_123, li_124, li_125, li_126, li_127, li_128, li_129, li_130, li_180, li_186, li_192, li_304, li_305, li_306, li_307, li_319, li_320, li_321, li_322, li_408, li_409, li_410, li_416, li_422, li_428, li_458, li_459, li_460, li_2300, li_2760, nI_add, z_m6, z_m12, z_m30, z_l10, z_l12, z_l14, z_l17, z_l30, z_l460, z_sub, z_dec, z_dec0, z_m11, z_cl, z_leT, z_leF, z_ltT, z_ltF, z_eqT, z_eqF, z_em, z_me, z_mlt, z_mle, z_ltm, z_lem, z_mltm, z_mlem, z_nleT, z_nleF, z_nltT, z_nltF, or_false, or_self, false_or, or_true, true_or, not_true_eq_false, not_false_eq_true, ↓reduceIte, lt, z_ob, Nat.zero_add, Nat.add_zero, b2_f]
def litL : Nat → List Nat
  | 0 => [115, 97, 121]
  | 1 => [103, 111]
  | 2 => [101, 97, 114]
  | 3 => [102, 101, 101]
  | _ => [116, 101, 97, 99, 104]
theorem litL_ok : ∀ i : Fin 5, litLen.getD i.val 0 = (litL i.val).length ∧ (litL i.val).length ≤ 9 ∧ ∀ j : Fin 5, j.val < (litL i.val).length → litCh i.val j.val = nI ((litL i.val).getD j.val 0) ∧ 0 < (litL i.val).getD j.val 0 ∧ (litL i.val).getD j.val 0 ≤ 126 := by decide +kernel
theorem litL_5 : ∀ i : Fin 5, (litL i.val).length ≤ 5 := by decide
theorem takA_X (h : BR n cs tx) {i : Nat} (hi : i < 5) {p q : Nat} {b : Bool} (hp : p ≤ n) (ht : takL tx n (litL i) p = (q, b)) : fX3_takeAll i (nI n) (nI p) cs = some (b2 b, nI q) := by
  obtain ⟨h1, h2, h3⟩ := litL_ok ⟨i, hi⟩
  have h5 := litL_5 ⟨i, hi⟩
  dsimp only at h1 h2 h3 h5
  unfold fX3_takeAll eX3_takeAll
  exact takA_r h i h1 (fun j c hj => by
    have hjl := (List.getElem?_eq_some_iff.mp hj).1
    have := h3 ⟨j, by omega⟩ hjl
    dsimp only at this
    rw [List.getD_eq_getElem?_getD, hj] at this
    exact this) h2 (litL i) 0 p q b fuelN (by omega) (fun k => by rw [Nat.zero_add]) hp ht (by show _ < 1000000; omega)
/-- a setting, behind its word -/
def stO (tx : Nat → Int32) (n p : Nat) : Nat × Option (Nat × Nat) :=
  match dgO tx n 0 5 p with
  | none => (p, none)
  | some l => if chrN tx n (p + 1) = 61 then (match dgO tx n 0 9 (p + 2) with
    | some v => (p + 3, some (l, v))
    | none => (p + 2, none)) else (p + 1, none)
theorem stX (h : BR n cs tx) {p : Nat} (hp : p ≤ n) (lk0 va0 : Int32) :
    (∀ q, stO tx n p = (q, none) → q ≤ n ∧ ∃ a v, fX3_readSetting (nI 9) (nI n) (nI p) lk0 va0 cs = some (nI 0, nI q, a, v)) ∧
    (∀ q l v, stO tx n p = (q, some (l, v)) → p + 3 ≤ q ∧ q ≤ n ∧ l < 6 ∧ v < 10 ∧ fX3_readSetting (nI 9) (nI n) (nI p) lk0 va0 cs = some (nI 1, nI q, nI l, nI v)) := by
  have h60 := h.1
  unfold stO fX3_readSetting
  cases hd : dgO tx n 0 5 p with
  | none =>
    refine ⟨fun q e => ?_, fun q l v e => by (cases e)⟩
    cases e
    refine ⟨hp, mI, va0, ?_⟩
    simp (disch := first | omega | assumption) only [↓z_m1, li_0, li_1, li_2, li_3, li_4, li_5, li_6, li_7, li_8, li_9, li_10, li_11, li_12, li_13, li_14, li_15, li_16, li_17, li_18, li_19, li_20, li_21, li_22, li_23, li_24, li_25, li_26, li_27, li_28, li_29, li_30, li_31, li_32, li_33, li_34, li_35, li_36, li_37, li_38, li_39, li_40, li_41, li_42, li_43, li_44, li_45, li_46, li_47, li_48, li_49, li_50, li_51, li_52, li_53, li_54, li_55, li_56, li_57, li_58, li_59, li_60, li_61, li_62, li_63, li_64, li_65, li_66, li_67, li_68, li_69, li_70, li_71, li_72, li_73, li_74, li_75, li_76, li_77, li_78, li_79, li_80, li_81, li_82, li_83, li_84, li_85, li_86, li_87, li_88, li_89, li_90, li_91, li_92, li_93, li_94, li_95, li_96, li_97, li_98, li_99, li_100, li_101, li_102, li_103, li_104, li_105, li_106, li_107, li_108, li_109, li_110, li_111, li_112, li_113, li_114, li_115, li_116, li_117, li_118, li_119, li_120, li_121, li_122, li_123, li_124, li_125, li_126, li_127, li_128, li_129, li_130, li_180, li_186, li_192, li_304, li_305, li_306, li_307, li_319, li_320, li_321, li_322, li_408, li_409, li_410, li_416, li_422, li_428, li_458, li_459, li_460, li_2300, li_2760, nI_add, z_m6, z_m12, z_m30, z_l10, z_l12, z_l14, z_l17, z_l30, z_l460, z_sub, z_dec, z_dec0, z_m11, z_cl, z_leT, z_leF, z_ltT, z_ltF, z_eqT, z_eqF, z_em, z_me, z_mlt, z_mle, z_ltm, z_lem, z_mltm, z_mlem, z_nleT, z_nleF, z_nltT, z_nltF, or_false, or_self, false_or, or_true, true_or, not_true_eq_false, not_false_eq_true, ↓reduceIte, lt, z_ob, Nat.zero_add, Nat.add_zero, digX_0 h (show p ≤ 100 by omega) (show 0 ≤ 9 by omega) (show 5 ≤ 9 by omega) hd]
  | some l =>
    dsimp only
    obtain ⟨d1, d2, d3, d4⟩ := dg_some hd
    have g1 := digX_1 h (show 0 ≤ 9 by omega) (show 5 ≤ 9 by omega) hd
    by_cases e1 : chrN tx n (p + 1) = 61
    · rw [if_pos e1]
      have hl1 := chr_lt (by omega) e1
      have g2 := take_1 h (show p + 1 ≤ 100 by omega) (show 0 < 61 by omega) (show 61 ≤ 126 by omega) e1
      cases hv : dgO tx n 0 9 (p + 2) with
      | none =>
        refine ⟨fun q e => ?_, fun q l v e => by (cases e)⟩
        cases e
        refine ⟨by omega, nI l, mI, ?_⟩
        simp (disch := first | omega | assumption) only [↓z_m1, li_0, li_1, li_2, li_3, li_4, li_5, li_6, li_7, li_8, li_9, li_10, li_11, li_12, li_13, li_14, li_15, li_16, li_17, li_18, li_19, li_20, li_21, li_22, li_23, li_24, li_25, li_26, li_27, li_28, li_29, li_30, li_31, li_32, li_33, li_34, li_35, li_36, li_37, li_38, li_39, li_40, li_41, li_42, li_43, li_44, li_45, li_46, li_47, li_48, li_49, li_50, li_51, li_52, li_53, li_54, li_55, li_56, li_57, li_58, li_59, li_60, li_61, li_62, li_63, li_64, li_65, li_66, li_67, li_68, li_69, li_70, li_71, li_72, li_73, li_74, li_75, li_76, li_77, li_78, li_79, li_80, li_81, li_82, li_83, li_84, li_85, li_86, li_87, li_88, li_89, li_90, li_91, li_92, li_93, li_94, li_95, li_96, li_97, li_98, li_99, li_100, li_101, li_102, li_103, li_104, li_105, li_106, li_107, li_108, li_109, li_110, li_111, li_112, li_113, li_114, li_115, li_116, li_117, li_118, li_119, li_120, li_121, li_122, li_123, li_124, li_125, li_126, li_127, li_128, li_129, li_130, li_180, li_186, li_192, li_304, li_305, li_306, li_307, li_319, li_320, li_321, li_322, li_408, li_409, li_410, li_416, li_422, li_428, li_458, li_459, li_460, li_2300, li_2760, nI_add, z_m6, z_m12, z_m30, z_l10, z_l12, z_l14, z_l17, z_l30, z_l460, z_sub, z_dec, z_dec0, z_m11, z_cl, z_leT, z_leF, z_ltT, z_ltF, z_eqT, z_eqF, z_em, z_me, z_mlt, z_mle, z_ltm, z_lem, z_mltm, z_mlem, z_nleT, z_nleF, z_nltT, z_nltF, or_false, or_self, false_or, or_true, true_or, not_true_eq_false, not_false_eq_true, ↓reduceIte, lt, z_ob, Nat.zero_add, Nat.add_zero, g1, g2, digX_0 h (show p + 2 ≤ 100 by omega) (show 0 ≤ 9 by omega) (show 9 ≤ 9 by omega) hv]
      | some v =>
        obtain ⟨v1, v2, v3, v4⟩ := dg_some hv
        refine ⟨fun q e => by (cases e), fun q l v e => ?_⟩
        cases e
        refine ⟨by omega, by omega, by omega, by omega, ?_⟩
        simp (disch := first | omega | assumption) only [↓z_m1, li_0, li_1, li_2, li_3, li_4, li_5, li_6, li_7, li_8, li_9, li_10, li_11, li_12, li_13, li_14, li_15, li_16, li_17, li_18, li_19, li_20, li_21, li_22, li_23, li_24, li_25, li_26, li_27, li_28, li_29, li_30, li_31, li_32, li_33, li_34, li_35, li_36, li_37, li_38, li_39, li_40, li_41, li_42, li_43, li_44, li_45, li_46, li_47, li_48, li_49, li_50, li_51, li_52, li_53, li_54, li_55, li_56, li_57, li_58, li_59, li_60, li_61, li_62, li_63, li_64, li_65, li_66, li_67, li_68, li_69, li_70, li_71, li_72, li_73, li_74, li_75, li_76, li_77, li_78, li_79, li_80, li_81, li_82, li_83, li_84, li_85, li_86, li_87, li_88, li_89, li_90, li_91, li_92, li_93, li_94, li_95, li_96, li_97, li_98, li_99, li_100, li_101, li_102, li_103, li_104, li_105, li_106, li_107, li_108, li_109, li_110, li_111, li_112, li_113, li_114, li_115, li_116, li_117, li_118, li_119, li_120, li_121, li_122, li_123, li_124, li_125, li_126, li_127, li_128, li_129, li_130, li_180, li_186, li_192, li_304, li_305, li_306, li_307, li_319, li_320, li_321, li_322, li_408, li_409, li_410, li_416, li_422, li_428, li_458, li_459, li_460, li_2300, li_2760, nI_add, z_m6, z_m12, z_m30, z_l10, z_l12, z_l14, z_l17, z_l30, z_l460, z_sub, z_dec, z_dec0, z_m11, z_cl, z_leT, z_leF, z_ltT, z_ltF, z_eqT, z_eqF, z_em, z_me, z_mlt, z_mle, z_ltm, z_lem, z_mltm, z_mlem, z_nleT, z_nleF, z_nltT, z_nltF, or_false, or_self, false_or, or_true, true_or, not_true_eq_false, not_false_eq_true, ↓reduceIte, lt, z_ob, Nat.zero_add, Nat.add_zero, g1, g2, digX_1 h (show 0 ≤ 9 by omega) (show 9 ≤ 9 by omega) hv]
    · rw [if_neg e1]
      refine ⟨fun q e => ?_, fun q l v e => by (cases e)⟩
      cases e
      refine ⟨by omega, nI l, va0, ?_⟩
      simp (disch := first | omega | assumption) only [↓z_m1, li_0, li_1, li_2, li_3, li_4, li_5, li_6, li_7, li_8, li_9, li_10, li_11, li_12, li_13, li_14, li_15, li_16, li_17, li_18, li_19, li_20, li_21, li_22, li_23, li_24, li_25, li_26, li_27, li_28, li_29, li_30, li_31, li_32, li_33, li_34, li_35, li_36, li_37, li_38, li_39, li_40, li_41, li_42, li_43, li_44, li_45, li_46, li_47, li_48, li_49, li_50, li_51, li_52, li_53, li_54, li_55, li_56, li_57, li_58, li_59, li_60, li_61, li_62, li_63, li_64, li_65, li_66, li_67, li_68, li_69, li_70, li_71, li_72, li_73, li_74, li_75, li_76, li_77, li_78, li_79, li_80, li_81, li_82, li_83, li_84, li_85, li_86, li_87, li_88, li_89, li_90, li_91, li_92, li_93, li_94, li_95, li_96, li_97, li_98, li_99, li_100, li_101, li_102, li_103, li_104, li_105, li_106, li_107, li_108, li_109, li_110, li_111, li_112, li_113, li_114, li_115, li_116, li_117, li_118, li_119, li_120, li_121, li_122, li_123, li_124, li_125, li_126, li_127, li_128, li_129, li_130, li_180, li_186, li_192, li_304, li_305, li_306, li_307, li_319, li_320, li_321, li_322, li_408, li_409, li_410, li_416, li_422, li_428, li_458, li_459, li_460, li_2300, li_2760, nI_add, z_m6, z_m12, z_m30, z_l10, z_l12, z_l14, z_l17, z_l30, z_l460, z_sub, z_dec, z_dec0, z_m11, z_cl, z_leT, z_leF, z_ltT, z_ltF, z_eqT, z_eqF, z_em, z_me, z_mlt, z_mle, z_ltm, z_lem, z_mltm, z_mlem, z_nleT, z_nleF, z_nltT, z_nltF, or_false, or_self, false_or, or_true, true_or, not_true_eq_false, not_false_eq_true, ↓reduceIte, lt, z_ob, Nat.zero_add, Nat.add_zero, g1, take_0 h (show p + 1 ≤ 100 by omega) (show 0 < 61 by omega) (show 61 ≤ 126 by omega) e1]
/-- the same of the model: link, sign, number -/
theorem stM (h : BR n cs tx) {p : Nat} (hp : p ≤ n) :
    (∀ q, stO tx n p = (q, none) → ∃ u1 u2 u3 u4 u5 u6 u7 u8, fX9_digit (nI 0) (nI 5) (nI n) (nI p) (nI 0) tx = some (u1, u2, u3) ∧ fX9_sign (nI 61) (nI n) u2 u3 tx = some (u4, u5) ∧ fX9_digit (nI 0) (nI 9) (nI n) u4 u5 tx = some (u6, u7, u8) ∧ u7 = nI q ∧ u8 = nI 1) ∧
    (∀ q l v, stO tx n p = (q, some (l, v)) → ∃ u2 u4, fX9_digit (nI 0) (nI 5) (nI n) (nI p) (nI 0) tx = some (nI l, u2, nI 0) ∧ fX9_sign (nI 61) (nI n) u2 (nI 0) tx = some (u4, nI 0) ∧ fX9_digit (nI 0) (nI 9) (nI n) u4 (nI 0) tx = some (nI v, nI q, nI 0)) := by
  have h60 := h.1
  unfold stO
  cases hd : dgO tx n 0 5 p with
  | none =>
    refine ⟨fun q e => ?_, fun q l v e => by (cases e)⟩
    cases e
    obtain ⟨v1, e1⟩ := digM_0 h (show p ≤ 100 by omega) (show 0 ≤ 9 by omega) (show 5 ≤ 9 by omega) hd
    obtain ⟨v2, e2⟩ := digM_w h (nI 0) (nI 9) (show p ≤ 100 by omega)
    exact ⟨v1, _, _, _, _, v2, _, _, e1, sign_w _ _ _ _, e2, rfl, rfl⟩
  | some l =>
    dsimp only
    obtain ⟨d1, d2, d3, d4⟩ := dg_some hd
    have g1 := digM_1 h (show 0 ≤ 9 by omega) (show 5 ≤ 9 by omega) hd
    by_cases e1 : chrN tx n (p + 1) = 61
    · rw [if_pos e1]
      have hl1 := chr_lt (by omega) e1
      have g2 := sign_1 h (show p + 1 ≤ 100 by omega) (show 61 ≤ 126 by omega) e1
      cases hv : dgO tx n 0 9 (p + 2) with
      | none =>
        refine ⟨fun q e => ?_, fun q l v e => by (cases e)⟩
        cases e
        obtain ⟨v2, e2⟩ := digM_0 h (show p + 2 ≤ 100 by omega) (show 0 ≤ 9 by omega) (show 9 ≤ 9 by omega) hv
        exact ⟨_, _, _, _, _, v2, _, _, g1, g2, e2, rfl, rfl⟩
      | some v =>
        refine ⟨fun q e => by (cases e), fun q l v e => ?_⟩
        cases e
        exact ⟨_, _, g1, g2, digM_1 h (show 0 ≤ 9 by omega) (show 9 ≤ 9 by omega) hv⟩
    · rw [if_neg e1]
      refine ⟨fun q e => ?_, fun q l v e => by (cases e)⟩
      cases e
      obtain ⟨v2, e2⟩ := digM_w h (nI 0) (nI 9) (show p + 1 ≤ 100 by omega)
      exact ⟨_, _, _, _, _, v2, _, _, g1, sign_0 h (show p + 1 ≤ 100 by omega) (show 61 ≤ 126 by omega) e1, e2, rfl, rfl⟩
/-- a lesson, behind its word; 30 is none -/
def lsO (tx : Nat → Int32) (n p : Nat) : Nat × Option (Nat × Nat × Nat) :=
  match dgO tx n 0 5 p with
  | none => (p, none)
  | some l => if chrN tx n (p + 1) = 58 then (match wdO tx n (p + 2) with
    | (q, none) => (q, none)
    | (q, some w) => if chrN tx n q = 61 then (if chrN tx n (q + 1) = 63 then (q + 2, some (l, w, 30)) else (match wdO tx n (q + 1) with
      | (r, none) => (r, none)
      | (r, some v) => (r, some (l, w, v)))) else (q, none)) else (p + 1, none)
theorem lsX (h : BR n cs tx) {p : Nat} (hp : p ≤ n) (lk0 wo0 va0 : Int32) :
    (∀ q, lsO tx n p = (q, none) → q ≤ n ∧ ∃ a b v, fX3_readLesson (nI n) (nI p) lk0 wo0 va0 cs = some (nI 0, nI q, a, b, v)) ∧
    (∀ q l w v, lsO tx n p = (q, some (l, w, v)) → p + 2 ≤ q ∧ q ≤ n ∧ l < 6 ∧ w < 30 ∧ v ≤ 30 ∧ fX3_readLesson (nI n) (nI p) lk0 wo0 va0 cs = some (nI 1, nI q, nI l, nI w, mz v)) := by
  have h60 := h.1
  unfold lsO fX3_readLesson
  cases hd : dgO tx n 0 5 p with
  | none =>
    refine ⟨fun q e => ?_, fun q l w v e => by (cases e)⟩
    cases e
    refine ⟨hp, mI, wo0, va0, ?_⟩
    simp (disch := first | omega | assumption) only [↓z_m1, li_0, li_1, li_2, li_3, li_4, li_5, li_6, li_7, li_8, li_9, li_10, li_11, li_12, li_13, li_14, li_15, li_16, li_17, li_18, li_19, li_20, li_21, li_22, li_23, li_24, li_25, li_26, li_27, li_28, li_29, li_30, li_31, li_32, li_33, li_34, li_35, li_36, li_37, li_38, li_39, li_40, li_41, li_42, li_43, li_44, li_45, li_46, li_47, li_48, li_49, li_50, li_51, li_52, li_53, li_54, li_55, li_56, li_57, li_58, li_59, li_60, li_61, li_62, li_63, li_64, li_65, li_66, li_67, li_68, li_69, li_70, li_71, li_72, li_73, li_74, li_75, li_76, li_77, li_78, li_79, li_80, li_81, li_82, li_83, li_84, li_85, li_86, li_87, li_88, li_89, li_90, li_91, li_92, li_93, li_94, li_95, li_96, li_97, li_98, li_99, li_100, li_101, li_102, li_103, li_104, li_105, li_106, li_107, li_108, li_109, li_110, li_111, li_112, li_113, li_114, li_115, li_116, li_117, li_118, li_119, li_120, li_121, li_122, li_123, li_124, li_125, li_126, li_127, li_128, li_129, li_130, li_180, li_186, li_192, li_304, li_305, li_306, li_307, li_319, li_320, li_321, li_322, li_408, li_409, li_410, li_416, li_422, li_428, li_458, li_459, li_460, li_2300, li_2760, nI_add, z_m6, z_m12, z_m30, z_l10, z_l12, z_l14, z_l17, z_l30, z_l460, z_sub, z_dec, z_dec0, z_m11, z_cl, z_leT, z_leF, z_ltT, z_ltF, z_eqT, z_eqF, z_em, z_me, z_mlt, z_mle, z_ltm, z_lem, z_mltm, z_mlem, z_nleT, z_nleF, z_nltT, z_nltF, or_false, or_self, false_or, or_true, true_or, not_true_eq_false, not_false_eq_true, ↓reduceIte, lt, z_ob, Nat.zero_add, Nat.add_zero, digX_0 h (show p ≤ 100 by omega) (show 0 ≤ 9 by omega) (show 5 ≤ 9 by omega) hd]
  | some l =>
    dsimp only
    obtain ⟨d1, d2, d3, d4⟩ := dg_some hd
    have g1 := digX_1 h (show 0 ≤ 9 by omega) (show 5 ≤ 9 by omega) hd
    by_cases e1 : chrN tx n (p + 1) = 58
    · rw [if_pos e1]
      have hl1 := chr_lt (by omega) e1
      have g2 := take_1 h (show p + 1 ≤ 100 by omega) (show 0 < 58 by omega) (show 58 ≤ 126 by omega) e1
      cases hw : wdO tx n (p + 2) with
      | mk q1 o =>
        cases o with
        | none =>
          have hq1 := (wd_none hw).1
          refine ⟨fun q e => ?_, fun q l w v e => by (cases e)⟩
          cases e
          refine ⟨by omega, nI l, mI, va0, ?_⟩
          simp (disch := first | omega | assumption) only [↓z_m1, li_0, li_1, li_2, li_3, li_4, li_5, li_6, li_7, li_8, li_9, li_10, li_11, li_12, li_13, li_14, li_15, li_16, li_17, li_18, li_19, li_20, li_21, li_22, li_23, li_24, li_25, li_26, li_27, li_28, li_29, li_30, li_31, li_32, li_33, li_34, li_35, li_36, li_37, li_38, li_39, li_40, li_41, li_42, li_43, li_44, li_45, li_46, li_47, li_48, li_49, li_50, li_51, li_52, li_53, li_54, li_55, li_56, li_57, li_58, li_59, li_60, li_61, li_62, li_63, li_64, li_65, li_66, li_67, li_68, li_69, li_70, li_71, li_72, li_73, li_74, li_75, li_76, li_77, li_78, li_79, li_80, li_81, li_82, li_83, li_84, li_85, li_86, li_87, li_88, li_89, li_90, li_91, li_92, li_93, li_94, li_95, li_96, li_97, li_98, li_99, li_100, li_101, li_102, li_103, li_104, li_105, li_106, li_107, li_108, li_109, li_110, li_111, li_112, li_113, li_114, li_115, li_116, li_117, li_118, li_119, li_120, li_121, li_122, li_123, li_124, li_125, li_126, li_127, li_128, li_129, li_130, li_180, li_186, li_192, li_304, li_305, li_306, li_307, li_319, li_320, li_321, li_322, li_408, li_409, li_410, li_416, li_422, li_428, li_458, li_459, li_460, li_2300, li_2760, nI_add, z_m6, z_m12, z_m30, z_l10, z_l12, z_l14, z_l17, z_l30, z_l460, z_sub, z_dec, z_dec0, z_m11, z_cl, z_leT, z_leF, z_ltT, z_ltF, z_eqT, z_eqF, z_em, z_me, z_mlt, z_mle, z_ltm, z_lem, z_mltm, z_mlem, z_nleT, z_nleF, z_nltT, z_nltF, or_false, or_self, false_or, or_true, true_or, not_true_eq_false, not_false_eq_true, ↓reduceIte, lt, z_ob, Nat.zero_add, Nat.add_zero, g1, g2, wdX_0 h (show p + 2 ≤ 100 by omega) hw]
        | some w =>
          dsimp only
          obtain ⟨w1, w2, w3⟩ := wd_some hw
          have g3 := wdX_1 h hw
          by_cases e2 : chrN tx n q1 = 61
          · rw [if_pos e2]
            have hl2 := chr_lt (by omega) e2
            have g4 := take_1 h (show q1 ≤ 100 by omega) (show 0 < 61 by omega) (show 61 ≤ 126 by omega) e2
            by_cases e3 : chrN tx n (q1 + 1) = 63
            · rw [if_pos e3]
              have hl3 := chr_lt (by omega) e3
              have g5 := take_1 h (show q1 + 1 ≤ 100 by omega) (show 0 < 63 by omega) (show 63 ≤ 126 by omega) e3
              refine ⟨fun q e => by (cases e), fun q l w v e => ?_⟩
              cases e
              refine ⟨by omega, by omega, by omega, w3, by omega, ?_⟩
              simp (disch := first | omega | assumption) only [↓z_m1, li_0, li_1, li_2, li_3, li_4, li_5, li_6, li_7, li_8, li_9, li_10, li_11, li_12, li_13, li_14, li_15, li_16, li_17, li_18, li_19, li_20, li_21, li_22, li_23, li_24, li_25, li_26, li_27, li_28, li_29, li_30, li_31, li_32, li_33, li_34, li_35, li_36, li_37, li_38, li_39, li_40, li_41, li_42, li_43, li_44, li_45, li_46, li_47, li_48, li_49, li_50, li_51, li_52, li_53, li_54, li_55, li_56, li_57, li_58, li_59, li_60, li_61, li_62, li_63, li_64, li_65, li_66, li_67, li_68, li_69, li_70, li_71, li_72, li_73, li_74, li_75, li_76, li_77, li_78, li_79, li_80, li_81, li_82, li_83, li_84, li_85, li_86, li_87, li_88, li_89, li_90, li_91, li_92, li_93, li_94, li_95, li_96, li_97, li_98, li_99, li_100, li_101, li_102, li_103, li_104, li_105, li_106, li_107, li_108, li_109, li_110, li_111, li_112, li_113, li_114, li_115, li_116, li_117, li_118, li_119, li_120, li_121, li_122, li_123, li_124, li_125, li_126, li_127, li_128, li_129, li_130, li_180, li_186, li_192, li_304, li_305, li_306, li_307, li_319, li_320, li_321, li_322, li_408, li_409, li_410, li_416, li_422, li_428, li_458, li_459, li_460, li_2300, li_2760, nI_add, z_m6, z_m12, z_m30, z_l10, z_l12, z_l14, z_l17, z_l30, z_l460, z_sub, z_dec, z_dec0, z_m11, z_cl, z_leT, z_leF, z_ltT, z_ltF, z_eqT, z_eqF, z_em, z_me, z_mlt, z_mle, z_ltm, z_lem, z_mltm, z_mlem, z_nleT, z_nleF, z_nltT, z_nltF, or_false, or_self, false_or, or_true, true_or, not_true_eq_false, not_false_eq_true, ↓reduceIte, lt, z_ob, Nat.zero_add, Nat.add_zero, g1, g2, g3, g4, g5, mz_30]
            · rw [if_neg e3]
              have g5 := take_0 h (show q1 + 1 ≤ 100 by omega) (show 0 < 63 by omega) (show 63 ≤ 126 by omega) e3
              cases hv : wdO tx n (q1 + 1) with
              | mk r o2 =>
                cases o2 with
                | none =>
                  have hr := (wd_none hv).1
                  refine ⟨fun q e => ?_, fun q l w v e => by (cases e)⟩
                  cases e
                  refine ⟨by omega, nI l, nI w, mI, ?_⟩
                  simp (disch := first | omega | assumption) only [↓z_m1, li_0, li_1, li_2, li_3, li_4, li_5, li_6, li_7, li_8, li_9, li_10, li_11, li_12, li_13, li_14, li_15, li_16, li_17, li_18, li_19, li_20, li_21, li_22, li_23, li_24, li_25, li_26, li_27, li_28, li_29, li_30, li_31, li_32, li_33, li_34, li_35, li_36, li_37, li_38, li_39, li_40, li_41, li_42, li_43, li_44, li_45, li_46, li_47, li_48, li_49, li_50, li_51, li_52, li_53, li_54, li_55, li_56, li_57, li_58, li_59, li_60, li_61, li_62, li_63, li_64, li_65, li_66, li_67, li_68, li_69, li_70, li_71, li_72, li_73, li_74, li_75, li_76, li_77, li_78, li_79, li_80, li_81, li_82, li_83, li_84, li_85, li_86, li_87, li_88, li_89, li_90, li_91, li_92, li_93, li_94, li_95, li_96, li_97, li_98, li_99, li_100, li_101, li_102, li_103, li_104, li_105, li_106, li_107, li_108, li_109, li_110, li_111, li_112, li_113, li_114, li_115, li_116, li_117, li_118, li_119, li_120, li_121, li_122, li_123, li_124, li_125, li_126, li_127, li_128, li_129, li_130, li_180, li_186, li_192, li_304, li_305, li_306, li_307, li_319, li_320, li_321, li_322, li_408, li_409, li_410, li_416, li_422, li_428, li_458, li_459, li_460, li_2300, li_2760, nI_add, z_m6, z_m12, z_m30, z_l10, z_l12, z_l14, z_l17, z_l30, z_l460, z_sub, z_dec, z_dec0, z_m11, z_cl, z_leT, z_leF, z_ltT, z_ltF, z_eqT, z_eqF, z_em, z_me, z_mlt, z_mle, z_ltm, z_lem, z_mltm, z_mlem, z_nleT, z_nleF, z_nltT, z_nltF, or_false, or_self, false_or, or_true, true_or, not_true_eq_false, not_false_eq_true, ↓reduceIte, lt, z_ob, Nat.zero_add, Nat.add_zero, g1, g2, g3, g4, g5, wdX_0 h (show q1 + 1 ≤ 100 by omega) hv]
                | some v =>
                  obtain ⟨v1, v2, v3⟩ := wd_some hv
                  refine ⟨fun q e => by (cases e), fun q l w v e => ?_⟩
                  cases e
                  refine ⟨by omega, by omega, by omega, w3, by omega, ?_⟩
                  rw [mz_lt v3]
                  simp (disch := first | omega | assumption) only [↓z_m1, li_0, li_1, li_2, li_3, li_4, li_5, li_6, li_7, li_8, li_9, li_10, li_11, li_12, li_13, li_14, li_15, li_16, li_17, li_18, li_19, li_20, li_21, li_22, li_23, li_24, li_25, li_26, li_27, li_28, li_29, li_30, li_31, li_32, li_33, li_34, li_35, li_36, li_37, li_38, li_39, li_40, li_41, li_42, li_43, li_44, li_45, li_46, li_47, li_48, li_49, li_50, li_51, li_52, li_53, li_54, li_55, li_56, li_57, li_58, li_59, li_60, li_61, li_62, li_63, li_64, li_65, li_66, li_67, li_68, li_69, li_70, li_71, li_72, li_73, li_74, li_75, li_76, li_77, li_78, li_79, li_80, li_81, li_82, li_83, li_84, li_85, li_86, li_87, li_88, li_89, li_90, li_91, li_92, li_93, li_94, li_95, li_96, li_97, li_98, li_99, li_100, li_101, li_102, li_103, li_104, li_105, li_106, li_107, li_108, li_109, li_110, li_111, li_112, li_113, li_114, li_115, li_116, li_117, li_118, li_119, li_120, li_121, li_122, li_123, li_124, li_125, li_126, li_127, li_128, li_129, li_130, li_180, li_186, li_192, li_304, li_305, li_306, li_307, li_319, li_320, li_321, li_322, li_408, li_409, li_410, li_416, li_422, li_428, li_458, li_459, li_460, li_2300, li_2760, nI_add, z_m6, z_m12, z_m30, z_l10, z_l12, z_l14, z_l17, z_l30, z_l460, z_sub, z_dec, z_dec0, z_m11, z_cl, z_leT, z_leF, z_ltT, z_ltF, z_eqT, z_eqF, z_em, z_me, z_mlt, z_mle, z_ltm, z_lem, z_mltm, z_mlem, z_nleT, z_nleF, z_nltT, z_nltF, or_false, or_self, false_or, or_true, true_or, not_true_eq_false, not_false_eq_true, ↓reduceIte, lt, z_ob, Nat.zero_add, Nat.add_zero, g1, g2, g3, g4, g5, wdX_1 h hv]
          · rw [if_neg e2]
            refine ⟨fun q e => ?_, fun q l w v e => by (cases e)⟩
            cases e
            refine ⟨by omega, nI l, nI w, va0, ?_⟩
            simp (disch := first | omega | assumption) only [↓z_m1, li_0, li_1, li_2, li_3, li_4, li_5, li_6, li_7, li_8, li_9, li_10, li_11, li_12, li_13, li_14, li_15, li_16, li_17, li_18, li_19, li_20, li_21, li_22, li_23, li_24, li_25, li_26, li_27, li_28, li_29, li_30, li_31, li_32, li_33, li_34, li_35, li_36, li_37, li_38, li_39, li_40, li_41, li_42, li_43, li_44, li_45, li_46, li_47, li_48, li_49, li_50, li_51, li_52, li_53, li_54, li_55, li_56, li_57, li_58, li_59, li_60, li_61, li_62, li_63, li_64, li_65, li_66, li_67, li_68, li_69, li_70, li_71, li_72, li_73, li_74, li_75, li_76, li_77, li_78, li_79, li_80, li_81, li_82, li_83, li_84, li_85, li_86, li_87, li_88, li_89, li_90, li_91, li_92, li_93, li_94, li_95, li_96, li_97, li_98, li_99, li_100, li_101, li_102, li_103, li_104, li_105, li_106, li_107, li_108, li_109, li_110, li_111, li_112, li_113, li_114, li_115, li_116, li_117, li_118, li_119, li_120, li_121, li_122, li_123, li_124, li_125, li_126, li_127, li_128, li_129, li_130, li_180, li_186, li_192, li_304, li_305, li_306, li_307, li_319, li_320, li_321, li_322, li_408, li_409, li_410, li_416, li_422, li_428, li_458, li_459, li_460, li_2300, li_2760, nI_add, z_m6, z_m12, z_m30, z_l10, z_l12, z_l14, z_l17, z_l30, z_l460, z_sub, z_dec, z_dec0, z_m11, z_cl, z_leT, z_leF, z_ltT, z_ltF, z_eqT, z_eqF, z_em, z_me, z_mlt, z_mle, z_ltm, z_lem, z_mltm, z_mlem, z_nleT, z_nleF, z_nltT, z_nltF, or_false, or_self, false_or, or_true, true_or, not_true_eq_false, not_false_eq_true, ↓reduceIte, lt, z_ob, Nat.zero_add, Nat.add_zero, g1, g2, g3, take_0 h (show q1 ≤ 100 by omega) (show 0 < 61 by omega) (show 61 ≤ 126 by omega) e2]
    · rw [if_neg e1]
      refine ⟨fun q e => ?_, fun q l w v e => by (cases e)⟩
      cases e
      refine ⟨by omega, nI l, wo0, va0, ?_⟩
      simp (disch := first | omega | assumption) only [↓z_m1, li_0, li_1, li_2, li_3, li_4, li_5, li_6, li_7, li_8, li_9, li_10, li_11, li_12, li_13, li_14, li_15, li_16, li_17, li_18, li_19, li_20, li_21, li_22, li_23, li_24, li_25, li_26, li_27, li_28, li_29, li_30, li_31, li_32, li_33, li_34, li_35, li_36, li_37, li_38, li_39, li_40, li_41, li_42, li_43, li_44, li_45, li_46, li_47, li_48, li_49, li_50, li_51, li_52, li_53, li_54, li_55, li_56, li_57, li_58, li_59, li_60, li_61, li_62, li_63, li_64, li_65, li_66, li_67, li_68, li_69, li_70, li_71, li_72, li_73, li_74, li_75, li_76, li_77, li_78, li_79, li_80, li_81, li_82, li_83, li_84, li_85, li_86, li_87, li_88, li_89, li_90, li_91, li_92, li_93, li_94, li_95, li_96, li_97, li_98, li_99, li_100, li_101, li_102, li_103, li_104, li_105, li_106, li_107, li_108, li_109, li_110, li_111, li_112, li_113, li_114, li_115, li_116, li_117, li_118, li_119, li_120, li_121, li_122, li_123, li_124, li_125, li_126, li_127, li_128, li_129, li_130, li_180, li_186, li_192, li_304, li_305, li_306, li_307, li_319, li_320, li_321, li_322, li_408, li_409, li_410, li_416, li_422, li_428, li_458, li_459, li_460, li_2300, li_2760, nI_add, z_m6, z_m12, z_m30, z_l10, z_l12, z_l14, z_l17, z_l30, z_l460, z_sub, z_dec, z_dec0, z_m11, z_cl, z_leT, z_leF, z_ltT, z_ltF, z_eqT, z_eqF, z_em, z_me, z_mlt, z_mle, z_ltm, z_lem, z_mltm, z_mlem, z_nleT, z_nleF, z_nltT, z_nltF, or_false, or_self, false_or, or_true, true_or, not_true_eq_false, not_false_eq_true, ↓reduceIte, lt, z_ob, Nat.zero_add, Nat.add_zero, g1, take_0 h (show p + 1 ≤ 100 by omega) (show 0 < 58 by omega) (show 58 ≤ 126 by omega) e1]
/-- the kinds: 0 say, 1 go, 2 ear, 3 fee, 4 teach; link, word, number, sentence, urgency -/
abbrev OrdT := Nat × Nat × Nat × Nat × List Nat × Nat
def ptO (tx : Nat → Int32) (n p : Nat) : Nat × Option OrdT :=
  if chrN tx n p = 101 then (match takL tx n (litL 2) p with
    | (q, false) => (q, none)
    | (q, true) => match stO tx n q with
      | (r, none) => (r, none)
      | (r, some (l, v)) => (r, some (2, l, 0, v, [], 0)))
  else if chrN tx n p = 102 then (match takL tx n (litL 3) p with
    | (q, false) => (q, none)
    | (q, true) => match stO tx n q with
      | (r, none) => (r, none)
      | (r, some (l, v)) => (r, some (3, l, 0, v, [], 0)))
  else if chrN tx n p = 103 then (match takL tx n (litL 1) p with
    | (q, false) => (q, none)
    | (q, true) => (q, some (1, 0, 0, 0, [], 0)))
  else if chrN tx n p = 115 then (match takL tx n (litL 0) p with
    | (q, false) => (q, none)
    | (q, true) => match snO tx n q with
      | (r, none) => (r, none)
      | (r, some (L, u)) => (r, some (0, 0, 0, 0, L, u)))
  else if chrN tx n p = 116 then (match takL tx n (litL 4) p with
    | (q, false) => (q, none)
    | (q, true) => match lsO tx n q with
      | (r, none) => (r, none)
      | (r, some (l, w, v)) => (r, some (4, l, w, v, [], 0)))
  else (p, none)
/-- what this side holds of an order -/
def OrX (o : OrdT) (kd li wo va sl su : Int32) (sw : Nat → Int32) : Prop := kd = nI o.1 ∧ (o.1 = 0 → sl = nI o.2.2.2.2.1.length ∧ su = nI o.2.2.2.2.2 ∧ isR sw 0 o.2.2.2.2.1 ∧ 1 ≤ o.2.2.2.2.1.length ∧ o.2.2.2.2.1.length ≤ 12 ∧ (∀ x, x ∈ o.2.2.2.2.1 → x < 30) ∧ 1 ≤ o.2.2.2.2.2 ∧ o.2.2.2.2.2 ≤ 9) ∧ (o.1 = 2 ∨ o.1 = 3 → li = nI o.2.1 ∧ o.2.1 < 6 ∧ va = nI o.2.2.2.1 ∧ o.2.2.2.1 < 10) ∧ (o.1 = 4 → li = nI o.2.1 ∧ o.2.1 < 6 ∧ wo = nI o.2.2.1 ∧ o.2.2.1 < 30 ∧ va = mz o.2.2.2.1 ∧ o.2.2.2.1 ≤ 30) ∧ o.1 < 5
theorem ptX (h : BR n cs tx) {p : Nat} (hp : p ≤ n) (kd li wo va sl su : Int32) (sw : Nat → Int32) :
    (∀ q, ptO tx n p = (q, none) → q ≤ n ∧ ∃ kd' li' wo' va' sl' su' sw', fX3_readPart (nI n) (nI p) kd li wo va cs sl su sw = some (nI 0, nI q, kd', li', wo', va', sl', su', sw')) ∧
    (∀ q o, ptO tx n p = (q, some o) → p + 2 ≤ q ∧ q ≤ n ∧ (o.1 = 0 → p + 4 ≤ q) ∧ ∃ kd' li' wo' va' sl' su' sw', fX3_readPart (nI n) (nI p) kd li wo va cs sl su sw = some (nI 1, nI q, kd', li', wo', va', sl', su', sw') ∧ OrX o kd' li' wo' va' sl' su' sw') := by
  have h60 := h.1
  have hle := chr_le h p
  unfold ptO
  have hcode : ∀ c, 0 < c → chrN tx n p = c → fX3_codeAt (nI p) (nI n) cs = some (nI c) := fun c hc e => by rw [codeAt_in h (chr_lt hc e), e]
  have pos : ∀ i : Fin 5, ∀ c, c ∈ litL i.val → 0 < c := by decide
  by_cases e101 : chrN tx n p = 101
  · rw [if_pos e101]
    have hc := hcode 101 (by omega) e101
    cases ht : takL tx n (litL 2) p with
    | mk q1 b =>
      have tl := tak_le (litL 2) p q1 b (pos 2) hp ht
      have g1 := takA_X h (i := 2) (by omega) hp ht
      cases b with
      | false =>
        rw [b2_f] at g1
        refine ⟨fun q e => ?_, fun q o e => by (cases e)⟩
        cases e
        refine ⟨tl.1, nI 2, li, wo, va, sl, su, sw, ?_⟩
        unfold fX3_readPart
        simp (disch := first | omega | assumption) only [↓z_m1, li_0, li_1, li_2, li_3, li_4, li_5, li_6, li_7, li_8, li_9, li_10, li_11, li_12, li_13, li_14, li_15, li_16, li_17, li_18, li_19, li_20, li_21, li_22, li_23, li_24, li_25, li_26, li_27, li_28, li_29, li_30, li_31, li_32, li_33, li_34, li_35, li_36, li_37, li_38, li_39, li_40, li_41, li_42, li_43, li_44, li_45, li_46, li_47, li_48, li_49, li_50, li_51, li_52, li_53, li_54, li_55, li_56, li_57, li_58, li_59, li_60, li_61, li_62, li_63, li_64, li_65, li_66, li_67, li_68, li_69, li_70, li_71, li_72, li_73, li_74, li_75, li_76, li_77, li_78, li_79, li_80, li_81, li_82, li_83, li_84, li_85, li_86, li_87, li_88, li_89, li_90, li_91, li_92, li_93, li_94, li_95, li_96, li_97, li_98, li_99, li_100, li_101, li_102, li_103, li_104, li_105, li_106, li_107, li_108, li_109, li_110, li_111, li_112, li_113, li_114, li_115, li_116, li_117, li_118, li_119, li_120, li_121, li_122, li_123, li_124, li_125, li_126, li_127, li_128, li_129, li_130, li_180, li_186, li_192, li_304, li_305, li_306, li_307, li_319, li_320, li_321, li_322, li_408, li_409, li_410, li_416, li_422, li_428, li_458, li_459, li_460, li_2300, li_2760, nI_add, z_m6, z_m12, z_m30, z_l10, z_l12, z_l14, z_l17, z_l30, z_l460, z_sub, z_dec, z_dec0, z_m11, z_cl, z_leT, z_leF, z_ltT, z_ltF, z_eqT, z_eqF, z_em, z_me, z_mlt, z_mle, z_ltm, z_lem, z_mltm, z_mlem, z_nleT, z_nleF, z_nltT, z_nltF, or_false, or_self, false_or, or_true, true_or, not_true_eq_false, not_false_eq_true, ↓reduceIte, lt, z_ob, Nat.zero_add, Nat.add_zero, hc, g1]
      | true =>
        rw [b2_t] at g1
        have t3 : q1 = p + 3 := tl.2.2 rfl
        dsimp only
        obtain ⟨s0, s1⟩ := stX h (p := q1) tl.1 li va
        cases hs : stO tx n q1 with
        | mk r o2 =>
          cases o2 with
          | none =>
            obtain ⟨b1, a, v, g2⟩ := s0 r hs
            refine ⟨fun q e => ?_, fun q o e => by (cases e)⟩
            cases e
            refine ⟨b1, nI 2, a, wo, v, sl, su, sw, ?_⟩
            unfold fX3_readPart
            simp (disch := first | omega | assumption) only [↓z_m1, li_0, li_1, li_2, li_3, li_4, li_5, li_6, li_7, li_8, li_9, li_10, li_11, li_12, li_13, li_14, li_15, li_16, li_17, li_18, li_19, li_20, li_21, li_22, li_23, li_24, li_25, li_26, li_27, li_28, li_29, li_30, li_31, li_32, li_33, li_34, li_35, li_36, li_37, li_38, li_39, li_40, li_41, li_42, li_43, li_44, li_45, li_46, li_47, li_48, li_49, li_50, li_51, li_52, li_53, li_54, li_55, li_56, li_57, li_58, li_59, li_60, li_61, li_62, li_63, li_64, li_65, li_66, li_67, li_68, li_69, li_70, li_71, li_72, li_73, li_74, li_75, li_76, li_77, li_78, li_79, li_80, li_81, li_82, li_83, li_84, li_85, li_86, li_87, li_88, li_89, li_90, li_91, li_92, li_93, li_94, li_95, li_96, li_97, li_98, li_99, li_100, li_101, li_102, li_103, li_104, li_105, li_106, li_107, li_108, li_109, li_110, li_111, li_112, li_113, li_114, li_115, li_116, li_117, li_118, li_119, li_120, li_121, li_122, li_123, li_124, li_125, li_126, li_127, li_128, li_129, li_130, li_180, li_186, li_192, li_304, li_305, li_306, li_307, li_319, li_320, li_321, li_322, li_408, li_409, li_410, li_416, li_422, li_428, li_458, li_459, li_460, li_2300, li_2760, nI_add, z_m6, z_m12, z_m30, z_l10, z_l12, z_l14, z_l17, z_l30, z_l460, z_sub, z_dec, z_dec0, z_m11, z_cl, z_leT, z_leF, z_ltT, z_ltF, z_eqT, z_eqF, z_em, z_me, z_mlt, z_mle, z_ltm, z_lem, z_mltm, z_mlem, z_nleT, z_nleF, z_nltT, z_nltF, or_false, or_self, false_or, or_true, true_or, not_true_eq_false, not_false_eq_true, ↓reduceIte, lt, z_ob, Nat.zero_add, Nat.add_zero, hc, g1, g2]
          | some lv =>
            obtain ⟨l, v⟩ := lv
            obtain ⟨b1, b2', b3, b4, g2⟩ := s1 r l v hs
            refine ⟨fun q e => by (cases e), fun q o e => ?_⟩
            cases e
            refine ⟨by omega, b2', fun h0 => by (cases h0), nI 2, nI l, wo, nI v, sl, su, sw, ?_, rfl, fun h0 => by (cases h0), fun _ => ⟨rfl, b3, rfl, b4⟩, fun h0 => by (cases h0), by (show (2:Nat) < 5; omega)⟩
            unfold fX3_readPart
            simp (disch := first | omega | assumption) only [↓z_m1, li_0, li_1, li_2, li_3, li_4, li_5, li_6, li_7, li_8, li_9, li_10, li_11, li_12, li_13, li_14, li_15, li_16, li_17, li_18, li_19, li_20, li_21, li_22, li_23, li_24, li_25, li_26, li_27, li_28, li_29, li_30, li_31, li_32, li_33, li_34, li_35, li_36, li_37, li_38, li_39, li_40, li_41, li_42, li_43, li_44, li_45, li_46, li_47, li_48, li_49, li_50, li_51, li_52, li_53, li_54, li_55, li_56, li_57, li_58, li_59, li_60, li_61, li_62, li_63, li_64, li_65, li_66, li_67, li_68, li_69, li_70, li_71, li_72, li_73, li_74, li_75, li_76, li_77, li_78, li_79, li_80, li_81, li_82, li_83, li_84, li_85, li_86, li_87, li_88, li_89, li_90, li_91, li_92, li_93, li_94, li_95, li_96, li_97, li_98, li_99, li_100, li_101, li_102, li_103, li_104, li_105, li_106, li_107, li_108, li_109, li_110, li_111, li_112, li_113, li_114, li_115, li_116, li_117, li_118, li_119, li_120, li_121, li_122, li_123, li_124, li_125, li_126, li_127, li_128, li_129, li_130, li_180, li_186, li_192, li_304, li_305, li_306, li_307, li_319, li_320, li_321, li_322, li_408, li_409, li_410, li_416, li_422, li_428, li_458, li_459, li_460, li_2300, li_2760, nI_add, z_m6, z_m12, z_m30, z_l10, z_l12, z_l14, z_l17, z_l30, z_l460, z_sub, z_dec, z_dec0, z_m11, z_cl, z_leT, z_leF, z_ltT, z_ltF, z_eqT, z_eqF, z_em, z_me, z_mlt, z_mle, z_ltm, z_lem, z_mltm, z_mlem, z_nleT, z_nleF, z_nltT, z_nltF, or_false, or_self, false_or, or_true, true_or, not_true_eq_false, not_false_eq_true, ↓reduceIte, lt, z_ob, Nat.zero_add, Nat.add_zero, hc, g1, g2]
  rw [if_neg e101]
  by_cases e102 : chrN tx n p = 102
  · rw [if_pos e102]
    have hc := hcode 102 (by omega) e102
    cases ht : takL tx n (litL 3) p with
    | mk q1 b =>
      have tl := tak_le (litL 3) p q1 b (pos 3) hp ht
      have g1 := takA_X h (i := 3) (by omega) hp ht
      cases b with
      | false =>
        rw [b2_f] at g1
        refine ⟨fun q e => ?_, fun q o e => by (cases e)⟩
        cases e
        refine ⟨tl.1, nI 3, li, wo, va, sl, su, sw, ?_⟩
        unfold fX3_readPart
        simp (disch := first | omega | assumption) only [↓z_m1, li_0, li_1, li_2, li_3, li_4, li_5, li_6, li_7, li_8, li_9, li_10, li_11, li_12, li_13, li_14, li_15, li_16, li_17, li_18, li_19, li_20, li_21, li_22, li_23, li_24, li_25, li_26, li_27, li_28, li_29, li_30, li_31, li_32, li_33, li_34, li_35, li_36, li_37, li_38, li_39, li_40, li_41, li_42, li_43, li_44, li_45, li_46, li_47, li_48, li_49, li_50, li_51, li_52, li_53, li_54, li_55, li_56, li_57, li_58, li_59, li_60, li_61, li_62, li_63, li_64, li_65, li_66, li_67, li_68, li_69, li_70, li_71, li_72, li_73, li_74, li_75, li_76, li_77, li_78, li_79, li_80, li_81, li_82, li_83, li_84, li_85, li_86, li_87, li_88, li_89, li_90, li_91, li_92, li_93, li_94, li_95, li_96, li_97, li_98, li_99, li_100, li_101, li_102, li_103, li_104, li_105, li_106, li_107, li_108, li_109, li_110, li_111, li_112, li_113, li_114, li_115, li_116, li_117, li_118, li_119, li_120, li_121, li_122, li_123, li_124, li_125, li_126, li_127, li_128, li_129, li_130, li_180, li_186, li_192, li_304, li_305, li_306, li_307, li_319, li_320, li_321, li_322, li_408, li_409, li_410, li_416, li_422, li_428, li_458, li_459, li_460, li_2300, li_2760, nI_add, z_m6, z_m12, z_m30, z_l10, z_l12, z_l14, z_l17, z_l30, z_l460, z_sub, z_dec, z_dec0, z_m11, z_cl, z_leT, z_leF, z_ltT, z_ltF, z_eqT, z_eqF, z_em, z_me, z_mlt, z_mle, z_ltm, z_lem, z_mltm, z_mlem, z_nleT, z_nleF, z_nltT, z_nltF, or_false, or_self, false_or, or_true, true_or, not_true_eq_false, not_false_eq_true, ↓reduceIte, lt, z_ob, Nat.zero_add, Nat.add_zero, hc, g1]
      | true =>
        rw [b2_t] at g1
        have t3 : q1 = p + 3 := tl.2.2 rfl
        dsimp only
        obtain ⟨s0, s1⟩ := stX h (p := q1) tl.1 li va
        cases hs : stO tx n q1 with
        | mk r o2 =>
          cases o2 with
          | none =>
            obtain ⟨b1, a, v, g2⟩ := s0 r hs
            refine ⟨fun q e => ?_, fun q o e => by (cases e)⟩
            cases e
            refine ⟨b1, nI 3, a, wo, v, sl, su, sw, ?_⟩
            unfold fX3_readPart
            simp (disch := first | omega | assumption) only [↓z_m1, li_0, li_1, li_2, li_3, li_4, li_5, li_6, li_7, li_8, li_9, li_10, li_11, li_12, li_13, li_14, li_15, li_16, li_17, li_18, li_19, li_20, li_21, li_22, li_23, li_24, li_25, li_26, li_27, li_28, li_29, li_30, li_31, li_32, li_33, li_34, li_35, li_36, li_37, li_38, li_39, li_40, li_41, li_42, li_43, li_44, li_45, li_46, li_47, li_48, li_49, li_50, li_51, li_52, li_53, li_54, li_55, li_56, li_57, li_58, li_59, li_60, li_61, li_62, li_63, li_64, li_65, li_66, li_67, li_68, li_69, li_70, li_71, li_72, li_73, li_74, li_75, li_76, li_77, li_78, li_79, li_80, li_81, li_82, li_83, li_84, li_85, li_86, li_87, li_88, li_89, li_90, li_91, li_92, li_93, li_94, li_95, li_96, li_97, li_98, li_99, li_100, li_101, li_102, li_103, li_104, li_105, li_106, li_107, li_108, li_109, li_110, li_111, li_112, li_113, li_114, li_115, li_116, li_117, li_118, li_119, li_120, li_121, li_122, li_123, li_124, li_125, li_126, li_127, li_128, li_129, li_130, li_180, li_186, li_192, li_304, li_305, li_306, li_307, li_319, li_320, li_321, li_322, li_408, li_409, li_410, li_416, li_422, li_428, li_458, li_459, li_460, li_2300, li_2760, nI_add, z_m6, z_m12, z_m30, z_l10, z_l12, z_l14, z_l17, z_l30, z_l460, z_sub, z_dec, z_dec0, z_m11, z_cl, z_leT, z_leF, z_ltT, z_ltF, z_eqT, z_eqF, z_em, z_me, z_mlt, z_mle, z_ltm, z_lem, z_mltm, z_mlem, z_nleT, z_nleF, z_nltT, z_nltF, or_false, or_self, false_or, or_true, true_or, not_true_eq_false, not_false_eq_true, ↓reduceIte, lt, z_ob, Nat.zero_add, Nat.add_zero, hc, g1, g2]
          | some lv =>
            obtain ⟨l, v⟩ := lv
            obtain ⟨b1, b2', b3, b4, g2⟩ := s1 r l v hs
            refine ⟨fun q e => by (cases e), fun q o e => ?_⟩
            cases e
            refine ⟨by omega, b2', fun h0 => by (cases h0), nI 3, nI l, wo, nI v, sl, su, sw, ?_, rfl, fun h0 => by (cases h0), fun _ => ⟨rfl, b3, rfl, b4⟩, fun h0 => by (cases h0), by (show (3:Nat) < 5; omega)⟩
            unfold fX3_readPart
            simp (disch := first | omega | assumption) only [↓z_m1, li_0, li_1, li_2, li_3, li_4, li_5, li_6, li_7, li_8, li_9, li_10, li_11, li_12, li_13, li_14, li_15, li_16, li_17, li_18, li_19, li_20, li_21, li_22, li_23, li_24, li_25, li_26, li_27, li_28, li_29, li_30, li_31, li_32, li_33, li_34, li_35, li_36, li_37, li_38, li_39, li_40, li_41, li_42, li_43, li_44, li_45, li_46, li_47, li_48, li_49, li_50, li_51, li_52, li_53, li_54, li_55, li_56, li_57, li_58, li_59, li_60, li_61, li_62, li_63, li_64, li_65, li_66, li_67, li_68, li_69, li_70, li_71, li_72, li_73, li_74, li_75, li_76, li_77, li_78, li_79, li_80, li_81, li_82, li_83, li_84, li_85, li_86, li_87, li_88, li_89, li_90, li_91, li_92, li_93, li_94, li_95, li_96, li_97, li_98, li_99, li_100, li_101, li_102, li_103, li_104, li_105, li_106, li_107, li_108, li_109, li_110, li_111, li_112, li_113, li_114, li_115, li_116, li_117, li_118, li_119, li_120, li_121, li_122, li_123, li_124, li_125, li_126, li_127, li_128, li_129, li_130, li_180, li_186, li_192, li_304, li_305, li_306, li_307, li_319, li_320, li_321, li_322, li_408, li_409, li_410, li_416, li_422, li_428, li_458, li_459, li_460, li_2300, li_2760, nI_add, z_m6, z_m12, z_m30, z_l10, z_l12, z_l14, z_l17, z_l30, z_l460, z_sub, z_dec, z_dec0, z_m11, z_cl, z_leT, z_leF, z_ltT, z_ltF, z_eqT, z_eqF, z_em, z_me, z_mlt, z_mle, z_ltm, z_lem, z_mltm, z_mlem, z_nleT, z_nleF, z_nltT, z_nltF, or_false, or_self, false_or, or_true, true_or, not_true_eq_false, not_false_eq_true, ↓reduceIte, lt, z_ob, Nat.zero_add, Nat.add_zero, hc, g1, g2]
  rw [if_neg e102]
  by_cases e103 : chrN tx n p = 103
  · rw [if_pos e103]
    have hc := hcode 103 (by omega) e103
    cases ht : takL tx n (litL 1) p with
    | mk q1 b =>
      have tl := tak_le (litL 1) p q1 b (pos 1) hp ht
      have g1 := takA_X h (i := 1) (by omega) hp ht
      cases b with
      | false =>
        rw [b2_f] at g1
        refine ⟨fun q e => ?_, fun q o e => by (cases e)⟩
        cases e
        refine ⟨tl.1, nI 1, li, wo, va, sl, su, sw, ?_⟩
        unfold fX3_readPart
        simp (disch := first | omega | assumption) only [↓z_m1, li_0, li_1, li_2, li_3, li_4, li_5, li_6, li_7, li_8, li_9, li_10, li_11, li_12, li_13, li_14, li_15, li_16, li_17, li_18, li_19, li_20, li_21, li_22, li_23, li_24, li_25, li_26, li_27, li_28, li_29, li_30, li_31, li_32, li_33, li_34, li_35, li_36, li_37, li_38, li_39, li_40, li_41, li_42, li_43, li_44, li_45, li_46, li_47, li_48, li_49, li_50, li_51, li_52, li_53, li_54, li_55, li_56, li_57, li_58, li_59, li_60, li_61, li_62, li_63, li_64, li_65, li_66, li_67, li_68, li_69, li_70, li_71, li_72, li_73, li_74, li_75, li_76, li_77, li_78, li_79, li_80, li_81, li_82, li_83, li_84, li_85, li_86, li_87, li_88, li_89, li_90, li_91, li_92, li_93, li_94, li_95, li_96, li_97, li_98, li_99, li_100, li_101, li_102, li_103, li_104, li_105, li_106, li_107, li_108, li_109, li_110, li_111, li_112, li_113, li_114, li_115, li_116, li_117, li_118, li_119, li_120, li_121, li_122, li_123, li_124, li_125, li_126, li_127, li_128, li_129, li_130, li_180, li_186, li_192, li_304, li_305, li_306, li_307, li_319, li_320, li_321, li_322, li_408, li_409, li_410, li_416, li_422, li_428, li_458, li_459, li_460, li_2300, li_2760, nI_add, z_m6, z_m12, z_m30, z_l10, z_l12, z_l14, z_l17, z_l30, z_l460, z_sub, z_dec, z_dec0, z_m11, z_cl, z_leT, z_leF, z_ltT, z_ltF, z_eqT, z_eqF, z_em, z_me, z_mlt, z_mle, z_ltm, z_lem, z_mltm, z_mlem, z_nleT, z_nleF, z_nltT, z_nltF, or_false, or_self, false_or, or_true, true_or, not_true_eq_false, not_false_eq_true, ↓reduceIte, lt, z_ob, Nat.zero_add, Nat.add_zero, hc, g1]
      | true =>
        rw [b2_t] at g1
        have t3 : q1 = p + 2 := tl.2.2 rfl
        refine ⟨fun q e => by (cases e), fun q o e => ?_⟩
        cases e
        refine ⟨by omega, tl.1, fun h0 => by (cases h0), nI 1, li, wo, va, sl, su, sw, ?_, rfl, fun h0 => by (cases h0), fun h0 => by (rcases h0 with h0 | h0 <;> cases h0), fun h0 => by (cases h0), by decide⟩
        unfold fX3_readPart
        simp (disch := first | omega | assumption) only [↓z_m1, li_0, li_1, li_2, li_3, li_4, li_5, li_6, li_7, li_8, li_9, li_10, li_11, li_12, li_13, li_14, li_15, li_16, li_17, li_18, li_19, li_20, li_21, li_22, li_23, li_24, li_25, li_26, li_27, li_28, li_29, li_30, li_31, li_32, li_33, li_34, li_35, li_36, li_37, li_38, li_39, li_40, li_41, li_42, li_43, li_44, li_45, li_46, li_47, li_48, li_49, li_50, li_51, li_52, li_53, li_54, li_55, li_56, li_57, li_58, li_59, li_60, li_61, li_62, li_63, li_64, li_65, li_66, li_67, li_68, li_69, li_70, li_71, li_72, li_73, li_74, li_75, li_76, li_77, li_78, li_79, li_80, li_81, li_82, li_83, li_84, li_85, li_86, li_87, li_88, li_89, li_90, li_91, li_92, li_93, li_94, li_95, li_96, li_97, li_98, li_99, li_100, li_101, li_102, li_103, li_104, li_105, li_106, li_107, li_108, li_109, li_110, li_111, li_112, li_113, li_114, li_115, li_116, li_117, li_118, li_119, li_120, li_121, li_122, li_123, li_124, li_125, li_126, li_127, li_128, li_129, li_130, li_180, li_186, li_192, li_304, li_305, li_306, li_307, li_319, li_320, li_321, li_322, li_408, li_409, li_410, li_416, li_422, li_428, li_458, li_459, li_460, li_2300, li_2760, nI_add, z_m6, z_m12, z_m30, z_l10, z_l12, z_l14, z_l17, z_l30, z_l460, z_sub, z_dec, z_dec0, z_m11, z_cl, z_leT, z_leF, z_ltT, z_ltF, z_eqT, z_eqF, z_em, z_me, z_mlt, z_mle, z_ltm, z_lem, z_mltm, z_mlem, z_nleT, z_nleF, z_nltT, z_nltF, or_false, or_self, false_or, or_true, true_or, not_true_eq_false, not_false_eq_true, ↓reduceIte, lt, z_ob, Nat.zero_add, Nat.add_zero, hc, g1]
  rw [if_neg e103]
  by_cases e115 : chrN tx n p = 115
  · rw [if_pos e115]
    have hc := hcode 115 (by omega) e115
    cases ht : takL tx n (litL 0) p with
    | mk q1 b =>
      have tl := tak_le (litL 0) p q1 b (pos 0) hp ht
      have g1 := takA_X h (i := 0) (by omega) hp ht
      cases b with
      | false =>
        rw [b2_f] at g1
        refine ⟨fun q e => ?_, fun q o e => by (cases e)⟩
        cases e
        refine ⟨tl.1, nI 0, li, wo, va, sl, su, sw, ?_⟩
        unfold fX3_readPart
        simp (disch := first | omega | assumption) only [↓z_m1, li_0, li_1, li_2, li_3, li_4, li_5, li_6, li_7, li_8, li_9, li_10, li_11, li_12, li_13, li_14, li_15, li_16, li_17, li_18, li_19, li_20, li_21, li_22, li_23, li_24, li_25, li_26, li_27, li_28, li_29, li_30, li_31, li_32, li_33, li_34, li_35, li_36, li_37, li_38, li_39, li_40, li_41, li_42, li_43, li_44, li_45, li_46, li_47, li_48, li_49, li_50, li_51, li_52, li_53, li_54, li_55, li_56, li_57, li_58, li_59, li_60, li_61, li_62, li_63, li_64, li_65, li_66, li_67, li_68, li_69, li_70, li_71, li_72, li_73, li_74, li_75, li_76, li_77, li_78, li_79, li_80, li_81, li_82, li_83, li_84, li_85, li_86, li_87, li_88, li_89, li_90, li_91, li_92, li_93, li_94, li_95, li_96, li_97, li_98, li_99, li_100, li_101, li_102, li_103, li_104, li_105, li_106, li_107, li_108, li_109, li_110, li_111, li_112, li_113, li_114, li_115, li_116, li_117, li_118, li_119, li_120, li_121, li_122, li_123, li_124, li_125, li_126, li_127, li_128, li_129, li_130, li_180, li_186, li_192, li_304, li_305, li_306, li_307, li_319, li_320, li_321, li_322, li_408, li_409, li_410, li_416, li_422, li_428, li_458, li_459, li_460, li_2300, li_2760, nI_add, z_m6, z_m12, z_m30, z_l10, z_l12, z_l14, z_l17, z_l30, z_l460, z_sub, z_dec, z_dec0, z_m11, z_cl, z_leT, z_leF, z_ltT, z_ltF, z_eqT, z_eqF, z_em, z_me, z_mlt, z_mle, z_ltm, z_lem, z_mltm, z_mlem, z_nleT, z_nleF, z_nltT, z_nltF, or_false, or_self, false_or, or_true, true_or, not_true_eq_false, not_false_eq_true, ↓reduceIte, lt, z_ob, Nat.zero_add, Nat.add_zero, hc, g1]
      | true =>
        rw [b2_t] at g1
        have t3 : q1 = p + 3 := tl.2.2 rfl
        dsimp only
        obtain ⟨s0, s1⟩ := snX h (p := q1) tl.1 sl su sw
        cases hs : snO tx n q1 with
        | mk r o2 =>
          cases o2 with
          | none =>
            obtain ⟨sl', su', sw', g2⟩ := s0 r hs
            refine ⟨fun q e => ?_, fun q o e => by (cases e)⟩
            cases e
            refine ⟨snO_no tl.1 hs, nI 0, li, wo, va, sl', su', sw', ?_⟩
            unfold fX3_readPart
            simp (disch := first | omega | assumption) only [↓z_m1, li_0, li_1, li_2, li_3, li_4, li_5, li_6, li_7, li_8, li_9, li_10, li_11, li_12, li_13, li_14, li_15, li_16, li_17, li_18, li_19, li_20, li_21, li_22, li_23, li_24, li_25, li_26, li_27, li_28, li_29, li_30, li_31, li_32, li_33, li_34, li_35, li_36, li_37, li_38, li_39, li_40, li_41, li_42, li_43, li_44, li_45, li_46, li_47, li_48, li_49, li_50, li_51, li_52, li_53, li_54, li_55, li_56, li_57, li_58, li_59, li_60, li_61, li_62, li_63, li_64, li_65, li_66, li_67, li_68, li_69, li_70, li_71, li_72, li_73, li_74, li_75, li_76, li_77, li_78, li_79, li_80, li_81, li_82, li_83, li_84, li_85, li_86, li_87, li_88, li_89, li_90, li_91, li_92, li_93, li_94, li_95, li_96, li_97, li_98, li_99, li_100, li_101, li_102, li_103, li_104, li_105, li_106, li_107, li_108, li_109, li_110, li_111, li_112, li_113, li_114, li_115, li_116, li_117, li_118, li_119, li_120, li_121, li_122, li_123, li_124, li_125, li_126, li_127, li_128, li_129, li_130, li_180, li_186, li_192, li_304, li_305, li_306, li_307, li_319, li_320, li_321, li_322, li_408, li_409, li_410, li_416, li_422, li_428, li_458, li_459, li_460, li_2300, li_2760, nI_add, z_m6, z_m12, z_m30, z_l10, z_l12, z_l14, z_l17, z_l30, z_l460, z_sub, z_dec, z_dec0, z_m11, z_cl, z_leT, z_leF, z_ltT, z_ltF, z_eqT, z_eqF, z_em, z_me, z_mlt, z_mle, z_ltm, z_lem, z_mltm, z_mlem, z_nleT, z_nleF, z_nltT, z_nltF, or_false, or_self, false_or, or_true, true_or, not_true_eq_false, not_false_eq_true, ↓reduceIte, lt, z_ob, Nat.zero_add, Nat.add_zero, hc, g1, g2]
          | some Lu =>
            obtain ⟨L, u⟩ := Lu
            obtain ⟨sw', g2, g3⟩ := s1 r L u hs
            obtain ⟨b1, b2', b3, b4, b5, b6⟩ := snO_ok hs
            refine ⟨fun q e => by (cases e), fun q o e => ?_⟩
            cases e
            refine ⟨by omega, b2', fun _ => by omega, nI 0, li, wo, va, nI L.length, nI u, sw', ?_, rfl, fun _ => ⟨rfl, rfl, g3, b3, b4, b5, b6⟩, fun h0 => by (rcases h0 with h0 | h0 <;> cases h0), fun h0 => by (cases h0), by (show (0:Nat) < 5; omega)⟩
            unfold fX3_readPart
            simp (disch := first | omega | assumption) only [↓z_m1, li_0, li_1, li_2, li_3, li_4, li_5, li_6, li_7, li_8, li_9, li_10, li_11, li_12, li_13, li_14, li_15, li_16, li_17, li_18, li_19, li_20, li_21, li_22, li_23, li_24, li_25, li_26, li_27, li_28, li_29, li_30, li_31, li_32, li_33, li_34, li_35, li_36, li_37, li_38, li_39, li_40, li_41, li_42, li_43, li_44, li_45, li_46, li_47, li_48, li_49, li_50, li_51, li_52, li_53, li_54, li_55, li_56, li_57, li_58, li_59, li_60, li_61, li_62, li_63, li_64, li_65, li_66, li_67, li_68, li_69, li_70, li_71, li_72, li_73, li_74, li_75, li_76, li_77, li_78, li_79, li_80, li_81, li_82, li_83, li_84, li_85, li_86, li_87, li_88, li_89, li_90, li_91, li_92, li_93, li_94, li_95, li_96, li_97, li_98, li_99, li_100, li_101, li_102, li_103, li_104, li_105, li_106, li_107, li_108, li_109, li_110, li_111, li_112, li_113, li_114, li_115, li_116, li_117, li_118, li_119, li_120, li_121, li_122, li_123, li_124, li_125, li_126, li_127, li_128, li_129, li_130, li_180, li_186, li_192, li_304, li_305, li_306, li_307, li_319, li_320, li_321, li_322, li_408, li_409, li_410, li_416, li_422, li_428, li_458, li_459, li_460, li_2300, li_2760, nI_add, z_m6, z_m12, z_m30, z_l10, z_l12, z_l14, z_l17, z_l30, z_l460, z_sub, z_dec, z_dec0, z_m11, z_cl, z_leT, z_leF, z_ltT, z_ltF, z_eqT, z_eqF, z_em, z_me, z_mlt, z_mle, z_ltm, z_lem, z_mltm, z_mlem, z_nleT, z_nleF, z_nltT, z_nltF, or_false, or_self, false_or, or_true, true_or, not_true_eq_false, not_false_eq_true, ↓reduceIte, lt, z_ob, Nat.zero_add, Nat.add_zero, hc, g1, g2]
  rw [if_neg e115]
  by_cases e116 : chrN tx n p = 116
  · rw [if_pos e116]
    have hc := hcode 116 (by omega) e116
    cases ht : takL tx n (litL 4) p with
    | mk q1 b =>
      have tl := tak_le (litL 4) p q1 b (pos 4) hp ht
      have g1 := takA_X h (i := 4) (by omega) hp ht
      cases b with
      | false =>
        rw [b2_f] at g1
        refine ⟨fun q e => ?_, fun q o e => by (cases e)⟩
        cases e
        refine ⟨tl.1, nI 4, li, wo, va, sl, su, sw, ?_⟩
        unfold fX3_readPart
        simp (disch := first | omega | assumption) only [↓z_m1, li_0, li_1, li_2, li_3, li_4, li_5, li_6, li_7, li_8, li_9, li_10, li_11, li_12, li_13, li_14, li_15, li_16, li_17, li_18, li_19, li_20, li_21, li_22, li_23, li_24, li_25, li_26, li_27, li_28, li_29, li_30, li_31, li_32, li_33, li_34, li_35, li_36, li_37, li_38, li_39, li_40, li_41, li_42, li_43, li_44, li_45, li_46, li_47, li_48, li_49, li_50, li_51, li_52, li_53, li_54, li_55, li_56, li_57, li_58, li_59, li_60, li_61, li_62, li_63, li_64, li_65, li_66, li_67, li_68, li_69, li_70, li_71, li_72, li_73, li_74, li_75, li_76, li_77, li_78, li_79, li_80, li_81, li_82, li_83, li_84, li_85, li_86, li_87, li_88, li_89, li_90, li_91, li_92, li_93, li_94, li_95, li_96, li_97, li_98, li_99, li_100, li_101, li_102, li_103, li_104, li_105, li_106, li_107, li_108, li_109, li_110, li_111, li_112, li_113, li_114, li_115, li_116, li_117, li_118, li_119, li_120, li_121, li_122, li_123, li_124, li_125, li_126, li_127, li_128, li_129, li_130, li_180, li_186, li_192, li_304, li_305, li_306, li_307, li_319, li_320, li_321, li_322, li_408, li_409, li_410, li_416, li_422, li_428, li_458, li_459, li_460, li_2300, li_2760, nI_add, z_m6, z_m12, z_m30, z_l10, z_l12, z_l14, z_l17, z_l30, z_l460, z_sub, z_dec, z_dec0, z_m11, z_cl, z_leT, z_leF, z_ltT, z_ltF, z_eqT, z_eqF, z_em, z_me, z_mlt, z_mle, z_ltm, z_lem, z_mltm, z_mlem, z_nleT, z_nleF, z_nltT, z_nltF, or_false, or_self, false_or, or_true, true_or, not_true_eq_false, not_false_eq_true, ↓reduceIte, lt, z_ob, Nat.zero_add, Nat.add_zero, hc, g1]
      | true =>
        rw [b2_t] at g1
        have t3 : q1 = p + 5 := tl.2.2 rfl
        dsimp only
        obtain ⟨s0, s1⟩ := lsX h (p := q1) tl.1 li wo va
        cases hs : lsO tx n q1 with
        | mk r o2 =>
          cases o2 with
          | none =>
            obtain ⟨b1, a, b, v, g2⟩ := s0 r hs
            refine ⟨fun q e => ?_, fun q o e => by (cases e)⟩
            cases e
            refine ⟨b1, nI 4, a, b, v, sl, su, sw, ?_⟩
            unfold fX3_readPart
            simp (disch := first | omega | assumption) only [↓z_m1, li_0, li_1, li_2, li_3, li_4, li_5, li_6, li_7, li_8, li_9, li_10, li_11, li_12, li_13, li_14, li_15, li_16, li_17, li_18, li_19, li_20, li_21, li_22, li_23, li_24, li_25, li_26, li_27, li_28, li_29, li_30, li_31, li_32, li_33, li_34, li_35, li_36, li_37, li_38, li_39, li_40, li_41, li_42, li_43, li_44, li_45, li_46, li_47, li_48, li_49, li_50, li_51, li_52, li_53, li_54, li_55, li_56, li_57, li_58, li_59, li_60, li_61, li_62, li_63, li_64, li_65, li_66, li_67, li_68, li_69, li_70, li_71, li_72, li_73, li_74, li_75, li_76, li_77, li_78, li_79, li_80, li_81, li_82, li_83, li_84, li_85, li_86, li_87, li_88, li_89, li_90, li_91, li_92, li_93, li_94, li_95, li_96, li_97, li_98, li_99, li_100, li_101, li_102, li_103, li_104, li_105, li_106, li_107, li_108, li_109, li_110, li_111, li_112, li_113, li_114, li_115, li_116, li_117, li_118, li_119, li_120, li_121, li_122, li_123, li_124, li_125, li_126, li_127, li_128, li_129, li_130, li_180, li_186, li_192, li_304, li_305, li_306, li_307, li_319, li_320, li_321, li_322, li_408, li_409, li_410, li_416, li_422, li_428, li_458, li_459, li_460, li_2300, li_2760, nI_add, z_m6, z_m12, z_m30, z_l10, z_l12, z_l14, z_l17, z_l30, z_l460, z_sub, z_dec, z_dec0, z_m11, z_cl, z_leT, z_leF, z_ltT, z_ltF, z_eqT, z_eqF, z_em, z_me, z_mlt, z_mle, z_ltm, z_lem, z_mltm, z_mlem, z_nleT, z_nleF, z_nltT, z_nltF, or_false, or_self, false_or, or_true, true_or, not_true_eq_false, not_false_eq_true, ↓reduceIte, lt, z_ob, Nat.zero_add, Nat.add_zero, hc, g1, g2]
          | some lv =>
            obtain ⟨l, w, v⟩ := lv
            obtain ⟨b1, b2', b3, b4, b5, g2⟩ := s1 r l w v hs
            refine ⟨fun q e => by (cases e), fun q o e => ?_⟩
            cases e
            refine ⟨by omega, b2', fun h0 => by (cases h0), nI 4, nI l, nI w, mz v, sl, su, sw, ?_, rfl, fun h0 => by (cases h0), fun h0 => by (rcases h0 with h0 | h0 <;> cases h0), fun _ => ⟨rfl, b3, rfl, b4, rfl, b5⟩, by (show (4:Nat) < 5; omega)⟩
            unfold fX3_readPart
            simp (disch := first | omega | assumption) only [↓z_m1, li_0, li_1, li_2, li_3, li_4, li_5, li_6, li_7, li_8, li_9, li_10, li_11, li_12, li_13, li_14, li_15, li_16, li_17, li_18, li_19, li_20, li_21, li_22, li_23, li_24, li_25, li_26, li_27, li_28, li_29, li_30, li_31, li_32, li_33, li_34, li_35, li_36, li_37, li_38, li_39, li_40, li_41, li_42, li_43, li_44, li_45, li_46, li_47, li_48, li_49, li_50, li_51, li_52, li_53, li_54, li_55, li_56, li_57, li_58, li_59, li_60, li_61, li_62, li_63, li_64, li_65, li_66, li_67, li_68, li_69, li_70, li_71, li_72, li_73, li_74, li_75, li_76, li_77, li_78, li_79, li_80, li_81, li_82, li_83, li_84, li_85, li_86, li_87, li_88, li_89, li_90, li_91, li_92, li_93, li_94, li_95, li_96, li_97, li_98, li_99, li_100, li_101, li_102, li_103, li_104, li_105, li_106, li_107, li_108, li_109, li_110, li_111, li_112, li_113, li_114, li_115, li_116, li_117, li_118, li_119, li_120, li_121, li_122, li_123, li_124, li_125, li_126, li_127, li_128, li_129, li_130, li_180, li_186, li_192, li_304, li_305, li_306, li_307, li_319, li_320, li_321, li_322, li_408, li_409, li_410, li_416, li_422, li_428, li_458, li_459, li_460, li_2300, li_2760, nI_add, z_m6, z_m12, z_m30, z_l10, z_l12, z_l14, z_l17, z_l30, z_l460, z_sub, z_dec, z_dec0, z_m11, z_cl, z_leT, z_leF, z_ltT, z_ltF, z_eqT, z_eqF, z_em, z_me, z_mlt, z_mle, z_ltm, z_lem, z_mltm, z_mlem, z_nleT, z_nleF, z_nltT, z_nltF, or_false, or_self, false_or, or_true, true_or, not_true_eq_false, not_false_eq_true, ↓reduceIte, lt, z_ob, Nat.zero_add, Nat.add_zero, hc, g1, g2]
  rw [if_neg e116]
  refine ⟨fun q e => ?_, fun q o e => by (cases e)⟩
  cases e
  refine ⟨hp, kd, li, wo, va, sl, su, sw, ?_⟩
  unfold fX3_readPart
  by_cases hn : p < n
  · simp (disch := first | omega | assumption) only [↓z_m1, li_0, li_1, li_2, li_3, li_4, li_5, li_6, li_7, li_8, li_9, li_10, li_11, li_12, li_13, li_14, li_15, li_16, li_17, li_18, li_19, li_20, li_21, li_22, li_23, li_24, li_25, li_26, li_27, li_28, li_29, li_30, li_31, li_32, li_33, li_34, li_35, li_36, li_37, li_38, li_39, li_40, li_41, li_42, li_43, li_44, li_45, li_46, li_47, li_48, li_49, li_50, li_51, li_52, li_53, li_54, li_55, li_56, li_57, li_58, li_59, li_60, li_61, li_62, li_63, li_64, li_65, li_66, li_67, li_68, li_69, li_70, li_71, li_72, li_73, li_74, li_75, li_76, li_77, li_78, li_79, li_80, li_81, li_82, li_83, li_84, li_85, li_86, li_87, li_88, li_89, li_90, li_91, li_92, li_93, li_94, li_95, li_96, li_97, li_98, li_99, li_100, li_101, li_102, li_103, li_104, li_105, li_106, li_107, li_108, li_109, li_110, li_111, li_112, li_113, li_114, li_115, li_116, li_117, li_118, li_119, li_120, li_121, li_122, li_123, li_124, li_125, li_126, li_127, li_128, li_129, li_130, li_180, li_186, li_192, li_304, li_305, li_306, li_307, li_319, li_320, li_321, li_322, li_408, li_409, li_410, li_416, li_422, li_428, li_458, li_459, li_460, li_2300, li_2760, nI_add, z_m6, z_m12, z_m30, z_l10, z_l12, z_l14, z_l17, z_l30, z_l460, z_sub, z_dec, z_dec0, z_m11, z_cl, z_leT, z_leF, z_ltT, z_ltF, z_eqT, z_eqF, z_em, z_me, z_mlt, z_mle, z_ltm, z_lem, z_mltm, z_mlem, z_nleT, z_nleF, z_nltT, z_nltF, or_false, or_self, false_or, or_true, true_or, not_true_eq_false, not_false_eq_true, ↓reduceIte, lt, z_ob, Nat.zero_add, Nat.add_zero, codeAt_in h hn]
  · simp (disch := first | omega | assumption) only [↓z_m1, li_0, li_1, li_2, li_3, li_4, li_5, li_6, li_7, li_8, li_9, li_10, li_11, li_12, li_13, li_14, li_15, li_16, li_17, li_18, li_19, li_20, li_21, li_22, li_23, li_24, li_25, li_26, li_27, li_28, li_29, li_30, li_31, li_32, li_33, li_34, li_35, li_36, li_37, li_38, li_39, li_40, li_41, li_42, li_43, li_44, li_45, li_46, li_47, li_48, li_49, li_50, li_51, li_52, li_53, li_54, li_55, li_56, li_57, li_58, li_59, li_60, li_61, li_62, li_63, li_64, li_65, li_66, li_67, li_68, li_69, li_70, li_71, li_72, li_73, li_74, li_75, li_76, li_77, li_78, li_79, li_80, li_81, li_82, li_83, li_84, li_85, li_86, li_87, li_88, li_89, li_90, li_91, li_92, li_93, li_94, li_95, li_96, li_97, li_98, li_99, li_100, li_101, li_102, li_103, li_104, li_105, li_106, li_107, li_108, li_109, li_110, li_111, li_112, li_113, li_114, li_115, li_116, li_117, li_118, li_119, li_120, li_121, li_122, li_123, li_124, li_125, li_126, li_127, li_128, li_129, li_130, li_180, li_186, li_192, li_304, li_305, li_306, li_307, li_319, li_320, li_321, li_322, li_408, li_409, li_410, li_416, li_422, li_428, li_458, li_459, li_460, li_2300, li_2760, nI_add, z_m6, z_m12, z_m30, z_l10, z_l12, z_l14, z_l17, z_l30, z_l460, z_sub, z_dec, z_dec0, z_m11, z_cl, z_leT, z_leF, z_ltT, z_ltF, z_eqT, z_eqF, z_em, z_me, z_mlt, z_mle, z_ltm, z_lem, z_mltm, z_mlem, z_nleT, z_nleF, z_nltT, z_nltF, or_false, or_self, false_or, or_true, true_or, not_true_eq_false, not_false_eq_true, ↓reduceIte, lt, z_ob, Nat.zero_add, Nat.add_zero, codeAt_out h (show n ≤ p by omega) (show p ≤ 100 by omega)]
end PT

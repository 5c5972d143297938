-- pure: the digest
/-- values hashed one after the other -/
def hF (g : Nat → Int64) : Nat → Nat → Int64 → Int64
  | 0, _, h => h
  | k + 1, i, h => hF g k (i + 1) (31 * h + g i)
def hN2 (g : Nat → Nat → Int64) (m : Nat) : Nat → Nat → Int64 → Int64
  | 0, _, h => h
  | k + 1, i, h => hN2 g m k (i + 1) (hF (g i) m 0 h)
def hLk (g1 g2 : Nat → Nat → Int64) (g3 : Nat → Nat → Nat → Int64) : Nat → Nat → Int64 → Int64
  | 0, _, h => h
  | k + 1, l, h => hLk g1 g2 g3 k (l + 1) (hN2 (g3 l) 3 30 0 (hF (g2 l) 4 0 (hF (g1 l) 7 0 h)))
def hAr (g1 g2 : Nat → Nat → Int64) (t : Nat → Nat) : Nat → Nat → Int64 → Int64
  | 0, _, h => h
  | k + 1, b, h => hAr g1 g2 t k (b + 1) (hF (g2 b) (t b) 0 (hF (g1 b) 6 0 h))
theorem sk_1 {α : Type} (d : α) {a : Nat} {Q : Nat → α → Prop} (H : ∀ l, l < a → ∃ v, Q l v) : ∃ g : Nat → α, ∀ l, l < a → Q l (g l) := by
  classical
  refine ⟨fun l => if h : l < a then Classical.choose (H l h) else d, fun l h1 => ?_⟩
  dsimp only
  rw [dif_pos h1]
  exact Classical.choose_spec (H l h1)
theorem sk_2 {a b : Nat} {Q : Nat → Nat → Int32 → Prop} (H : ∀ l k, l < a → k < b → ∃ v, Q l k v) : ∃ g : Nat → Nat → Int32, ∀ l k, l < a → k < b → Q l k (g l k) := by
  classical
  refine ⟨fun l k => if h : l < a ∧ k < b then Classical.choose (H l k h.1 h.2) else 0, fun l k h1 h2 => ?_⟩
  dsimp only
  rw [dif_pos ⟨h1, h2⟩]
  exact Classical.choose_spec (H l k h1 h2)
/-- how long a text is -/
def tlN : List Nat → Nat
  | [] => 0
  | w :: M => widN w + (if M = [] then 0 else 1 + tlN M)
def smN : List Nat → Nat
  | [] => 0
  | w :: M => 1 + widN w + smN M
theorem tl_sm : ∀ (M : List Nat), (if M = [] then 0 else 1 + tlN M) = smN M := by
  intro M
  induction M with
  | nil => rfl
  | cons w M ih => rw [if_neg (by simp), tlN, ih, smN]; omega
theorem sm_le : ∀ (M : List Nat), smN M ≤ 3 * M.length := by
  intro M
  induction M with
  | nil => exact Nat.le_refl _
  | cons w M ih => rw [smN, List.length_cons]; have := wid_12 w; omega
theorem tl_le {L : List Nat} (h : L.length ≤ 12) : tlN L ≤ 36 := by
  cases L with
  | nil => exact Nat.zero_le _
  | cons w M => rw [tlN, tl_sm]; have := sm_le M; have := wid_12 w; rw [List.length_cons] at h; omega
theorem ch_in : ∀ (L : List Nat) (i : Nat), bd L → i < tlN L → ∃ c, c < 1000 ∧ chT L i = nI c := by
  intro L
  induction L with
  | nil => intro i _ h; exact absurd h (Nat.not_lt_zero _)
  | cons w M ih =>
    intro i hb h
    rw [tlN] at h
    rw [chT]
    have hw := bd_h hb
    by_cases e1 : i < widN w
    · rw [if_pos e1]
      unfold chrW
      split
      · exact ⟨63, by omega, rfl⟩
      · split
        · exact ⟨48 + w / 10, by omega, rfl⟩
        · exact ⟨48 + w % 10, by omega, rfl⟩
    · rw [if_neg e1]
      cases M with
      | nil => rw [if_pos rfl] at h; omega
      | cons v M =>
        rw [if_neg (by simp)] at h
        by_cases e2 : i = widN w
        · rw [if_pos e2, if_neg (by simp)]
          exact ⟨44, by omega, rfl⟩
        · rw [if_neg e2]
          exact ih (i - widN w - 1) (bd_t hb) (by omega)
theorem ch_out : ∀ (L : List Nat) (i : Nat), tlN L ≤ i → chT L i = mI := by
  intro L
  induction L with
  | nil => intro i _; rfl
  | cons w M ih =>
    intro i h
    rw [tlN] at h
    rw [chT]
    cases M with
    | nil =>
      rw [if_pos rfl] at h
      rw [if_neg (by omega)]
      by_cases e2 : i = widN w
      · rw [if_pos e2, if_pos rfl]
      · rw [if_neg e2]; rfl
    | cons v M =>
      rw [if_neg (by simp)] at h
      rw [if_neg (by omega), if_neg (by omega)]
      exact ih (i - widN w - 1) (by omega)
section DM
variable {s tx : Nat → Int32} {n np tn kp : Nat} {P : List Nat}
def i6 (g : Nat → Nat → Int32) (l k : Nat) : Int64 := (g l k).toInt64
theorem dg_1 (sz mi pd ls : Int32) (line : Nat → Int32) : ∀ (k i : Nat) (z : Int64) (fu : Nat), i + k = 7 → k < fu → ∃ fu', rX9_digest (nI np) (nI tn) s tx fu 1 z (nI i) (nI 0) (nI 0) (nI 0) sz mi pd ls line = rX9_digest (nI np) (nI tn) s tx fu' 2 (hF (fun k => (vCount s np k).toInt64) k i z) (nI 0) (nI 0) (nI 0) (nI 0) sz mi pd ls line ∧ fu = fu' + k + 1 := by
  intro k
  induction k with
  | zero =>
    intro i z fu hi hf
    obtain ⟨fu, rfl⟩ := fuS hf
    obtain rfl : i = 7 := by omega
    refine ⟨fu, ?_, by omega⟩
    simp (disch := first | omega | assumption) only [↓z_m1, li_0, li_1, li_2, li_3, li_4, li_5, li_6, li_7, li_8, li_9, li_10, li_11, li_12, li_13, li_14, li_15, li_16, li_17, li_18, li_19, li_20, li_21, li_22, li_23, li_24, li_25, li_26, li_27, li_28, li_29, li_30, li_31, li_32, li_33, li_34, li_35, li_36, li_37, li_38, li_39, li_40, li_41, li_42, li_43, li_44, li_45, li_46, li_47, li_48, li_49, li_50, li_51, li_52, li_53, li_54, li_55, li_56, li_57, li_58, li_59, li_60, li_61, li_62, li_63, li_64, li_65, li_66, li_67, li_68, li_69, li_70, li_71, li_72, li_73, li_74, li_75, li_76, li_77, li_78, li_79, li_80, li_81, li_82, li_83, li_84, li_85, li_86, li_87, li_88, li_89, li_90, li_91, li_92, li_93, li_94, li_95, li_96, li_97, li_98, li_99, li_100, li_101, li_102, li_103, li_104, li_105, li_106, li_107, li_108, li_109, li_110, li_111, li_112, li_113, li_114, li_115, li_116, li_117, li_118, li_119, li_120, li_121, li_122, li_123, li_124, li_125, li_126, li_127, li_128, li_129, li_130, li_180, li_186, li_192, li_304, li_305, li_306, li_307, li_319, li_320, li_321, li_322, li_408, li_409, li_410, li_416, li_422, li_428, li_458, li_459, li_460, li_2300, li_2760, nI_add, z_m6, z_m12, z_m30, z_l10, z_l12, z_l14, z_l17, z_l30, z_l460, z_sub, z_dec, z_dec0, z_m11, z_cl, z_leT, z_leF, z_ltT, z_ltF, z_eqT, z_eqF, z_em, z_me, z_mlt, z_mle, z_ltm, z_lem, z_mltm, z_mlem, z_nleT, z_nleF, z_nltT, z_nltF, or_false, or_self, false_or, or_true, true_or, not_true_eq_false, not_false_eq_true, ↓reduceIte, lt, z_ob, Nat.zero_add, Nat.add_zero, sp_X9_digest_1, bX9_digest_1, hF]
  | succ k ih =>
    intro i z fu hi hf
    obtain ⟨fu, rfl⟩ := fuS hf
    obtain ⟨fu', e1, e2⟩ := ih (i + 1) (31 * z + (vCount s np i).toInt64) fu (by omega) (by omega)
    refine ⟨fu', ?_, by omega⟩
    rw [hF, ← e1]
    simp (disch := first | omega | assumption) only [↓z_m1, li_0, li_1, li_2, li_3, li_4, li_5, li_6, li_7, li_8, li_9, li_10, li_11, li_12, li_13, li_14, li_15, li_16, li_17, li_18, li_19, li_20, li_21, li_22, li_23, li_24, li_25, li_26, li_27, li_28, li_29, li_30, li_31, li_32, li_33, li_34, li_35, li_36, li_37, li_38, li_39, li_40, li_41, li_42, li_43, li_44, li_45, li_46, li_47, li_48, li_49, li_50, li_51, li_52, li_53, li_54, li_55, li_56, li_57, li_58, li_59, li_60, li_61, li_62, li_63, li_64, li_65, li_66, li_67, li_68, li_69, li_70, li_71, li_72, li_73, li_74, li_75, li_76, li_77, li_78, li_79, li_80, li_81, li_82, li_83, li_84, li_85, li_86, li_87, li_88, li_89, li_90, li_91, li_92, li_93, li_94, li_95, li_96, li_97, li_98, li_99, li_100, li_101, li_102, li_103, li_104, li_105, li_106, li_107, li_108, li_109, li_110, li_111, li_112, li_113, li_114, li_115, li_116, li_117, li_118, li_119, li_120, li_121, li_122, li_123, li_124, li_125, li_126, li_127, li_128, li_129, li_130, li_180, li_186, li_192, li_304, li_305, li_306, li_307, li_319, li_320, li_321, li_322, li_408, li_409, li_410, li_416, li_422, li_428, li_458, li_459, li_460, li_2300, li_2760, nI_add, z_m6, z_m12, z_m30, z_l10, z_l12, z_l14, z_l17, z_l30, z_l460, z_sub, z_dec, z_dec0, z_m11, z_cl, z_leT, z_leF, z_ltT, z_ltF, z_eqT, z_eqF, z_em, z_me, z_mlt, z_mle, z_ltm, z_lem, z_mltm, z_mlem, z_nleT, z_nleF, z_nltT, z_nltF, or_false, or_self, false_or, or_true, true_or, not_true_eq_false, not_false_eq_true, ↓reduceIte, lt, z_ob, Nat.zero_add, Nat.add_zero, sp_X9_digest_1, bX9_digest_1, count_MV]
theorem dg_3 (hd : Dic s) {l : Nat} (hl : l < 6) (sz mi pd ls : Int32) (line : Nat → Int32) : ∀ (k i : Nat) (z : Int64) (fu : Nat), i + k = 7 → k < fu → ∃ fu', rX9_digest (nI np) (nI tn) s tx fu 3 z (nI l) (nI i) (nI 0) (nI 0) sz mi pd ls line = rX9_digest (nI np) (nI tn) s tx fu' 4 (hF (i6 (vLink s) l) k i z) (nI l) (nI 0) (nI 0) (nI 0) sz mi pd ls line ∧ fu = fu' + k + 1 := by
  intro k
  induction k with
  | zero =>
    intro i z fu hi hf
    obtain ⟨fu, rfl⟩ := fuS hf
    obtain rfl : i = 7 := by omega
    refine ⟨fu, ?_, by omega⟩
    simp (disch := first | omega | assumption) only [↓z_m1, li_0, li_1, li_2, li_3, li_4, li_5, li_6, li_7, li_8, li_9, li_10, li_11, li_12, li_13, li_14, li_15, li_16, li_17, li_18, li_19, li_20, li_21, li_22, li_23, li_24, li_25, li_26, li_27, li_28, li_29, li_30, li_31, li_32, li_33, li_34, li_35, li_36, li_37, li_38, li_39, li_40, li_41, li_42, li_43, li_44, li_45, li_46, li_47, li_48, li_49, li_50, li_51, li_52, li_53, li_54, li_55, li_56, li_57, li_58, li_59, li_60, li_61, li_62, li_63, li_64, li_65, li_66, li_67, li_68, li_69, li_70, li_71, li_72, li_73, li_74, li_75, li_76, li_77, li_78, li_79, li_80, li_81, li_82, li_83, li_84, li_85, li_86, li_87, li_88, li_89, li_90, li_91, li_92, li_93, li_94, li_95, li_96, li_97, li_98, li_99, li_100, li_101, li_102, li_103, li_104, li_105, li_106, li_107, li_108, li_109, li_110, li_111, li_112, li_113, li_114, li_115, li_116, li_117, li_118, li_119, li_120, li_121, li_122, li_123, li_124, li_125, li_126, li_127, li_128, li_129, li_130, li_180, li_186, li_192, li_304, li_305, li_306, li_307, li_319, li_320, li_321, li_322, li_408, li_409, li_410, li_416, li_422, li_428, li_458, li_459, li_460, li_2300, li_2760, nI_add, z_m6, z_m12, z_m30, z_l10, z_l12, z_l14, z_l17, z_l30, z_l460, z_sub, z_dec, z_dec0, z_m11, z_cl, z_leT, z_leF, z_ltT, z_ltF, z_eqT, z_eqF, z_em, z_me, z_mlt, z_mle, z_ltm, z_lem, z_mltm, z_mlem, z_nleT, z_nleF, z_nltT, z_nltF, or_false, or_self, false_or, or_true, true_or, not_true_eq_false, not_false_eq_true, ↓reduceIte, lt, z_ob, Nat.zero_add, Nat.add_zero, sp_X9_digest_3, bX9_digest_3, hF]
  | succ k ih =>
    intro i z fu hi hf
    obtain ⟨fu, rfl⟩ := fuS hf
    obtain ⟨fu', e1, e2⟩ := ih (i + 1) (31 * z + i6 (vLink s) l i) fu (by omega) (by omega)
    refine ⟨fu', ?_, by omega⟩
    rw [hF, ← e1]
    unfold i6
    simp (disch := first | omega | assumption) only [↓z_m1, li_0, li_1, li_2, li_3, li_4, li_5, li_6, li_7, li_8, li_9, li_10, li_11, li_12, li_13, li_14, li_15, li_16, li_17, li_18, li_19, li_20, li_21, li_22, li_23, li_24, li_25, li_26, li_27, li_28, li_29, li_30, li_31, li_32, li_33, li_34, li_35, li_36, li_37, li_38, li_39, li_40, li_41, li_42, li_43, li_44, li_45, li_46, li_47, li_48, li_49, li_50, li_51, li_52, li_53, li_54, li_55, li_56, li_57, li_58, li_59, li_60, li_61, li_62, li_63, li_64, li_65, li_66, li_67, li_68, li_69, li_70, li_71, li_72, li_73, li_74, li_75, li_76, li_77, li_78, li_79, li_80, li_81, li_82, li_83, li_84, li_85, li_86, li_87, li_88, li_89, li_90, li_91, li_92, li_93, li_94, li_95, li_96, li_97, li_98, li_99, li_100, li_101, li_102, li_103, li_104, li_105, li_106, li_107, li_108, li_109, li_110, li_111, li_112, li_113, li_114, li_115, li_116, li_117, li_118, li_119, li_120, li_121, li_122, li_123, li_124, li_125, li_126, li_127, li_128, li_129, li_130, li_180, li_186, li_192, li_304, li_305, li_306, li_307, li_319, li_320, li_321, li_322, li_408, li_409, li_410, li_416, li_422, li_428, li_458, li_459, li_460, li_2300, li_2760, nI_add, z_m6, z_m12, z_m30, z_l10, z_l12, z_l14, z_l17, z_l30, z_l460, z_sub, z_dec, z_dec0, z_m11, z_cl, z_leT, z_leF, z_ltT, z_ltF, z_eqT, z_eqF, z_em, z_me, z_mlt, z_mle, z_ltm, z_lem, z_mltm, z_mlem, z_nleT, z_nleF, z_nltT, z_nltF, or_false, or_self, false_or, or_true, true_or, not_true_eq_false, not_false_eq_true, ↓reduceIte, lt, z_ob, Nat.zero_add, Nat.add_zero, sp_X9_digest_3, bX9_digest_3, link_MV hd]
def GoM (s : Nat → Int32) (g : Nat → Nat → Int32) : Prop := ∀ l k, l < 6 → k < 4 → ∀ (sz mi pd ls : Int32) (line : Nat → Int32), ∃ sz' mi' pd' ls' line', fX9_gone (nI l) (nI k) sz mi pd ls s line = some (g l k, sz', mi', pd', ls', line')
theorem dg_4 {g : Nat → Nat → Int32} (hg : GoM s g) {l : Nat} (hl : l < 6) : ∀ (k i : Nat) (z : Int64) (sz mi pd ls : Int32) (line : Nat → Int32) (fu : Nat), i + k = 4 → k < fu → ∃ fu' sz' mi' pd' ls' line', rX9_digest (nI np) (nI tn) s tx fu 4 z (nI l) (nI i) (nI 0) (nI 0) sz mi pd ls line = rX9_digest (nI np) (nI tn) s tx fu' 5 (hF (i6 g l) k i z) (nI l) (nI 0) (nI 0) (nI 0) sz' mi' pd' ls' line' ∧ fu = fu' + k + 1 := by
  intro k
  induction k with
  | zero =>
    intro i z sz mi pd ls line fu hi hf
    obtain ⟨fu, rfl⟩ := fuS hf
    obtain rfl : i = 4 := by omega
    refine ⟨fu, sz, mi, pd, ls, line, ?_, by omega⟩
    simp (disch := first | omega | assumption) only [↓z_m1, li_0, li_1, li_2, li_3, li_4, li_5, li_6, li_7, li_8, li_9, li_10, li_11, li_12, li_13, li_14, li_15, li_16, li_17, li_18, li_19, li_20, li_21, li_22, li_23, li_24, li_25, li_26, li_27, li_28, li_29, li_30, li_31, li_32, li_33, li_34, li_35, li_36, li_37, li_38, li_39, li_40, li_41, li_42, li_43, li_44, li_45, li_46, li_47, li_48, li_49, li_50, li_51, li_52, li_53, li_54, li_55, li_56, li_57, li_58, li_59, li_60, li_61, li_62, li_63, li_64, li_65, li_66, li_67, li_68, li_69, li_70, li_71, li_72, li_73, li_74, li_75, li_76, li_77, li_78, li_79, li_80, li_81, li_82, li_83, li_84, li_85, li_86, li_87, li_88, li_89, li_90, li_91, li_92, li_93, li_94, li_95, li_96, li_97, li_98, li_99, li_100, li_101, li_102, li_103, li_104, li_105, li_106, li_107, li_108, li_109, li_110, li_111, li_112, li_113, li_114, li_115, li_116, li_117, li_118, li_119, li_120, li_121, li_122, li_123, li_124, li_125, li_126, li_127, li_128, li_129, li_130, li_180, li_186, li_192, li_304, li_305, li_306, li_307, li_319, li_320, li_321, li_322, li_408, li_409, li_410, li_416, li_422, li_428, li_458, li_459, li_460, li_2300, li_2760, nI_add, z_m6, z_m12, z_m30, z_l10, z_l12, z_l14, z_l17, z_l30, z_l460, z_sub, z_dec, z_dec0, z_m11, z_cl, z_leT, z_leF, z_ltT, z_ltF, z_eqT, z_eqF, z_em, z_me, z_mlt, z_mle, z_ltm, z_lem, z_mltm, z_mlem, z_nleT, z_nleF, z_nltT, z_nltF, or_false, or_self, false_or, or_true, true_or, not_true_eq_false, not_false_eq_true, ↓reduceIte, lt, z_ob, Nat.zero_add, Nat.add_zero, sp_X9_digest_4, bX9_digest_4, hF]
  | succ k ih =>
    intro i z sz mi pd ls line fu hi hf
    obtain ⟨fu, rfl⟩ := fuS hf
    obtain ⟨sz1, mi1, pd1, ls1, line1, e0⟩ := hg l i hl (by omega) sz mi pd ls line
    obtain ⟨fu', sz', mi', pd', ls', line', e1, e2⟩ := ih (i + 1) (31 * z + i6 g l i) sz1 mi1 pd1 ls1 line1 fu (by omega) (by omega)
    refine ⟨fu', sz', mi', pd', ls', line', ?_, by omega⟩
    rw [hF, ← e1]
    unfold i6
    simp (disch := first | omega | assumption) only [↓z_m1, li_0, li_1, li_2, li_3, li_4, li_5, li_6, li_7, li_8, li_9, li_10, li_11, li_12, li_13, li_14, li_15, li_16, li_17, li_18, li_19, li_20, li_21, li_22, li_23, li_24, li_25, li_26, li_27, li_28, li_29, li_30, li_31, li_32, li_33, li_34, li_35, li_36, li_37, li_38, li_39, li_40, li_41, li_42, li_43, li_44, li_45, li_46, li_47, li_48, li_49, li_50, li_51, li_52, li_53, li_54, li_55, li_56, li_57, li_58, li_59, li_60, li_61, li_62, li_63, li_64, li_65, li_66, li_67, li_68, li_69, li_70, li_71, li_72, li_73, li_74, li_75, li_76, li_77, li_78, li_79, li_80, li_81, li_82, li_83, li_84, li_85, li_86, li_87, li_88, li_89, li_90, li_91, li_92, li_93, li_94, li_95, li_96, li_97, li_98, li_99, li_100, li_101, li_102, li_103, li_104, li_105, li_106, li_107, li_108, li_109, li_110, li_111, li_112, li_113, li_114, li_115, li_116, li_117, li_118, li_119, li_120, li_121, li_122, li_123, li_124, li_125, li_126, li_127, li_128, li_129, li_130, li_180, li_186, li_192, li_304, li_305, li_306, li_307, li_319, li_320, li_321, li_322, li_408, li_409, li_410, li_416, li_422, li_428, li_458, li_459, li_460, li_2300, li_2760, nI_add, z_m6, z_m12, z_m30, z_l10, z_l12, z_l14, z_l17, z_l30, z_l460, z_sub, z_dec, z_dec0, z_m11, z_cl, z_leT, z_leF, z_ltT, z_ltF, z_eqT, z_eqF, z_em, z_me, z_mlt, z_mle, z_ltm, z_lem, z_mltm, z_mlem, z_nleT, z_nleF, z_nltT, z_nltF, or_false, or_self, false_or, or_true, true_or, not_true_eq_false, not_false_eq_true, ↓reduceIte, lt, z_ob, Nat.zero_add, Nat.add_zero, sp_X9_digest_4, bX9_digest_4, e0]
theorem dg_6 (hd : Dic s) {l v : Nat} (hl : l < 6) (hv : v < 30) (sz mi pd ls : Int32) (line : Nat → Int32) : ∀ (k i : Nat) (z : Int64) (fu : Nat), i + k = 3 → k < fu → ∃ fu', rX9_digest (nI np) (nI tn) s tx fu 6 z (nI l) (nI v) (nI i) (nI 0) sz mi pd ls line = rX9_digest (nI np) (nI tn) s tx fu' 5 (hF (i6 (vMean s l) v) k i z) (nI l) (nI (v + 1)) (nI 0) (nI 0) sz mi pd ls line ∧ fu = fu' + k + 1 := by
  intro k
  induction k with
  | zero =>
    intro i z fu hi hf
    obtain ⟨fu, rfl⟩ := fuS hf
    obtain rfl : i = 3 := by omega
    refine ⟨fu, ?_, by omega⟩
    simp (disch := first | omega | assumption) only [↓z_m1, li_0, li_1, li_2, li_3, li_4, li_5, li_6, li_7, li_8, li_9, li_10, li_11, li_12, li_13, li_14, li_15, li_16, li_17, li_18, li_19, li_20, li_21, li_22, li_23, li_24, li_25, li_26, li_27, li_28, li_29, li_30, li_31, li_32, li_33, li_34, li_35, li_36, li_37, li_38, li_39, li_40, li_41, li_42, li_43, li_44, li_45, li_46, li_47, li_48, li_49, li_50, li_51, li_52, li_53, li_54, li_55, li_56, li_57, li_58, li_59, li_60, li_61, li_62, li_63, li_64, li_65, li_66, li_67, li_68, li_69, li_70, li_71, li_72, li_73, li_74, li_75, li_76, li_77, li_78, li_79, li_80, li_81, li_82, li_83, li_84, li_85, li_86, li_87, li_88, li_89, li_90, li_91, li_92, li_93, li_94, li_95, li_96, li_97, li_98, li_99, li_100, li_101, li_102, li_103, li_104, li_105, li_106, li_107, li_108, li_109, li_110, li_111, li_112, li_113, li_114, li_115, li_116, li_117, li_118, li_119, li_120, li_121, li_122, li_123, li_124, li_125, li_126, li_127, li_128, li_129, li_130, li_180, li_186, li_192, li_304, li_305, li_306, li_307, li_319, li_320, li_321, li_322, li_408, li_409, li_410, li_416, li_422, li_428, li_458, li_459, li_460, li_2300, li_2760, nI_add, z_m6, z_m12, z_m30, z_l10, z_l12, z_l14, z_l17, z_l30, z_l460, z_sub, z_dec, z_dec0, z_m11, z_cl, z_leT, z_leF, z_ltT, z_ltF, z_eqT, z_eqF, z_em, z_me, z_mlt, z_mle, z_ltm, z_lem, z_mltm, z_mlem, z_nleT, z_nleF, z_nltT, z_nltF, or_false, or_self, false_or, or_true, true_or, not_true_eq_false, not_false_eq_true, ↓reduceIte, lt, z_ob, Nat.zero_add, Nat.add_zero, sp_X9_digest_6, bX9_digest_6, hF]
  | succ k ih =>
    intro i z fu hi hf
    obtain ⟨fu, rfl⟩ := fuS hf
    obtain ⟨fu', e1, e2⟩ := ih (i + 1) (31 * z + i6 (vMean s l) v i) fu (by omega) (by omega)
    refine ⟨fu', ?_, by omega⟩
    rw [hF, ← e1]
    unfold i6
    simp (disch := first | omega | assumption) only [↓z_m1, li_0, li_1, li_2, li_3, li_4, li_5, li_6, li_7, li_8, li_9, li_10, li_11, li_12, li_13, li_14, li_15, li_16, li_17, li_18, li_19, li_20, li_21, li_22, li_23, li_24, li_25, li_26, li_27, li_28, li_29, li_30, li_31, li_32, li_33, li_34, li_35, li_36, li_37, li_38, li_39, li_40, li_41, li_42, li_43, li_44, li_45, li_46, li_47, li_48, li_49, li_50, li_51, li_52, li_53, li_54, li_55, li_56, li_57, li_58, li_59, li_60, li_61, li_62, li_63, li_64, li_65, li_66, li_67, li_68, li_69, li_70, li_71, li_72, li_73, li_74, li_75, li_76, li_77, li_78, li_79, li_80, li_81, li_82, li_83, li_84, li_85, li_86, li_87, li_88, li_89, li_90, li_91, li_92, li_93, li_94, li_95, li_96, li_97, li_98, li_99, li_100, li_101, li_102, li_103, li_104, li_105, li_106, li_107, li_108, li_109, li_110, li_111, li_112, li_113, li_114, li_115, li_116, li_117, li_118, li_119, li_120, li_121, li_122, li_123, li_124, li_125, li_126, li_127, li_128, li_129, li_130, li_180, li_186, li_192, li_304, li_305, li_306, li_307, li_319, li_320, li_321, li_322, li_408, li_409, li_410, li_416, li_422, li_428, li_458, li_459, li_460, li_2300, li_2760, nI_add, z_m6, z_m12, z_m30, z_l10, z_l12, z_l14, z_l17, z_l30, z_l460, z_sub, z_dec, z_dec0, z_m11, z_cl, z_leT, z_leF, z_ltT, z_ltF, z_eqT, z_eqF, z_em, z_me, z_mlt, z_mle, z_ltm, z_lem, z_mltm, z_mlem, z_nleT, z_nleF, z_nltT, z_nltF, or_false, or_self, false_or, or_true, true_or, not_true_eq_false, not_false_eq_true, ↓reduceIte, lt, z_ob, Nat.zero_add, Nat.add_zero, sp_X9_digest_6, bX9_digest_6, mean_MV hd]
theorem dg_5 (hd : Dic s) {l : Nat} (hl : l < 6) (sz mi pd ls : Int32) (line : Nat → Int32) : ∀ (k v : Nat) (z : Int64) (fu : Nat), v + k = 30 → 5 * k < fu → ∃ fu', rX9_digest (nI np) (nI tn) s tx fu 5 z (nI l) (nI v) (nI 0) (nI 0) sz mi pd ls line = rX9_digest (nI np) (nI tn) s tx fu' 2 (hN2 (i6 (vMean s l)) 3 k v z) (nI (l + 1)) (nI 0) (nI 0) (nI 0) sz mi pd ls line ∧ fu = fu' + 5 * k + 1 := by
  intro k
  induction k with
  | zero =>
    intro v z fu hi hf
    obtain ⟨fu, rfl⟩ := fuS hf
    obtain rfl : v = 30 := by omega
    refine ⟨fu, ?_, by omega⟩
    simp (disch := first | omega | assumption) only [↓z_m1, li_0, li_1, li_2, li_3, li_4, li_5, li_6, li_7, li_8, li_9, li_10, li_11, li_12, li_13, li_14, li_15, li_16, li_17, li_18, li_19, li_20, li_21, li_22, li_23, li_24, li_25, li_26, li_27, li_28, li_29, li_30, li_31, li_32, li_33, li_34, li_35, li_36, li_37, li_38, li_39, li_40, li_41, li_42, li_43, li_44, li_45, li_46, li_47, li_48, li_49, li_50, li_51, li_52, li_53, li_54, li_55, li_56, li_57, li_58, li_59, li_60, li_61, li_62, li_63, li_64, li_65, li_66, li_67, li_68, li_69, li_70, li_71, li_72, li_73, li_74, li_75, li_76, li_77, li_78, li_79, li_80, li_81, li_82, li_83, li_84, li_85, li_86, li_87, li_88, li_89, li_90, li_91, li_92, li_93, li_94, li_95, li_96, li_97, li_98, li_99, li_100, li_101, li_102, li_103, li_104, li_105, li_106, li_107, li_108, li_109, li_110, li_111, li_112, li_113, li_114, li_115, li_116, li_117, li_118, li_119, li_120, li_121, li_122, li_123, li_124, li_125, li_126, li_127, li_128, li_129, li_130, li_180, li_186, li_192, li_304, li_305, li_306, li_307, li_319, li_320, li_321, li_322, li_408, li_409, li_410, li_416, li_422, li_428, li_458, li_459, li_460, li_2300, li_2760, nI_add, z_m6, z_m12, z_m30, z_l10, z_l12, z_l14, z_l17, z_l30, z_l460, z_sub, z_dec, z_dec0, z_m11, z_cl, z_leT, z_leF, z_ltT, z_ltF, z_eqT, z_eqF, z_em, z_me, z_mlt, z_mle, z_ltm, z_lem, z_mltm, z_mlem, z_nleT, z_nleF, z_nltT, z_nltF, or_false, or_self, false_or, or_true, true_or, not_true_eq_false, not_false_eq_true, ↓reduceIte, lt, z_ob, Nat.zero_add, Nat.add_zero, sp_X9_digest_5, bX9_digest_5, hN2]
  | succ k ih =>
    intro v z fu hi hf
    obtain ⟨fu, rfl⟩ := fuS (k := 0) (by omega : 0 < fu)
    obtain ⟨fu1, e1, e2⟩ := dg_6 (tx := tx) (np := np) (tn := tn) hd hl (show v < 30 by omega) sz mi pd ls line 3 0 z fu (by omega) (by omega)
    obtain ⟨fu', e3, e4⟩ := ih (v + 1) (hF (i6 (vMean s l) v) 3 0 z) fu1 (by omega) (by omega)
    refine ⟨fu', ?_, by omega⟩
    rw [hN2, ← e3, ← e1]
    simp (disch := first | omega | assumption) only [↓z_m1, li_0, li_1, li_2, li_3, li_4, li_5, li_6, li_7, li_8, li_9, li_10, li_11, li_12, li_13, li_14, li_15, li_16, li_17, li_18, li_19, li_20, li_21, li_22, li_23, li_24, li_25, li_26, li_27, li_28, li_29, li_30, li_31, li_32, li_33, li_34, li_35, li_36, li_37, li_38, li_39, li_40, li_41, li_42, li_43, li_44, li_45, li_46, li_47, li_48, li_49, li_50, li_51, li_52, li_53, li_54, li_55, li_56, li_57, li_58, li_59, li_60, li_61, li_62, li_63, li_64, li_65, li_66, li_67, li_68, li_69, li_70, li_71, li_72, li_73, li_74, li_75, li_76, li_77, li_78, li_79, li_80, li_81, li_82, li_83, li_84, li_85, li_86, li_87, li_88, li_89, li_90, li_91, li_92, li_93, li_94, li_95, li_96, li_97, li_98, li_99, li_100, li_101, li_102, li_103, li_104, li_105, li_106, li_107, li_108, li_109, li_110, li_111, li_112, li_113, li_114, li_115, li_116, li_117, li_118, li_119, li_120, li_121, li_122, li_123, li_124, li_125, li_126, li_127, li_128, li_129, li_130, li_180, li_186, li_192, li_304, li_305, li_306, li_307, li_319, li_320, li_321, li_322, li_408, li_409, li_410, li_416, li_422, li_428, li_458, li_459, li_460, li_2300, li_2760, nI_add, z_m6, z_m12, z_m30, z_l10, z_l12, z_l14, z_l17, z_l30, z_l460, z_sub, z_dec, z_dec0, z_m11, z_cl, z_leT, z_leF, z_ltT, z_ltF, z_eqT, z_eqF, z_em, z_me, z_mlt, z_mle, z_ltm, z_lem, z_mltm, z_mlem, z_nleT, z_nleF, z_nltT, z_nltF, or_false, or_self, false_or, or_true, true_or, not_true_eq_false, not_false_eq_true, ↓reduceIte, lt, z_ob, Nat.zero_add, Nat.add_zero, sp_X9_digest_5, bX9_digest_5]
theorem dg_2 (hd : Dic s) {g : Nat → Nat → Int32} (hg : GoM s g) : ∀ (k l : Nat) (z : Int64) (sz mi pd ls : Int32) (line : Nat → Int32) (fu : Nat), l + k = 6 → 200 * k < fu → ∃ fu' sz' mi' pd' ls' line', rX9_digest (nI np) (nI tn) s tx fu 2 z (nI l) (nI 0) (nI 0) (nI 0) sz mi pd ls line = rX9_digest (nI np) (nI tn) s tx fu' 7 (hLk (i6 (vLink s)) (i6 g) (fun l => i6 (vMean s l)) k l z) (nI 0) (nI 0) (nI 0) (nI 0) sz' mi' pd' ls' line' ∧ fu ≤ fu' + 200 * k + 1 := by
  intro k
  induction k with
  | zero =>
    intro l z sz mi pd ls line fu hi hf
    obtain ⟨fu, rfl⟩ := fuS hf
    obtain rfl : l = 6 := by omega
    refine ⟨fu, sz, mi, pd, ls, line, ?_, by omega⟩
    simp (disch := first | omega | assumption) only [↓z_m1, li_0, li_1, li_2, li_3, li_4, li_5, li_6, li_7, li_8, li_9, li_10, li_11, li_12, li_13, li_14, li_15, li_16, li_17, li_18, li_19, li_20, li_21, li_22, li_23, li_24, li_25, li_26, li_27, li_28, li_29, li_30, li_31, li_32, li_33, li_34, li_35, li_36, li_37, li_38, li_39, li_40, li_41, li_42, li_43, li_44, li_45, li_46, li_47, li_48, li_49, li_50, li_51, li_52, li_53, li_54, li_55, li_56, li_57, li_58, li_59, li_60, li_61, li_62, li_63, li_64, li_65, li_66, li_67, li_68, li_69, li_70, li_71, li_72, li_73, li_74, li_75, li_76, li_77, li_78, li_79, li_80, li_81, li_82, li_83, li_84, li_85, li_86, li_87, li_88, li_89, li_90, li_91, li_92, li_93, li_94, li_95, li_96, li_97, li_98, li_99, li_100, li_101, li_102, li_103, li_104, li_105, li_106, li_107, li_108, li_109, li_110, li_111, li_112, li_113, li_114, li_115, li_116, li_117, li_118, li_119, li_120, li_121, li_122, li_123, li_124, li_125, li_126, li_127, li_128, li_129, li_130, li_180, li_186, li_192, li_304, li_305, li_306, li_307, li_319, li_320, li_321, li_322, li_408, li_409, li_410, li_416, li_422, li_428, li_458, li_459, li_460, li_2300, li_2760, nI_add, z_m6, z_m12, z_m30, z_l10, z_l12, z_l14, z_l17, z_l30, z_l460, z_sub, z_dec, z_dec0, z_m11, z_cl, z_leT, z_leF, z_ltT, z_ltF, z_eqT, z_eqF, z_em, z_me, z_mlt, z_mle, z_ltm, z_lem, z_mltm, z_mlem, z_nleT, z_nleF, z_nltT, z_nltF, or_false, or_self, false_or, or_true, true_or, not_true_eq_false, not_false_eq_true, ↓reduceIte, lt, z_ob, Nat.zero_add, Nat.add_zero, sp_X9_digest_2, bX9_digest_2, hLk]
  | succ k ih =>
    intro l z sz mi pd ls line fu hi hf
    obtain ⟨fu, rfl⟩ := fuS (k := 0) (by omega : 0 < fu)
    obtain ⟨f1, e1, z1⟩ := dg_3 (tx := tx) (np := np) (tn := tn) hd (show l < 6 by omega) sz mi pd ls line 7 0 z fu (by omega) (by omega)
    obtain ⟨f2, sz1, mi1, pd1, ls1, line1, e2, z2⟩ := dg_4 (tx := tx) (np := np) (tn := tn) hg (show l < 6 by omega) 4 0 (hF (i6 (vLink s) l) 7 0 z) sz mi pd ls line f1 (by omega) (by omega)
    obtain ⟨f3, e3, z3⟩ := dg_5 (tx := tx) (np := np) (tn := tn) hd (show l < 6 by omega) sz1 mi1 pd1 ls1 line1 30 0 (hF (i6 g l) 4 0 (hF (i6 (vLink s) l) 7 0 z)) f2 (by omega) (by omega)
    obtain ⟨fu', sz', mi', pd', ls', line', e4, z4⟩ := ih (l + 1) (hN2 (i6 (vMean s l)) 3 30 0 (hF (i6 g l) 4 0 (hF (i6 (vLink s) l) 7 0 z))) sz1 mi1 pd1 ls1 line1 f3 (by omega) (by omega)
    refine ⟨fu', sz', mi', pd', ls', line', ?_, by omega⟩
    rw [hLk, ← e4, ← e3, ← e2, ← e1]
    simp (disch := first | omega | assumption) only [↓z_m1, li_0, li_1, li_2, li_3, li_4, li_5, li_6, li_7, li_8, li_9, li_10, li_11, li_12, li_13, li_14, li_15, li_16, li_17, li_18, li_19, li_20, li_21, li_22, li_23, li_24, li_25, li_26, li_27, li_28, li_29, li_30, li_31, li_32, li_33, li_34, li_35, li_36, li_37, li_38, li_39, li_40, li_41, li_42, li_43, li_44, li_45, li_46, li_47, li_48, li_49, li_50, li_51, li_52, li_53, li_54, li_55, li_56, li_57, li_58, li_59, li_60, li_61, li_62, li_63, li_64, li_65, li_66, li_67, li_68, li_69, li_70, li_71, li_72, li_73, li_74, li_75, li_76, li_77, li_78, li_79, li_80, li_81, li_82, li_83, li_84, li_85, li_86, li_87, li_88, li_89, li_90, li_91, li_92, li_93, li_94, li_95, li_96, li_97, li_98, li_99, li_100, li_101, li_102, li_103, li_104, li_105, li_106, li_107, li_108, li_109, li_110, li_111, li_112, li_113, li_114, li_115, li_116, li_117, li_118, li_119, li_120, li_121, li_122, li_123, li_124, li_125, li_126, li_127, li_128, li_129, li_130, li_180, li_186, li_192, li_304, li_305, li_306, li_307, li_319, li_320, li_321, li_322, li_408, li_409, li_410, li_416, li_422, li_428, li_458, li_459, li_460, li_2300, li_2760, nI_add, z_m6, z_m12, z_m30, z_l10, z_l12, z_l14, z_l17, z_l30, z_l460, z_sub, z_dec, z_dec0, z_m11, z_cl, z_leT, z_leF, z_ltT, z_ltF, z_eqT, z_eqF, z_em, z_me, z_mlt, z_mle, z_ltm, z_lem, z_mltm, z_mlem, z_nleT, z_nleF, z_nltT, z_nltF, or_false, or_self, false_or, or_true, true_or, not_true_eq_false, not_false_eq_true, ↓reduceIte, lt, z_ob, Nat.zero_add, Nat.add_zero, sp_X9_digest_2, bX9_digest_2]
def WaM (s : Nat → Int32) (n : Nat) (g : Nat → Nat → Int32) : Prop := ∀ p k, p < n → k < 3 → fX9_waiting (nI p) (nI k) s = some (g p k)
theorem dg_8 {g : Nat → Nat → Int32} (hg : WaM s n g) (n8 : n ≤ 8) {p : Nat} (hp : p < n) (sz mi pd ls : Int32) (line : Nat → Int32) : ∀ (k i : Nat) (z : Int64) (fu : Nat), i + k = 3 → k < fu → ∃ fu', rX9_digest (nI np) (nI tn) s tx fu 8 z (nI p) (nI i) (nI 0) (nI 0) sz mi pd ls line = rX9_digest (nI np) (nI tn) s tx fu' 7 (hF (i6 g p) k i z) (nI (p + 1)) (nI 0) (nI 0) (nI 0) sz mi pd ls line ∧ fu = fu' + k + 1 := by
  intro k
  induction k with
  | zero =>
    intro i z fu hi hf
    obtain ⟨fu, rfl⟩ := fuS hf
    obtain rfl : i = 3 := by omega
    refine ⟨fu, ?_, by omega⟩
    simp (disch := first | omega | assumption) only [↓z_m1, li_0, li_1, li_2, li_3, li_4, li_5, li_6, li_7, li_8, li_9, li_10, li_11, li_12, li_13, li_14, li_15, li_16, li_17, li_18, li_19, li_20, li_21, li_22, li_23, li_24, li_25, li_26, li_27, li_28, li_29, li_30, li_31, li_32, li_33, li_34, li_35, li_36, li_37, li_38, li_39, li_40, li_41, li_42, li_43, li_44, li_45, li_46, li_47, li_48, li_49, li_50, li_51, li_52, li_53, li_54, li_55, li_56, li_57, li_58, li_59, li_60, li_61, li_62, li_63, li_64, li_65, li_66, li_67, li_68, li_69, li_70, li_71, li_72, li_73, li_74, li_75, li_76, li_77, li_78, li_79, li_80, li_81, li_82, li_83, li_84, li_85, li_86, li_87, li_88, li_89, li_90, li_91, li_92, li_93, li_94, li_95, li_96, li_97, li_98, li_99, li_100, li_101, li_102, li_103, li_104, li_105, li_106, li_107, li_108, li_109, li_110, li_111, li_112, li_113, li_114, li_115, li_116, li_117, li_118, li_119, li_120, li_121, li_122, li_123, li_124, li_125, li_126, li_127, li_128, li_129, li_130, li_180, li_186, li_192, li_304, li_305, li_306, li_307, li_319, li_320, li_321, li_322, li_408, li_409, li_410, li_416, li_422, li_428, li_458, li_459, li_460, li_2300, li_2760, nI_add, z_m6, z_m12, z_m30, z_l10, z_l12, z_l14, z_l17, z_l30, z_l460, z_sub, z_dec, z_dec0, z_m11, z_cl, z_leT, z_leF, z_ltT, z_ltF, z_eqT, z_eqF, z_em, z_me, z_mlt, z_mle, z_ltm, z_lem, z_mltm, z_mlem, z_nleT, z_nleF, z_nltT, z_nltF, or_false, or_self, false_or, or_true, true_or, not_true_eq_false, not_false_eq_true, ↓reduceIte, lt, z_ob, Nat.zero_add, Nat.add_zero, sp_X9_digest_8, bX9_digest_8, hF]
  | succ k ih =>
    intro i z fu hi hf
    obtain ⟨fu, rfl⟩ := fuS hf
    have e0 := hg p i hp (by omega)
    obtain ⟨fu', e1, e2⟩ := ih (i + 1) (31 * z + i6 g p i) fu (by omega) (by omega)
    refine ⟨fu', ?_, by omega⟩
    rw [hF, ← e1]
    unfold i6
    simp (disch := first | omega | assumption) only [↓z_m1, li_0, li_1, li_2, li_3, li_4, li_5, li_6, li_7, li_8, li_9, li_10, li_11, li_12, li_13, li_14, li_15, li_16, li_17, li_18, li_19, li_20, li_21, li_22, li_23, li_24, li_25, li_26, li_27, li_28, li_29, li_30, li_31, li_32, li_33, li_34, li_35, li_36, li_37, li_38, li_39, li_40, li_41, li_42, li_43, li_44, li_45, li_46, li_47, li_48, li_49, li_50, li_51, li_52, li_53, li_54, li_55, li_56, li_57, li_58, li_59, li_60, li_61, li_62, li_63, li_64, li_65, li_66, li_67, li_68, li_69, li_70, li_71, li_72, li_73, li_74, li_75, li_76, li_77, li_78, li_79, li_80, li_81, li_82, li_83, li_84, li_85, li_86, li_87, li_88, li_89, li_90, li_91, li_92, li_93, li_94, li_95, li_96, li_97, li_98, li_99, li_100, li_101, li_102, li_103, li_104, li_105, li_106, li_107, li_108, li_109, li_110, li_111, li_112, li_113, li_114, li_115, li_116, li_117, li_118, li_119, li_120, li_121, li_122, li_123, li_124, li_125, li_126, li_127, li_128, li_129, li_130, li_180, li_186, li_192, li_304, li_305, li_306, li_307, li_319, li_320, li_321, li_322, li_408, li_409, li_410, li_416, li_422, li_428, li_458, li_459, li_460, li_2300, li_2760, nI_add, z_m6, z_m12, z_m30, z_l10, z_l12, z_l14, z_l17, z_l30, z_l460, z_sub, z_dec, z_dec0, z_m11, z_cl, z_leT, z_leF, z_ltT, z_ltF, z_eqT, z_eqF, z_em, z_me, z_mlt, z_mle, z_ltm, z_lem, z_mltm, z_mlem, z_nleT, z_nleF, z_nltT, z_nltF, or_false, or_self, false_or, or_true, true_or, not_true_eq_false, not_false_eq_true, ↓reduceIte, lt, z_ob, Nat.zero_add, Nat.add_zero, sp_X9_digest_8, bX9_digest_8, e0]
theorem dg_7 (h4 : s 304 = nI n) {g : Nat → Nat → Int32} (hg : WaM s n g) (n8 : n ≤ 8) (sz mi pd ls : Int32) (line : Nat → Int32) : ∀ (k p : Nat) (z : Int64) (fu : Nat), p + k = n → 5 * k < fu → ∃ fu', rX9_digest (nI np) (nI tn) s tx fu 7 z (nI p) (nI 0) (nI 0) (nI 0) sz mi pd ls line = rX9_digest (nI np) (nI tn) s tx fu' 9 (hN2 (i6 g) 3 k p z) (nI 0) (nI 0) (nI 0) (nI 0) sz mi pd ls line ∧ fu = fu' + 5 * k + 1 := by
  intro k
  induction k with
  | zero =>
    intro p z fu hi hf
    obtain ⟨fu, rfl⟩ := fuS hf
    refine ⟨fu, ?_, by omega⟩
    simp (disch := first | omega | assumption) only [↓z_m1, li_0, li_1, li_2, li_3, li_4, li_5, li_6, li_7, li_8, li_9, li_10, li_11, li_12, li_13, li_14, li_15, li_16, li_17, li_18, li_19, li_20, li_21, li_22, li_23, li_24, li_25, li_26, li_27, li_28, li_29, li_30, li_31, li_32, li_33, li_34, li_35, li_36, li_37, li_38, li_39, li_40, li_41, li_42, li_43, li_44, li_45, li_46, li_47, li_48, li_49, li_50, li_51, li_52, li_53, li_54, li_55, li_56, li_57, li_58, li_59, li_60, li_61, li_62, li_63, li_64, li_65, li_66, li_67, li_68, li_69, li_70, li_71, li_72, li_73, li_74, li_75, li_76, li_77, li_78, li_79, li_80, li_81, li_82, li_83, li_84, li_85, li_86, li_87, li_88, li_89, li_90, li_91, li_92, li_93, li_94, li_95, li_96, li_97, li_98, li_99, li_100, li_101, li_102, li_103, li_104, li_105, li_106, li_107, li_108, li_109, li_110, li_111, li_112, li_113, li_114, li_115, li_116, li_117, li_118, li_119, li_120, li_121, li_122, li_123, li_124, li_125, li_126, li_127, li_128, li_129, li_130, li_180, li_186, li_192, li_304, li_305, li_306, li_307, li_319, li_320, li_321, li_322, li_408, li_409, li_410, li_416, li_422, li_428, li_458, li_459, li_460, li_2300, li_2760, nI_add, z_m6, z_m12, z_m30, z_l10, z_l12, z_l14, z_l17, z_l30, z_l460, z_sub, z_dec, z_dec0, z_m11, z_cl, z_leT, z_leF, z_ltT, z_ltF, z_eqT, z_eqF, z_em, z_me, z_mlt, z_mle, z_ltm, z_lem, z_mltm, z_mlem, z_nleT, z_nleF, z_nltT, z_nltF, or_false, or_self, false_or, or_true, true_or, not_true_eq_false, not_false_eq_true, ↓reduceIte, lt, z_ob, Nat.zero_add, Nat.add_zero, sp_X9_digest_7, bX9_digest_7, hN2, h4]
  | succ k ih =>
    intro p z fu hi hf
    obtain ⟨fu, rfl⟩ := fuS (k := 0) (by omega : 0 < fu)
    obtain ⟨fu1, e1, e2⟩ := dg_8 (tx := tx) (np := np) (tn := tn) hg n8 (show p < n by omega) sz mi pd ls line 3 0 z fu (by omega) (by omega)
    obtain ⟨fu', e3, e4⟩ := ih (p + 1) (hF (i6 g p) 3 0 z) fu1 (by omega) (by omega)
    refine ⟨fu', ?_, by omega⟩
    rw [hN2, ← e3, ← e1]
    simp (disch := first | omega | assumption) only [↓z_m1, li_0, li_1, li_2, li_3, li_4, li_5, li_6, li_7, li_8, li_9, li_10, li_11, li_12, li_13, li_14, li_15, li_16, li_17, li_18, li_19, li_20, li_21, li_22, li_23, li_24, li_25, li_26, li_27, li_28, li_29, li_30, li_31, li_32, li_33, li_34, li_35, li_36, li_37, li_38, li_39, li_40, li_41, li_42, li_43, li_44, li_45, li_46, li_47, li_48, li_49, li_50, li_51, li_52, li_53, li_54, li_55, li_56, li_57, li_58, li_59, li_60, li_61, li_62, li_63, li_64, li_65, li_66, li_67, li_68, li_69, li_70, li_71, li_72, li_73, li_74, li_75, li_76, li_77, li_78, li_79, li_80, li_81, li_82, li_83, li_84, li_85, li_86, li_87, li_88, li_89, li_90, li_91, li_92, li_93, li_94, li_95, li_96, li_97, li_98, li_99, li_100, li_101, li_102, li_103, li_104, li_105, li_106, li_107, li_108, li_109, li_110, li_111, li_112, li_113, li_114, li_115, li_116, li_117, li_118, li_119, li_120, li_121, li_122, li_123, li_124, li_125, li_126, li_127, li_128, li_129, li_130, li_180, li_186, li_192, li_304, li_305, li_306, li_307, li_319, li_320, li_321, li_322, li_408, li_409, li_410, li_416, li_422, li_428, li_458, li_459, li_460, li_2300, li_2760, nI_add, z_m6, z_m12, z_m30, z_l10, z_l12, z_l14, z_l17, z_l30, z_l460, z_sub, z_dec, z_dec0, z_m11, z_cl, z_leT, z_leF, z_ltT, z_ltF, z_eqT, z_eqF, z_em, z_me, z_mlt, z_mle, z_ltm, z_lem, z_mltm, z_mlem, z_nleT, z_nleF, z_nltT, z_nltF, or_false, or_self, false_or, or_true, true_or, not_true_eq_false, not_false_eq_true, ↓reduceIte, lt, z_ob, Nat.zero_add, Nat.add_zero, sp_X9_digest_7, bX9_digest_7, h4]
def ArM (s : Nat → Int32) (kp : Nat) (Lf : Nat → List Nat) : Prop := ∀ b, b < kp → (Lf b).length ≤ 12 ∧ bd (Lf b) ∧ (∀ k, k < 6 → fX9_arrived (nI b) (nI k) s = some (vArr s (Lf b) b k)) ∧ ∀ i, i < 100 → fX9_character (nI b) (nI i) s = some (chT (Lf b) i)
def cI6 (Lf : Nat → List Nat) (b i : Nat) : Int64 := (chT (Lf b) i).toInt64
theorem dg_10 {Lf : Nat → List Nat} (hA : ArM s kp Lf) (k6 : kp ≤ 6) {b : Nat} (hb : b < kp) (sz mi pd ls : Int32) (line : Nat → Int32) : ∀ (k i : Nat) (z : Int64) (fu : Nat), i + k = 6 → k < fu → ∃ fu', rX9_digest (nI np) (nI tn) s tx fu 10 z (nI b) (nI i) (nI 0) (nI 0) sz mi pd ls line = rX9_digest (nI np) (nI tn) s tx fu' 11 (hF (i6 (fun b k => vArr s (Lf b) b k) b) k i z) (nI b) (nI 0) (nI 0) (nI 0) sz mi pd ls line ∧ fu = fu' + k + 1 := by
  intro k
  induction k with
  | zero =>
    intro i z fu hi hf
    obtain ⟨fu, rfl⟩ := fuS hf
    obtain rfl : i = 6 := by omega
    refine ⟨fu, ?_, by omega⟩
    simp (disch := first | omega | assumption) only [↓z_m1, li_0, li_1, li_2, li_3, li_4, li_5, li_6, li_7, li_8, li_9, li_10, li_11, li_12, li_13, li_14, li_15, li_16, li_17, li_18, li_19, li_20, li_21, li_22, li_23, li_24, li_25, li_26, li_27, li_28, li_29, li_30, li_31, li_32, li_33, li_34, li_35, li_36, li_37, li_38, li_39, li_40, li_41, li_42, li_43, li_44, li_45, li_46, li_47, li_48, li_49, li_50, li_51, li_52, li_53, li_54, li_55, li_56, li_57, li_58, li_59, li_60, li_61, li_62, li_63, li_64, li_65, li_66, li_67, li_68, li_69, li_70, li_71, li_72, li_73, li_74, li_75, li_76, li_77, li_78, li_79, li_80, li_81, li_82, li_83, li_84, li_85, li_86, li_87, li_88, li_89, li_90, li_91, li_92, li_93, li_94, li_95, li_96, li_97, li_98, li_99, li_100, li_101, li_102, li_103, li_104, li_105, li_106, li_107, li_108, li_109, li_110, li_111, li_112, li_113, li_114, li_115, li_116, li_117, li_118, li_119, li_120, li_121, li_122, li_123, li_124, li_125, li_126, li_127, li_128, li_129, li_130, li_180, li_186, li_192, li_304, li_305, li_306, li_307, li_319, li_320, li_321, li_322, li_408, li_409, li_410, li_416, li_422, li_428, li_458, li_459, li_460, li_2300, li_2760, nI_add, z_m6, z_m12, z_m30, z_l10, z_l12, z_l14, z_l17, z_l30, z_l460, z_sub, z_dec, z_dec0, z_m11, z_cl, z_leT, z_leF, z_ltT, z_ltF, z_eqT, z_eqF, z_em, z_me, z_mlt, z_mle, z_ltm, z_lem, z_mltm, z_mlem, z_nleT, z_nleF, z_nltT, z_nltF, or_false, or_self, false_or, or_true, true_or, not_true_eq_false, not_false_eq_true, ↓reduceIte, lt, z_ob, Nat.zero_add, Nat.add_zero, sp_X9_digest_10, bX9_digest_10, hF]
  | succ k ih =>
    intro i z fu hi hf
    obtain ⟨fu, rfl⟩ := fuS hf
    have e0 := (hA b hb).2.2.1 i (by omega)
    obtain ⟨fu', e1, e2⟩ := ih (i + 1) (31 * z + i6 (fun b k => vArr s (Lf b) b k) b i) fu (by omega) (by omega)
    refine ⟨fu', ?_, by omega⟩
    rw [hF, ← e1]
    unfold i6
    simp (disch := first | omega | assumption) only [↓z_m1, li_0, li_1, li_2, li_3, li_4, li_5, li_6, li_7, li_8, li_9, li_10, li_11, li_12, li_13, li_14, li_15, li_16, li_17, li_18, li_19, li_20, li_21, li_22, li_23, li_24, li_25, li_26, li_27, li_28, li_29, li_30, li_31, li_32, li_33, li_34, li_35, li_36, li_37, li_38, li_39, li_40, li_41, li_42, li_43, li_44, li_45, li_46, li_47, li_48, li_49, li_50, li_51, li_52, li_53, li_54, li_55, li_56, li_57, li_58, li_59, li_60, li_61, li_62, li_63, li_64, li_65, li_66, li_67, li_68, li_69, li_70, li_71, li_72, li_73, li_74, li_75, li_76, li_77, li_78, li_79, li_80, li_81, li_82, li_83, li_84, li_85, li_86, li_87, li_88, li_89, li_90, li_91, li_92, li_93, li_94, li_95, li_96, li_97, li_98, li_99, li_100, li_101, li_102, li_103, li_104, li_105, li_106, li_107, li_108, li_109, li_110, li_111, li_112, li_113, li_114, li_115, li_116, li_117, li_118, li_119, li_120, li_121, li_122, li_123, li_124, li_125, li_126, li_127, li_128, li_129, li_130, li_180, li_186, li_192, li_304, li_305, li_306, li_307, li_319, li_320, li_321, li_322, li_408, li_409, li_410, li_416, li_422, li_428, li_458, li_459, li_460, li_2300, li_2760, nI_add, z_m6, z_m12, z_m30, z_l10, z_l12, z_l14, z_l17, z_l30, z_l460, z_sub, z_dec, z_dec0, z_m11, z_cl, z_leT, z_leF, z_ltT, z_ltF, z_eqT, z_eqF, z_em, z_me, z_mlt, z_mle, z_ltm, z_lem, z_mltm, z_mlem, z_nleT, z_nleF, z_nltT, z_nltF, or_false, or_self, false_or, or_true, true_or, not_true_eq_false, not_false_eq_true, ↓reduceIte, lt, z_ob, Nat.zero_add, Nat.add_zero, sp_X9_digest_10, bX9_digest_10, e0]
theorem dg_11 {Lf : Nat → List Nat} (hA : ArM s kp Lf) (k6 : kp ≤ 6) {b : Nat} (hb : b < kp) (sz mi pd ls : Int32) (line : Nat → Int32) : ∀ (k i : Nat) (z : Int64) (fu : Nat), i + k = tlN (Lf b) → k < fu → ∃ fu', rX9_digest (nI np) (nI tn) s tx fu 11 z (nI b) (nI i) (nI 0) (nI 0) sz mi pd ls line = rX9_digest (nI np) (nI tn) s tx fu' 9 (hF (cI6 Lf b) k i z) (nI (b + 1)) (nI 0) (nI 0) (nI 0) sz mi pd ls line ∧ fu = fu' + k + 1 := by
  obtain ⟨a1, a2, a3, a4⟩ := hA b hb
  have h36 := tl_le a1
  intro k
  induction k with
  | zero =>
    intro i z fu hi hf
    obtain ⟨fu, rfl⟩ := fuS hf
    have e0 := a4 i (by omega)
    rw [ch_out _ i (by omega)] at e0
    refine ⟨fu, ?_, by omega⟩
    simp (disch := first | omega | assumption) only [↓z_m1, li_0, li_1, li_2, li_3, li_4, li_5, li_6, li_7, li_8, li_9, li_10, li_11, li_12, li_13, li_14, li_15, li_16, li_17, li_18, li_19, li_20, li_21, li_22, li_23, li_24, li_25, li_26, li_27, li_28, li_29, li_30, li_31, li_32, li_33, li_34, li_35, li_36, li_37, li_38, li_39, li_40, li_41, li_42, li_43, li_44, li_45, li_46, li_47, li_48, li_49, li_50, li_51, li_52, li_53, li_54, li_55, li_56, li_57, li_58, li_59, li_60, li_61, li_62, li_63, li_64, li_65, li_66, li_67, li_68, li_69, li_70, li_71, li_72, li_73, li_74, li_75, li_76, li_77, li_78, li_79, li_80, li_81, li_82, li_83, li_84, li_85, li_86, li_87, li_88, li_89, li_90, li_91, li_92, li_93, li_94, li_95, li_96, li_97, li_98, li_99, li_100, li_101, li_102, li_103, li_104, li_105, li_106, li_107, li_108, li_109, li_110, li_111, li_112, li_113, li_114, li_115, li_116, li_117, li_118, li_119, li_120, li_121, li_122, li_123, li_124, li_125, li_126, li_127, li_128, li_129, li_130, li_180, li_186, li_192, li_304, li_305, li_306, li_307, li_319, li_320, li_321, li_322, li_408, li_409, li_410, li_416, li_422, li_428, li_458, li_459, li_460, li_2300, li_2760, nI_add, z_m6, z_m12, z_m30, z_l10, z_l12, z_l14, z_l17, z_l30, z_l460, z_sub, z_dec, z_dec0, z_m11, z_cl, z_leT, z_leF, z_ltT, z_ltF, z_eqT, z_eqF, z_em, z_me, z_mlt, z_mle, z_ltm, z_lem, z_mltm, z_mlem, z_nleT, z_nleF, z_nltT, z_nltF, or_false, or_self, false_or, or_true, true_or, not_true_eq_false, not_false_eq_true, ↓reduceIte, lt, z_ob, Nat.zero_add, Nat.add_zero, sp_X9_digest_11, bX9_digest_11, hF, e0]
  | succ k ih =>
    intro i z fu hi hf
    obtain ⟨fu, rfl⟩ := fuS hf
    have e0 := a4 i (by omega)
    obtain ⟨c, c1, c2⟩ := ch_in (Lf b) i a2 (by omega)
    rw [c2] at e0
    obtain ⟨fu', e1, e2⟩ := ih (i + 1) (31 * z + cI6 Lf b i) fu (by omega) (by omega)
    refine ⟨fu', ?_, by omega⟩
    rw [hF, ← e1]
    unfold cI6
    rw [c2]
    simp (disch := first | omega | assumption) only [↓z_m1, li_0, li_1, li_2, li_3, li_4, li_5, li_6, li_7, li_8, li_9, li_10, li_11, li_12, li_13, li_14, li_15, li_16, li_17, li_18, li_19, li_20, li_21, li_22, li_23, li_24, li_25, li_26, li_27, li_28, li_29, li_30, li_31, li_32, li_33, li_34, li_35, li_36, li_37, li_38, li_39, li_40, li_41, li_42, li_43, li_44, li_45, li_46, li_47, li_48, li_49, li_50, li_51, li_52, li_53, li_54, li_55, li_56, li_57, li_58, li_59, li_60, li_61, li_62, li_63, li_64, li_65, li_66, li_67, li_68, li_69, li_70, li_71, li_72, li_73, li_74, li_75, li_76, li_77, li_78, li_79, li_80, li_81, li_82, li_83, li_84, li_85, li_86, li_87, li_88, li_89, li_90, li_91, li_92, li_93, li_94, li_95, li_96, li_97, li_98, li_99, li_100, li_101, li_102, li_103, li_104, li_105, li_106, li_107, li_108, li_109, li_110, li_111, li_112, li_113, li_114, li_115, li_116, li_117, li_118, li_119, li_120, li_121, li_122, li_123, li_124, li_125, li_126, li_127, li_128, li_129, li_130, li_180, li_186, li_192, li_304, li_305, li_306, li_307, li_319, li_320, li_321, li_322, li_408, li_409, li_410, li_416, li_422, li_428, li_458, li_459, li_460, li_2300, li_2760, nI_add, z_m6, z_m12, z_m30, z_l10, z_l12, z_l14, z_l17, z_l30, z_l460, z_sub, z_dec, z_dec0, z_m11, z_cl, z_leT, z_leF, z_ltT, z_ltF, z_eqT, z_eqF, z_em, z_me, z_mlt, z_mle, z_ltm, z_lem, z_mltm, z_mlem, z_nleT, z_nleF, z_nltT, z_nltF, or_false, or_self, false_or, or_true, true_or, not_true_eq_false, not_false_eq_true, ↓reduceIte, lt, z_ob, Nat.zero_add, Nat.add_zero, sp_X9_digest_11, bX9_digest_11, e0]
theorem dg_9 (h4 : s 408 = nI kp) {Lf : Nat → List Nat} (hA : ArM s kp Lf) (k6 : kp ≤ 6) (sz mi pd ls : Int32) (line : Nat → Int32) : ∀ (k b : Nat) (z : Int64) (fu : Nat), b + k = kp → 60 * k < fu → ∃ fu', rX9_digest (nI np) (nI tn) s tx fu 9 z (nI b) (nI 0) (nI 0) (nI 0) sz mi pd ls line = rX9_digest (nI np) (nI tn) s tx fu' 12 (hAr (i6 (fun b k => vArr s (Lf b) b k)) (cI6 Lf) (fun b => tlN (Lf b)) k b z) (nI 0) (nI 0) (nI 0) (nI 0) sz mi pd ls line ∧ fu ≤ fu' + 60 * k + 1 := by
  intro k
  induction k with
  | zero =>
    intro b z fu hi hf
    obtain ⟨fu, rfl⟩ := fuS hf
    refine ⟨fu, ?_, by omega⟩
    simp (disch := first | omega | assumption) only [↓z_m1, li_0, li_1, li_2, li_3, li_4, li_5, li_6, li_7, li_8, li_9, li_10, li_11, li_12, li_13, li_14, li_15, li_16, li_17, li_18, li_19, li_20, li_21, li_22, li_23, li_24, li_25, li_26, li_27, li_28, li_29, li_30, li_31, li_32, li_33, li_34, li_35, li_36, li_37, li_38, li_39, li_40, li_41, li_42, li_43, li_44, li_45, li_46, li_47, li_48, li_49, li_50, li_51, li_52, li_53, li_54, li_55, li_56, li_57, li_58, li_59, li_60, li_61, li_62, li_63, li_64, li_65, li_66, li_67, li_68, li_69, li_70, li_71, li_72, li_73, li_74, li_75, li_76, li_77, li_78, li_79, li_80, li_81, li_82, li_83, li_84, li_85, li_86, li_87, li_88, li_89, li_90, li_91, li_92, li_93, li_94, li_95, li_96, li_97, li_98, li_99, li_100, li_101, li_102, li_103, li_104, li_105, li_106, li_107, li_108, li_109, li_110, li_111, li_112, li_113, li_114, li_115, li_116, li_117, li_118, li_119, li_120, li_121, li_122, li_123, li_124, li_125, li_126, li_127, li_128, li_129, li_130, li_180, li_186, li_192, li_304, li_305, li_306, li_307, li_319, li_320, li_321, li_322, li_408, li_409, li_410, li_416, li_422, li_428, li_458, li_459, li_460, li_2300, li_2760, nI_add, z_m6, z_m12, z_m30, z_l10, z_l12, z_l14, z_l17, z_l30, z_l460, z_sub, z_dec, z_dec0, z_m11, z_cl, z_leT, z_leF, z_ltT, z_ltF, z_eqT, z_eqF, z_em, z_me, z_mlt, z_mle, z_ltm, z_lem, z_mltm, z_mlem, z_nleT, z_nleF, z_nltT, z_nltF, or_false, or_self, false_or, or_true, true_or, not_true_eq_false, not_false_eq_true, ↓reduceIte, lt, z_ob, Nat.zero_add, Nat.add_zero, sp_X9_digest_9, bX9_digest_9, hAr, h4]
  | succ k ih =>
    intro b z fu hi hf
    obtain ⟨fu, rfl⟩ := fuS (k := 0) (by omega : 0 < fu)
    have h36 := tl_le (hA b (by omega)).1
    obtain ⟨f1, e1, z1⟩ := dg_10 (tx := tx) (np := np) (tn := tn) hA k6 (show b < kp by omega) sz mi pd ls line 6 0 z fu (by omega) (by omega)
    obtain ⟨f2, e2, z2⟩ := dg_11 (tx := tx) (np := np) (tn := tn) hA k6 (show b < kp by omega) sz mi pd ls line (tlN (Lf b)) 0 (hF (i6 (fun b k => vArr s (Lf b) b k) b) 6 0 z) f1 (by omega) (by omega)
    obtain ⟨fu', e3, z3⟩ := ih (b + 1) (hF (cI6 Lf b) (tlN (Lf b)) 0 (hF (i6 (fun b k => vArr s (Lf b) b k) b) 6 0 z)) f2 (by omega) (by omega)
    refine ⟨fu', ?_, by omega⟩
    rw [hAr, ← e3, ← e2, ← e1]
    simp (disch := first | omega | assumption) only [↓z_m1, li_0, li_1, li_2, li_3, li_4, li_5, li_6, li_7, li_8, li_9, li_10, li_11, li_12, li_13, li_14, li_15, li_16, li_17, li_18, li_19, li_20, li_21, li_22, li_23, li_24, li_25, li_26, li_27, li_28, li_29, li_30, li_31, li_32, li_33, li_34, li_35, li_36, li_37, li_38, li_39, li_40, li_41, li_42, li_43, li_44, li_45, li_46, li_47, li_48, li_49, li_50, li_51, li_52, li_53, li_54, li_55, li_56, li_57, li_58, li_59, li_60, li_61, li_62, li_63, li_64, li_65, li_66, li_67, li_68, li_69, li_70, li_71, li_72, li_73, li_74, li_75, li_76, li_77, li_78, li_79, li_80, li_81, li_82, li_83, li_84, li_85, li_86, li_87, li_88, li_89, li_90, li_91, li_92, li_93, li_94, li_95, li_96, li_97, li_98, li_99, li_100, li_101, li_102, li_103, li_104, li_105, li_106, li_107, li_108, li_109, li_110, li_111, li_112, li_113, li_114, li_115, li_116, li_117, li_118, li_119, li_120, li_121, li_122, li_123, li_124, li_125, li_126, li_127, li_128, li_129, li_130, li_180, li_186, li_192, li_304, li_305, li_306, li_307, li_319, li_320, li_321, li_322, li_408, li_409, li_410, li_416, li_422, li_428, li_458, li_459, li_460, li_2300, li_2760, nI_add, z_m6, z_m12, z_m30, z_l10, z_l12, z_l14, z_l17, z_l30, z_l460, z_sub, z_dec, z_dec0, z_m11, z_cl, z_leT, z_leF, z_ltT, z_ltF, z_eqT, z_eqF, z_em, z_me, z_mlt, z_mle, z_ltm, z_lem, z_mltm, z_mlem, z_nleT, z_nleF, z_nltT, z_nltF, or_false, or_self, false_or, or_true, true_or, not_true_eq_false, not_false_eq_true, ↓reduceIte, lt, z_ob, Nat.zero_add, Nat.add_zero, sp_X9_digest_9, bX9_digest_9, h4]
def LoM (s : Nat → Int32) (g : Nat → Nat → Int32) : Prop := ∀ p k, p < 5 → k < 2 → fX9_losing (nI p) (nI k) s = some (g p k)
theorem dg_12 {g : Nat → Nat → Int32} (hg : LoM s g) (sz mi pd ls : Int32) (line : Nat → Int32) : ∀ (k p : Nat) (z : Int64) (fu : Nat), p + k = 5 → k < fu → ∃ fu', rX9_digest (nI np) (nI tn) s tx fu 12 z (nI p) (nI 0) (nI 0) (nI 0) sz mi pd ls line = rX9_digest (nI np) (nI tn) s tx fu' 13 (hN2 (i6 g) 2 k p z) (nI 0) (nI 0) (nI 0) (nI 0) sz mi pd ls line ∧ fu = fu' + k + 1 := by
  intro k
  induction k with
  | zero =>
    intro p z fu hi hf
    obtain ⟨fu, rfl⟩ := fuS hf
    obtain rfl : p = 5 := by omega
    refine ⟨fu, ?_, by omega⟩
    simp (disch := first | omega | assumption) only [↓z_m1, li_0, li_1, li_2, li_3, li_4, li_5, li_6, li_7, li_8, li_9, li_10, li_11, li_12, li_13, li_14, li_15, li_16, li_17, li_18, li_19, li_20, li_21, li_22, li_23, li_24, li_25, li_26, li_27, li_28, li_29, li_30, li_31, li_32, li_33, li_34, li_35, li_36, li_37, li_38, li_39, li_40, li_41, li_42, li_43, li_44, li_45, li_46, li_47, li_48, li_49, li_50, li_51, li_52, li_53, li_54, li_55, li_56, li_57, li_58, li_59, li_60, li_61, li_62, li_63, li_64, li_65, li_66, li_67, li_68, li_69, li_70, li_71, li_72, li_73, li_74, li_75, li_76, li_77, li_78, li_79, li_80, li_81, li_82, li_83, li_84, li_85, li_86, li_87, li_88, li_89, li_90, li_91, li_92, li_93, li_94, li_95, li_96, li_97, li_98, li_99, li_100, li_101, li_102, li_103, li_104, li_105, li_106, li_107, li_108, li_109, li_110, li_111, li_112, li_113, li_114, li_115, li_116, li_117, li_118, li_119, li_120, li_121, li_122, li_123, li_124, li_125, li_126, li_127, li_128, li_129, li_130, li_180, li_186, li_192, li_304, li_305, li_306, li_307, li_319, li_320, li_321, li_322, li_408, li_409, li_410, li_416, li_422, li_428, li_458, li_459, li_460, li_2300, li_2760, nI_add, z_m6, z_m12, z_m30, z_l10, z_l12, z_l14, z_l17, z_l30, z_l460, z_sub, z_dec, z_dec0, z_m11, z_cl, z_leT, z_leF, z_ltT, z_ltF, z_eqT, z_eqF, z_em, z_me, z_mlt, z_mle, z_ltm, z_lem, z_mltm, z_mlem, z_nleT, z_nleF, z_nltT, z_nltF, or_false, or_self, false_or, or_true, true_or, not_true_eq_false, not_false_eq_true, ↓reduceIte, lt, z_ob, Nat.zero_add, Nat.add_zero, sp_X9_digest_12, bX9_digest_12, hN2]
  | succ k ih =>
    intro p z fu hi hf
    obtain ⟨fu, rfl⟩ := fuS hf
    have e0 := hg p 0 (by omega) (by omega)
    have e9 := hg p 1 (by omega) (by omega)
    obtain ⟨fu', e1, e2⟩ := ih (p + 1) (hF (i6 g p) 2 0 z) fu (by omega) (by omega)
    refine ⟨fu', ?_, by omega⟩
    rw [hN2, ← e1]
    unfold hF hF hF i6
    simp (disch := first | omega | assumption) only [↓z_m1, li_0, li_1, li_2, li_3, li_4, li_5, li_6, li_7, li_8, li_9, li_10, li_11, li_12, li_13, li_14, li_15, li_16, li_17, li_18, li_19, li_20, li_21, li_22, li_23, li_24, li_25, li_26, li_27, li_28, li_29, li_30, li_31, li_32, li_33, li_34, li_35, li_36, li_37, li_38, li_39, li_40, li_41, li_42, li_43, li_44, li_45, li_46, li_47, li_48, li_49, li_50, li_51, li_52, li_53, li_54, li_55, li_56, li_57, li_58, li_59, li_60, li_61, li_62, li_63, li_64, li_65, li_66, li_67, li_68, li_69, li_70, li_71, li_72, li_73, li_74, li_75, li_76, li_77, li_78, li_79, li_80, li_81, li_82, li_83, li_84, li_85, li_86, li_87, li_88, li_89, li_90, li_91, li_92, li_93, li_94, li_95, li_96, li_97, li_98, li_99, li_100, li_101, li_102, li_103, li_104, li_105, li_106, li_107, li_108, li_109, li_110, li_111, li_112, li_113, li_114, li_115, li_116, li_117, li_118, li_119, li_120, li_121, li_122, li_123, li_124, li_125, li_126, li_127, li_128, li_129, li_130, li_180, li_186, li_192, li_304, li_305, li_306, li_307, li_319, li_320, li_321, li_322, li_408, li_409, li_410, li_416, li_422, li_428, li_458, li_459, li_460, li_2300, li_2760, nI_add, z_m6, z_m12, z_m30, z_l10, z_l12, z_l14, z_l17, z_l30, z_l460, z_sub, z_dec, z_dec0, z_m11, z_cl, z_leT, z_leF, z_ltT, z_ltF, z_eqT, z_eqF, z_em, z_me, z_mlt, z_mle, z_ltm, z_lem, z_mltm, z_mlem, z_nleT, z_nleF, z_nltT, z_nltF, or_false, or_self, false_or, or_true, true_or, not_true_eq_false, not_false_eq_true, ↓reduceIte, lt, z_ob, Nat.zero_add, Nat.add_zero, sp_X9_digest_12, bX9_digest_12, e0, e9]
def lwV (s : Nat → Int32) (v : Nat) : Int64 := (lk (lossN s 6 0 v)).toInt64
/-- from the words that would be lost on, to the end -/
theorem dg_13 (hd : Dic s) : ∀ (k v : Nat) (z : Int64) (sz mi pd ls : Int32) (line : Nat → Int32) (fu : Nat), v + k = 30 → k < fu → ∃ fu' sz' mi' pd' ls' line', rX9_digest (nI np) (nI tn) s tx fu 13 z (nI v) (nI 0) (nI 0) (nI 0) sz mi pd ls line = rX9_digest (nI np) (nI tn) s tx fu' 13 (hF (lwV s) k v z) (nI 30) (nI 0) (nI 0) (nI 0) sz' mi' pd' ls' line' ∧ fu = fu' + k := by
  intro k
  induction k with
  | zero =>
    intro v z sz mi pd ls line fu hi hf
    obtain rfl : v = 30 := by omega
    exact ⟨fu, sz, mi, pd, ls, line, rfl, by omega⟩
  | succ k ih =>
    intro v z sz mi pd ls line fu hi hf
    obtain ⟨fu, rfl⟩ := fuS hf
    obtain ⟨sz1, mi1, pd1, b1, line1, e0⟩ := lostOf_M hd (w := v) (by omega) sz mi pd ls line
    obtain ⟨fu', sz', mi', pd', ls', line', e1, e2⟩ := ih (v + 1) (31 * z + lwV s v) sz1 mi1 pd1 (b2 b1) line1 fu (by omega) (by omega)
    refine ⟨fu', sz', mi', pd', ls', line', ?_, by omega⟩
    rw [hF, ← e1]
    unfold lwV
    simp (disch := first | omega | assumption) only [↓z_m1, li_0, li_1, li_2, li_3, li_4, li_5, li_6, li_7, li_8, li_9, li_10, li_11, li_12, li_13, li_14, li_15, li_16, li_17, li_18, li_19, li_20, li_21, li_22, li_23, li_24, li_25, li_26, li_27, li_28, li_29, li_30, li_31, li_32, li_33, li_34, li_35, li_36, li_37, li_38, li_39, li_40, li_41, li_42, li_43, li_44, li_45, li_46, li_47, li_48, li_49, li_50, li_51, li_52, li_53, li_54, li_55, li_56, li_57, li_58, li_59, li_60, li_61, li_62, li_63, li_64, li_65, li_66, li_67, li_68, li_69, li_70, li_71, li_72, li_73, li_74, li_75, li_76, li_77, li_78, li_79, li_80, li_81, li_82, li_83, li_84, li_85, li_86, li_87, li_88, li_89, li_90, li_91, li_92, li_93, li_94, li_95, li_96, li_97, li_98, li_99, li_100, li_101, li_102, li_103, li_104, li_105, li_106, li_107, li_108, li_109, li_110, li_111, li_112, li_113, li_114, li_115, li_116, li_117, li_118, li_119, li_120, li_121, li_122, li_123, li_124, li_125, li_126, li_127, li_128, li_129, li_130, li_180, li_186, li_192, li_304, li_305, li_306, li_307, li_319, li_320, li_321, li_322, li_408, li_409, li_410, li_416, li_422, li_428, li_458, li_459, li_460, li_2300, li_2760, nI_add, z_m6, z_m12, z_m30, z_l10, z_l12, z_l14, z_l17, z_l30, z_l460, z_sub, z_dec, z_dec0, z_m11, z_cl, z_leT, z_leF, z_ltT, z_ltF, z_eqT, z_eqF, z_em, z_me, z_mlt, z_mle, z_ltm, z_lem, z_mltm, z_mlem, z_nleT, z_nleF, z_nltT, z_nltF, or_false, or_self, false_or, or_true, true_or, not_true_eq_false, not_false_eq_true, ↓reduceIte, lt, z_ob, Nat.zero_add, Nat.add_zero, sp_X9_digest_13, bX9_digest_13, e0]
def bfV (tx : Nat → Int32) (i : Nat) : Int64 := (tx i).toInt64
theorem dg_14 (h60 : tn ≤ 60) (sz mi pd ls : Int32) (line : Nat → Int32) : ∀ (k i : Nat) (z : Int64) (fu : Nat), i + k = tn → k < fu → rX9_digest (nI np) (nI tn) s tx fu 14 z (nI i) (nI 0) (nI 0) (nI 0) sz mi pd ls line = some (hF (bfV tx) k i z, nI 0, sz, mi, pd, ls, line) := by
  intro k
  induction k with
  | zero =>
    intro i z fu hi hf
    obtain ⟨fu, rfl⟩ := fuS hf
    simp (disch := first | omega | assumption) only [↓z_m1, li_0, li_1, li_2, li_3, li_4, li_5, li_6, li_7, li_8, li_9, li_10, li_11, li_12, li_13, li_14, li_15, li_16, li_17, li_18, li_19, li_20, li_21, li_22, li_23, li_24, li_25, li_26, li_27, li_28, li_29, li_30, li_31, li_32, li_33, li_34, li_35, li_36, li_37, li_38, li_39, li_40, li_41, li_42, li_43, li_44, li_45, li_46, li_47, li_48, li_49, li_50, li_51, li_52, li_53, li_54, li_55, li_56, li_57, li_58, li_59, li_60, li_61, li_62, li_63, li_64, li_65, li_66, li_67, li_68, li_69, li_70, li_71, li_72, li_73, li_74, li_75, li_76, li_77, li_78, li_79, li_80, li_81, li_82, li_83, li_84, li_85, li_86, li_87, li_88, li_89, li_90, li_91, li_92, li_93, li_94, li_95, li_96, li_97, li_98, li_99, li_100, li_101, li_102, li_103, li_104, li_105, li_106, li_107, li_108, li_109, li_110, li_111, li_112, li_113, li_114, li_115, li_116, li_117, li_118, li_119, li_120, li_121, li_122, li_123, li_124, li_125, li_126, li_127, li_128, li_129, li_130, li_180, li_186, li_192, li_304, li_305, li_306, li_307, li_319, li_320, li_321, li_322, li_408, li_409, li_410, li_416, li_422, li_428, li_458, li_459, li_460, li_2300, li_2760, nI_add, z_m6, z_m12, z_m30, z_l10, z_l12, z_l14, z_l17, z_l30, z_l460, z_sub, z_dec, z_dec0, z_m11, z_cl, z_leT, z_leF, z_ltT, z_ltF, z_eqT, z_eqF, z_em, z_me, z_mlt, z_mle, z_ltm, z_lem, z_mltm, z_mlem, z_nleT, z_nleF, z_nltT, z_nltF, or_false, or_self, false_or, or_true, true_or, not_true_eq_false, not_false_eq_true, ↓reduceIte, lt, z_ob, Nat.zero_add, Nat.add_zero, sp_X9_digest_14, bX9_digest_14, hF]
  | succ k ih =>
    intro i z fu hi hf
    obtain ⟨fu, rfl⟩ := fuS hf
    rw [hF, ← ih (i + 1) (31 * z + bfV tx i) fu (by omega) (by omega)]
    unfold bfV
    simp (disch := first | omega | assumption) only [↓z_m1, li_0, li_1, li_2, li_3, li_4, li_5, li_6, li_7, li_8, li_9, li_10, li_11, li_12, li_13, li_14, li_15, li_16, li_17, li_18, li_19, li_20, li_21, li_22, li_23, li_24, li_25, li_26, li_27, li_28, li_29, li_30, li_31, li_32, li_33, li_34, li_35, li_36, li_37, li_38, li_39, li_40, li_41, li_42, li_43, li_44, li_45, li_46, li_47, li_48, li_49, li_50, li_51, li_52, li_53, li_54, li_55, li_56, li_57, li_58, li_59, li_60, li_61, li_62, li_63, li_64, li_65, li_66, li_67, li_68, li_69, li_70, li_71, li_72, li_73, li_74, li_75, li_76, li_77, li_78, li_79, li_80, li_81, li_82, li_83, li_84, li_85, li_86, li_87, li_88, li_89, li_90, li_91, li_92, li_93, li_94, li_95, li_96, li_97, li_98, li_99, li_100, li_101, li_102, li_103, li_104, li_105, li_106, li_107, li_108, li_109, li_110, li_111, li_112, li_113, li_114, li_115, li_116, li_117, li_118, li_119, li_120, li_121, li_122, li_123, li_124, li_125, li_126, li_127, li_128, li_129, li_130, li_180, li_186, li_192, li_304, li_305, li_306, li_307, li_319, li_320, li_321, li_322, li_408, li_409, li_410, li_416, li_422, li_428, li_458, li_459, li_460, li_2300, li_2760, nI_add, z_m6, z_m12, z_m30, z_l10, z_l12, z_l14, z_l17, z_l30, z_l460, z_sub, z_dec, z_dec0, z_m11, z_cl, z_leT, z_leF, z_ltT, z_ltF, z_eqT, z_eqF, z_em, z_me, z_mlt, z_mle, z_ltm, z_lem, z_mltm, z_mlem, z_nleT, z_nleF, z_nltT, z_nltF, or_false, or_self, false_or, or_true, true_or, not_true_eq_false, not_false_eq_true, ↓reduceIte, lt, z_ob, Nat.zero_add, Nat.add_zero, sp_X9_digest_14, bX9_digest_14]
/-- all values, one after the other -/
def hAll (s : Nat → Int32) (np n kp tn : Nat) (g w : Nat → Nat → Int32) (Lf : Nat → List Nat) (lo : Nat → Nat → Int32) (wst cst : Int32) (shr : UInt64) (tx : Nat → Int32) : Int64 :=
  hF (bfV tx) tn 0 (31 * (31 * (31 * (31 * (31 * (31 * (hF (lwV s) 30 0 (hN2 (i6 lo) 2 5 0 (hAr (i6 (fun b k => vArr s (Lf b) b k)) (cI6 Lf) (fun b => tlN (Lf b)) kp 0 (hN2 (i6 w) 3 n 0 (hLk (i6 (vLink s)) (i6 g) (fun l => i6 (vMean s l)) 6 0 (hF (fun k => (vCount s np k).toInt64) 7 0 3877)))))) + (vStop s 0).toInt64) + (vStop s 1).toInt64) + wst.toInt64) + cst.toInt64) + shr.toInt64) + (nI tn).toInt64)
theorem digest_M (hd : Dic s) (h304 : s 304 = nI n) (n8 : n ≤ 8) (h408 : s 408 = nI kp) (k6 : kp ≤ 6) (h60 : tn ≤ 60) {sp sr : Int32} (hst : StpX s sp sr) {g w lo : Nat → Nat → Int32} (hg : GoM s g) (hw : WaM s n w) {Lf : Nat → List Nat} (hA : ArM s kp Lf) (hlo : LoM s lo) {wst cst : Int32} (h1 : ∀ (sz mi pd ls : Int32) (line : Nat → Int32), ∃ sz' mi' pd' ls' line', fX9_worst sz mi pd ls s line = some (wst, sz', mi', pd', ls', line')) (h2 : ∀ (sz mi pd ls : Int32) (line : Nat → Int32), ∃ sz' mi' pd' ls' line', fX9_allCosts sz mi pd ls s line = some (cst, sz', mi', pd', ls', line')) {shr : UInt64} (h3 : fX9_share s = some shr) (h3' : Op.cmpValue (FP.dcmp shr shr) .l = 0) (th : Int32) (sz mi pd ls : Int32) (line : Nat → Int32) :
    ∃ sz' mi' pd' ls' line', fX9_digest (nI np) (nI tn) th sz mi pd ls s tx line = some (hAll s np n kp tn g w Lf lo wst cst shr tx, nI 0, sz', mi', pd', ls', line') := by
  obtain ⟨f1, e1, z1⟩ := dg_1 (s := s) (tx := tx) (np := np) (tn := tn) sz mi pd ls line 7 0 3877 fuelN (by omega) (by decide)
  have z1 : (1000000 : Nat) = f1 + 7 + 1 := z1
  obtain ⟨f2, sz2, mi2, pd2, ls2, line2, e2, z2⟩ := dg_2 (tx := tx) (np := np) (tn := tn) hd hg 6 0 (hF (fun k => (vCount s np k).toInt64) 7 0 3877) sz mi pd ls line f1 (by omega) (by omega)
  obtain ⟨f3, e3, z3⟩ := dg_7 (tx := tx) (np := np) (tn := tn) h304 hw n8 sz2 mi2 pd2 ls2 line2 n 0 (hLk (i6 (vLink s)) (i6 g) (fun l => i6 (vMean s l)) 6 0 (hF (fun k => (vCount s np k).toInt64) 7 0 3877)) f2 (by omega) (by omega)
  obtain ⟨f4, e4, z4⟩ := dg_9 (tx := tx) (np := np) (tn := tn) h408 hA k6 sz2 mi2 pd2 ls2 line2 kp 0 (hN2 (i6 w) 3 n 0 (hLk (i6 (vLink s)) (i6 g) (fun l => i6 (vMean s l)) 6 0 (hF (fun k => (vCount s np k).toInt64) 7 0 3877))) f3 (by omega) (by omega)
  obtain ⟨f5, e5, z5⟩ := dg_12 (tx := tx) (np := np) (tn := tn) hlo sz2 mi2 pd2 ls2 line2 5 0 (hAr (i6 (fun b k => vArr s (Lf b) b k)) (cI6 Lf) (fun b => tlN (Lf b)) kp 0 (hN2 (i6 w) 3 n 0 (hLk (i6 (vLink s)) (i6 g) (fun l => i6 (vMean s l)) 6 0 (hF (fun k => (vCount s np k).toInt64) 7 0 3877)))) f4 (by omega) (by omega)
  obtain ⟨f6, sz6, mi6, pd6, ls6, line6, e6, z6⟩ := dg_13 (tx := tx) (np := np) (tn := tn) hd 30 0 (hN2 (i6 lo) 2 5 0 (hAr (i6 (fun b k => vArr s (Lf b) b k)) (cI6 Lf) (fun b => tlN (Lf b)) kp 0 (hN2 (i6 w) 3 n 0 (hLk (i6 (vLink s)) (i6 g) (fun l => i6 (vMean s l)) 6 0 (hF (fun k => (vCount s np k).toInt64) 7 0 3877))))) sz2 mi2 pd2 ls2 line2 f5 (by omega) (by omega)
  obtain ⟨f6, rfl⟩ := fuS (k := 0) (by omega : 0 < f6)
  obtain ⟨sz7, mi7, pd7, ls7, line7, e7⟩ := h1 sz6 mi6 pd6 ls6 line6
  obtain ⟨sz8, mi8, pd8, ls8, line8, e8⟩ := h2 sz7 mi7 pd7 ls7 line7
  have s0 := stop_MV hst (k := 0) (by omega)
  have s1 := stop_MV hst (k := 1) (by omega)
  refine ⟨sz8, mi8, pd8, ls8, line8, ?_⟩
  unfold fX9_digest eX9_digest hAll
  generalize hF (lwV s) 30 0 (hN2 (i6 lo) 2 5 0 (hAr (i6 (fun b k => vArr s (Lf b) b k)) (cI6 Lf) (fun b => tlN (Lf b)) kp 0 (hN2 (i6 w) 3 n 0 (hLk (i6 (vLink s)) (i6 g) (fun l => i6 (vMean s l)) 6 0 (hF (fun k => (vCount s np k).toInt64) 7 0 3877))))) = Z at e6 ⊢
  refine (e1.trans (e2.trans (e3.trans (e4.trans (e5.trans (e6.trans ?_))))))
  rw [← dg_14 (np := np) (s := s) h60 sz8 mi8 pd8 ls8 line8 tn 0 _ f6 (by omega) (by omega)]
  simp (disch := first | omega | assumption) only [↓z_m1, li_0, li_1, li_2, li_3, li_4, li_5, li_6, li_7, li_8, li_9, li_10, li_11, li_12, li_13, li_14, li_15, li_16, li_17, li_18, li_19, li_20, li_21, li_22, li_23, li_24, li_25, li_26, li_27, li_28, li_29, li_30, li_31, li_32, li_33, li_34, li_35, li_36, li_37, li_38, li_39, li_40, li_41, li_42, li_43, li_44, li_45, li_46, li_47, li_48, li_49, li_50, li_51, li_52, li_53, li_54, li_55, li_56, li_57, li_58, li_59, li_60, li_61, li_62, li_63, li_64, li_65, li_66, li_67, li_68, li_69, li_70, li_71, li_72, li_73, li_74, li_75, li_76, li_77, li_78, li_79, li_80, li_81, li_82, li_83, li_84, li_85, li_86, li_87, li_88, li_89, li_90, li_91, li_92, li_93, li_94, li_95, li_96, li_97, li_98, li_99, li_100, li_101, li_102, li_103, li_104, li_105, li_106, li_107, li_108, li_109, li_110, li_111, li_112, li_113, li_114, li_115, li_116, li_117, li_118, li_119, li_120, li_121, li_122, li_123, li_124, li_125, li_126, li_127, li_128, li_129, li_130, li_180, li_186, li_192, li_304, li_305, li_306, li_307, li_319, li_320, li_321, li_322, li_408, li_409, li_410, li_416, li_422, li_428, li_458, li_459, li_460, li_2300, li_2760, nI_add, z_m6, z_m12, z_m30, z_l10, z_l12, z_l14, z_l17, z_l30, z_l460, z_sub, z_dec, z_dec0, z_m11, z_cl, z_leT, z_leF, z_ltT, z_ltF, z_eqT, z_eqF, z_em, z_me, z_mlt, z_mle, z_ltm, z_lem, z_mltm, z_mlem, z_nleT, z_nleF, z_nltT, z_nltF, or_false, or_self, false_or, or_true, true_or, not_true_eq_false, not_false_eq_true, ↓reduceIte, lt, z_ob, Nat.zero_add, Nat.add_zero, sp_X9_digest_13, bX9_digest_13, s0, s1, e7, e8, h3, h3']
end DM

-- pure: a sentence on its way
def isR (r : Nat → Int32) : Nat → List Nat → Prop
  | _, [] => True
  | o, w :: ws => r o = nI w ∧ isR r (o + 1) ws
theorem isR_congr {r q : Nat → Int32} : ∀ {L : List Nat} {o : Nat}, (∀ j, o ≤ j → j < o + L.length → q j = r j) → isR r o L → isR q o L := by
  intro L
  induction L with
  | nil => intro o _ _; trivial
  | cons w ws ih =>
    intro o h hr
    rw [List.length_cons] at h
    exact ⟨by rw [h o (Nat.le_refl _) (by omega)]; exact hr.1, ih (fun j h1 h2 => h j (by omega) (by omega)) hr.2⟩
theorem isR_at {r : Nat → Int32} : ∀ {L : List Nat} {o : Nat}, isR r o L → ∀ k, k < L.length → r (o + k) = nI (L.getD k 0) := by
  intro L
  induction L with
  | nil => intro o _ k hk; exact absurd hk (Nat.not_lt_zero _)
  | cons w ws ih =>
    intro o hr k hk
    cases k with
    | zero => exact hr.1
    | succ k =>
      rw [List.length_cons] at hk
      rw [show o + (k + 1) = o + 1 + k by omega, ih hr.2 k (by omega)]
      rfl
theorem isR_snoc {r : Nat → Int32} {w : Nat} : ∀ {L : List Nat} {o : Nat}, isR r o L → r (o + L.length) = nI w → isR r o (L ++ [w]) := by
  intro L
  induction L with
  | nil => intro o _ h; exact ⟨h, trivial⟩
  | cons v ws ih =>
    intro o hr h
    rw [List.length_cons] at h
    exact ⟨hr.1, ih hr.2 (by rw [show o + 1 + ws.length = o + (ws.length + 1) by omega]; exact h)⟩
theorem isR_shift {r q : Nat → Int32} : ∀ {L : List Nat} {o p : Nat}, (∀ j, j < L.length → q (p + j) = r (o + j)) → isR r o L → isR q p L := by
  intro L
  induction L with
  | nil => intro o p _ _; trivial
  | cons w ws ih =>
    intro o p h hr
    rw [List.length_cons] at h
    refine ⟨?_, ih (o := o + 1) (fun j hj => ?_) hr.2⟩
    · have := h 0 (by omega)
      rw [Nat.add_zero, Nat.add_zero] at this
      rw [this]; exact hr.1
    · have := h (j + 1) (by omega)
      rw [show p + 1 + j = p + (j + 1) by omega, show o + 1 + j = o + (j + 1) by omega]
      exact this
def bd (L : List Nat) : Prop := ∀ x, x ∈ L → x ≤ 30
theorem bd_h {w : Nat} {L : List Nat} (h : bd (w :: L)) : w ≤ 30 := h w List.mem_cons_self
theorem bd_t {w : Nat} {L : List Nat} (h : bd (w :: L)) : bd L := fun x hx => h x (List.mem_cons_of_mem _ hx)
/-- a boolean as an int -/
def b2 (b : Bool) : Int32 := nI b.toNat
theorem b2_t : b2 true = nI 1 := rfl
theorem b2_f : b2 false = nI 0 := rfl
def missB (e q : Nat) : Bool := decide (0 < e) && (q % (e + 1) == 0)
theorem misses_X {e q : Nat} (he : e < 10) (hq : q < 100) : fX6_misses (nI e) (nI q) = some (b2 (missB e q)) := by
  unfold fX6_misses missB
  by_cases h0 : e = 0
  · subst h0; rfl
  · rw [decide_eq_true (show 0 < e by omega), Bool.true_and]
    simp (disch := first | omega | assumption) only [↓z_m1, li_0, li_1, li_2, li_3, li_4, li_5, li_6, li_7, li_8, li_9, li_10, li_11, li_12, li_13, li_14, li_15, li_16, li_17, li_18, li_19, li_20, li_21, li_22, li_23, li_24, li_25, li_26, li_27, li_28, li_29, li_30, li_31, li_32, li_33, li_34, li_35, li_36, li_37, li_38, li_39, li_40, li_41, li_42, li_43, li_44, li_45, li_46, li_47, li_48, li_49, li_50, li_51, li_52, li_53, li_54, li_55, li_56, li_57, li_58, li_59, li_60, li_61, li_62, li_63, li_64, li_65, li_66, li_67, li_68, li_69, li_70, li_71, li_72, li_73, li_74, li_75, li_76, li_77, li_78, li_79, li_80, li_81, li_82, li_83, li_84, li_85, li_86, li_87, li_88, li_89, li_90, li_91, li_92, li_93, li_94, li_95, li_96, li_97, li_98, li_99, li_100, li_101, li_102, li_103, li_104, li_105, li_106, li_107, li_108, li_109, li_110, li_111, li_112, li_113, li_114, li_115, li_116, li_117, li_118, li_119, li_120, li_121, li_122, li_123, li_124, li_125, li_126, li_127, li_128, li_129, li_130, li_180, li_186, li_192, li_304, li_305, li_306, li_307, li_319, li_320, li_321, li_322, li_408, li_409, li_410, li_416, li_422, li_428, li_458, li_459, li_460, li_2300, li_2760, nI_add, z_m6, z_m12, z_m30, z_l10, z_l12, z_l14, z_l17, z_l30, z_l460, z_sub, z_dec, z_dec0, z_m11, z_cl, z_leT, z_leF, z_ltT, z_ltF, z_eqT, z_eqF, z_em, z_me, z_mlt, z_mle, z_ltm, z_lem, z_mltm, z_mlem, z_nleT, z_nleF, z_nltT, z_nltF, or_false, or_self, false_or, or_true, true_or, not_true_eq_false, not_false_eq_true, ↓reduceIte, lt, z_ob, Nat.zero_add, Nat.add_zero, pk_rem]
    have hr : q % (e + 1) ≤ q := Nat.mod_le _ _
    by_cases h : q % (e + 1) = 0
    · rw [h]; rfl
    · simp (disch := first | omega | assumption) only [↓z_m1, li_0, li_1, li_2, li_3, li_4, li_5, li_6, li_7, li_8, li_9, li_10, li_11, li_12, li_13, li_14, li_15, li_16, li_17, li_18, li_19, li_20, li_21, li_22, li_23, li_24, li_25, li_26, li_27, li_28, li_29, li_30, li_31, li_32, li_33, li_34, li_35, li_36, li_37, li_38, li_39, li_40, li_41, li_42, li_43, li_44, li_45, li_46, li_47, li_48, li_49, li_50, li_51, li_52, li_53, li_54, li_55, li_56, li_57, li_58, li_59, li_60, li_61, li_62, li_63, li_64, li_65, li_66, li_67, li_68, li_69, li_70, li_71, li_72, li_73, li_74, li_75, li_76, li_77, li_78, li_79, li_80, li_81, li_82, li_83, li_84, li_85, li_86, li_87, li_88, li_89, li_90, li_91, li_92, li_93, li_94, li_95, li_96, li_97, li_98, li_99, li_100, li_101, li_102, li_103, li_104, li_105, li_106, li_107, li_108, li_109, li_110, li_111, li_112, li_113, li_114, li_115, li_116, li_117, li_118, li_119, li_120, li_121, li_122, li_123, li_124, li_125, li_126, li_127, li_128, li_129, li_130, li_180, li_186, li_192, li_304, li_305, li_306, li_307, li_319, li_320, li_321, li_322, li_408, li_409, li_410, li_416, li_422, li_428, li_458, li_459, li_460, li_2300, li_2760, nI_add, z_m6, z_m12, z_m30, z_l10, z_l12, z_l14, z_l17, z_l30, z_l460, z_sub, z_dec, z_dec0, z_m11, z_cl, z_leT, z_leF, z_ltT, z_ltF, z_eqT, z_eqF, z_em, z_me, z_mlt, z_mle, z_ltm, z_lem, z_mltm, z_mlem, z_nleT, z_nleF, z_nltT, z_nltF, or_false, or_self, false_or, or_true, true_or, not_true_eq_false, not_false_eq_true, ↓reduceIte, lt, z_ob, Nat.zero_add, Nat.add_zero, beq_eq_false_iff_ne.mpr h, b2_f]
/-- what a link with an ear says of a sentence, from place p on -/
def hearN (s : Nat → Int32) (l e : Nat) : Nat → List Nat → List Nat
  | _, [] => []
  | p, w :: ws => if missB e (p + 1) then hearN s l e (p + 1) ws else said s l w :: hearN s l e (p + 1) ws
/-- whether something is lost -/
def lostB (s : Nat → Int32) (l e : Nat) : Nat → List Nat → Bool
  | _, [] => false
  | p, w :: ws => (if missB e (p + 1) then true else bck s l w != w) || lostB s l e (p + 1) ws
theorem hear_len (s : Nat → Int32) (l e : Nat) : ∀ (ws : List Nat) (p : Nat), (hearN s l e p ws).length ≤ ws.length := by
  intro ws
  induction ws with
  | nil => intro p; exact Nat.le_refl _
  | cons w ws ih =>
    intro p
    have := ih (p + 1)
    rw [hearN, List.length_cons]
    split
    · omega
    · rw [List.length_cons]; omega
theorem hear_bd {s : Nat → Int32} (hd : Dic s) {l : Nat} (hl : l < 6) (e : Nat) : ∀ (ws : List Nat) (p : Nat), bd ws → bd (hearN s l e p ws) := by
  intro ws
  induction ws with
  | nil => intro p _; exact fun x hx => absurd hx List.not_mem_nil
  | cons w ws ih =>
    intro p hb
    rw [hearN]
    split
    · exact ih _ (bd_t hb)
    · intro x hx
      rcases List.mem_cons.mp hx with rfl | hx
      · exact said_le hd hl (bd_h hb)
      · exact ih _ (bd_t hb) x hx
theorem lost_len (s : Nat → Int32) (l e : Nat) : ∀ (ws : List Nat) (p : Nat), lostB s l e p ws = (decide ((hearN s l e p ws).length < ws.length) || ws.any (fun w => bck s l w != w)) := by
  intro ws
  induction ws with
  | nil => intro p; rfl
  | cons w ws ih =>
    intro p
    have h := hear_len s l e ws (p + 1)
    rw [lostB, hearN, List.any_cons]
    by_cases hm : missB e (p + 1) = true
    · rw [if_pos hm, if_pos hm, decide_eq_true (by rw [List.length_cons]; omega)]
      rfl
    · rw [if_neg hm, if_neg hm, ih (p + 1)]
      have e1 : decide ((said s l w :: hearN s l e (p + 1) ws).length < (w :: ws).length) = decide ((hearN s l e (p + 1) ws).length < ws.length) := by
        rw [List.length_cons, List.length_cons]
        exact decide_eq_decide.mpr (by omega)
      rw [e1]
      cases (bck s l w != w) <;> cases (decide ((hearN s l e (p + 1) ws).length < ws.length)) <;> rfl
/-- the sentence as link l hears it -/
def chN (s : Nat → Int32) (ea : Nat → Nat) (ws : List Nat) : Nat → List Nat
  | 0 => ws
  | l + 1 => hearN s l (ea l) 0 (chN s ea ws l)
theorem ch_len (s : Nat → Int32) (ea : Nat → Nat) (ws : List Nat) : ∀ l, (chN s ea ws l).length ≤ ws.length := by
  intro l
  induction l with
  | zero => exact Nat.le_refl _
  | succ l ih => exact Nat.le_trans (hear_len _ _ _ _ _) ih
theorem ch_bd {s : Nat → Int32} (hd : Dic s) (ea : Nat → Nat) {ws : List Nat} (hb : bd ws) : ∀ l, l ≤ 6 → bd (chN s ea ws l) := by
  intro l
  induction l with
  | zero => intro _; exact hb
  | succ l ih => intro hl; exact hear_bd hd (by omega) _ _ _ (ih (by omega))
def Trip (s : Nat → Int32) (ea : Nat → Nat) (ws : List Nat) (r ls : Nat → Int32) (n : Nat) : Prop := ∀ l, l ≤ n → ls l = nI (chN s ea ws l).length ∧ isR r (12 * l) (chN s ea ws l)
theorem send_in {f s : Nat → Int32} (hm : agr f s 0 180) (hd : Dic s) (p3 ln : Int32) (wd ef : Nat → Int32) {l e : Nat} (hl : l < 6) (he : e < 10) : ∀ (ws : List Nat) (p : Nat) (out : List Nat) (r ls : Nat → Int32) (fu : Nat), bd ws → p + ws.length ≤ 12 → out.length ≤ p → ls l = nI (p + ws.length) → isR r (12 * l + p) ws → isR r (12 * l + 12) out →
    ∃ r', rX6_send p3 ln wd f ef (fu + ws.length + 1) 3 (nI l) (nI e) (nI (12 * l)) (nI (12 * l + 12)) (nI out.length) (nI p) (nI 0) r ls = rX6_send p3 ln wd f ef fu 1 (nI (l + 1)) (nI 0) (nI 0) (nI 0) (nI 0) (nI 0) (nI 0) r' (upd ls (l + 1) (nI (out ++ hearN s l e p ws).length)) ∧ isR r' (12 * l + 12) (out ++ hearN s l e p ws) ∧ (∀ j, j < 12 * l + 12 → r' j = r j) := by
  intro ws
  induction ws with
  | nil =>
    intro p out r ls fu hb hp ho hls hr hro
    rw [List.length_nil, Nat.add_zero] at hls hp ⊢
    refine ⟨r, ?_, ?_, fun j _ => rfl⟩
    · simp (disch := first | omega | assumption) only [↓z_m1, li_0, li_1, li_2, li_3, li_4, li_5, li_6, li_7, li_8, li_9, li_10, li_11, li_12, li_13, li_14, li_15, li_16, li_17, li_18, li_19, li_20, li_21, li_22, li_23, li_24, li_25, li_26, li_27, li_28, li_29, li_30, li_31, li_32, li_33, li_34, li_35, li_36, li_37, li_38, li_39, li_40, li_41, li_42, li_43, li_44, li_45, li_46, li_47, li_48, li_49, li_50, li_51, li_52, li_53, li_54, li_55, li_56, li_57, li_58, li_59, li_60, li_61, li_62, li_63, li_64, li_65, li_66, li_67, li_68, li_69, li_70, li_71, li_72, li_73, li_74, li_75, li_76, li_77, li_78, li_79, li_80, li_81, li_82, li_83, li_84, li_85, li_86, li_87, li_88, li_89, li_90, li_91, li_92, li_93, li_94, li_95, li_96, li_97, li_98, li_99, li_100, li_101, li_102, li_103, li_104, li_105, li_106, li_107, li_108, li_109, li_110, li_111, li_112, li_113, li_114, li_115, li_116, li_117, li_118, li_119, li_120, li_121, li_122, li_123, li_124, li_125, li_126, li_127, li_128, li_129, li_130, li_180, li_186, li_192, li_304, li_305, li_306, li_307, li_319, li_320, li_321, li_322, li_408, li_409, li_410, li_416, li_422, li_428, li_458, li_459, li_460, li_2300, li_2760, nI_add, z_m6, z_m12, z_m30, z_l10, z_l12, z_l14, z_l17, z_l30, z_l460, z_sub, z_dec, z_dec0, z_m11, z_cl, z_leT, z_leF, z_ltT, z_ltF, z_eqT, z_eqF, z_em, z_me, z_mlt, z_mle, z_ltm, z_lem, z_mltm, z_mlem, z_nleT, z_nleF, z_nltT, z_nltF, or_false, or_self, false_or, or_true, true_or, not_true_eq_false, not_false_eq_true, ↓reduceIte, lt, z_ob, Nat.zero_add, Nat.add_zero, sp_X6_send_3, bX6_send_3, hls, hearN, List.append_nil]
    · rw [hearN, List.append_nil]; exact hro
  | cons w ws ih =>
    intro p out r ls fu hb hp ho hls hr hro
    rw [List.length_cons] at hls hp ⊢
    have hw := bd_h hb
    have h1 := hr.1
    rw [hearN]
    cases hx : missB e (p + 1) with
    | true =>
      rw [if_pos rfl]
      obtain ⟨r', e1, e2, e3⟩ := ih (p + 1) out r ls fu (bd_t hb) (by omega) (by omega) (by rw [hls]; congr 1; omega) (by rw [← Nat.add_assoc]; exact hr.2) hro
      refine ⟨r', ?_, e2, e3⟩
      rw [← e1, show fu + (ws.length + 1) + 1 = fu + ws.length + 1 + 1 by omega, sp_X6_send_3]
      simp (disch := first | omega | assumption) only [↓z_m1, li_0, li_1, li_2, li_3, li_4, li_5, li_6, li_7, li_8, li_9, li_10, li_11, li_12, li_13, li_14, li_15, li_16, li_17, li_18, li_19, li_20, li_21, li_22, li_23, li_24, li_25, li_26, li_27, li_28, li_29, li_30, li_31, li_32, li_33, li_34, li_35, li_36, li_37, li_38, li_39, li_40, li_41, li_42, li_43, li_44, li_45, li_46, li_47, li_48, li_49, li_50, li_51, li_52, li_53, li_54, li_55, li_56, li_57, li_58, li_59, li_60, li_61, li_62, li_63, li_64, li_65, li_66, li_67, li_68, li_69, li_70, li_71, li_72, li_73, li_74, li_75, li_76, li_77, li_78, li_79, li_80, li_81, li_82, li_83, li_84, li_85, li_86, li_87, li_88, li_89, li_90, li_91, li_92, li_93, li_94, li_95, li_96, li_97, li_98, li_99, li_100, li_101, li_102, li_103, li_104, li_105, li_106, li_107, li_108, li_109, li_110, li_111, li_112, li_113, li_114, li_115, li_116, li_117, li_118, li_119, li_120, li_121, li_122, li_123, li_124, li_125, li_126, li_127, li_128, li_129, li_130, li_180, li_186, li_192, li_304, li_305, li_306, li_307, li_319, li_320, li_321, li_322, li_408, li_409, li_410, li_416, li_422, li_428, li_458, li_459, li_460, li_2300, li_2760, nI_add, z_m6, z_m12, z_m30, z_l10, z_l12, z_l14, z_l17, z_l30, z_l460, z_sub, z_dec, z_dec0, z_m11, z_cl, z_leT, z_leF, z_ltT, z_ltF, z_eqT, z_eqF, z_em, z_me, z_mlt, z_mle, z_ltm, z_lem, z_mltm, z_mlem, z_nleT, z_nleF, z_nltT, z_nltF, or_false, or_self, false_or, or_true, true_or, not_true_eq_false, not_false_eq_true, ↓reduceIte, lt, z_ob, Nat.zero_add, Nat.add_zero, bX6_send_3, hls, misses_X he, hx, b2_t]
    | false =>
      rw [if_neg (by decide)]
      have hs := said_le hd hl hw
      have hro2 : isR (upd r (12 * l + 12 + out.length) (nI (said s l w))) (12 * l + 12) (out ++ [said s l w]) := isR_snoc (isR_congr (fun j _ h2 => pk_un (by omega)) hro) pk_us
      obtain ⟨r', e1, e2, e3⟩ := ih (p + 1) (out ++ [said s l w]) (upd r (12 * l + 12 + out.length) (nI (said s l w))) ls fu (bd_t hb) (by omega) (by rw [List.length_append, List.length_singleton]; omega) (by rw [hls]; congr 1; omega) (isR_congr (fun j h1 h2 => pk_un (by omega)) (by rw [← Nat.add_assoc]; exact hr.2)) hro2
      rw [List.append_assoc, List.singleton_append] at e1 e2
      refine ⟨r', ?_, e2, fun j hj => by rw [e3 j hj]; exact pk_un (by omega)⟩
      rw [← e1, show fu + (ws.length + 1) + 1 = fu + ws.length + 1 + 1 by omega, sp_X6_send_3, List.length_append, List.length_singleton]
      simp (disch := first | omega | assumption) only [↓z_m1, li_0, li_1, li_2, li_3, li_4, li_5, li_6, li_7, li_8, li_9, li_10, li_11, li_12, li_13, li_14, li_15, li_16, li_17, li_18, li_19, li_20, li_21, li_22, li_23, li_24, li_25, li_26, li_27, li_28, li_29, li_30, li_31, li_32, li_33, li_34, li_35, li_36, li_37, li_38, li_39, li_40, li_41, li_42, li_43, li_44, li_45, li_46, li_47, li_48, li_49, li_50, li_51, li_52, li_53, li_54, li_55, li_56, li_57, li_58, li_59, li_60, li_61, li_62, li_63, li_64, li_65, li_66, li_67, li_68, li_69, li_70, li_71, li_72, li_73, li_74, li_75, li_76, li_77, li_78, li_79, li_80, li_81, li_82, li_83, li_84, li_85, li_86, li_87, li_88, li_89, li_90, li_91, li_92, li_93, li_94, li_95, li_96, li_97, li_98, li_99, li_100, li_101, li_102, li_103, li_104, li_105, li_106, li_107, li_108, li_109, li_110, li_111, li_112, li_113, li_114, li_115, li_116, li_117, li_118, li_119, li_120, li_121, li_122, li_123, li_124, li_125, li_126, li_127, li_128, li_129, li_130, li_180, li_186, li_192, li_304, li_305, li_306, li_307, li_319, li_320, li_321, li_322, li_408, li_409, li_410, li_416, li_422, li_428, li_458, li_459, li_460, li_2300, li_2760, nI_add, z_m6, z_m12, z_m30, z_l10, z_l12, z_l14, z_l17, z_l30, z_l460, z_sub, z_dec, z_dec0, z_m11, z_cl, z_leT, z_leF, z_ltT, z_ltF, z_eqT, z_eqF, z_em, z_me, z_mlt, z_mle, z_ltm, z_lem, z_mltm, z_mlem, z_nleT, z_nleF, z_nltT, z_nltF, or_false, or_self, false_or, or_true, true_or, not_true_eq_false, not_false_eq_true, ↓reduceIte, lt, z_ob, Nat.zero_add, Nat.add_zero, bX6_send_3, hls, misses_X he, hx, b2_f, h1, said_X hm hd]
/-- the ears, with link m's as 0 -/
def earN (s : Nat → Int32) (l : Nat) : Nat := (s (180 + l)).toNatClampNeg
theorem ear_at {s : Nat → Int32} (h : Sets s 180) {l : Nat} (hl : l < 6) : s (180 + l) = nI (earN s l) ∧ earN s l < 10 := by
  obtain ⟨e, he, e1⟩ := h l hl
  unfold earN
  rw [e1, nI_clamp (by omega)]
  exact ⟨rfl, he⟩
def eaM (s : Nat → Int32) (m l : Nat) : Nat := if l = m then 0 else earN s l
theorem lk_eq {l m : Nat} (hl : l < 6) (hm : m ≤ 6) : (nI l = lk m) = (l = m) := by
  unfold lk
  by_cases h : m = 6
  · rw [if_pos h, z_em (by omega)]
    exact (eq_false (by omega)).symm
  · rw [if_neg h, z_eq (by omega) (by omega)]
theorem send_out {f ef s : Nat → Int32} (hm : agr f s 0 180) (hd : Dic s) (hef : agr ef s 180 6) (hes : Sets s 180) {m : Nat} (hm6 : m ≤ 6) (ln : Int32) (wd : Nat → Int32) {ws : List Nat} (hb : bd ws) (h12 : ws.length ≤ 12) : ∀ (k l : Nat) (r ls : Nat → Int32) (fu : Nat), l + k = 6 → 20 * k < fu → Trip s (eaM s m) ws r ls l →
    ∃ r' ls', rX6_send (lk m) ln wd f ef fu 1 (nI l) (nI 0) (nI 0) (nI 0) (nI 0) (nI 0) (nI 0) r ls = some (r', ls') ∧ Trip s (eaM s m) ws r' ls' 6 := by
  intro k
  induction k with
  | zero =>
    intro l r ls fu hl hf ht
    obtain ⟨fu, rfl⟩ := fuS (k := 0) (by omega)
    obtain rfl : l = 6 := by omega
    refine ⟨r, ls, ?_, ht⟩
    simp (disch := first | omega | assumption) only [↓z_m1, li_0, li_1, li_2, li_3, li_4, li_5, li_6, li_7, li_8, li_9, li_10, li_11, li_12, li_13, li_14, li_15, li_16, li_17, li_18, li_19, li_20, li_21, li_22, li_23, li_24, li_25, li_26, li_27, li_28, li_29, li_30, li_31, li_32, li_33, li_34, li_35, li_36, li_37, li_38, li_39, li_40, li_41, li_42, li_43, li_44, li_45, li_46, li_47, li_48, li_49, li_50, li_51, li_52, li_53, li_54, li_55, li_56, li_57, li_58, li_59, li_60, li_61, li_62, li_63, li_64, li_65, li_66, li_67, li_68, li_69, li_70, li_71, li_72, li_73, li_74, li_75, li_76, li_77, li_78, li_79, li_80, li_81, li_82, li_83, li_84, li_85, li_86, li_87, li_88, li_89, li_90, li_91, li_92, li_93, li_94, li_95, li_96, li_97, li_98, li_99, li_100, li_101, li_102, li_103, li_104, li_105, li_106, li_107, li_108, li_109, li_110, li_111, li_112, li_113, li_114, li_115, li_116, li_117, li_118, li_119, li_120, li_121, li_122, li_123, li_124, li_125, li_126, li_127, li_128, li_129, li_130, li_180, li_186, li_192, li_304, li_305, li_306, li_307, li_319, li_320, li_321, li_322, li_408, li_409, li_410, li_416, li_422, li_428, li_458, li_459, li_460, li_2300, li_2760, nI_add, z_m6, z_m12, z_m30, z_l10, z_l12, z_l14, z_l17, z_l30, z_l460, z_sub, z_dec, z_dec0, z_m11, z_cl, z_leT, z_leF, z_ltT, z_ltF, z_eqT, z_eqF, z_em, z_me, z_mlt, z_mle, z_ltm, z_lem, z_mltm, z_mlem, z_nleT, z_nleF, z_nltT, z_nltF, or_false, or_self, false_or, or_true, true_or, not_true_eq_false, not_false_eq_true, ↓reduceIte, lt, z_ob, Nat.zero_add, Nat.add_zero, sp_X6_send_1, bX6_send_1]
  | succ k ih =>
    intro l r ls fu hl hf ht
    have hc := ch_len s (eaM s m) ws l
    obtain ⟨fu, rfl⟩ : ∃ z, fu = z + (chN s (eaM s m) ws l).length + 1 + 1 + 1 := ⟨fu - ((chN s (eaM s m) ws l).length + 3), by omega⟩
    have hea : eaM s m l < 10 := by
      unfold eaM
      split
      · omega
      · exact (ear_at hes (by omega)).2
    obtain ⟨h1, h2⟩ := ht l (Nat.le_refl _)
    obtain ⟨r', e1, e2, e3⟩ := send_in hm hd (lk m) ln wd ef (show l < 6 by omega) hea (chN s (eaM s m) ws l) 0 [] r ls fu (ch_bd hd _ hb l (by omega)) (by omega) (Nat.le_refl _) (by rw [Nat.zero_add]; exact h1) (by rw [Nat.add_zero]; exact h2) trivial
    rw [List.nil_append] at e1 e2
    have e0 : rX6_send (lk m) ln wd f ef (fu + (chN s (eaM s m) ws l).length + 1 + 1 + 1) 1 (nI l) (nI 0) (nI 0) (nI 0) (nI 0) (nI 0) (nI 0) r ls = rX6_send (lk m) ln wd f ef (fu + (chN s (eaM s m) ws l).length + 1) 3 (nI l) (nI (eaM s m l)) (nI (12 * l)) (nI (12 * l + 12)) (nI 0) (nI 0) (nI 0) r ls := by
      by_cases hlm : l = m
      · rw [show eaM s m l = 0 from if_pos hlm]
        simp (disch := first | omega | assumption) only [↓z_m1, li_0, li_1, li_2, li_3, li_4, li_5, li_6, li_7, li_8, li_9, li_10, li_11, li_12, li_13, li_14, li_15, li_16, li_17, li_18, li_19, li_20, li_21, li_22, li_23, li_24, li_25, li_26, li_27, li_28, li_29, li_30, li_31, li_32, li_33, li_34, li_35, li_36, li_37, li_38, li_39, li_40, li_41, li_42, li_43, li_44, li_45, li_46, li_47, li_48, li_49, li_50, li_51, li_52, li_53, li_54, li_55, li_56, li_57, li_58, li_59, li_60, li_61, li_62, li_63, li_64, li_65, li_66, li_67, li_68, li_69, li_70, li_71, li_72, li_73, li_74, li_75, li_76, li_77, li_78, li_79, li_80, li_81, li_82, li_83, li_84, li_85, li_86, li_87, li_88, li_89, li_90, li_91, li_92, li_93, li_94, li_95, li_96, li_97, li_98, li_99, li_100, li_101, li_102, li_103, li_104, li_105, li_106, li_107, li_108, li_109, li_110, li_111, li_112, li_113, li_114, li_115, li_116, li_117, li_118, li_119, li_120, li_121, li_122, li_123, li_124, li_125, li_126, li_127, li_128, li_129, li_130, li_180, li_186, li_192, li_304, li_305, li_306, li_307, li_319, li_320, li_321, li_322, li_408, li_409, li_410, li_416, li_422, li_428, li_458, li_459, li_460, li_2300, li_2760, nI_add, z_m6, z_m12, z_m30, z_l10, z_l12, z_l14, z_l17, z_l30, z_l460, z_sub, z_dec, z_dec0, z_m11, z_cl, z_leT, z_leF, z_ltT, z_ltF, z_eqT, z_eqF, z_em, z_me, z_mlt, z_mle, z_ltm, z_lem, z_mltm, z_mlem, z_nleT, z_nleF, z_nltT, z_nltF, or_false, or_self, false_or, or_true, true_or, not_true_eq_false, not_false_eq_true, ↓reduceIte, lt, z_ob, Nat.zero_add, Nat.add_zero, sp_X6_send_1, bX6_send_1, sp_X6_send_2, bX6_send_2, lk_eq (show l < 6 by omega) hm6, eq_true hlm]
      · rw [show eaM s m l = earN s l from if_neg hlm]
        simp (disch := first | omega | assumption) only [↓z_m1, li_0, li_1, li_2, li_3, li_4, li_5, li_6, li_7, li_8, li_9, li_10, li_11, li_12, li_13, li_14, li_15, li_16, li_17, li_18, li_19, li_20, li_21, li_22, li_23, li_24, li_25, li_26, li_27, li_28, li_29, li_30, li_31, li_32, li_33, li_34, li_35, li_36, li_37, li_38, li_39, li_40, li_41, li_42, li_43, li_44, li_45, li_46, li_47, li_48, li_49, li_50, li_51, li_52, li_53, li_54, li_55, li_56, li_57, li_58, li_59, li_60, li_61, li_62, li_63, li_64, li_65, li_66, li_67, li_68, li_69, li_70, li_71, li_72, li_73, li_74, li_75, li_76, li_77, li_78, li_79, li_80, li_81, li_82, li_83, li_84, li_85, li_86, li_87, li_88, li_89, li_90, li_91, li_92, li_93, li_94, li_95, li_96, li_97, li_98, li_99, li_100, li_101, li_102, li_103, li_104, li_105, li_106, li_107, li_108, li_109, li_110, li_111, li_112, li_113, li_114, li_115, li_116, li_117, li_118, li_119, li_120, li_121, li_122, li_123, li_124, li_125, li_126, li_127, li_128, li_129, li_130, li_180, li_186, li_192, li_304, li_305, li_306, li_307, li_319, li_320, li_321, li_322, li_408, li_409, li_410, li_416, li_422, li_428, li_458, li_459, li_460, li_2300, li_2760, nI_add, z_m6, z_m12, z_m30, z_l10, z_l12, z_l14, z_l17, z_l30, z_l460, z_sub, z_dec, z_dec0, z_m11, z_cl, z_leT, z_leF, z_ltT, z_ltF, z_eqT, z_eqF, z_em, z_me, z_mlt, z_mle, z_ltm, z_lem, z_mltm, z_mlem, z_nleT, z_nleF, z_nltT, z_nltF, or_false, or_self, false_or, or_true, true_or, not_true_eq_false, not_false_eq_true, ↓reduceIte, lt, z_ob, Nat.zero_add, Nat.add_zero, sp_X6_send_1, bX6_send_1, sp_X6_send_2, bX6_send_2, lk_eq (show l < 6 by omega) hm6, eq_false hlm, hef l (by omega), (ear_at hes (show l < 6 by omega)).1]
    obtain ⟨r2, ls2, e4, e5⟩ := ih (l + 1) r' (upd ls (l + 1) (nI (hearN s l (eaM s m l) 0 (chN s (eaM s m) ws l)).length)) fu (by omega) (by omega) (fun i hi => by
      by_cases hi2 : i = l + 1
      · subst hi2
        exact ⟨pk_us, by rw [show 12 * (l + 1) = 12 * l + 12 by omega]; exact e2⟩
      · obtain ⟨t1, t2⟩ := ht i (by omega)
        have hc2 := ch_len s (eaM s m) ws i
        exact ⟨by rw [pk_un hi2]; exact t1, isR_congr (fun j h1 h2 => e3 j (by omega)) t2⟩)
    exact ⟨r2, ls2, e0.trans (e1.trans e4), e5⟩
theorem send_X {f ef s : Nat → Int32} (hm : agr f s 0 180) (hd : Dic s) (hef : agr ef s 180 6) (hes : Sets s 180) {m : Nat} (hm6 : m ≤ 6) (rows lens wd : Nat → Int32) {ws : List Nat} (hb : bd ws) (h12 : ws.length ≤ 12) (hw : isR wd 0 ws) :
    ∃ r' ls', fX6_send (lk m) rows lens (nI ws.length) wd f ef = some (r', ls') ∧ Trip s (eaM s m) ws r' ls' 6 := by
  unfold fX6_send eX6_send
  simp (disch := first | omega | assumption) only [↓z_m1, li_0, li_1, li_2, li_3, li_4, li_5, li_6, li_7, li_8, li_9, li_10, li_11, li_12, li_13, li_14, li_15, li_16, li_17, li_18, li_19, li_20, li_21, li_22, li_23, li_24, li_25, li_26, li_27, li_28, li_29, li_30, li_31, li_32, li_33, li_34, li_35, li_36, li_37, li_38, li_39, li_40, li_41, li_42, li_43, li_44, li_45, li_46, li_47, li_48, li_49, li_50, li_51, li_52, li_53, li_54, li_55, li_56, li_57, li_58, li_59, li_60, li_61, li_62, li_63, li_64, li_65, li_66, li_67, li_68, li_69, li_70, li_71, li_72, li_73, li_74, li_75, li_76, li_77, li_78, li_79, li_80, li_81, li_82, li_83, li_84, li_85, li_86, li_87, li_88, li_89, li_90, li_91, li_92, li_93, li_94, li_95, li_96, li_97, li_98, li_99, li_100, li_101, li_102, li_103, li_104, li_105, li_106, li_107, li_108, li_109, li_110, li_111, li_112, li_113, li_114, li_115, li_116, li_117, li_118, li_119, li_120, li_121, li_122, li_123, li_124, li_125, li_126, li_127, li_128, li_129, li_130, li_180, li_186, li_192, li_304, li_305, li_306, li_307, li_319, li_320, li_321, li_322, li_408, li_409, li_410, li_416, li_422, li_428, li_458, li_459, li_460, li_2300, li_2760, nI_add, z_m6, z_m12, z_m30, z_l10, z_l12, z_l14, z_l17, z_l30, z_l460, z_sub, z_dec, z_dec0, z_m11, z_cl, z_leT, z_leF, z_ltT, z_ltF, z_eqT, z_eqF, z_em, z_me, z_mlt, z_mle, z_ltm, z_lem, z_mltm, z_mlem, z_nleT, z_nleF, z_nltT, z_nltF, or_false, or_self, false_or, or_true, true_or, not_true_eq_false, not_false_eq_true, ↓reduceIte, lt, z_ob, Nat.zero_add, Nat.add_zero]
  refine send_out hm hd hef hes hm6 _ _ hb h12 6 0 _ _ fuelN (by omega) (by decide) (fun i hi => ?_)
  obtain rfl : i = 0 := by omega
  refine ⟨pk_us, isR_congr (fun j h1 h2 => ?_) hw⟩
  rw [Nat.zero_add] at h2
  rw [show chN s (eaM s m) ws 0 = ws from rfl] at h2
  rw [pk_cpy_in (by omega) (by omega), Nat.zero_add, Nat.sub_zero]

-- pure: ranks, and the sentences that wait
def Srt (ah : Nat → Nat → Bool) (n : Nat) (P : List Nat) : Prop := P.Pairwise (fun a b => ah a b = true) ∧ ∀ a, a ∈ P ↔ a < n
section RK
variable {ah : Nat → Nat → Bool} {n : Nat} {P : List Nat}
theorem Srt.perm (asy : ∀ a b, ah a b = true → ah b a = false) (h : Srt ah n P) : P.Perm (List.range n) := by
  have h1 : P.Nodup := by
    rw [List.nodup_iff_pairwise_ne]
    refine h.1.imp ?_
    intro a b hab e
    subst e
    have := asy a a hab
    rw [hab] at this
    cases this
  refine (List.perm_ext_iff_of_nodup h1 List.nodup_range).mpr (fun a => ?_)
  rw [h.2 a, List.mem_range]
theorem Srt.len (asy : ∀ a b, ah a b = true → ah b a = false) (h : Srt ah n P) : P.length = n := by
  rw [(h.perm asy).length_eq, List.length_range]
theorem count_at (asy : ∀ a b, ah a b = true → ah b a = false) : ∀ {P : List Nat}, P.Pairwise (fun a b => ah a b = true) → ∀ (p a : Nat), P[p]? = some a → P.countP (fun b => ah b a) = p := by
  intro P
  induction P with
  | nil => intro _ p a h; cases p <;> cases h
  | cons x P ih =>
    intro hp p a h
    obtain ⟨h1, h2⟩ := List.pairwise_cons.mp hp
    cases p with
    | zero =>
      obtain rfl : x = a := by simpa using h
      have hx : ah x x = false := by
        cases hq : ah x x with
        | false => rfl
        | true => have := asy x x hq; rw [hq] at this; cases this
      rw [List.countP_cons_of_neg (by rw [hx]; decide), List.countP_eq_zero]
      intro b hb hc
      rw [asy x b (h1 b hb)] at hc
      cases hc
    | succ p =>
      have h' : P[p]? = some a := by simpa using h
      rw [List.countP_cons_of_pos (p := fun b => ah b a) (h1 a (List.mem_of_getElem? h')), ih h2 p a h']
theorem cntP_range (Q : Nat → Bool) : ∀ k w, cntP Q k w = (List.range' w k).countP Q := by
  intro k
  induction k with
  | zero => intro w; rfl
  | succ k ih =>
    intro w
    rw [cntP, ih, List.range'_succ]
    by_cases h : Q w = true
    · rw [if_pos h, List.countP_cons_of_pos h]; omega
    · rw [if_neg h, List.countP_cons_of_neg h]; omega
/-- the rank of a -/
def rkN (ah : Nat → Nat → Bool) (n a : Nat) : Nat := cntP (fun b => ah b a) n 0
theorem rk_at (asy : ∀ a b, ah a b = true → ah b a = false) (h : Srt ah n P) {p a : Nat} (hp : P[p]? = some a) : rkN ah n a = p := by
  unfold rkN
  rw [cntP_range, ← List.range_eq_range', ← (h.perm asy).countP_eq]
  exact count_at asy h.1 p a hp
theorem fndN_eq {Q : Nat → Bool} {a : Nat} (ha : Q a = true) : ∀ (k w : Nat), w ≤ a → a < w + k → (∀ j, w ≤ j → j < a → Q j = false) → fndN Q k w = a := by
  intro k
  induction k with
  | zero => intro w h1 h2; omega
  | succ k ih =>
    intro w h1 h2 h3
    rw [fndN]
    by_cases e : w = a
    · subst e; rw [if_pos ha]
    · rw [h3 w (Nat.le_refl _) (by omega), if_neg (by decide)]
      exact ih (w + 1) (by omega) (by omega) (fun j h4 h5 => h3 j (by omega) h5)
theorem rk_find (asy : ∀ a b, ah a b = true → ah b a = false) (h : Srt ah n P) {p a : Nat} (hp : P[p]? = some a) : fndN (fun b => rkN ah n b == p) n 0 = a := by
  have ha : a < n := (h.2 a).mp (List.mem_of_getElem? hp)
  refine fndN_eq (by simp [rk_at asy h hp]) n 0 (Nat.zero_le _) (by omega) (fun j _ hj => ?_)
  obtain ⟨q, hq⟩ := List.getElem?_of_mem ((h.2 j).mpr (by omega))
  refine beq_eq_false_iff_ne.mpr (fun e => ?_)
  rw [rk_at asy h hq] at e
  subst e
  rw [hp] at hq
  have : a = j := Option.some.inj hq
  omega
theorem rk_none (asy : ∀ a b, ah a b = true → ah b a = false) (h : Srt ah n P) {p : Nat} (hp : n ≤ p) : fndN (fun b => rkN ah n b == p) n 0 = n := by
  have := fndN_none (fun b => rkN ah n b == p) n 0 (fun j _ hj => by
    obtain ⟨q, hq⟩ := List.getElem?_of_mem ((h.2 j).mpr (by omega))
    refine beq_eq_false_iff_ne.mpr (fun e => ?_)
    rw [rk_at asy h hq] at e
    have := (List.getElem?_eq_some_iff.mp hq).1
    rw [h.len asy] at this
    omega)
  rw [this, Nat.zero_add]
/-- one more, behind the first q -/
theorem Srt.ins (h : Srt ah n P) {ah' : Nat → Nat → Bool} (hah : ∀ a b, a < n → b < n → ah' a b = ah a b) (q : Nat) (h1 : ∀ a, a ∈ P.take q → ah' a n = true) (h2 : ∀ a, a ∈ P.drop q → ah' n a = true) : Srt ah' (n + 1) (P.take q ++ n :: P.drop q) := by
  have hP : P.Pairwise (fun a b => ah' a b = true) := by
    refine List.Pairwise.imp_of_mem ?_ h.1
    intro a b ha hb hab
    rw [hah a b ((h.2 a).mp ha) ((h.2 b).mp hb)]
    exact hab
  have hP2 : (P.take q ++ P.drop q).Pairwise (fun a b => ah' a b = true) := by rw [List.take_append_drop]; exact hP
  obtain ⟨p1, p2, p3⟩ := List.pairwise_append.mp hP2
  refine ⟨List.pairwise_append.mpr ⟨p1, List.pairwise_cons.mpr ⟨fun b hb => h2 b hb, p2⟩, ?_⟩, ?_⟩
  · intro a ha b hb
    rcases List.mem_cons.mp hb with rfl | hb
    · exact h1 a ha
    · exact p3 a ha b hb
  · intro a
    have hm : a ∈ P ↔ (a ∈ P.take q ∨ a ∈ P.drop q) := by
      rw [← List.mem_append, List.take_append_drop]
    rw [List.mem_append, List.mem_cons]
    have := h.2 a
    constructor
    · rintro (h3 | rfl | h3)
      · have := this.mp (hm.mpr (Or.inl h3)); omega
      · omega
      · have := this.mp (hm.mpr (Or.inr h3)); omega
    · intro h3
      by_cases e : a = n
      · exact Or.inr (Or.inl e)
      · rcases hm.mp (this.mpr (by omega)) with h4 | h4
        · exact Or.inl h4
        · exact Or.inr (Or.inr h4)
/-- the first goes -/
def shf (x b : Nat) : Nat := if x < b then b - 1 else b
theorem Srt.rem {x : Nat} (asy : ∀ a b, ah a b = true → ah b a = false) (h : Srt ah n (x :: P)) {ah' : Nat → Nat → Bool} (hah : ∀ a b, a < n → b < n → a ≠ x → b ≠ x → ah' (shf x a) (shf x b) = ah a b) : Srt ah' (n - 1) (P.map (shf x)) := by
  obtain ⟨h1, h2⟩ := List.pairwise_cons.mp h.1
  have hx : x < n := (h.2 x).mp List.mem_cons_self
  have hne : ∀ a, a ∈ P → a ≠ x ∧ a < n := fun a ha => by
    refine ⟨fun e => ?_, (h.2 a).mp (List.mem_cons_of_mem _ ha)⟩
    subst e
    have h3 := h1 a ha
    have h4 := asy a a h3
    rw [h3] at h4
    cases h4
  refine ⟨List.pairwise_map.mpr (List.Pairwise.imp_of_mem (fun {a b} ha hb hab => ?_) h2), fun a => ?_⟩
  · obtain ⟨a1, a2⟩ := hne a ha
    obtain ⟨b1, b2⟩ := hne b hb
    rw [hah a b a2 b2 a1 b1]
    exact hab
  · rw [List.mem_map]
    constructor
    · rintro ⟨b, hb, rfl⟩
      obtain ⟨b1, b2⟩ := hne b hb
      unfold shf
      split <;> omega
    · intro ha
      have key : ∀ b, b < n → b ≠ x → b ∈ P := fun b hb hbx => by
        rcases List.mem_cons.mp ((h.2 b).mpr hb) with e | e
        · exact absurd e hbx
        · exact e
      by_cases e : a < x
      · exact ⟨a, key a (by omega) (by omega), by unfold shf; rw [if_neg (by omega)]⟩
      · exact ⟨a + 1, key (a + 1) (by omega) (by omega), by unfold shf; rw [if_pos (by omega)]; omega⟩
end RK
theorem sum_perm (g : Nat → Int32) {L M : List Nat} (p : L.Perm M) : ∀ a, L.foldl (fun x b => x + g b) a = M.foldl (fun x b => x + g b) a := by
  induction p with
  | nil => intro a; rfl
  | cons x _ ih => intro a; exact ih _
  | swap x y l => intro a; simp only [List.foldl_cons]; congr 1; rw [Int32.add_assoc, Int32.add_assoc, Int32.add_comm (g y)]
  | trans _ _ h1 h2 => intro a; rw [h1, h2]
theorem z_dpos {x y : Nat} (hx : x < 1073741824) (hy : y < 1073741824) : (nI 0 < nI x - nI y) = (y < x) := by
  by_cases h : y ≤ x
  · rw [pk_sub h, z_lt (by omega) (by omega)]
    exact propext ⟨fun h2 => by omega, fun h2 => by omega⟩
  · have h1 := pk_sneg (a := x) (b := y) (by omega) (by omega)
    refine propext ⟨fun h2 => ?_, fun h2 => by omega⟩
    rw [Int32.lt_iff_toInt_lt] at h1 h2
    rw [nI_toInt (by omega)] at h2
    rw [show (0 : Int32).toInt = 0 by decide] at h1
    omega
theorem z_dzero {x y : Nat} (hx : x < 1073741824) (hy : y < 1073741824) : (nI x - nI y = nI 0) = (x = y) := by
  by_cases h : y ≤ x
  · rw [pk_sub h, z_eq (by omega) (by omega)]
    exact propext ⟨fun h2 => by omega, fun h2 => by omega⟩
  · have h1 := pk_sneg (a := x) (b := y) (by omega) (by omega)
    refine propext ⟨fun h2 => ?_, fun h2 => by omega⟩
    rw [h2] at h1
    exact absurd h1 (by decide)
section WT
variable {s : Nat → Int32}
def urgN (s : Nat → Int32) (a : Nat) : Nat := (s (192 + 14 * a + 1)).toNatClampNeg
theorem Wt.urg {n : Nat} (h : Wt s n) {a : Nat} (ha : a < n) : s (192 + 14 * a + 1) = nI (urgN s a) ∧ urgN s a ≤ 9 := by
  obtain ⟨u, h1, h2⟩ := (h.2.2 a ha).2.1
  unfold urgN
  rw [h2, nI_clamp (by omega)]
  exact ⟨rfl, h1⟩
/-- whether b goes ahead of a -/
def ahW (s : Nat → Int32) (b a : Nat) : Bool := decide (urgN s a < urgN s b) || (decide (urgN s a = urgN s b) && decide (b < a))
theorem ahW_asy (s : Nat → Int32) (a b : Nat) (h : ahW s a b = true) : ahW s b a = false := by
  unfold ahW at *
  simp only [Bool.or_eq_true, Bool.and_eq_true, decide_eq_true_eq, Bool.or_eq_false_iff, Bool.and_eq_false_iff, decide_eq_false_iff_not] at *
  omega
theorem rank_in {n : Nat} (hw : Wt s n) (r : Int32) {a : Nat} (ha : a < n) : ∀ (k b c : Nat) (fu : Nat), b + k = n → c ≤ b → k < fu →
    rX9_ranked r s fu 2 (nI a) (nI c) (nI b) = (if nI (c + cntP (fun j => ahW s j a) k b) = r then some (nI a) else rX9_ranked r s (fu - k - 1) 1 (nI (a + 1)) (nI 0) (nI 0)) := by
  have hn := hw.1
  have h8 := hw.2.1
  intro k
  induction k with
  | zero =>
    intro b c fu hb hc hf
    obtain ⟨fu, rfl⟩ := fuS hf
    rw [cntP, Nat.add_zero, show fu + 1 - 0 - 1 = fu by omega]
    simp (disch := first | omega | assumption) only [↓z_m1, li_0, li_1, li_2, li_3, li_4, li_5, li_6, li_7, li_8, li_9, li_10, li_11, li_12, li_13, li_14, li_15, li_16, li_17, li_18, li_19, li_20, li_21, li_22, li_23, li_24, li_25, li_26, li_27, li_28, li_29, li_30, li_31, li_32, li_33, li_34, li_35, li_36, li_37, li_38, li_39, li_40, li_41, li_42, li_43, li_44, li_45, li_46, li_47, li_48, li_49, li_50, li_51, li_52, li_53, li_54, li_55, li_56, li_57, li_58, li_59, li_60, li_61, li_62, li_63, li_64, li_65, li_66, li_67, li_68, li_69, li_70, li_71, li_72, li_73, li_74, li_75, li_76, li_77, li_78, li_79, li_80, li_81, li_82, li_83, li_84, li_85, li_86, li_87, li_88, li_89, li_90, li_91, li_92, li_93, li_94, li_95, li_96, li_97, li_98, li_99, li_100, li_101, li_102, li_103, li_104, li_105, li_106, li_107, li_108, li_109, li_110, li_111, li_112, li_113, li_114, li_115, li_116, li_117, li_118, li_119, li_120, li_121, li_122, li_123, li_124, li_125, li_126, li_127, li_128, li_129, li_130, li_180, li_186, li_192, li_304, li_305, li_306, li_307, li_319, li_320, li_321, li_322, li_408, li_409, li_410, li_416, li_422, li_428, li_458, li_459, li_460, li_2300, li_2760, nI_add, z_m6, z_m12, z_m30, z_l10, z_l12, z_l14, z_l17, z_l30, z_l460, z_sub, z_dec, z_dec0, z_m11, z_cl, z_leT, z_leF, z_ltT, z_ltF, z_eqT, z_eqF, z_em, z_me, z_mlt, z_mle, z_ltm, z_lem, z_mltm, z_mlem, z_nleT, z_nleF, z_nltT, z_nltF, or_false, or_self, false_or, or_true, true_or, not_true_eq_false, not_false_eq_true, ↓reduceIte, lt, z_ob, Nat.zero_add, Nat.add_zero, sp_X9_ranked_2, bX9_ranked_2, hn]
  | succ k ih =>
    intro b c fu hb hc hf
    obtain ⟨fu, rfl⟩ := fuS hf
    obtain ⟨u1, u2⟩ := hw.urg (a := a) ha
    obtain ⟨u3, u4⟩ := hw.urg (a := b) (by omega)
    rw [cntP, ← Nat.add_assoc, show fu + 1 - (k + 1) - 1 = fu - k - 1 by omega]
    by_cases e1 : urgN s a < urgN s b
    · rw [show ahW s b a = true by unfold ahW; rw [decide_eq_true e1, Bool.true_or], if_pos rfl, ← ih (b + 1) (c + 1) fu (by omega) (by omega) (by omega)]
      simp (disch := first | omega | assumption) only [↓z_m1, li_0, li_1, li_2, li_3, li_4, li_5, li_6, li_7, li_8, li_9, li_10, li_11, li_12, li_13, li_14, li_15, li_16, li_17, li_18, li_19, li_20, li_21, li_22, li_23, li_24, li_25, li_26, li_27, li_28, li_29, li_30, li_31, li_32, li_33, li_34, li_35, li_36, li_37, li_38, li_39, li_40, li_41, li_42, li_43, li_44, li_45, li_46, li_47, li_48, li_49, li_50, li_51, li_52, li_53, li_54, li_55, li_56, li_57, li_58, li_59, li_60, li_61, li_62, li_63, li_64, li_65, li_66, li_67, li_68, li_69, li_70, li_71, li_72, li_73, li_74, li_75, li_76, li_77, li_78, li_79, li_80, li_81, li_82, li_83, li_84, li_85, li_86, li_87, li_88, li_89, li_90, li_91, li_92, li_93, li_94, li_95, li_96, li_97, li_98, li_99, li_100, li_101, li_102, li_103, li_104, li_105, li_106, li_107, li_108, li_109, li_110, li_111, li_112, li_113, li_114, li_115, li_116, li_117, li_118, li_119, li_120, li_121, li_122, li_123, li_124, li_125, li_126, li_127, li_128, li_129, li_130, li_180, li_186, li_192, li_304, li_305, li_306, li_307, li_319, li_320, li_321, li_322, li_408, li_409, li_410, li_416, li_422, li_428, li_458, li_459, li_460, li_2300, li_2760, nI_add, z_m6, z_m12, z_m30, z_l10, z_l12, z_l14, z_l17, z_l30, z_l460, z_sub, z_dec, z_dec0, z_m11, z_cl, z_leT, z_leF, z_ltT, z_ltF, z_eqT, z_eqF, z_em, z_me, z_mlt, z_mle, z_ltm, z_lem, z_mltm, z_mlem, z_nleT, z_nleF, z_nltT, z_nltF, or_false, or_self, false_or, or_true, true_or, not_true_eq_false, not_false_eq_true, ↓reduceIte, lt, z_ob, Nat.zero_add, Nat.add_zero, sp_X9_ranked_2, bX9_ranked_2, hn, u1, u3, z_dpos, eq_true e1]
    · by_cases e2 : urgN s a = urgN s b
      · by_cases e3 : b < a
        · rw [show ahW s b a = true by unfold ahW; rw [decide_eq_true e2, decide_eq_true e3, Bool.true_and, Bool.or_true], if_pos rfl, ← ih (b + 1) (c + 1) fu (by omega) (by omega) (by omega)]
          simp (disch := first | omega | assumption) only [↓z_m1, li_0, li_1, li_2, li_3, li_4, li_5, li_6, li_7, li_8, li_9, li_10, li_11, li_12, li_13, li_14, li_15, li_16, li_17, li_18, li_19, li_20, li_21, li_22, li_23, li_24, li_25, li_26, li_27, li_28, li_29, li_30, li_31, li_32, li_33, li_34, li_35, li_36, li_37, li_38, li_39, li_40, li_41, li_42, li_43, li_44, li_45, li_46, li_47, li_48, li_49, li_50, li_51, li_52, li_53, li_54, li_55, li_56, li_57, li_58, li_59, li_60, li_61, li_62, li_63, li_64, li_65, li_66, li_67, li_68, li_69, li_70, li_71, li_72, li_73, li_74, li_75, li_76, li_77, li_78, li_79, li_80, li_81, li_82, li_83, li_84, li_85, li_86, li_87, li_88, li_89, li_90, li_91, li_92, li_93, li_94, li_95, li_96, li_97, li_98, li_99, li_100, li_101, li_102, li_103, li_104, li_105, li_106, li_107, li_108, li_109, li_110, li_111, li_112, li_113, li_114, li_115, li_116, li_117, li_118, li_119, li_120, li_121, li_122, li_123, li_124, li_125, li_126, li_127, li_128, li_129, li_130, li_180, li_186, li_192, li_304, li_305, li_306, li_307, li_319, li_320, li_321, li_322, li_408, li_409, li_410, li_416, li_422, li_428, li_458, li_459, li_460, li_2300, li_2760, nI_add, z_m6, z_m12, z_m30, z_l10, z_l12, z_l14, z_l17, z_l30, z_l460, z_sub, z_dec, z_dec0, z_m11, z_cl, z_leT, z_leF, z_ltT, z_ltF, z_eqT, z_eqF, z_em, z_me, z_mlt, z_mle, z_ltm, z_lem, z_mltm, z_mlem, z_nleT, z_nleF, z_nltT, z_nltF, or_false, or_self, false_or, or_true, true_or, not_true_eq_false, not_false_eq_true, ↓reduceIte, lt, z_ob, Nat.zero_add, Nat.add_zero, sp_X9_ranked_2, bX9_ranked_2, hn, u1, u3, z_dpos, z_dzero, eq_false e1, eq_true e2.symm]
        · rw [show ahW s b a = false by unfold ahW; rw [decide_eq_false e1, decide_eq_false e3, Bool.and_false, Bool.or_false], show (if false = true then (1 : Nat) else 0) = 0 from rfl, Nat.add_zero c, ← ih (b + 1) c fu (by omega) (by omega) (by omega)]
          simp (disch := first | omega | assumption) only [↓z_m1, li_0, li_1, li_2, li_3, li_4, li_5, li_6, li_7, li_8, li_9, li_10, li_11, li_12, li_13, li_14, li_15, li_16, li_17, li_18, li_19, li_20, li_21, li_22, li_23, li_24, li_25, li_26, li_27, li_28, li_29, li_30, li_31, li_32, li_33, li_34, li_35, li_36, li_37, li_38, li_39, li_40, li_41, li_42, li_43, li_44, li_45, li_46, li_47, li_48, li_49, li_50, li_51, li_52, li_53, li_54, li_55, li_56, li_57, li_58, li_59, li_60, li_61, li_62, li_63, li_64, li_65, li_66, li_67, li_68, li_69, li_70, li_71, li_72, li_73, li_74, li_75, li_76, li_77, li_78, li_79, li_80, li_81, li_82, li_83, li_84, li_85, li_86, li_87, li_88, li_89, li_90, li_91, li_92, li_93, li_94, li_95, li_96, li_97, li_98, li_99, li_100, li_101, li_102, li_103, li_104, li_105, li_106, li_107, li_108, li_109, li_110, li_111, li_112, li_113, li_114, li_115, li_116, li_117, li_118, li_119, li_120, li_121, li_122, li_123, li_124, li_125, li_126, li_127, li_128, li_129, li_130, li_180, li_186, li_192, li_304, li_305, li_306, li_307, li_319, li_320, li_321, li_322, li_408, li_409, li_410, li_416, li_422, li_428, li_458, li_459, li_460, li_2300, li_2760, nI_add, z_m6, z_m12, z_m30, z_l10, z_l12, z_l14, z_l17, z_l30, z_l460, z_sub, z_dec, z_dec0, z_m11, z_cl, z_leT, z_leF, z_ltT, z_ltF, z_eqT, z_eqF, z_em, z_me, z_mlt, z_mle, z_ltm, z_lem, z_mltm, z_mlem, z_nleT, z_nleF, z_nltT, z_nltF, or_false, or_self, false_or, or_true, true_or, not_true_eq_false, not_false_eq_true, ↓reduceIte, lt, z_ob, Nat.zero_add, Nat.add_zero, sp_X9_ranked_2, bX9_ranked_2, hn, u1, u3, z_dpos, z_dzero, eq_false e1, eq_true e2.symm]
      · rw [show ahW s b a = false by unfold ahW; rw [decide_eq_false e1, decide_eq_false e2, Bool.false_and, Bool.or_false], show (if false = true then (1 : Nat) else 0) = 0 from rfl, Nat.add_zero c, ← ih (b + 1) c fu (by omega) (by omega) (by omega)]
        simp (disch := first | omega | assumption) only [↓z_m1, li_0, li_1, li_2, li_3, li_4, li_5, li_6, li_7, li_8, li_9, li_10, li_11, li_12, li_13, li_14, li_15, li_16, li_17, li_18, li_19, li_20, li_21, li_22, li_23, li_24, li_25, li_26, li_27, li_28, li_29, li_30, li_31, li_32, li_33, li_34, li_35, li_36, li_37, li_38, li_39, li_40, li_41, li_42, li_43, li_44, li_45, li_46, li_47, li_48, li_49, li_50, li_51, li_52, li_53, li_54, li_55, li_56, li_57, li_58, li_59, li_60, li_61, li_62, li_63, li_64, li_65, li_66, li_67, li_68, li_69, li_70, li_71, li_72, li_73, li_74, li_75, li_76, li_77, li_78, li_79, li_80, li_81, li_82, li_83, li_84, li_85, li_86, li_87, li_88, li_89, li_90, li_91, li_92, li_93, li_94, li_95, li_96, li_97, li_98, li_99, li_100, li_101, li_102, li_103, li_104, li_105, li_106, li_107, li_108, li_109, li_110, li_111, li_112, li_113, li_114, li_115, li_116, li_117, li_118, li_119, li_120, li_121, li_122, li_123, li_124, li_125, li_126, li_127, li_128, li_129, li_130, li_180, li_186, li_192, li_304, li_305, li_306, li_307, li_319, li_320, li_321, li_322, li_408, li_409, li_410, li_416, li_422, li_428, li_458, li_459, li_460, li_2300, li_2760, nI_add, z_m6, z_m12, z_m30, z_l10, z_l12, z_l14, z_l17, z_l30, z_l460, z_sub, z_dec, z_dec0, z_m11, z_cl, z_leT, z_leF, z_ltT, z_ltF, z_eqT, z_eqF, z_em, z_me, z_mlt, z_mle, z_ltm, z_lem, z_mltm, z_mlem, z_nleT, z_nleF, z_nltT, z_nltF, or_false, or_self, false_or, or_true, true_or, not_true_eq_false, not_false_eq_true, ↓reduceIte, lt, z_ob, Nat.zero_add, Nat.add_zero, sp_X9_ranked_2, bX9_ranked_2, hn, u1, u3, z_dpos, z_dzero, eq_false e1, eq_false (Ne.symm e2)]
theorem rank_r {n : Nat} (hw : Wt s n) {r : Nat} (hr : r < 2147483648) : ∀ (k a : Nat) (fu : Nat), a + k = n → 10 * k < fu →
    rX9_ranked (nI r) s fu 1 (nI a) (nI 0) (nI 0) = some (if fndN (fun b => rkN (ahW s) n b == r) k a = n then mI else nI (fndN (fun b => rkN (ahW s) n b == r) k a)) := by
  have hn := hw.1
  have h8 := hw.2.1
  intro k
  induction k with
  | zero =>
    intro a fu ha hf
    obtain ⟨fu, rfl⟩ := fuS hf
    rw [fndN, if_pos (by omega)]
    simp (disch := first | omega | assumption) only [↓z_m1, li_0, li_1, li_2, li_3, li_4, li_5, li_6, li_7, li_8, li_9, li_10, li_11, li_12, li_13, li_14, li_15, li_16, li_17, li_18, li_19, li_20, li_21, li_22, li_23, li_24, li_25, li_26, li_27, li_28, li_29, li_30, li_31, li_32, li_33, li_34, li_35, li_36, li_37, li_38, li_39, li_40, li_41, li_42, li_43, li_44, li_45, li_46, li_47, li_48, li_49, li_50, li_51, li_52, li_53, li_54, li_55, li_56, li_57, li_58, li_59, li_60, li_61, li_62, li_63, li_64, li_65, li_66, li_67, li_68, li_69, li_70, li_71, li_72, li_73, li_74, li_75, li_76, li_77, li_78, li_79, li_80, li_81, li_82, li_83, li_84, li_85, li_86, li_87, li_88, li_89, li_90, li_91, li_92, li_93, li_94, li_95, li_96, li_97, li_98, li_99, li_100, li_101, li_102, li_103, li_104, li_105, li_106, li_107, li_108, li_109, li_110, li_111, li_112, li_113, li_114, li_115, li_116, li_117, li_118, li_119, li_120, li_121, li_122, li_123, li_124, li_125, li_126, li_127, li_128, li_129, li_130, li_180, li_186, li_192, li_304, li_305, li_306, li_307, li_319, li_320, li_321, li_322, li_408, li_409, li_410, li_416, li_422, li_428, li_458, li_459, li_460, li_2300, li_2760, nI_add, z_m6, z_m12, z_m30, z_l10, z_l12, z_l14, z_l17, z_l30, z_l460, z_sub, z_dec, z_dec0, z_m11, z_cl, z_leT, z_leF, z_ltT, z_ltF, z_eqT, z_eqF, z_em, z_me, z_mlt, z_mle, z_ltm, z_lem, z_mltm, z_mlem, z_nleT, z_nleF, z_nltT, z_nltF, or_false, or_self, false_or, or_true, true_or, not_true_eq_false, not_false_eq_true, ↓reduceIte, lt, z_ob, Nat.zero_add, Nat.add_zero, sp_X9_ranked_1, bX9_ranked_1, hn]
  | succ k ih =>
    intro a fu ha hf
    obtain ⟨fu, rfl⟩ := fuS (k := 0) (by omega : 0 < fu)
    have e1 : rX9_ranked (nI r) s (fu + 1) 1 (nI a) (nI 0) (nI 0) = rX9_ranked (nI r) s fu 2 (nI a) (nI 0) (nI 0) := by
      simp (disch := first | omega | assumption) only [↓z_m1, li_0, li_1, li_2, li_3, li_4, li_5, li_6, li_7, li_8, li_9, li_10, li_11, li_12, li_13, li_14, li_15, li_16, li_17, li_18, li_19, li_20, li_21, li_22, li_23, li_24, li_25, li_26, li_27, li_28, li_29, li_30, li_31, li_32, li_33, li_34, li_35, li_36, li_37, li_38, li_39, li_40, li_41, li_42, li_43, li_44, li_45, li_46, li_47, li_48, li_49, li_50, li_51, li_52, li_53, li_54, li_55, li_56, li_57, li_58, li_59, li_60, li_61, li_62, li_63, li_64, li_65, li_66, li_67, li_68, li_69, li_70, li_71, li_72, li_73, li_74, li_75, li_76, li_77, li_78, li_79, li_80, li_81, li_82, li_83, li_84, li_85, li_86, li_87, li_88, li_89, li_90, li_91, li_92, li_93, li_94, li_95, li_96, li_97, li_98, li_99, li_100, li_101, li_102, li_103, li_104, li_105, li_106, li_107, li_108, li_109, li_110, li_111, li_112, li_113, li_114, li_115, li_116, li_117, li_118, li_119, li_120, li_121, li_122, li_123, li_124, li_125, li_126, li_127, li_128, li_129, li_130, li_180, li_186, li_192, li_304, li_305, li_306, li_307, li_319, li_320, li_321, li_322, li_408, li_409, li_410, li_416, li_422, li_428, li_458, li_459, li_460, li_2300, li_2760, nI_add, z_m6, z_m12, z_m30, z_l10, z_l12, z_l14, z_l17, z_l30, z_l460, z_sub, z_dec, z_dec0, z_m11, z_cl, z_leT, z_leF, z_ltT, z_ltF, z_eqT, z_eqF, z_em, z_me, z_mlt, z_mle, z_ltm, z_lem, z_mltm, z_mlem, z_nleT, z_nleF, z_nltT, z_nltF, or_false, or_self, false_or, or_true, true_or, not_true_eq_false, not_false_eq_true, ↓reduceIte, lt, z_ob, Nat.zero_add, Nat.add_zero, sp_X9_ranked_1, bX9_ranked_1, hn]
    have hc := cntP_le (fun j => ahW s j a) n 0
    rw [e1, rank_in hw _ (show a < n by omega) n 0 0 fu (by omega) (by omega) (by omega), Nat.zero_add, fndN]
    rw [show cntP (fun j => ahW s j a) n 0 = rkN (ahW s) n a from rfl] at hc ⊢
    by_cases e : rkN (ahW s) n a = r
    · rw [if_pos (by rw [e]), show (rkN (ahW s) n a == r) = true by simp [e], if_pos rfl, if_neg (by omega)]
    · rw [if_neg (by rw [z_eq (by omega) hr]; exact e), show (rkN (ahW s) n a == r) = false by simp [e]]
      exact ih (a + 1) (fu - n - 1) (by omega) (by omega)
theorem ranked_M {n : Nat} (hw : Wt s n) {P : List Nat} (hP : Srt (ahW s) n P) {r a : Nat} (h : P[r]? = some a) : fX9_ranked (nI r) s = some (nI a) := by
  have h8 := hw.2.1
  have hr : r < n := by have := (List.getElem?_eq_some_iff.mp h).1; rw [hP.len (ahW_asy s)] at this; exact this
  have ha : a < n := (hP.2 a).mp (List.mem_of_getElem? h)
  unfold fX9_ranked eX9_ranked
  have e := rank_r hw (r := r) (by omega) n 0 fuelN (by omega) (by show _ < 1000000; omega)
  rw [rk_find (ahW_asy s) hP h, if_neg (by omega)] at e
  exact e
theorem ranked_0 {n : Nat} (hw : Wt s n) {P : List Nat} (hP : Srt (ahW s) n P) {r : Nat} (hr : n ≤ r) (hr2 : r < 2147483648) : fX9_ranked (nI r) s = some mI := by
  have h8 := hw.2.1
  unfold fX9_ranked eX9_ranked
  have e := rank_r hw hr2 n 0 fuelN (by omega) (by show _ < 1000000; omega)
  rw [rk_none (ahW_asy s) hP hr, if_pos rfl] at e
  exact e
/-- the rows that wait, as the other side holds them -/
def WaitX (s : Nat → Int32) (P : List Nat) (wd ln ug : Nat → Int32) : Prop := ∀ p a, P[p]? = some a → ln p = s (192 + 14 * a) ∧ ug p = s (192 + 14 * a + 1) ∧ ∀ k, k < cntN s a → wd (12 * p + k) = s (192 + 14 * a + 2 + k)
theorem into_X {n : Nat} (hw : Wt s n) {P : List Nat} (hP : Srt (ahW s) n P) {wd ln ug : Nat → Int32} (hx : WaitX s P wd ln ug) {p a : Nat} (h : P[p]? = some a) (sl su : Int32) (sw : Nat → Int32) :
    ∃ sw', fX7_readInto (nI p) (nI n) wd ln ug sl su sw = some (nI (senN s a).length, s (192 + 14 * a + 1), sw') ∧ isR sw' 0 (senN s a) := by
  have h8 := hw.2.1
  have hp : p < n := by have := (List.getElem?_eq_some_iff.mp h).1; rw [hP.len (ahW_asy s)] at this; exact this
  have ha : a < n := (hP.2 a).mp (List.mem_of_getElem? h)
  obtain ⟨x1, x2, x3⟩ := hx p a h
  obtain ⟨c1, c2, c3⟩ := hw.cnt ha
  refine ⟨va_cpy wd sw (12 * p) 0 12, ?_, isR_shift (fun j hj => ?_) (sen_isR hw ha)⟩
  · unfold fX7_readInto
    rw [sen_len]
    simp (disch := first | omega | assumption) only [↓z_m1, li_0, li_1, li_2, li_3, li_4, li_5, li_6, li_7, li_8, li_9, li_10, li_11, li_12, li_13, li_14, li_15, li_16, li_17, li_18, li_19, li_20, li_21, li_22, li_23, li_24, li_25, li_26, li_27, li_28, li_29, li_30, li_31, li_32, li_33, li_34, li_35, li_36, li_37, li_38, li_39, li_40, li_41, li_42, li_43, li_44, li_45, li_46, li_47, li_48, li_49, li_50, li_51, li_52, li_53, li_54, li_55, li_56, li_57, li_58, li_59, li_60, li_61, li_62, li_63, li_64, li_65, li_66, li_67, li_68, li_69, li_70, li_71, li_72, li_73, li_74, li_75, li_76, li_77, li_78, li_79, li_80, li_81, li_82, li_83, li_84, li_85, li_86, li_87, li_88, li_89, li_90, li_91, li_92, li_93, li_94, li_95, li_96, li_97, li_98, li_99, li_100, li_101, li_102, li_103, li_104, li_105, li_106, li_107, li_108, li_109, li_110, li_111, li_112, li_113, li_114, li_115, li_116, li_117, li_118, li_119, li_120, li_121, li_122, li_123, li_124, li_125, li_126, li_127, li_128, li_129, li_130, li_180, li_186, li_192, li_304, li_305, li_306, li_307, li_319, li_320, li_321, li_322, li_408, li_409, li_410, li_416, li_422, li_428, li_458, li_459, li_460, li_2300, li_2760, nI_add, z_m6, z_m12, z_m30, z_l10, z_l12, z_l14, z_l17, z_l30, z_l460, z_sub, z_dec, z_dec0, z_m11, z_cl, z_leT, z_leF, z_ltT, z_ltF, z_eqT, z_eqF, z_em, z_me, z_mlt, z_mle, z_ltm, z_lem, z_mltm, z_mlem, z_nleT, z_nleF, z_nltT, z_nltF, or_false, or_self, false_or, or_true, true_or, not_true_eq_false, not_false_eq_true, ↓reduceIte, lt, z_ob, Nat.zero_add, Nat.add_zero, x1, x2, c1]
  · rw [sen_len] at hj
    rw [pk_cpy_in (by omega) (by omega), Nat.zero_add, Nat.sub_zero, x3 j hj]
theorem try_X {n : Nat} (hw : Wt s n) {P : List Nat} (hP : Srt (ahW s) n P) {f ef wd ln ug : Nat → Int32} (hm : agr f s 0 180) (hd : Dic s) (hef : agr ef s 180 6) (hes : Sets s 180) (hx : WaitX s P wd ln ug) {m : Nat} (hm6 : m ≤ 6) {p a : Nat} (h : P[p]? = some a) (sl su : Int32) (sw rw ls : Nat → Int32) :
    ∃ sw' r' ls', fX8_tryWaiting (nI p) (lk m) f ef (nI n) wd ln ug sl su sw rw ls = some (nI (senN s a).length, s (192 + 14 * a + 1), sw', r', ls') ∧ Trip s (eaM s m) (senN s a) r' ls' 6 ∧ isR sw' 0 (senN s a) := by
  have ha : a < n := (hP.2 a).mp (List.mem_of_getElem? h)
  obtain ⟨sw', e1, e2⟩ := into_X hw hP hx h sl su sw
  obtain ⟨r', ls', e3, e4⟩ := send_X hm hd hef hes hm6 rw ls sw' (sen_bd hw ha) (by rw [sen_len]; exact (hw.cnt ha).2.2) e2
  refine ⟨sw', r', ls', ?_, e4, e2⟩
  unfold fX8_tryWaiting
  rw [e1, z_ob, e3, z_ob]
end WT

-- pure: the first is sent, the other side
section S1
variable {f s : Nat → Int32} {ea : Nat → Nat} {ws : List Nat} {r ls : Nat → Int32}
theorem acc_r (ht : Trip s ea ws r ls 6) {fe : Nat → Int32} (hfe : agr fe s 186 6) {L : Nat} (hL : L ≤ 6) (mi0 pa0 lo : Nat → Int32) : ∀ (k l : Nat) (mi pa : Nat → Int32) (fu : Nat), l + k = 6 → k < fu → (∀ i, mi i = if i < l then mi0 i + nI ((chN s ea ws i).length - (chN s ea ws (i + 1)).length) else mi0 i) → (∀ i, pa i = if i < l then pa0 i + payN s ea ws i else pa0 i) →
    ∃ mi' pa', rX2_account (lk L) fe ls fu 1 (nI l) mi pa lo = some (mi', pa', if L < 6 then upd lo L (lo L + nI 1) else lo) ∧ (∀ i, i < 6 → mi' i = mi0 i + nI ((chN s ea ws i).length - (chN s ea ws (i + 1)).length)) ∧ (∀ i, i < 6 → pa' i = pa0 i + payN s ea ws i) := by
  intro k
  induction k with
  | zero =>
    intro l mi pa fu hl hf hm hp
    obtain ⟨fu, rfl⟩ := fuS hf
    obtain rfl : l = 6 := by omega
    refine ⟨mi, pa, ?_, fun i hi => by rw [hm i, if_pos hi], fun i hi => by rw [hp i, if_pos hi]⟩
    rw [sp_X2_account_1]
    by_cases e : L < 6
    · rw [if_pos e, lk_lt e]
      simp (disch := first | omega | assumption) only [↓z_m1, li_0, li_1, li_2, li_3, li_4, li_5, li_6, li_7, li_8, li_9, li_10, li_11, li_12, li_13, li_14, li_15, li_16, li_17, li_18, li_19, li_20, li_21, li_22, li_23, li_24, li_25, li_26, li_27, li_28, li_29, li_30, li_31, li_32, li_33, li_34, li_35, li_36, li_37, li_38, li_39, li_40, li_41, li_42, li_43, li_44, li_45, li_46, li_47, li_48, li_49, li_50, li_51, li_52, li_53, li_54, li_55, li_56, li_57, li_58, li_59, li_60, li_61, li_62, li_63, li_64, li_65, li_66, li_67, li_68, li_69, li_70, li_71, li_72, li_73, li_74, li_75, li_76, li_77, li_78, li_79, li_80, li_81, li_82, li_83, li_84, li_85, li_86, li_87, li_88, li_89, li_90, li_91, li_92, li_93, li_94, li_95, li_96, li_97, li_98, li_99, li_100, li_101, li_102, li_103, li_104, li_105, li_106, li_107, li_108, li_109, li_110, li_111, li_112, li_113, li_114, li_115, li_116, li_117, li_118, li_119, li_120, li_121, li_122, li_123, li_124, li_125, li_126, li_127, li_128, li_129, li_130, li_180, li_186, li_192, li_304, li_305, li_306, li_307, li_319, li_320, li_321, li_322, li_408, li_409, li_410, li_416, li_422, li_428, li_458, li_459, li_460, li_2300, li_2760, nI_add, z_m6, z_m12, z_m30, z_l10, z_l12, z_l14, z_l17, z_l30, z_l460, z_sub, z_dec, z_dec0, z_m11, z_cl, z_leT, z_leF, z_ltT, z_ltF, z_eqT, z_eqF, z_em, z_me, z_mlt, z_mle, z_ltm, z_lem, z_mltm, z_mlem, z_nleT, z_nleF, z_nltT, z_nltF, or_false, or_self, false_or, or_true, true_or, not_true_eq_false, not_false_eq_true, ↓reduceIte, lt, z_ob, Nat.zero_add, Nat.add_zero, bX2_account_1]
    · rw [if_neg e, show L = 6 by omega, lk_6]
      unfold bX2_account_1
      rw [if_pos (by decide), if_pos (by decide)]
  | succ k ih =>
    intro l mi pa fu hl hf hm hp
    obtain ⟨fu, rfl⟩ := fuS hf
    obtain ⟨mi', pa', e1, e2, e3⟩ := ih (l + 1) (upd mi l (mi l + nI ((chN s ea ws l).length - (chN s ea ws (l + 1)).length))) (upd pa l (pa l + payN s ea ws l)) fu (by omega) (by omega) (fun i => by
      by_cases e : i = l
      · subst e
        rw [pk_us, hm i, if_neg (by omega), if_pos (by omega)]
      · rw [pk_un e, hm i]
        by_cases e2 : i < l
        · rw [if_pos e2, if_pos (by omega)]
        · rw [if_neg e2, if_neg (by omega)]) (fun i => by
      by_cases e : i = l
      · subst e
        rw [pk_us, hp i, if_neg (by omega), if_pos (by omega)]
      · rw [pk_un e, hp i]
        by_cases e2 : i < l
        · rw [if_pos e2, if_pos (by omega)]
        · rw [if_neg e2, if_neg (by omega)])
    refine ⟨mi', pa', ?_, e2, e3⟩
    rw [← e1, sp_X2_account_1]
    simp (disch := first | omega | assumption) only [↓z_m1, li_0, li_1, li_2, li_3, li_4, li_5, li_6, li_7, li_8, li_9, li_10, li_11, li_12, li_13, li_14, li_15, li_16, li_17, li_18, li_19, li_20, li_21, li_22, li_23, li_24, li_25, li_26, li_27, li_28, li_29, li_30, li_31, li_32, li_33, li_34, li_35, li_36, li_37, li_38, li_39, li_40, li_41, li_42, li_43, li_44, li_45, li_46, li_47, li_48, li_49, li_50, li_51, li_52, li_53, li_54, li_55, li_56, li_57, li_58, li_59, li_60, li_61, li_62, li_63, li_64, li_65, li_66, li_67, li_68, li_69, li_70, li_71, li_72, li_73, li_74, li_75, li_76, li_77, li_78, li_79, li_80, li_81, li_82, li_83, li_84, li_85, li_86, li_87, li_88, li_89, li_90, li_91, li_92, li_93, li_94, li_95, li_96, li_97, li_98, li_99, li_100, li_101, li_102, li_103, li_104, li_105, li_106, li_107, li_108, li_109, li_110, li_111, li_112, li_113, li_114, li_115, li_116, li_117, li_118, li_119, li_120, li_121, li_122, li_123, li_124, li_125, li_126, li_127, li_128, li_129, li_130, li_180, li_186, li_192, li_304, li_305, li_306, li_307, li_319, li_320, li_321, li_322, li_408, li_409, li_410, li_416, li_422, li_428, li_458, li_459, li_460, li_2300, li_2760, nI_add, z_m6, z_m12, z_m30, z_l10, z_l12, z_l14, z_l17, z_l30, z_l460, z_sub, z_dec, z_dec0, z_m11, z_cl, z_leT, z_leF, z_ltT, z_ltF, z_eqT, z_eqF, z_em, z_me, z_mlt, z_mle, z_ltm, z_lem, z_mltm, z_mlem, z_nleT, z_nleF, z_nltT, z_nltF, or_false, or_self, false_or, or_true, true_or, not_true_eq_false, not_false_eq_true, ↓reduceIte, lt, z_ob, Nat.zero_add, Nat.add_zero, bX2_account_1, T_missed ht, T_pay ht hfe]
theorem acc_X (ht : Trip s ea ws r ls 6) {fe : Nat → Int32} (hfe : agr fe s 186 6) {L : Nat} (hL : L ≤ 6) (mi pa lo : Nat → Int32) :
    ∃ mi' pa', fX2_account (lk L) fe mi pa lo ls = some (mi', pa', if L < 6 then upd lo L (lo L + nI 1) else lo) ∧ (∀ i, i < 6 → mi' i = mi i + nI ((chN s ea ws i).length - (chN s ea ws (i + 1)).length)) ∧ (∀ i, i < 6 → pa' i = pa i + payN s ea ws i) := by
  unfold fX2_account eX2_account
  exact acc_r ht hfe hL mi pa lo 6 0 mi pa fuelN (by omega) (by decide) (fun i => by rw [if_neg (by omega)]) (fun i => by rw [if_neg (by omega)])
theorem has_r {n : Nat} (h12 : n ≤ 12) {w : Nat} (hw : w < 30) {sw : Nat → Int32} : ∀ (M : List Nat) (p : Nat) (fu : Nat), p + M.length = n → bd M → isR sw p M → M.length < fu → rX4_hasWord (nI w) (nI n) sw fu 1 (nI p) = some (b2 (decide (w ∈ M))) := by
  intro M
  induction M with
  | nil =>
    intro p fu hp hb hr hf
    obtain ⟨fu, rfl⟩ := fuS hf
    rw [List.length_nil] at hp
    rw [decide_eq_false List.not_mem_nil]
    simp (disch := first | omega | assumption) only [↓z_m1, li_0, li_1, li_2, li_3, li_4, li_5, li_6, li_7, li_8, li_9, li_10, li_11, li_12, li_13, li_14, li_15, li_16, li_17, li_18, li_19, li_20, li_21, li_22, li_23, li_24, li_25, li_26, li_27, li_28, li_29, li_30, li_31, li_32, li_33, li_34, li_35, li_36, li_37, li_38, li_39, li_40, li_41, li_42, li_43, li_44, li_45, li_46, li_47, li_48, li_49, li_50, li_51, li_52, li_53, li_54, li_55, li_56, li_57, li_58, li_59, li_60, li_61, li_62, li_63, li_64, li_65, li_66, li_67, li_68, li_69, li_70, li_71, li_72, li_73, li_74, li_75, li_76, li_77, li_78, li_79, li_80, li_81, li_82, li_83, li_84, li_85, li_86, li_87, li_88, li_89, li_90, li_91, li_92, li_93, li_94, li_95, li_96, li_97, li_98, li_99, li_100, li_101, li_102, li_103, li_104, li_105, li_106, li_107, li_108, li_109, li_110, li_111, li_112, li_113, li_114, li_115, li_116, li_117, li_118, li_119, li_120, li_121, li_122, li_123, li_124, li_125, li_126, li_127, li_128, li_129, li_130, li_180, li_186, li_192, li_304, li_305, li_306, li_307, li_319, li_320, li_321, li_322, li_408, li_409, li_410, li_416, li_422, li_428, li_458, li_459, li_460, li_2300, li_2760, nI_add, z_m6, z_m12, z_m30, z_l10, z_l12, z_l14, z_l17, z_l30, z_l460, z_sub, z_dec, z_dec0, z_m11, z_cl, z_leT, z_leF, z_ltT, z_ltF, z_eqT, z_eqF, z_em, z_me, z_mlt, z_mle, z_ltm, z_lem, z_mltm, z_mlem, z_nleT, z_nleF, z_nltT, z_nltF, or_false, or_self, false_or, or_true, true_or, not_true_eq_false, not_false_eq_true, ↓reduceIte, lt, z_ob, Nat.zero_add, Nat.add_zero, sp_X4_hasWord_1, bX4_hasWord_1, b2_f]
  | cons v M ih =>
    intro p fu hp hb hr hf
    rw [List.length_cons] at hp hf
    obtain ⟨fu, rfl⟩ := fuS hf
    have h1 := hr.1
    have hv := bd_h hb
    by_cases e : v = w
    · subst e
      rw [decide_eq_true List.mem_cons_self]
      simp (disch := first | omega | assumption) only [↓z_m1, li_0, li_1, li_2, li_3, li_4, li_5, li_6, li_7, li_8, li_9, li_10, li_11, li_12, li_13, li_14, li_15, li_16, li_17, li_18, li_19, li_20, li_21, li_22, li_23, li_24, li_25, li_26, li_27, li_28, li_29, li_30, li_31, li_32, li_33, li_34, li_35, li_36, li_37, li_38, li_39, li_40, li_41, li_42, li_43, li_44, li_45, li_46, li_47, li_48, li_49, li_50, li_51, li_52, li_53, li_54, li_55, li_56, li_57, li_58, li_59, li_60, li_61, li_62, li_63, li_64, li_65, li_66, li_67, li_68, li_69, li_70, li_71, li_72, li_73, li_74, li_75, li_76, li_77, li_78, li_79, li_80, li_81, li_82, li_83, li_84, li_85, li_86, li_87, li_88, li_89, li_90, li_91, li_92, li_93, li_94, li_95, li_96, li_97, li_98, li_99, li_100, li_101, li_102, li_103, li_104, li_105, li_106, li_107, li_108, li_109, li_110, li_111, li_112, li_113, li_114, li_115, li_116, li_117, li_118, li_119, li_120, li_121, li_122, li_123, li_124, li_125, li_126, li_127, li_128, li_129, li_130, li_180, li_186, li_192, li_304, li_305, li_306, li_307, li_319, li_320, li_321, li_322, li_408, li_409, li_410, li_416, li_422, li_428, li_458, li_459, li_460, li_2300, li_2760, nI_add, z_m6, z_m12, z_m30, z_l10, z_l12, z_l14, z_l17, z_l30, z_l460, z_sub, z_dec, z_dec0, z_m11, z_cl, z_leT, z_leF, z_ltT, z_ltF, z_eqT, z_eqF, z_em, z_me, z_mlt, z_mle, z_ltm, z_lem, z_mltm, z_mlem, z_nleT, z_nleF, z_nltT, z_nltF, or_false, or_self, false_or, or_true, true_or, not_true_eq_false, not_false_eq_true, ↓reduceIte, lt, z_ob, Nat.zero_add, Nat.add_zero, sp_X4_hasWord_1, bX4_hasWord_1, h1, b2_t]
    · rw [show decide (w ∈ v :: M) = decide (w ∈ M) from decide_eq_decide.mpr (by rw [List.mem_cons]; exact ⟨fun h => h.resolve_left (fun h2 => e h2.symm), Or.inr⟩), ← ih (p + 1) fu (by omega) (bd_t hb) hr.2 (by omega)]
      simp (disch := first | omega | assumption) only [↓z_m1, li_0, li_1, li_2, li_3, li_4, li_5, li_6, li_7, li_8, li_9, li_10, li_11, li_12, li_13, li_14, li_15, li_16, li_17, li_18, li_19, li_20, li_21, li_22, li_23, li_24, li_25, li_26, li_27, li_28, li_29, li_30, li_31, li_32, li_33, li_34, li_35, li_36, li_37, li_38, li_39, li_40, li_41, li_42, li_43, li_44, li_45, li_46, li_47, li_48, li_49, li_50, li_51, li_52, li_53, li_54, li_55, li_56, li_57, li_58, li_59, li_60, li_61, li_62, li_63, li_64, li_65, li_66, li_67, li_68, li_69, li_70, li_71, li_72, li_73, li_74, li_75, li_76, li_77, li_78, li_79, li_80, li_81, li_82, li_83, li_84, li_85, li_86, li_87, li_88, li_89, li_90, li_91, li_92, li_93, li_94, li_95, li_96, li_97, li_98, li_99, li_100, li_101, li_102, li_103, li_104, li_105, li_106, li_107, li_108, li_109, li_110, li_111, li_112, li_113, li_114, li_115, li_116, li_117, li_118, li_119, li_120, li_121, li_122, li_123, li_124, li_125, li_126, li_127, li_128, li_129, li_130, li_180, li_186, li_192, li_304, li_305, li_306, li_307, li_319, li_320, li_321, li_322, li_408, li_409, li_410, li_416, li_422, li_428, li_458, li_459, li_460, li_2300, li_2760, nI_add, z_m6, z_m12, z_m30, z_l10, z_l12, z_l14, z_l17, z_l30, z_l460, z_sub, z_dec, z_dec0, z_m11, z_cl, z_leT, z_leF, z_ltT, z_ltF, z_eqT, z_eqF, z_em, z_me, z_mlt, z_mle, z_ltm, z_lem, z_mltm, z_mlem, z_nleT, z_nleF, z_nltT, z_nltF, or_false, or_self, false_or, or_true, true_or, not_true_eq_false, not_false_eq_true, ↓reduceIte, lt, z_ob, Nat.zero_add, Nat.add_zero, sp_X4_hasWord_1, bX4_hasWord_1, h1]
theorem has_X (hb : bd ws) (h12 : ws.length ≤ 12) {w : Nat} (hw : w < 30) {sw : Nat → Int32} (hr : isR sw 0 ws) : fX4_hasWord (nI w) (nI ws.length) sw = some (b2 (decide (w ∈ ws))) := by
  unfold fX4_hasWord eX4_hasWord
  exact has_r h12 hw ws 0 fuelN (by omega) hb hr (by show _ < 1000000; omega)
theorem clw_r (hm : agr f s 0 180) (hd : Dic s) (hb : bd ws) (h12 : ws.length ≤ 12) {sw : Nat → Int32} (hr : isR sw 0 ws) (t0 : Nat → Int32) : ∀ (k w : Nat) (t : Nat → Int32) (fu : Nat), w + k = 30 → k < fu → (∀ i, t i = if i < w then t0 i + nI (ltN s ws i) else t0 i) →
    ∃ t', rX5_countLostWords f (nI ws.length) sw fu 1 (nI w) t = some t' ∧ ∀ i, i < 30 → t' i = t0 i + nI (ltN s ws i) := by
  intro k
  induction k with
  | zero =>
    intro w t fu hw hf ht
    obtain ⟨fu, rfl⟩ := fuS hf
    obtain rfl : w = 30 := by omega
    refine ⟨t, ?_, fun i hi => by rw [ht i, if_pos hi]⟩
    simp (disch := first | omega | assumption) only [↓z_m1, li_0, li_1, li_2, li_3, li_4, li_5, li_6, li_7, li_8, li_9, li_10, li_11, li_12, li_13, li_14, li_15, li_16, li_17, li_18, li_19, li_20, li_21, li_22, li_23, li_24, li_25, li_26, li_27, li_28, li_29, li_30, li_31, li_32, li_33, li_34, li_35, li_36, li_37, li_38, li_39, li_40, li_41, li_42, li_43, li_44, li_45, li_46, li_47, li_48, li_49, li_50, li_51, li_52, li_53, li_54, li_55, li_56, li_57, li_58, li_59, li_60, li_61, li_62, li_63, li_64, li_65, li_66, li_67, li_68, li_69, li_70, li_71, li_72, li_73, li_74, li_75, li_76, li_77, li_78, li_79, li_80, li_81, li_82, li_83, li_84, li_85, li_86, li_87, li_88, li_89, li_90, li_91, li_92, li_93, li_94, li_95, li_96, li_97, li_98, li_99, li_100, li_101, li_102, li_103, li_104, li_105, li_106, li_107, li_108, li_109, li_110, li_111, li_112, li_113, li_114, li_115, li_116, li_117, li_118, li_119, li_120, li_121, li_122, li_123, li_124, li_125, li_126, li_127, li_128, li_129, li_130, li_180, li_186, li_192, li_304, li_305, li_306, li_307, li_319, li_320, li_321, li_322, li_408, li_409, li_410, li_416, li_422, li_428, li_458, li_459, li_460, li_2300, li_2760, nI_add, z_m6, z_m12, z_m30, z_l10, z_l12, z_l14, z_l17, z_l30, z_l460, z_sub, z_dec, z_dec0, z_m11, z_cl, z_leT, z_leF, z_ltT, z_ltF, z_eqT, z_eqF, z_em, z_me, z_mlt, z_mle, z_ltm, z_lem, z_mltm, z_mlem, z_nleT, z_nleF, z_nltT, z_nltF, or_false, or_self, false_or, or_true, true_or, not_true_eq_false, not_false_eq_true, ↓reduceIte, lt, z_ob, Nat.zero_add, Nat.add_zero, sp_X5_countLostWords_1, bX5_countLostWords_1]
  | succ k ih =>
    intro w t fu hw hf ht
    obtain ⟨fu, rfl⟩ := fuS hf
    have hl := lossN_le s 6 0 w
    have htw := ht w
    rw [if_neg (by omega)] at htw
    have nx : ∀ (bb : Nat) (t2 : Nat → Int32), bb = ltN s ws w → t2 w = t0 w + nI bb → (∀ i, i ≠ w → t2 i = t i) → ∀ i, t2 i = if i < w + 1 then t0 i + nI (ltN s ws i) else t0 i := by
      intro bb t2 h1 h2 h3 i
      by_cases e : i = w
      · rw [e, if_pos (by omega), h2, h1]
      · rw [h3 i e, ht i]
        by_cases e2 : i < w
        · rw [if_pos e2, if_pos (by omega)]
        · rw [if_neg e2, if_neg (by omega)]
    by_cases e1 : w ∈ ws
    · by_cases e2 : lossN s 6 0 w < 6
      · obtain ⟨t', q1, q2⟩ := ih (w + 1) (upd t w (t w + nI 1)) fu (by omega) (by omega) (nx 1 _ (by unfold ltN; rw [if_pos ⟨e1, e2⟩]) (by rw [pk_us, htw]) (fun i hi => pk_un hi))
        refine ⟨t', ?_, q2⟩
        rw [← q1, sp_X5_countLostWords_1]
        simp (disch := first | omega | assumption) only [↓z_m1, li_0, li_1, li_2, li_3, li_4, li_5, li_6, li_7, li_8, li_9, li_10, li_11, li_12, li_13, li_14, li_15, li_16, li_17, li_18, li_19, li_20, li_21, li_22, li_23, li_24, li_25, li_26, li_27, li_28, li_29, li_30, li_31, li_32, li_33, li_34, li_35, li_36, li_37, li_38, li_39, li_40, li_41, li_42, li_43, li_44, li_45, li_46, li_47, li_48, li_49, li_50, li_51, li_52, li_53, li_54, li_55, li_56, li_57, li_58, li_59, li_60, li_61, li_62, li_63, li_64, li_65, li_66, li_67, li_68, li_69, li_70, li_71, li_72, li_73, li_74, li_75, li_76, li_77, li_78, li_79, li_80, li_81, li_82, li_83, li_84, li_85, li_86, li_87, li_88, li_89, li_90, li_91, li_92, li_93, li_94, li_95, li_96, li_97, li_98, li_99, li_100, li_101, li_102, li_103, li_104, li_105, li_106, li_107, li_108, li_109, li_110, li_111, li_112, li_113, li_114, li_115, li_116, li_117, li_118, li_119, li_120, li_121, li_122, li_123, li_124, li_125, li_126, li_127, li_128, li_129, li_130, li_180, li_186, li_192, li_304, li_305, li_306, li_307, li_319, li_320, li_321, li_322, li_408, li_409, li_410, li_416, li_422, li_428, li_458, li_459, li_460, li_2300, li_2760, nI_add, z_m6, z_m12, z_m30, z_l10, z_l12, z_l14, z_l17, z_l30, z_l460, z_sub, z_dec, z_dec0, z_m11, z_cl, z_leT, z_leF, z_ltT, z_ltF, z_eqT, z_eqF, z_em, z_me, z_mlt, z_mle, z_ltm, z_lem, z_mltm, z_mlem, z_nleT, z_nleF, z_nltT, z_nltF, or_false, or_self, false_or, or_true, true_or, not_true_eq_false, not_false_eq_true, ↓reduceIte, lt, z_ob, Nat.zero_add, Nat.add_zero, bX5_countLostWords_1, has_X hb h12, hr, decide_eq_true e1, b2_t, loss_X hm hd, lk_lt e2]
      · obtain ⟨t', q1, q2⟩ := ih (w + 1) t fu (by omega) (by omega) (nx 0 _ (by unfold ltN; rw [if_neg (fun h => e2 h.2)]) (by rw [htw]; exact (Int32.add_zero _).symm) (fun i hi => rfl))
        refine ⟨t', ?_, q2⟩
        rw [← q1, sp_X5_countLostWords_1]
        have e3 : lossN s 6 0 w = 6 := by omega
        simp (disch := first | omega | assumption) only [↓z_m1, li_0, li_1, li_2, li_3, li_4, li_5, li_6, li_7, li_8, li_9, li_10, li_11, li_12, li_13, li_14, li_15, li_16, li_17, li_18, li_19, li_20, li_21, li_22, li_23, li_24, li_25, li_26, li_27, li_28, li_29, li_30, li_31, li_32, li_33, li_34, li_35, li_36, li_37, li_38, li_39, li_40, li_41, li_42, li_43, li_44, li_45, li_46, li_47, li_48, li_49, li_50, li_51, li_52, li_53, li_54, li_55, li_56, li_57, li_58, li_59, li_60, li_61, li_62, li_63, li_64, li_65, li_66, li_67, li_68, li_69, li_70, li_71, li_72, li_73, li_74, li_75, li_76, li_77, li_78, li_79, li_80, li_81, li_82, li_83, li_84, li_85, li_86, li_87, li_88, li_89, li_90, li_91, li_92, li_93, li_94, li_95, li_96, li_97, li_98, li_99, li_100, li_101, li_102, li_103, li_104, li_105, li_106, li_107, li_108, li_109, li_110, li_111, li_112, li_113, li_114, li_115, li_116, li_117, li_118, li_119, li_120, li_121, li_122, li_123, li_124, li_125, li_126, li_127, li_128, li_129, li_130, li_180, li_186, li_192, li_304, li_305, li_306, li_307, li_319, li_320, li_321, li_322, li_408, li_409, li_410, li_416, li_422, li_428, li_458, li_459, li_460, li_2300, li_2760, nI_add, z_m6, z_m12, z_m30, z_l10, z_l12, z_l14, z_l17, z_l30, z_l460, z_sub, z_dec, z_dec0, z_m11, z_cl, z_leT, z_leF, z_ltT, z_ltF, z_eqT, z_eqF, z_em, z_me, z_mlt, z_mle, z_ltm, z_lem, z_mltm, z_mlem, z_nleT, z_nleF, z_nltT, z_nltF, or_false, or_self, false_or, or_true, true_or, not_true_eq_false, not_false_eq_true, ↓reduceIte, lt, z_ob, Nat.zero_add, Nat.add_zero, bX5_countLostWords_1, has_X hb h12, hr, decide_eq_true e1, b2_t, loss_X hm hd, e3, lk_6]
    · obtain ⟨t', q1, q2⟩ := ih (w + 1) t fu (by omega) (by omega) (nx 0 _ (by unfold ltN; rw [if_neg (fun h => e1 h.1)]) (by rw [htw]; exact (Int32.add_zero _).symm) (fun i hi => rfl))
      refine ⟨t', ?_, q2⟩
      rw [← q1, sp_X5_countLostWords_1]
      simp (disch := first | omega | assumption) only [↓z_m1, li_0, li_1, li_2, li_3, li_4, li_5, li_6, li_7, li_8, li_9, li_10, li_11, li_12, li_13, li_14, li_15, li_16, li_17, li_18, li_19, li_20, li_21, li_22, li_23, li_24, li_25, li_26, li_27, li_28, li_29, li_30, li_31, li_32, li_33, li_34, li_35, li_36, li_37, li_38, li_39, li_40, li_41, li_42, li_43, li_44, li_45, li_46, li_47, li_48, li_49, li_50, li_51, li_52, li_53, li_54, li_55, li_56, li_57, li_58, li_59, li_60, li_61, li_62, li_63, li_64, li_65, li_66, li_67, li_68, li_69, li_70, li_71, li_72, li_73, li_74, li_75, li_76, li_77, li_78, li_79, li_80, li_81, li_82, li_83, li_84, li_85, li_86, li_87, li_88, li_89, li_90, li_91, li_92, li_93, li_94, li_95, li_96, li_97, li_98, li_99, li_100, li_101, li_102, li_103, li_104, li_105, li_106, li_107, li_108, li_109, li_110, li_111, li_112, li_113, li_114, li_115, li_116, li_117, li_118, li_119, li_120, li_121, li_122, li_123, li_124, li_125, li_126, li_127, li_128, li_129, li_130, li_180, li_186, li_192, li_304, li_305, li_306, li_307, li_319, li_320, li_321, li_322, li_408, li_409, li_410, li_416, li_422, li_428, li_458, li_459, li_460, li_2300, li_2760, nI_add, z_m6, z_m12, z_m30, z_l10, z_l12, z_l14, z_l17, z_l30, z_l460, z_sub, z_dec, z_dec0, z_m11, z_cl, z_leT, z_leF, z_ltT, z_ltF, z_eqT, z_eqF, z_em, z_me, z_mlt, z_mle, z_ltm, z_lem, z_mltm, z_mlem, z_nleT, z_nleF, z_nltT, z_nltF, or_false, or_self, false_or, or_true, true_or, not_true_eq_false, not_false_eq_true, ↓reduceIte, lt, z_ob, Nat.zero_add, Nat.add_zero, bX5_countLostWords_1, has_X hb h12, hr, decide_eq_false e1, b2_f]
theorem clw_X (hm : agr f s 0 180) (hd : Dic s) (hb : bd ws) (h12 : ws.length ≤ 12) {sw : Nat → Int32} (hr : isR sw 0 ws) (t : Nat → Int32) : ∃ t', fX5_countLostWords f t (nI ws.length) sw = some t' ∧ ∀ i, i < 30 → t' i = t i + nI (ltN s ws i) := by
  unfold fX5_countLostWords eX5_countLostWords
  exact clw_r hm hd hb h12 hr t 30 0 t fuelN (by omega) (by decide) (fun i => by rw [if_neg (by omega)])
theorem copyB_X {p q : Nat} (hp : p < 6) (hq : q < 6) (wd fc : Nat → Int32) : fX0_copyBack (nI p) (nI q) wd fc = some (va_cpy wd wd (12 * p) (12 * q) 12, va_cpy fc fc (6 * p) (6 * q) 6) := by
  unfold fX0_copyBack
  simp (disch := first | omega | assumption) only [↓z_m1, li_0, li_1, li_2, li_3, li_4, li_5, li_6, li_7, li_8, li_9, li_10, li_11, li_12, li_13, li_14, li_15, li_16, li_17, li_18, li_19, li_20, li_21, li_22, li_23, li_24, li_25, li_26, li_27, li_28, li_29, li_30, li_31, li_32, li_33, li_34, li_35, li_36, li_37, li_38, li_39, li_40, li_41, li_42, li_43, li_44, li_45, li_46, li_47, li_48, li_49, li_50, li_51, li_52, li_53, li_54, li_55, li_56, li_57, li_58, li_59, li_60, li_61, li_62, li_63, li_64, li_65, li_66, li_67, li_68, li_69, li_70, li_71, li_72, li_73, li_74, li_75, li_76, li_77, li_78, li_79, li_80, li_81, li_82, li_83, li_84, li_85, li_86, li_87, li_88, li_89, li_90, li_91, li_92, li_93, li_94, li_95, li_96, li_97, li_98, li_99, li_100, li_101, li_102, li_103, li_104, li_105, li_106, li_107, li_108, li_109, li_110, li_111, li_112, li_113, li_114, li_115, li_116, li_117, li_118, li_119, li_120, li_121, li_122, li_123, li_124, li_125, li_126, li_127, li_128, li_129, li_130, li_180, li_186, li_192, li_304, li_305, li_306, li_307, li_319, li_320, li_321, li_322, li_408, li_409, li_410, li_416, li_422, li_428, li_458, li_459, li_460, li_2300, li_2760, nI_add, z_m6, z_m12, z_m30, z_l10, z_l12, z_l14, z_l17, z_l30, z_l460, z_sub, z_dec, z_dec0, z_m11, z_cl, z_leT, z_leF, z_ltT, z_ltF, z_eqT, z_eqF, z_em, z_me, z_mlt, z_mle, z_ltm, z_lem, z_mltm, z_mlem, z_nleT, z_nleF, z_nltT, z_nltF, or_false, or_self, false_or, or_true, true_or, not_true_eq_false, not_false_eq_true, ↓reduceIte, lt, z_ob, Nat.zero_add, Nat.add_zero]
/-- the arrivals move one back -/
theorem addA_r (p3 : Int32) (rw' lw f fe : Nat → Int32) (wd0 fc0 : Nat → Int32) : ∀ (k : Nat) (sz : Int32) (wd fc bk : Nat → Int32) (fu : Nat), k ≤ 5 → k < fu → (∀ j, j < 12 * (k + 1) → wd j = wd0 j) → (∀ j, j < 6 * (k + 1) → fc j = fc0 j) → (∀ j, 12 * (k + 1) ≤ j → j < 72 → wd j = wd0 (j - 12)) → (∀ j, 6 * (k + 1) ≤ j → j < 36 → fc j = fc0 (j - 6)) →
    ∃ wd' fc' fu', rX0_add p3 rw' lw f fe fu 1 (nI k) sz wd fc bk = rX0_add p3 rw' lw f fe (fu' + 1) 1 (nI 0) sz wd' fc' bk ∧ (∀ j, 12 ≤ j → j < 72 → wd' j = wd0 (j - 12)) ∧ (∀ j, 6 ≤ j → j < 36 → fc' j = fc0 (j - 6)) := by
  intro k
  induction k with
  | zero =>
    intro sz wd fc bk fu hk hf h1 h2 h3 h4
    obtain ⟨fu, rfl⟩ := fuS hf
    exact ⟨wd, fc, fu, rfl, h3, h4⟩
  | succ k ih =>
    intro sz wd fc bk fu hk hf h1 h2 h3 h4
    obtain ⟨fu, rfl⟩ := fuS hf
    obtain ⟨wd', fc', fu', e1, e2, e3⟩ := ih sz (va_cpy wd wd (12 * k) (12 * (k + 1)) 12) (va_cpy fc fc (6 * k) (6 * (k + 1)) 6) bk fu (by omega) (by omega) (fun j hj => by rw [pk_cpy_out (by omega)]; exact h1 j (by omega)) (fun j hj => by rw [pk_cpy_out (by omega)]; exact h2 j (by omega)) (fun j h5 h6 => by
      by_cases e : j < 12 * (k + 1 + 1)
      · rw [pk_cpy_in (by omega) (by omega), h1 _ (by omega)]; congr 1; omega
      · rw [pk_cpy_out (by omega)]; exact h3 j (by omega) h6) (fun j h5 h6 => by
      by_cases e : j < 6 * (k + 1 + 1)
      · rw [pk_cpy_in (by omega) (by omega), h2 _ (by omega)]; congr 1; omega
      · rw [pk_cpy_out (by omega)]; exact h4 j (by omega) h6)
    refine ⟨wd', fc', fu', ?_, e2, e3⟩
    rw [← e1, sp_X0_add_1]
    simp (disch := first | omega | assumption) only [↓z_m1, li_0, li_1, li_2, li_3, li_4, li_5, li_6, li_7, li_8, li_9, li_10, li_11, li_12, li_13, li_14, li_15, li_16, li_17, li_18, li_19, li_20, li_21, li_22, li_23, li_24, li_25, li_26, li_27, li_28, li_29, li_30, li_31, li_32, li_33, li_34, li_35, li_36, li_37, li_38, li_39, li_40, li_41, li_42, li_43, li_44, li_45, li_46, li_47, li_48, li_49, li_50, li_51, li_52, li_53, li_54, li_55, li_56, li_57, li_58, li_59, li_60, li_61, li_62, li_63, li_64, li_65, li_66, li_67, li_68, li_69, li_70, li_71, li_72, li_73, li_74, li_75, li_76, li_77, li_78, li_79, li_80, li_81, li_82, li_83, li_84, li_85, li_86, li_87, li_88, li_89, li_90, li_91, li_92, li_93, li_94, li_95, li_96, li_97, li_98, li_99, li_100, li_101, li_102, li_103, li_104, li_105, li_106, li_107, li_108, li_109, li_110, li_111, li_112, li_113, li_114, li_115, li_116, li_117, li_118, li_119, li_120, li_121, li_122, li_123, li_124, li_125, li_126, li_127, li_128, li_129, li_130, li_180, li_186, li_192, li_304, li_305, li_306, li_307, li_319, li_320, li_321, li_322, li_408, li_409, li_410, li_416, li_422, li_428, li_458, li_459, li_460, li_2300, li_2760, nI_add, z_m6, z_m12, z_m30, z_l10, z_l12, z_l14, z_l17, z_l30, z_l460, z_sub, z_dec, z_dec0, z_m11, z_cl, z_leT, z_leF, z_ltT, z_ltF, z_eqT, z_eqF, z_em, z_me, z_mlt, z_mle, z_ltm, z_lem, z_mltm, z_mlem, z_nleT, z_nleF, z_nltT, z_nltF, or_false, or_self, false_or, or_true, true_or, not_true_eq_false, not_false_eq_true, ↓reduceIte, lt, z_ob, Nat.zero_add, Nat.add_zero, bX0_add_1, Nat.add_sub_cancel, copyB_X]
theorem addA_X (hm : agr f s 0 180) (hd : Dic s) (hb : bd ws) (h12 : ws.length ≤ 12) (ht : Trip s ea ws r ls 6) {fe : Nat → Int32} (hfe : agr fe s 186 6) (L : Int32) {kp : Nat} (hkp : kp ≤ 6) (wd fc bk : Nat → Int32) :
    ∃ wd' fc' bk', fX0_add L (nI kp) wd fc r ls bk f fe = some (nI (if kp < 6 then kp + 1 else 6), wd', fc', bk') ∧ (∀ j, 12 ≤ j → j < 72 → wd' j = wd (j - 12)) ∧ (∀ j, 6 ≤ j → j < 36 → fc' j = fc (j - 6)) ∧ isR wd' 0 (chN s ea ws 6) ∧
      fc' 0 = nI (chN s ea ws 6).length ∧ fc' 1 = nI (mumN (chN s ea ws 6)) ∧ fc' 2 = sumI (payN s ea ws) 6 0 (nI 0) ∧ fc' 3 = L ∧ fc' 4 = lk (backP s ea ws) ∧ fc' 5 = nI ws.length := by
  obtain ⟨wd1, fc1, fu1, e1, e2, e3⟩ := addA_r L r ls f fe wd fc 5 (nI kp) wd fc bk fuelN (by omega) (by decide) (fun j _ => rfl) (fun j _ => rfl) (fun j h1 h2 => by omega) (fun j h1 h2 => by omega)
  obtain ⟨bk', e4⟩ := T_sback hm hd hb h12 ht bk
  have hlen := T_len (s := s) (ea := ea) h12 6
  have hrow := (ht 6 (by omega)).2
  obtain ⟨fc', hfc⟩ : ∃ z, z = upd (upd (upd (upd (upd (upd fc1 0 (nI (chN s ea ws 6).length)) 1 (nI (mumN (chN s ea ws 6)))) 2 (sumI (payN s ea ws) 6 0 (nI 0))) 3 L) 4 (lk (backP s ea ws))) 5 (nI ws.length) := ⟨_, rfl⟩
  refine ⟨va_cpy r wd1 72 0 12, fc', bk', ?_, fun j h1 h2 => by rw [pk_cpy_out (by omega)]; exact e2 j h1 h2, fun j h1 h2 => by rw [hfc, pk_un (by omega), pk_un (by omega), pk_un (by omega), pk_un (by omega), pk_un (by omega), pk_un (by omega)]; exact e3 j h1 h2, isR_shift (fun j hj => by rw [pk_cpy_in (by omega) (by omega)]; congr 1; omega) hrow, ?_, ?_, ?_, ?_, ?_, ?_⟩
  · unfold fX0_add eX0_add
    have hmum := T_mum hd hb h12 ht (l := 5) (by omega)
    rw [show (5 : Nat) + 1 = 6 from rfl] at hmum
    have hy : ∀ b : Nat, (if kp < 6 then kp + 1 else 6) = b → (if (nI 6 < nI (kp + 1)) then nI 6 else nI (kp + 1)) = nI b := by
      intro b hb2
      by_cases e : kp < 6
      · rw [if_neg (by rw [z_lt (by omega) (by omega)]; omega), ← hb2, if_pos e]
      · rw [if_pos (by rw [z_lt (by omega) (by omega)]; omega), ← hb2, if_neg e]
    have e1' : rX0_add L r ls f fe fuelN 1 (nI 5) (nI kp) wd fc bk = bX0_add_1 L r ls f fe (rX0_add L r ls f fe fu1) (nI 0) (nI kp) wd1 fc1 bk := e1
    have last : bX0_add_1 L r ls f fe (rX0_add L r ls f fe fu1) (nI 0) (nI kp) wd1 fc1 bk = some (nI (if kp < 6 then kp + 1 else 6), va_cpy r wd1 72 0 12, fc', bk') := by
      rw [hfc]
      unfold bX0_add_1
      by_cases e : kp < 6
      · rw [if_pos e]
        simp (disch := first | omega | assumption) only [↓z_m1, li_0, li_1, li_2, li_3, li_4, li_5, li_6, li_7, li_8, li_9, li_10, li_11, li_12, li_13, li_14, li_15, li_16, li_17, li_18, li_19, li_20, li_21, li_22, li_23, li_24, li_25, li_26, li_27, li_28, li_29, li_30, li_31, li_32, li_33, li_34, li_35, li_36, li_37, li_38, li_39, li_40, li_41, li_42, li_43, li_44, li_45, li_46, li_47, li_48, li_49, li_50, li_51, li_52, li_53, li_54, li_55, li_56, li_57, li_58, li_59, li_60, li_61, li_62, li_63, li_64, li_65, li_66, li_67, li_68, li_69, li_70, li_71, li_72, li_73, li_74, li_75, li_76, li_77, li_78, li_79, li_80, li_81, li_82, li_83, li_84, li_85, li_86, li_87, li_88, li_89, li_90, li_91, li_92, li_93, li_94, li_95, li_96, li_97, li_98, li_99, li_100, li_101, li_102, li_103, li_104, li_105, li_106, li_107, li_108, li_109, li_110, li_111, li_112, li_113, li_114, li_115, li_116, li_117, li_118, li_119, li_120, li_121, li_122, li_123, li_124, li_125, li_126, li_127, li_128, li_129, li_130, li_180, li_186, li_192, li_304, li_305, li_306, li_307, li_319, li_320, li_321, li_322, li_408, li_409, li_410, li_416, li_422, li_428, li_458, li_459, li_460, li_2300, li_2760, nI_add, z_m6, z_m12, z_m30, z_l10, z_l12, z_l14, z_l17, z_l30, z_l460, z_sub, z_dec, z_dec0, z_m11, z_cl, z_leT, z_leF, z_ltT, z_ltF, z_eqT, z_eqF, z_em, z_me, z_mlt, z_mle, z_ltm, z_lem, z_mltm, z_mlem, z_nleT, z_nleF, z_nltT, z_nltF, or_false, or_self, false_or, or_true, true_or, not_true_eq_false, not_false_eq_true, ↓reduceIte, lt, z_ob, Nat.zero_add, Nat.add_zero, T_arr ht, hmum, T_payall ht hfe, e4, T_sent ht, fX6_copyArrived]
      · rw [if_neg e, show kp = 6 by omega]
        simp (disch := first | omega | assumption) only [↓z_m1, li_0, li_1, li_2, li_3, li_4, li_5, li_6, li_7, li_8, li_9, li_10, li_11, li_12, li_13, li_14, li_15, li_16, li_17, li_18, li_19, li_20, li_21, li_22, li_23, li_24, li_25, li_26, li_27, li_28, li_29, li_30, li_31, li_32, li_33, li_34, li_35, li_36, li_37, li_38, li_39, li_40, li_41, li_42, li_43, li_44, li_45, li_46, li_47, li_48, li_49, li_50, li_51, li_52, li_53, li_54, li_55, li_56, li_57, li_58, li_59, li_60, li_61, li_62, li_63, li_64, li_65, li_66, li_67, li_68, li_69, li_70, li_71, li_72, li_73, li_74, li_75, li_76, li_77, li_78, li_79, li_80, li_81, li_82, li_83, li_84, li_85, li_86, li_87, li_88, li_89, li_90, li_91, li_92, li_93, li_94, li_95, li_96, li_97, li_98, li_99, li_100, li_101, li_102, li_103, li_104, li_105, li_106, li_107, li_108, li_109, li_110, li_111, li_112, li_113, li_114, li_115, li_116, li_117, li_118, li_119, li_120, li_121, li_122, li_123, li_124, li_125, li_126, li_127, li_128, li_129, li_130, li_180, li_186, li_192, li_304, li_305, li_306, li_307, li_319, li_320, li_321, li_322, li_408, li_409, li_410, li_416, li_422, li_428, li_458, li_459, li_460, li_2300, li_2760, nI_add, z_m6, z_m12, z_m30, z_l10, z_l12, z_l14, z_l17, z_l30, z_l460, z_sub, z_dec, z_dec0, z_m11, z_cl, z_leT, z_leF, z_ltT, z_ltF, z_eqT, z_eqF, z_em, z_me, z_mlt, z_mle, z_ltm, z_lem, z_mltm, z_mlem, z_nleT, z_nleF, z_nltT, z_nltF, or_false, or_self, false_or, or_true, true_or, not_true_eq_false, not_false_eq_true, ↓reduceIte, lt, z_ob, Nat.zero_add, Nat.add_zero, T_arr ht, hmum, T_payall ht hfe, e4, T_sent ht, fX6_copyArrived]
    simp (disch := first | omega | assumption) only [↓z_m1, li_0, li_1, li_2, li_3, li_4, li_5, li_6, li_7, li_8, li_9, li_10, li_11, li_12, li_13, li_14, li_15, li_16, li_17, li_18, li_19, li_20, li_21, li_22, li_23, li_24, li_25, li_26, li_27, li_28, li_29, li_30, li_31, li_32, li_33, li_34, li_35, li_36, li_37, li_38, li_39, li_40, li_41, li_42, li_43, li_44, li_45, li_46, li_47, li_48, li_49, li_50, li_51, li_52, li_53, li_54, li_55, li_56, li_57, li_58, li_59, li_60, li_61, li_62, li_63, li_64, li_65, li_66, li_67, li_68, li_69, li_70, li_71, li_72, li_73, li_74, li_75, li_76, li_77, li_78, li_79, li_80, li_81, li_82, li_83, li_84, li_85, li_86, li_87, li_88, li_89, li_90, li_91, li_92, li_93, li_94, li_95, li_96, li_97, li_98, li_99, li_100, li_101, li_102, li_103, li_104, li_105, li_106, li_107, li_108, li_109, li_110, li_111, li_112, li_113, li_114, li_115, li_116, li_117, li_118, li_119, li_120, li_121, li_122, li_123, li_124, li_125, li_126, li_127, li_128, li_129, li_130, li_180, li_186, li_192, li_304, li_305, li_306, li_307, li_319, li_320, li_321, li_322, li_408, li_409, li_410, li_416, li_422, li_428, li_458, li_459, li_460, li_2300, li_2760, nI_add, z_m6, z_m12, z_m30, z_l10, z_l12, z_l14, z_l17, z_l30, z_l460, z_sub, z_dec, z_dec0, z_m11, z_cl, z_leT, z_leF, z_ltT, z_ltF, z_eqT, z_eqF, z_em, z_me, z_mlt, z_mle, z_ltm, z_lem, z_mltm, z_mlem, z_nleT, z_nleF, z_nltT, z_nltF, or_false, or_self, false_or, or_true, true_or, not_true_eq_false, not_false_eq_true, ↓reduceIte, lt, z_ob, Nat.zero_add, Nat.add_zero, e1', last]
  · rw [hfc, pk_un (by omega), pk_un (by omega), pk_un (by omega), pk_un (by omega), pk_un (by omega), pk_us]
  · rw [hfc, pk_un (by omega), pk_un (by omega), pk_un (by omega), pk_un (by omega), pk_us]
  · rw [hfc, pk_un (by omega), pk_un (by omega), pk_un (by omega), pk_us]
  · rw [hfc, pk_un (by omega), pk_un (by omega), pk_us]
  · rw [hfc, pk_un (by omega), pk_us]
  · rw [hfc, pk_us]
end S1
/-- the arrivals as both sides hold them -/
def ArrX (s : Nat → Int32) (kp : Nat) (aw af : Nat → Int32) : Prop := ∀ b, b < kp → ∃ L : List Nat, L.length ≤ 12 ∧ bd L ∧ s (306 + 17 * b) = nI L.length ∧ isR s (306 + 17 * b + 1) L ∧ isR aw (12 * b) L ∧ af (6 * b) = nI L.length ∧ af (6 * b + 1) = nI (mumN L) ∧ af (6 * b + 2) = s (306 + 17 * b + 13) ∧ af (6 * b + 3) = s (306 + 17 * b + 14) ∧ af (6 * b + 4) = s (306 + 17 * b + 15) ∧ af (6 * b + 5) = s (306 + 17 * b + 16)
/-- counts stay small -/
def sumN (T : Nat → Nat) : Nat → Nat
  | 0 => 0
  | k + 1 => sumN T k + T k
theorem sumN_add (T U : Nat → Nat) : ∀ k, sumN (fun w => T w + U w) k = sumN T k + sumN U k := by
  intro k
  induction k with
  | zero => rfl
  | succ k ih =>
    show sumN (fun w => T w + U w) k + (T k + U k) = sumN T k + T k + (sumN U k + U k)
    rw [ih]; omega
theorem sumN_le {T U : Nat → Nat} : ∀ k, (∀ w, w < k → T w ≤ U w) → sumN T k ≤ sumN U k := by
  intro k
  induction k with
  | zero => intro _; exact Nat.le_refl _
  | succ k ih =>
    intro h
    have h1 := ih (fun w hw => h w (by omega))
    have h2 := h k (by omega)
    show sumN T k + T k ≤ sumN U k + U k
    omega
theorem sumN_one (x : Nat) : ∀ k, sumN (fun w => if w = x then 1 else 0) k = if x < k then 1 else 0 := by
  intro k
  induction k with
  | zero => rfl
  | succ k ih =>
    show sumN (fun w => if w = x then 1 else 0) k + (if k = x then 1 else 0) = _
    rw [ih]
    by_cases e : k = x
    · rw [if_pos e, if_neg (by omega), if_pos (by omega)]
    · rw [if_neg e]
      by_cases e2 : x < k
      · rw [if_pos e2, if_pos (by omega)]
      · rw [if_neg e2, if_neg (by omega)]
theorem sumN_mem (k : Nat) : ∀ ws : List Nat, sumN (fun w => if w ∈ ws then 1 else 0) k ≤ ws.length := by
  intro ws
  induction ws with
  | nil =>
    have h := sumN_le (T := fun w => if w ∈ ([] : List Nat) then 1 else 0) (U := fun _ => 0) k (fun w _ => by simp)
    have h0 : ∀ j, sumN (fun _ => 0) j = 0 := fun j => by
      induction j with
      | zero => rfl
      | succ j ih => show sumN (fun _ => 0) j + 0 = 0; rw [ih]
    rw [h0] at h
    exact h
  | cons x ws ih =>
    have h := sumN_le (T := fun w => if w ∈ x :: ws then 1 else 0) (U := fun w => (if w = x then 1 else 0) + (if w ∈ ws then 1 else 0)) k (fun w _ => by
      try dsimp only
      by_cases e : w = x
      · rw [if_pos (show w ∈ x :: ws by rw [e]; exact List.mem_cons_self), if_pos e]; omega
      · by_cases e2 : w ∈ ws
        · rw [if_pos (List.mem_cons_of_mem _ e2), if_pos e2]; omega
        · rw [if_neg (fun h => (List.mem_cons.mp h).elim e e2)]; omega)
    rw [sumN_add, sumN_one] at h
    rw [List.length_cons]
    have : (if x < k then 1 else 0) ≤ 1 := by split <;> omega
    omega
/-- what an arrival tells hangs together -/
def ArE (s : Nat → Int32) (b : Nat) : Prop := ∃ (L : List Nat) (t p M : Nat), s (306 + 17 * b) = nI L.length ∧ isR s (306 + 17 * b + 1) L ∧ bd L ∧ L.length ≤ t ∧ t ≤ 12 ∧ s (306 + 17 * b + 16) = nI t ∧ s (306 + 17 * b + 13) = nI p ∧ p ≤ 1000 ∧ M ≤ 6 ∧ s (306 + 17 * b + 14) = lk M ∧ s (306 + 17 * b + 15) = lk M ∧ (M = 6 → L.length = t ∧ ∀ x, x ∈ L → x < 30)
/-- what hangs together besides: n wait, g went, q of them lost -/
def Ext (s : Nat → Int32) (n g q : Nat) : Prop :=
  (∀ l, l < 6 → ∃ x y z, s (410 + l) = nI x ∧ x ≤ 12 * g ∧ s (416 + l) = nI y ∧ y ≤ 108 * g ∧ s (422 + l) = nI z ∧ z ≤ g) ∧
  (∃ T : Nat → Nat, (∀ w, w < 30 → s (428 + w) = nI (T w) ∧ T w ≤ q) ∧ sumN T 30 ≤ 12 * q) ∧ s 408 = nI (if g < 6 then g else 6) ∧
  (s 458 = nI 0 ∨ s 459 = nI 1 ∨ s 459 = nI 2) ∧ (∀ a, a < n → 1 ≤ urgN s a) ∧ ∀ b, b < 6 → b < g → ArE s b
theorem Ext.mv {s s' : Nat → Int32} {n n' g q : Nat} (h : Ext s n g q) (ho : ∀ j, 306 ≤ j → j < 458 → s' j = s j) (hs : s' 458 = nI 0 ∨ s' 459 = nI 1 ∨ s' 459 = nI 2) (hu : ∀ a, a < n' → 1 ≤ urgN s' a) : Ext s' n' g q := by
  obtain ⟨h1, ⟨T, h2, h3⟩, h4, h5, h6, h7⟩ := h
  refine ⟨fun l hl => ?_, ⟨T, fun w hw => ?_, h3⟩, by rw [ho _ (by omega) (by omega)]; exact h4, hs, hu, fun b hb hg => ?_⟩
  · obtain ⟨x, y, z, r⟩ := h1 l hl
    rw [ho _ (by omega) (by omega), ho _ (by omega) (by omega), ho _ (by omega) (by omega)]
    exact ⟨x, y, z, r⟩
  · rw [ho _ (by omega) (by omega)]
    exact h2 w hw
  · obtain ⟨L, t, p, M, r1, r2, r3, r4, r5, r6, r7, r8, r9, r10, r11, r12⟩ := h7 b hb hg
    refine ⟨L, t, p, M, by rw [ho _ (by omega) (by omega)]; exact r1, isR_congr (fun j j1 j2 => ho _ (by omega) (by omega)) r2, r3, r4, r5, by rw [ho _ (by omega) (by omega)]; exact r6, by rw [ho _ (by omega) (by omega)]; exact r7, r8, r9, by rw [ho _ (by omega) (by omega)]; exact r10, by rw [ho _ (by omega) (by omega)]; exact r11, r12⟩
def Cnts (s : Nat → Int32) (n K : Nat) : Prop := ∃ g q, s 305 = nI g ∧ s 409 = nI q ∧ q ≤ g ∧ 4 * (g + n) ≤ K ∧ (∀ w, w < 30 → ∃ t, t ≤ g ∧ s (428 + w) = nI t) ∧ sumI (fun l => s (422 + l)) 6 0 (nI 0) = s 409 ∧ Ext s n g q
def StpX (s : Nat → Int32) (sp sr : Int32) : Prop := (s 458 = nI 0 ∧ sp = mI ∧ sr = mI) ∨ (∃ k, k < 1000 ∧ s 458 = nI (k + 1) ∧ sp = nI k ∧ sr = s 459)
/-- both sides hold the same chain -/
def CR (s : Nat → Int32) (n K : Nat) (P : List Nat) (went sp sr : Int32) (mn er fe ms pa lo : Nat → Int32) (wz : Int32) (ww wl wu : Nat → Int32) (az : Int32) (aw af lt : Nat → Int32) : Prop :=
  (agr mn s 0 180 ∧ Dic s) ∧ (agr er s 180 6 ∧ Sets s 180) ∧ (agr fe s 186 6 ∧ Sets s 186) ∧ agr ms s 410 6 ∧ agr pa s 416 6 ∧ agr lo s 422 6 ∧ agr lt s 428 30 ∧
  (Wt s n ∧ Srt (ahW s) n P ∧ wz = nI n ∧ WaitX s P ww wl wu) ∧ (∃ kp, kp ≤ 6 ∧ s 408 = nI kp ∧ az = nI kp ∧ ArrX s kp aw af) ∧ went = s 305 ∧ StpX s sp sr ∧ Cnts s n K
theorem z_alc (a b c : Int32) : a + (b + c) = b + (a + c) := by rw [← Int32.add_assoc, Int32.add_comm a, Int32.add_assoc]
theorem lk_le_sum {s s' : Nat → Int32} {L : Nat} (h : ∀ l, l < 6 → s' (422 + l) = if l = L then s (422 + l) + nI 1 else s (422 + l)) (hL : L ≤ 6) : sumI (fun l => s' (422 + l)) 6 0 (nI 0) = if L < 6 then sumI (fun l => s (422 + l)) 6 0 (nI 0) + nI 1 else sumI (fun l => s (422 + l)) 6 0 (nI 0) := by
  have e : ∀ g : Nat → Int32, sumI g 6 0 (nI 0) = nI 0 + g 0 + g 1 + g 2 + g 3 + g 4 + g 5 := fun g => rfl
  rw [e, e]
  simp only [h 0 (by omega), h 1 (by omega), h 2 (by omega), h 3 (by omega), h 4 (by omega), h 5 (by omega)]
  rcases (show L = 0 ∨ L = 1 ∨ L = 2 ∨ L = 3 ∨ L = 4 ∨ L = 5 ∨ L = 6 by omega) with rfl | rfl | rfl | rfl | rfl | rfl | rfl <;> simp [Int32.add_assoc, Int32.add_comm, z_alc]

-- pure: orders, the model; all orders
section PM
variable {n : Nat} {cs tx : Nat → Int32}
theorem sig_1 (h : BR n cs tx) {c p q : Nat} {b : Bool} (hp : p ≤ n) (c1 : 0 < c) (c2 : c ≤ 126) (ht : takL tx n [c] p = (q, b)) : fX9_sign (nI c) (nI n) (nI p) (nI 0) tx = some (nI q, b2 (!b)) := by
  have h60 := h.1
  rw [takL] at ht
  by_cases e : chrN tx n p = c
  · rw [if_pos e, takL] at ht
    cases ht
    exact sign_1 h (by omega) c2 e
  · rw [if_neg e] at ht
    cases ht
    exact sign_0 h (by omega) c2 e
theorem sig_c (h : BR n cs tx) {c p q : Nat} {b : Bool} {L : List Nat} (hp : p ≤ n) (c1 : 0 < c) (c2 : c ≤ 126) (ht : takL tx n (c :: L) p = (q, b)) : (fX9_sign (nI c) (nI n) (nI p) (nI 0) tx = some (nI (p + 1), nI 0) ∧ p + 1 ≤ n ∧ takL tx n L (p + 1) = (q, b)) ∨ (fX9_sign (nI c) (nI n) (nI p) (nI 0) tx = some (nI q, nI 1) ∧ b = false) := by
  have h60 := h.1
  rw [takL] at ht
  by_cases e : chrN tx n p = c
  · rw [if_pos e] at ht
    exact Or.inl ⟨sign_1 h (by omega) c2 e, chr_lt c1 e, ht⟩
  · rw [if_neg e] at ht
    cases ht
    exact Or.inr ⟨sign_0 h (by omega) c2 e, rfl⟩
theorem sig_2 (h : BR n cs tx) {c d p q : Nat} {b : Bool} (hp : p ≤ n) (c1 : 0 < c) (c2 : c ≤ 126) (d1 : 0 < d) (d2 : d ≤ 126) (ht : takL tx n [c, d] p = (q, b)) : ∃ u1 u2, fX9_sign (nI c) (nI n) (nI p) (nI 0) tx = some (u1, u2) ∧ fX9_sign (nI d) (nI n) u1 u2 tx = some (nI q, b2 (!b)) := by
  rcases sig_c h hp c1 c2 ht with ⟨e1, e2, e3⟩ | ⟨e1, rfl⟩
  · exact ⟨_, _, e1, sig_1 h e2 d1 d2 e3⟩
  · exact ⟨_, _, e1, sign_w _ _ _ _⟩
theorem sig_4 (h : BR n cs tx) {a c d e p q : Nat} {b : Bool} (hp : p ≤ n) (a1 : 0 < a) (a2 : a ≤ 126) (c1 : 0 < c) (c2 : c ≤ 126) (d1 : 0 < d) (d2 : d ≤ 126) (e1 : 0 < e) (e2 : e ≤ 126) (ht : takL tx n [a, c, d, e] p = (q, b)) : ∃ u1 u2 u3 u4 u5 u6, fX9_sign (nI a) (nI n) (nI p) (nI 0) tx = some (u1, u2) ∧ fX9_sign (nI c) (nI n) u1 u2 tx = some (u3, u4) ∧ fX9_sign (nI d) (nI n) u3 u4 tx = some (u5, u6) ∧ fX9_sign (nI e) (nI n) u5 u6 tx = some (nI q, b2 (!b)) := by
  rcases sig_c h hp a1 a2 ht with ⟨f1, f2, f3⟩ | ⟨f1, rfl⟩
  · rcases sig_c h f2 c1 c2 f3 with ⟨g1, g2, g3⟩ | ⟨g1, rfl⟩
    · obtain ⟨u5, u6, k1, k2⟩ := sig_2 h g2 d1 d2 e1 e2 g3
      exact ⟨_, _, _, _, _, _, f1, g1, k1, k2⟩
    · exact ⟨_, _, _, _, _, _, f1, g1, sign_w _ _ _ _, sign_w _ _ _ _⟩
  · exact ⟨_, _, _, _, _, _, f1, sign_w _ _ _ _, sign_w _ _ _ _, sign_w _ _ _ _⟩
/-- the letter of a kind -/
def letN (k : Nat) : Nat := if k = 0 then 115 else if k = 1 then 103 else if k = 2 then 101 else if k = 3 then 102 else 116
/-- what the model holds of an order -/
def OrM (o : OrdT) (le fi se th ma : Int32) (wo : Nat → Int32) : Prop := le = nI (letN o.1) ∧ (o.1 = 0 → fi = nI o.2.2.2.2.2 ∧ ma = nI o.2.2.2.2.1.length ∧ isR wo 0 o.2.2.2.2.1) ∧ (o.1 = 2 ∨ o.1 = 3 → fi = nI o.2.1 ∧ se = nI o.2.2.2.1) ∧ (o.1 = 4 → fi = nI o.2.1 ∧ se = nI o.2.2.1 ∧ th = mz o.2.2.2.1)
theorem ptM_set (h : BR n cs tx) {p lt0 i : Nat} (hi : i = 2 ∧ lt0 = 101 ∨ i = 3 ∧ lt0 = 102) (hp : p ≤ n) (ec : chrN tx n p = lt0) (le fi se th ma : Int32) (wo : Nat → Int32) :
    (∀ q, (match takL tx n (litL i) p with | (q, false) => (q, none) | (q, true) => match stO tx n q with | (r, none) => (r, none) | (r, some (l, v)) => (r, some ((i, l, 0, v, [], 0) : OrdT))) = (q, none) → ∃ le' fi' se' th' ma' wo', fX9_part (nI n) (nI p) (nI 0) le fi se th ma tx wo = some (nI q, nI 1, le', fi', se', th', ma', wo')) ∧
    (∀ q o, (match takL tx n (litL i) p with | (q, false) => (q, none) | (q, true) => match stO tx n q with | (r, none) => (r, none) | (r, some (l, v)) => (r, some ((i, l, 0, v, [], 0) : OrdT))) = (q, some o) → ∃ le' fi' se' th' ma' wo', fX9_part (nI n) (nI p) (nI 0) le fi se th ma tx wo = some (nI q, nI 0, le', fi', se', th', ma', wo') ∧ OrM o le' fi' se' th' ma' wo') := by
  have h60 := h.1
  have hp1 : p + 1 ≤ n := chr_lt (by omega) ec
  have hnx := next_M h (show p ≤ 100 by omega)
  rw [ec] at hnx
  cases ht : takL tx n (litL i) p with
  | mk q1 b =>
    have htl : ∃ c d, (lt0 = 101 → c = 97 ∧ d = 114) ∧ (lt0 = 102 → c = 101 ∧ d = 101) ∧ takL tx n [c, d] (p + 1) = (q1, b) := by
      rcases hi with ⟨rfl, rfl⟩ | ⟨rfl, rfl⟩
      · refine ⟨97, 114, fun _ => ⟨rfl, rfl⟩, fun h0 => by omega, ?_⟩
        rw [show litL 2 = 101 :: [97, 114] from rfl, takL, if_pos ec] at ht
        exact ht
      · refine ⟨101, 101, fun h0 => by omega, fun _ => ⟨rfl, rfl⟩, ?_⟩
        rw [show litL 3 = 102 :: [101, 101] from rfl, takL, if_pos ec] at ht
        exact ht
    obtain ⟨c, d, q1', q2', htl⟩ := htl
    have hcd : 0 < c ∧ c ≤ 126 ∧ 0 < d ∧ d ≤ 126 := by
      rcases hi with ⟨-, rfl⟩ | ⟨-, rfl⟩
      · have := q1' rfl; omega
      · have := q2' rfl; omega
    have tl := tak_le [c, d] (p + 1) q1 b (fun x hx => (List.mem_cons.mp hx).elim (fun e => by omega) (fun hx => by rw [List.mem_singleton.mp hx]; omega)) hp1 htl
    obtain ⟨u1, u2, g1, g2⟩ := sig_2 h hp1 hcd.1 hcd.2.1 hcd.2.2.1 hcd.2.2.2 htl
    have key : ∀ u3 u4 u5 u6 u7 u8 u9 u10 : Int32, fX9_digit (nI 0) (nI 5) (nI n) (nI q1) (b2 (!b)) tx = some (u3, u4, u5) → fX9_sign (nI 61) (nI n) u4 u5 tx = some (u6, u7) → fX9_digit (nI 0) (nI 9) (nI n) u6 u7 tx = some (u8, u9, u10) → fX9_part (nI n) (nI p) (nI 0) le fi se th ma tx wo = some (u9, u10, nI lt0, u3, u8, th, ma, wo) := by
      intro u3 u4 u5 u6 u7 u8 u9 u10 k1 k2 k3
      unfold fX9_part eX9_part
      rw [show fuelN = 999996 + 1 + 1 + 1 + 1 from rfl]
      rcases hi with ⟨-, rfl⟩ | ⟨-, rfl⟩
      · obtain ⟨rfl, rfl⟩ := q1' rfl
        simp (disch := first | omega | assumption) only [↓z_m1, li_0, li_1, li_2, li_3, li_4, li_5, li_6, li_7, li_8, li_9, li_10, li_11, li_12, li_13, li_14, li_15, li_16, li_17, li_18, li_19, li_20, li_21, li_22, li_23, li_24, li_25, li_26, li_27, li_28, li_29, li_30, li_31, li_32, li_33, li_34, li_35, li_36, li_37, li_38, li_39, li_40, li_41, li_42, li_43, li_44, li_45, li_46, li_47, li_48, li_49, li_50, li_51, li_52, li_53, li_54, li_55, li_56, li_57, li_58, li_59, li_60, li_61, li_62, li_63, li_64, li_65, li_66, li_67, li_68, li_69, li_70, li_71, li_72, li_73, li_74, li_75, li_76, li_77, li_78, li_79, li_80, li_81, li_82, li_83, li_84, li_85, li_86, li_87, li_88, li_89, li_90, li_91, li_92, li_93, li_94, li_95, li_96, li_97, li_98, li_99, li_100, li_101, li_102, li_103, li_104, li_105, li_106, li_107, li_108, li_109, li_110, li_111, li_112, li_113, li_114, li_115, li_116, li_117, li_118, li_119, li_120, li_121, li_122, li_123, li_124, li_125, li_126, li_127, li_128, li_129, li_130, li_180, li_186, li_192, li_304, li_305, li_306, li_307, li_319, li_320, li_321, li_322, li_408, li_409, li_410, li_416, li_422, li_428, li_458, li_459, li_460, li_2300, li_2760, nI_add, z_m6, z_m12, z_m30, z_l10, z_l12, z_l14, z_l17, z_l30, z_l460, z_sub, z_dec, z_dec0, z_m11, z_cl, z_leT, z_leF, z_ltT, z_ltF, z_eqT, z_eqF, z_em, z_me, z_mlt, z_mle, z_ltm, z_lem, z_mltm, z_mlem, z_nleT, z_nleF, z_nltT, z_nltF, or_false, or_self, false_or, or_true, true_or, not_true_eq_false, not_false_eq_true, ↓reduceIte, lt, z_ob, Nat.zero_add, Nat.add_zero, hnx, sp_X9_part_1, bX9_part_1, sp_X9_part_2, bX9_part_2, sp_X9_part_3, bX9_part_3, sp_X9_part_4, bX9_part_4, g1, g2, k1, k2, k3]
      · obtain ⟨rfl, rfl⟩ := q2' rfl
        simp (disch := first | omega | assumption) only [↓z_m1, li_0, li_1, li_2, li_3, li_4, li_5, li_6, li_7, li_8, li_9, li_10, li_11, li_12, li_13, li_14, li_15, li_16, li_17, li_18, li_19, li_20, li_21, li_22, li_23, li_24, li_25, li_26, li_27, li_28, li_29, li_30, li_31, li_32, li_33, li_34, li_35, li_36, li_37, li_38, li_39, li_40, li_41, li_42, li_43, li_44, li_45, li_46, li_47, li_48, li_49, li_50, li_51, li_52, li_53, li_54, li_55, li_56, li_57, li_58, li_59, li_60, li_61, li_62, li_63, li_64, li_65, li_66, li_67, li_68, li_69, li_70, li_71, li_72, li_73, li_74, li_75, li_76, li_77, li_78, li_79, li_80, li_81, li_82, li_83, li_84, li_85, li_86, li_87, li_88, li_89, li_90, li_91, li_92, li_93, li_94, li_95, li_96, li_97, li_98, li_99, li_100, li_101, li_102, li_103, li_104, li_105, li_106, li_107, li_108, li_109, li_110, li_111, li_112, li_113, li_114, li_115, li_116, li_117, li_118, li_119, li_120, li_121, li_122, li_123, li_124, li_125, li_126, li_127, li_128, li_129, li_130, li_180, li_186, li_192, li_304, li_305, li_306, li_307, li_319, li_320, li_321, li_322, li_408, li_409, li_410, li_416, li_422, li_428, li_458, li_459, li_460, li_2300, li_2760, nI_add, z_m6, z_m12, z_m30, z_l10, z_l12, z_l14, z_l17, z_l30, z_l460, z_sub, z_dec, z_dec0, z_m11, z_cl, z_leT, z_leF, z_ltT, z_ltF, z_eqT, z_eqF, z_em, z_me, z_mlt, z_mle, z_ltm, z_lem, z_mltm, z_mlem, z_nleT, z_nleF, z_nltT, z_nltF, or_false, or_self, false_or, or_true, true_or, not_true_eq_false, not_false_eq_true, ↓reduceIte, lt, z_ob, Nat.zero_add, Nat.add_zero, hnx, sp_X9_part_1, bX9_part_1, sp_X9_part_2, bX9_part_2, sp_X9_part_3, bX9_part_3, sp_X9_part_4, bX9_part_4, g1, g2, k1, k2, k3]
    have hlet : lt0 = letN i := by
      rcases hi with ⟨rfl, rfl⟩ | ⟨rfl, rfl⟩ <;> rfl
    cases b with
    | false =>
      refine ⟨fun q e => ?_, fun q o e => by (cases e)⟩
      cases e
      obtain ⟨v1, k1⟩ := digM_w h (nI 0) (nI 5) (show q1 ≤ 100 by omega)
      obtain ⟨v2, k2⟩ := digM_w h (nI 0) (nI 9) (show q1 ≤ 100 by omega)
      exact ⟨_, _, _, _, _, _, key _ _ _ _ _ _ _ _ k1 (sign_w _ _ _ _) k2⟩
    | true =>
      dsimp only
      obtain ⟨m0, m1⟩ := stM h (p := q1) tl.1
      cases hs : stO tx n q1 with
      | mk r o2 =>
        cases o2 with
        | none =>
          obtain ⟨u1', u2', u3', u4', u5', u6', u7', u8', k1, k2, k3, rfl, rfl⟩ := m0 r hs
          refine ⟨fun q e => ?_, fun q o e => by (cases e)⟩
          cases e
          exact ⟨_, _, _, _, _, _, key _ _ _ _ _ _ _ _ k1 k2 k3⟩
        | some lv =>
          obtain ⟨l, v⟩ := lv
          obtain ⟨u2', u4', k1, k2, k3⟩ := m1 r l v hs
          refine ⟨fun q e => by (cases e), fun q o e => ?_⟩
          cases e
          refine ⟨_, _, _, _, _, _, key _ _ _ _ _ _ _ _ k1 k2 k3, by rw [hlet], fun h0 => ?_, fun _ => ⟨rfl, rfl⟩, fun h0 => ?_⟩
          · dsimp only at h0; omega
          · dsimp only at h0; omega
theorem ptM (h : BR n cs tx) {p : Nat} (hp : p ≤ n) (le fi se th ma : Int32) (wo : Nat → Int32) :
    (∀ q, ptO tx n p = (q, none) → ∃ le' fi' se' th' ma' wo', fX9_part (nI n) (nI p) (nI 0) le fi se th ma tx wo = some (nI q, nI 1, le', fi', se', th', ma', wo')) ∧
    (∀ q o, ptO tx n p = (q, some o) → ∃ le' fi' se' th' ma' wo', fX9_part (nI n) (nI p) (nI 0) le fi se th ma tx wo = some (nI q, nI 0, le', fi', se', th', ma', wo') ∧ OrM o le' fi' se' th' ma' wo') := by
  have h60 := h.1
  have hle := chr_le h p
  have hnx := next_M h (show p ≤ 100 by omega)
  unfold ptO
  by_cases e101 : chrN tx n p = 101
  · rw [if_pos e101]
    exact ptM_set h (Or.inl ⟨rfl, rfl⟩) hp e101 le fi se th ma wo
  rw [if_neg e101]
  by_cases e102 : chrN tx n p = 102
  · rw [if_pos e102]
    exact ptM_set h (Or.inr ⟨rfl, rfl⟩) hp e102 le fi se th ma wo
  rw [if_neg e102]
  by_cases e103 : chrN tx n p = 103
  · rw [if_pos e103]
    rw [e103] at hnx
    have hp1 : p + 1 ≤ n := chr_lt (by omega) e103
    cases ht : takL tx n (litL 1) p with
    | mk q1 b =>
      rw [show litL 1 = 103 :: [111] from rfl, takL, if_pos e103] at ht
      have g := sig_1 h hp1 (by omega) (by omega) ht
      have m : fX9_part (nI n) (nI p) (nI 0) le fi se th ma tx wo = some (nI q1, b2 (!b), nI 103, fi, se, th, ma, wo) := by
        unfold fX9_part eX9_part
        rw [fuN1]
        simp (disch := first | omega | assumption) only [↓z_m1, li_0, li_1, li_2, li_3, li_4, li_5, li_6, li_7, li_8, li_9, li_10, li_11, li_12, li_13, li_14, li_15, li_16, li_17, li_18, li_19, li_20, li_21, li_22, li_23, li_24, li_25, li_26, li_27, li_28, li_29, li_30, li_31, li_32, li_33, li_34, li_35, li_36, li_37, li_38, li_39, li_40, li_41, li_42, li_43, li_44, li_45, li_46, li_47, li_48, li_49, li_50, li_51, li_52, li_53, li_54, li_55, li_56, li_57, li_58, li_59, li_60, li_61, li_62, li_63, li_64, li_65, li_66, li_67, li_68, li_69, li_70, li_71, li_72, li_73, li_74, li_75, li_76, li_77, li_78, li_79, li_80, li_81, li_82, li_83, li_84, li_85, li_86, li_87, li_88, li_89, li_90, li_91, li_92, li_93, li_94, li_95, li_96, li_97, li_98, li_99, li_100, li_101, li_102, li_103, li_104, li_105, li_106, li_107, li_108, li_109, li_110, li_111, li_112, li_113, li_114, li_115, li_116, li_117, li_118, li_119, li_120, li_121, li_122, li_123, li_124, li_125, li_126, li_127, li_128, li_129, li_130, li_180, li_186, li_192, li_304, li_305, li_306, li_307, li_319, li_320, li_321, li_322, li_408, li_409, li_410, li_416, li_422, li_428, li_458, li_459, li_460, li_2300, li_2760, nI_add, z_m6, z_m12, z_m30, z_l10, z_l12, z_l14, z_l17, z_l30, z_l460, z_sub, z_dec, z_dec0, z_m11, z_cl, z_leT, z_leF, z_ltT, z_ltF, z_eqT, z_eqF, z_em, z_me, z_mlt, z_mle, z_ltm, z_lem, z_mltm, z_mlem, z_nleT, z_nleF, z_nltT, z_nltF, or_false, or_self, false_or, or_true, true_or, not_true_eq_false, not_false_eq_true, ↓reduceIte, lt, z_ob, Nat.zero_add, Nat.add_zero, hnx, sp_X9_part_1, bX9_part_1, g]
      cases b with
      | false =>
        refine ⟨fun q e => ?_, fun q o e => by (cases e)⟩
        cases e
        exact ⟨_, _, _, _, _, _, m⟩
      | true =>
        refine ⟨fun q e => by (cases e), fun q o e => ?_⟩
        cases e
        exact ⟨_, _, _, _, _, _, m, rfl, fun h0 => by (cases h0), fun h0 => by (rcases h0 with h0 | h0 <;> cases h0), fun h0 => by (cases h0)⟩
  rw [if_neg e103]
  by_cases e115 : chrN tx n p = 115
  · rw [if_pos e115]
    rw [e115] at hnx
    have hp1 : p + 1 ≤ n := chr_lt (by omega) e115
    cases ht : takL tx n (litL 0) p with
    | mk q1 b =>
      rw [show litL 0 = 115 :: [97, 121] from rfl, takL, if_pos e115] at ht
      have tl := tak_le [97, 121] (p + 1) q1 b (by decide) hp1 ht
      obtain ⟨u1, u2, g1, g2⟩ := sig_2 h hp1 (by omega) (by omega) (by omega) (by omega) ht
      have key : ∀ (u3 u4 u5 u6 : Int32) (wo' : Nat → Int32), fX9_says (nI n) (nI q1) (b2 (!b)) fi ma tx wo = some (u3, u4, u5, u6, wo') → fX9_part (nI n) (nI p) (nI 0) le fi se th ma tx wo = some (u3, u4, nI 115, u5, se, th, u6, wo') := by
        intro u3 u4 u5 u6 wo' k1
        unfold fX9_part eX9_part
        rw [fuN1]
        simp (disch := first | omega | assumption) only [↓z_m1, li_0, li_1, li_2, li_3, li_4, li_5, li_6, li_7, li_8, li_9, li_10, li_11, li_12, li_13, li_14, li_15, li_16, li_17, li_18, li_19, li_20, li_21, li_22, li_23, li_24, li_25, li_26, li_27, li_28, li_29, li_30, li_31, li_32, li_33, li_34, li_35, li_36, li_37, li_38, li_39, li_40, li_41, li_42, li_43, li_44, li_45, li_46, li_47, li_48, li_49, li_50, li_51, li_52, li_53, li_54, li_55, li_56, li_57, li_58, li_59, li_60, li_61, li_62, li_63, li_64, li_65, li_66, li_67, li_68, li_69, li_70, li_71, li_72, li_73, li_74, li_75, li_76, li_77, li_78, li_79, li_80, li_81, li_82, li_83, li_84, li_85, li_86, li_87, li_88, li_89, li_90, li_91, li_92, li_93, li_94, li_95, li_96, li_97, li_98, li_99, li_100, li_101, li_102, li_103, li_104, li_105, li_106, li_107, li_108, li_109, li_110, li_111, li_112, li_113, li_114, li_115, li_116, li_117, li_118, li_119, li_120, li_121, li_122, li_123, li_124, li_125, li_126, li_127, li_128, li_129, li_130, li_180, li_186, li_192, li_304, li_305, li_306, li_307, li_319, li_320, li_321, li_322, li_408, li_409, li_410, li_416, li_422, li_428, li_458, li_459, li_460, li_2300, li_2760, nI_add, z_m6, z_m12, z_m30, z_l10, z_l12, z_l14, z_l17, z_l30, z_l460, z_sub, z_dec, z_dec0, z_m11, z_cl, z_leT, z_leF, z_ltT, z_ltF, z_eqT, z_eqF, z_em, z_me, z_mlt, z_mle, z_ltm, z_lem, z_mltm, z_mlem, z_nleT, z_nleF, z_nltT, z_nltF, or_false, or_self, false_or, or_true, true_or, not_true_eq_false, not_false_eq_true, ↓reduceIte, lt, z_ob, Nat.zero_add, Nat.add_zero, hnx, sp_X9_part_1, bX9_part_1, g1, g2, k1]
      cases b with
      | false =>
        refine ⟨fun q e => ?_, fun q o e => by (cases e)⟩
        cases e
        obtain ⟨v, hv⟩ := wdM_w h (show q1 ≤ 100 by omega)
        have k1 : fX9_says (nI n) (nI q1) (b2 (!false)) fi ma tx wo = some (nI q1, nI 1, nI 1, nI 0, wo) := by
          unfold fX9_says eX9_says
          rw [show fuelN = 999997 + 1 + 1 + 1 from rfl, show b2 (!false) = nI 1 from rfl]
          simp (disch := first | omega | assumption) only [↓z_m1, li_0, li_1, li_2, li_3, li_4, li_5, li_6, li_7, li_8, li_9, li_10, li_11, li_12, li_13, li_14, li_15, li_16, li_17, li_18, li_19, li_20, li_21, li_22, li_23, li_24, li_25, li_26, li_27, li_28, li_29, li_30, li_31, li_32, li_33, li_34, li_35, li_36, li_37, li_38, li_39, li_40, li_41, li_42, li_43, li_44, li_45, li_46, li_47, li_48, li_49, li_50, li_51, li_52, li_53, li_54, li_55, li_56, li_57, li_58, li_59, li_60, li_61, li_62, li_63, li_64, li_65, li_66, li_67, li_68, li_69, li_70, li_71, li_72, li_73, li_74, li_75, li_76, li_77, li_78, li_79, li_80, li_81, li_82, li_83, li_84, li_85, li_86, li_87, li_88, li_89, li_90, li_91, li_92, li_93, li_94, li_95, li_96, li_97, li_98, li_99, li_100, li_101, li_102, li_103, li_104, li_105, li_106, li_107, li_108, li_109, li_110, li_111, li_112, li_113, li_114, li_115, li_116, li_117, li_118, li_119, li_120, li_121, li_122, li_123, li_124, li_125, li_126, li_127, li_128, li_129, li_130, li_180, li_186, li_192, li_304, li_305, li_306, li_307, li_319, li_320, li_321, li_322, li_408, li_409, li_410, li_416, li_422, li_428, li_458, li_459, li_460, li_2300, li_2760, nI_add, z_m6, z_m12, z_m30, z_l10, z_l12, z_l14, z_l17, z_l30, z_l460, z_sub, z_dec, z_dec0, z_m11, z_cl, z_leT, z_leF, z_ltT, z_ltF, z_eqT, z_eqF, z_em, z_me, z_mlt, z_mle, z_ltm, z_lem, z_mltm, z_mlem, z_nleT, z_nleF, z_nltT, z_nltF, or_false, or_self, false_or, or_true, true_or, not_true_eq_false, not_false_eq_true, ↓reduceIte, lt, z_ob, Nat.zero_add, Nat.add_zero, sp_X9_says_1, bX9_says_1, hv, sp_X9_says_2, bX9_says_2]
        exact ⟨_, _, _, _, _, _, key _ _ _ _ _ k1⟩
      | true =>
        dsimp only
        obtain ⟨s0, s1⟩ := snM h (p := q1) tl.1 fi ma wo
        cases hs : snO tx n q1 with
        | mk r o2 =>
          cases o2 with
          | none =>
            obtain ⟨fi', ma', wo', k1⟩ := s0 r hs
            refine ⟨fun q e => ?_, fun q o e => by (cases e)⟩
            cases e
            exact ⟨_, _, _, _, _, _, key _ _ _ _ _ k1⟩
          | some Lu =>
            obtain ⟨L, u⟩ := Lu
            obtain ⟨wo', k1, k2⟩ := s1 r L u hs
            refine ⟨fun q e => by (cases e), fun q o e => ?_⟩
            cases e
            exact ⟨_, _, _, _, _, _, key _ _ _ _ _ k1, rfl, fun _ => ⟨rfl, rfl, k2⟩, fun h0 => by (rcases h0 with h0 | h0 <;> cases h0), fun h0 => by (cases h0)⟩
  rw [if_neg e115]
  by_cases e116 : chrN tx n p = 116
  · rw [if_pos e116]
    rw [e116] at hnx
    have hp1 : p + 1 ≤ n := chr_lt (by omega) e116
    cases ht : takL tx n (litL 4) p with
    | mk q1 b =>
      rw [show litL 4 = 116 :: [101, 97, 99, 104] from rfl, takL, if_pos e116] at ht
      have tl := tak_le [101, 97, 99, 104] (p + 1) q1 b (by decide) hp1 ht
      obtain ⟨u1, u2, u3, u4, u5, u6, g1, g2, g3, g4⟩ := sig_4 h hp1 (by omega) (by omega) (by omega) (by omega) (by omega) (by omega) (by omega) (by omega) ht
      have key : ∀ (a1 a2 a3 b1 b2' c1 c2 c3 d1 d2 x1 x2 x3 : Int32), fX9_digit (nI 0) (nI 5) (nI n) (nI q1) (b2 (!b)) tx = some (a1, a2, a3) → fX9_sign (nI 58) (nI n) a2 a3 tx = some (b1, b2') → fX9_word (nI n) b1 b2' tx = some (c1, c2, c3) → fX9_sign (nI 61) (nI n) c2 c3 tx = some (d1, d2) → (d2 = nI 1 ∨ d2 = nI 0 ∧ ∃ y, fX9_next (nI n) d1 tx = some (nI y) ∧ y ≤ 126 ∧ y ≠ 63) → fX9_word (nI n) d1 d2 tx = some (x1, x2, x3) → fX9_part (nI n) (nI p) (nI 0) le fi se th ma tx wo = some (x2, x3, nI 116, a1, c1, x1, ma, wo) := by
        intro a1 a2 a3 b1 b2' c1 c2 c3 d1 d2 x1 x2 x3 k1 k2 k3 k4 k5 k6
        unfold fX9_part eX9_part
        rw [show fuelN = 999998 + 1 + 1 from rfl]
        rcases k5 with rfl | ⟨rfl, y, k7, k8, k9⟩
        · simp (disch := first | omega | assumption) only [↓z_m1, li_0, li_1, li_2, li_3, li_4, li_5, li_6, li_7, li_8, li_9, li_10, li_11, li_12, li_13, li_14, li_15, li_16, li_17, li_18, li_19, li_20, li_21, li_22, li_23, li_24, li_25, li_26, li_27, li_28, li_29, li_30, li_31, li_32, li_33, li_34, li_35, li_36, li_37, li_38, li_39, li_40, li_41, li_42, li_43, li_44, li_45, li_46, li_47, li_48, li_49, li_50, li_51, li_52, li_53, li_54, li_55, li_56, li_57, li_58, li_59, li_60, li_61, li_62, li_63, li_64, li_65, li_66, li_67, li_68, li_69, li_70, li_71, li_72, li_73, li_74, li_75, li_76, li_77, li_78, li_79, li_80, li_81, li_82, li_83, li_84, li_85, li_86, li_87, li_88, li_89, li_90, li_91, li_92, li_93, li_94, li_95, li_96, li_97, li_98, li_99, li_100, li_101, li_102, li_103, li_104, li_105, li_106, li_107, li_108, li_109, li_110, li_111, li_112, li_113, li_114, li_115, li_116, li_117, li_118, li_119, li_120, li_121, li_122, li_123, li_124, li_125, li_126, li_127, li_128, li_129, li_130, li_180, li_186, li_192, li_304, li_305, li_306, li_307, li_319, li_320, li_321, li_322, li_408, li_409, li_410, li_416, li_422, li_428, li_458, li_459, li_460, li_2300, li_2760, nI_add, z_m6, z_m12, z_m30, z_l10, z_l12, z_l14, z_l17, z_l30, z_l460, z_sub, z_dec, z_dec0, z_m11, z_cl, z_leT, z_leF, z_ltT, z_ltF, z_eqT, z_eqF, z_em, z_me, z_mlt, z_mle, z_ltm, z_lem, z_mltm, z_mlem, z_nleT, z_nleF, z_nltT, z_nltF, or_false, or_self, false_or, or_true, true_or, not_true_eq_false, not_false_eq_true, ↓reduceIte, lt, z_ob, Nat.zero_add, Nat.add_zero, hnx, sp_X9_part_1, bX9_part_1, g1, g2, g3, g4, k1, k2, k3, k4, sp_X9_part_5, bX9_part_5, k6]
        · simp (disch := first | omega | assumption) only [↓z_m1, li_0, li_1, li_2, li_3, li_4, li_5, li_6, li_7, li_8, li_9, li_10, li_11, li_12, li_13, li_14, li_15, li_16, li_17, li_18, li_19, li_20, li_21, li_22, li_23, li_24, li_25, li_26, li_27, li_28, li_29, li_30, li_31, li_32, li_33, li_34, li_35, li_36, li_37, li_38, li_39, li_40, li_41, li_42, li_43, li_44, li_45, li_46, li_47, li_48, li_49, li_50, li_51, li_52, li_53, li_54, li_55, li_56, li_57, li_58, li_59, li_60, li_61, li_62, li_63, li_64, li_65, li_66, li_67, li_68, li_69, li_70, li_71, li_72, li_73, li_74, li_75, li_76, li_77, li_78, li_79, li_80, li_81, li_82, li_83, li_84, li_85, li_86, li_87, li_88, li_89, li_90, li_91, li_92, li_93, li_94, li_95, li_96, li_97, li_98, li_99, li_100, li_101, li_102, li_103, li_104, li_105, li_106, li_107, li_108, li_109, li_110, li_111, li_112, li_113, li_114, li_115, li_116, li_117, li_118, li_119, li_120, li_121, li_122, li_123, li_124, li_125, li_126, li_127, li_128, li_129, li_130, li_180, li_186, li_192, li_304, li_305, li_306, li_307, li_319, li_320, li_321, li_322, li_408, li_409, li_410, li_416, li_422, li_428, li_458, li_459, li_460, li_2300, li_2760, nI_add, z_m6, z_m12, z_m30, z_l10, z_l12, z_l14, z_l17, z_l30, z_l460, z_sub, z_dec, z_dec0, z_m11, z_cl, z_leT, z_leF, z_ltT, z_ltF, z_eqT, z_eqF, z_em, z_me, z_mlt, z_mle, z_ltm, z_lem, z_mltm, z_mlem, z_nleT, z_nleF, z_nltT, z_nltF, or_false, or_self, false_or, or_true, true_or, not_true_eq_false, not_false_eq_true, ↓reduceIte, lt, z_ob, Nat.zero_add, Nat.add_zero, hnx, sp_X9_part_1, bX9_part_1, g1, g2, g3, g4, k1, k2, k3, k4, k7, sp_X9_part_5, bX9_part_5, k6]
      cases b with
      | false =>
        refine ⟨fun q e => ?_, fun q o e => by (cases e)⟩
        cases e
        obtain ⟨v1, k1⟩ := digM_w h (nI 0) (nI 5) (show q1 ≤ 100 by omega)
        obtain ⟨v2, k2⟩ := wdM_w h (show q1 ≤ 100 by omega)
        exact ⟨_, _, _, _, _, _, key _ _ _ _ _ _ _ _ _ _ _ _ _ k1 (sign_w _ _ _ _) k2 (sign_w _ _ _ _) (Or.inl rfl) k2⟩
      | true =>
        dsimp only
        unfold lsO
        cases hd : dgO tx n 0 5 q1 with
        | none =>
          refine ⟨fun q e => ?_, fun q o e => by (cases e)⟩
          cases e
          obtain ⟨v1, k1⟩ := digM_0 h (show q1 ≤ 100 by omega) (show 0 ≤ 9 by omega) (show 5 ≤ 9 by omega) hd
          obtain ⟨v2, k2⟩ := wdM_w h (show q1 ≤ 100 by omega)
          exact ⟨_, _, _, _, _, _, key _ _ _ _ _ _ _ _ _ _ _ _ _ k1 (sign_w _ _ _ _) k2 (sign_w _ _ _ _) (Or.inl rfl) k2⟩
        | some l =>
          dsimp only
          obtain ⟨d1, d2, d3, d4⟩ := dg_some hd
          have k1 := digM_1 h (show 0 ≤ 9 by omega) (show 5 ≤ 9 by omega) hd
          by_cases e1 : chrN tx n (q1 + 1) = 58
          · rw [if_pos e1]
            have hl1 := chr_lt (by omega) e1
            have k2 := sign_1 h (show q1 + 1 ≤ 100 by omega) (show 58 ≤ 126 by omega) e1
            cases hw : wdO tx n (q1 + 2) with
            | mk q2 o3 =>
              cases o3 with
              | none =>
                have hq2 := (wd_none hw).1
                refine ⟨fun q e => ?_, fun q o e => by (cases e)⟩
                cases e
                obtain ⟨v3, k3⟩ := wdM_0 h (show q1 + 2 ≤ 100 by omega) hw
                obtain ⟨v4, k4⟩ := wdM_w h (show q2 ≤ 100 by omega)
                exact ⟨_, _, _, _, _, _, key _ _ _ _ _ _ _ _ _ _ _ _ _ k1 k2 k3 (sign_w _ _ _ _) (Or.inl rfl) k4⟩
              | some w =>
                dsimp only
                obtain ⟨w1, w2, w3⟩ := wd_some hw
                have k3 := wdM_1 h hw
                by_cases e2 : chrN tx n q2 = 61
                · rw [if_pos e2]
                  have hl2 := chr_lt (by omega) e2
                  have k4 := sign_1 h (show q2 ≤ 100 by omega) (show 61 ≤ 126 by omega) e2
                  have k7 := next_M h (show q2 + 1 ≤ 100 by omega)
                  have hle2 := chr_le h (q2 + 1)
                  by_cases e3 : chrN tx n (q2 + 1) = 63
                  · rw [if_pos e3]
                    rw [e3] at k7
                    refine ⟨fun q e => by (cases e), fun q o e => ?_⟩
                    cases e
                    refine ⟨nI 116, nI l, nI w, mI, ma, wo, ?_, rfl, fun h0 => by (cases h0), fun h0 => by (rcases h0 with h0 | h0 <;> cases h0), fun _ => ⟨rfl, rfl, rfl⟩⟩
                    have k1' : fX9_digit (nI 0) (nI 5) (nI n) (nI q1) (b2 (!true)) tx = some (nI l, nI (q1 + 1), nI 0) := k1
                    unfold fX9_part eX9_part
                    rw [show fuelN = 999998 + 1 + 1 from rfl]
                    simp (disch := first | omega | assumption) only [↓z_m1, li_0, li_1, li_2, li_3, li_4, li_5, li_6, li_7, li_8, li_9, li_10, li_11, li_12, li_13, li_14, li_15, li_16, li_17, li_18, li_19, li_20, li_21, li_22, li_23, li_24, li_25, li_26, li_27, li_28, li_29, li_30, li_31, li_32, li_33, li_34, li_35, li_36, li_37, li_38, li_39, li_40, li_41, li_42, li_43, li_44, li_45, li_46, li_47, li_48, li_49, li_50, li_51, li_52, li_53, li_54, li_55, li_56, li_57, li_58, li_59, li_60, li_61, li_62, li_63, li_64, li_65, li_66, li_67, li_68, li_69, li_70, li_71, li_72, li_73, li_74, li_75, li_76, li_77, li_78, li_79, li_80, li_81, li_82, li_83, li_84, li_85, li_86, li_87, li_88, li_89, li_90, li_91, li_92, li_93, li_94, li_95, li_96, li_97, li_98, li_99, li_100, li_101, li_102, li_103, li_104, li_105, li_106, li_107, li_108, li_109, li_110, li_111, li_112, li_113, li_114, li_115, li_116, li_117, li_118, li_119, li_120, li_121, li_122, li_123, li_124, li_125, li_126, li_127, li_128, li_129, li_130, li_180, li_186, li_192, li_304, li_305, li_306, li_307, li_319, li_320, li_321, li_322, li_408, li_409, li_410, li_416, li_422, li_428, li_458, li_459, li_460, li_2300, li_2760, nI_add, z_m6, z_m12, z_m30, z_l10, z_l12, z_l14, z_l17, z_l30, z_l460, z_sub, z_dec, z_dec0, z_m11, z_cl, z_leT, z_leF, z_ltT, z_ltF, z_eqT, z_eqF, z_em, z_me, z_mlt, z_mle, z_ltm, z_lem, z_mltm, z_mlem, z_nleT, z_nleF, z_nltT, z_nltF, or_false, or_self, false_or, or_true, true_or, not_true_eq_false, not_false_eq_true, ↓reduceIte, lt, z_ob, Nat.zero_add, Nat.add_zero, hnx, sp_X9_part_1, bX9_part_1, g1, g2, g3, g4, k1', k2, k3, k4, k7]
                  · rw [if_neg e3]
                    cases hv : wdO tx n (q2 + 1) with
                    | mk r o4 =>
                      cases o4 with
                      | none =>
                        refine ⟨fun q e => ?_, fun q o e => by (cases e)⟩
                        cases e
                        obtain ⟨v5, k5⟩ := wdM_0 h (show q2 + 1 ≤ 100 by omega) hv
                        exact ⟨_, _, _, _, _, _, key _ _ _ _ _ _ _ _ _ _ _ _ _ k1 k2 k3 k4 (Or.inr ⟨rfl, _, k7, hle2, e3⟩) k5⟩
                      | some v =>
                        obtain ⟨v1, v2, v3⟩ := wd_some hv
                        refine ⟨fun q e => by (cases e), fun q o e => ?_⟩
                        cases e
                        exact ⟨_, _, _, _, _, _, key _ _ _ _ _ _ _ _ _ _ _ _ _ k1 k2 k3 k4 (Or.inr ⟨rfl, _, k7, hle2, e3⟩) (wdM_1 h hv), rfl, fun h0 => by (cases h0), fun h0 => by (rcases h0 with h0 | h0 <;> cases h0), fun _ => ⟨rfl, rfl, (mz_lt v3).symm⟩⟩
                · rw [if_neg e2]
                  refine ⟨fun q e => ?_, fun q o e => by (cases e)⟩
                  cases e
                  obtain ⟨v4, k4⟩ := wdM_w h (show q2 ≤ 100 by omega)
                  exact ⟨_, _, _, _, _, _, key _ _ _ _ _ _ _ _ _ _ _ _ _ k1 k2 k3 (sign_0 h (show q2 ≤ 100 by omega) (show 61 ≤ 126 by omega) e2) (Or.inl rfl) k4⟩
          · rw [if_neg e1]
            refine ⟨fun q e => ?_, fun q o e => by (cases e)⟩
            cases e
            obtain ⟨v4, k4⟩ := wdM_w h (show q1 + 1 ≤ 100 by omega)
            exact ⟨_, _, _, _, _, _, key _ _ _ _ _ _ _ _ _ _ _ _ _ k1 (sign_0 h (show q1 + 1 ≤ 100 by omega) (show 58 ≤ 126 by omega) e1) k4 (sign_w _ _ _ _) (Or.inl rfl) k4⟩
  rw [if_neg e116]
  refine ⟨fun q e => ?_, fun q o e => by (cases e)⟩
  cases e
  refine ⟨nI (chrN tx n p), fi, se, th, ma, wo, ?_⟩
  unfold fX9_part eX9_part
  rw [fuN1]
  simp (disch := first | omega | assumption) only [↓z_m1, li_0, li_1, li_2, li_3, li_4, li_5, li_6, li_7, li_8, li_9, li_10, li_11, li_12, li_13, li_14, li_15, li_16, li_17, li_18, li_19, li_20, li_21, li_22, li_23, li_24, li_25, li_26, li_27, li_28, li_29, li_30, li_31, li_32, li_33, li_34, li_35, li_36, li_37, li_38, li_39, li_40, li_41, li_42, li_43, li_44, li_45, li_46, li_47, li_48, li_49, li_50, li_51, li_52, li_53, li_54, li_55, li_56, li_57, li_58, li_59, li_60, li_61, li_62, li_63, li_64, li_65, li_66, li_67, li_68, li_69, li_70, li_71, li_72, li_73, li_74, li_75, li_76, li_77, li_78, li_79, li_80, li_81, li_82, li_83, li_84, li_85, li_86, li_87, li_88, li_89, li_90, li_91, li_92, li_93, li_94, li_95, li_96, li_97, li_98, li_99, li_100, li_101, li_102, li_103, li_104, li_105, li_106, li_107, li_108, li_109, li_110, li_111, li_112, li_113, li_114, li_115, li_116, li_117, li_118, li_119, li_120, li_121, li_122, li_123, li_124, li_125, li_126, li_127, li_128, li_129, li_130, li_180, li_186, li_192, li_304, li_305, li_306, li_307, li_319, li_320, li_321, li_322, li_408, li_409, li_410, li_416, li_422, li_428, li_458, li_459, li_460, li_2300, li_2760, nI_add, z_m6, z_m12, z_m30, z_l10, z_l12, z_l14, z_l17, z_l30, z_l460, z_sub, z_dec, z_dec0, z_m11, z_cl, z_leT, z_leF, z_ltT, z_ltF, z_eqT, z_eqF, z_em, z_me, z_mlt, z_mle, z_ltm, z_lem, z_mltm, z_mlem, z_nleT, z_nleF, z_nltT, z_nltF, or_false, or_self, false_or, or_true, true_or, not_true_eq_false, not_false_eq_true, ↓reduceIte, lt, z_ob, Nat.zero_add, Nat.add_zero, hnx, sp_X9_part_1, bX9_part_1]
/-- all orders, from p on; within k of them -/
def whF (tx : Nat → Int32) (n : Nat) : Nat → Nat → Nat × Bool
  | 0, p => (p, false)
  | k + 1, p => match ptO tx n p with
    | (q, none) => (q, false)
    | (q, some _) => if q = n then (q, true) else if chrN tx n q = 59 then whF tx n k (q + 1) else (q, false)
theorem whX_r (h : BR n cs tx) : ∀ (k i p : Nat) (kd li wo va sl su : Int32) (sw : Nat → Int32) (q : Nat) (b : Bool) (fu : Nat), i + k = 60 → p ≤ n → whF tx n k p = (q, b) → k < fu →
    ∃ kd' li' wo' va' sl' su' sw', rX3_readAll (nI n) cs fu 1 (nI i) (nI p) kd li wo va sl su sw = some (b2 b, nI q, kd', li', wo', va', sl', su', sw') := by
  have h60 := h.1
  intro k
  induction k with
  | zero =>
    intro i p kd li wo va sl su sw q b fu hi hp hw hf
    obtain ⟨fu, rfl⟩ := fuS hf
    cases hw
    obtain rfl : i = 60 := by omega
    refine ⟨kd, li, wo, va, sl, su, sw, ?_⟩
    simp (disch := first | omega | assumption) only [↓z_m1, li_0, li_1, li_2, li_3, li_4, li_5, li_6, li_7, li_8, li_9, li_10, li_11, li_12, li_13, li_14, li_15, li_16, li_17, li_18, li_19, li_20, li_21, li_22, li_23, li_24, li_25, li_26, li_27, li_28, li_29, li_30, li_31, li_32, li_33, li_34, li_35, li_36, li_37, li_38, li_39, li_40, li_41, li_42, li_43, li_44, li_45, li_46, li_47, li_48, li_49, li_50, li_51, li_52, li_53, li_54, li_55, li_56, li_57, li_58, li_59, li_60, li_61, li_62, li_63, li_64, li_65, li_66, li_67, li_68, li_69, li_70, li_71, li_72, li_73, li_74, li_75, li_76, li_77, li_78, li_79, li_80, li_81, li_82, li_83, li_84, li_85, li_86, li_87, li_88, li_89, li_90, li_91, li_92, li_93, li_94, li_95, li_96, li_97, li_98, li_99, li_100, li_101, li_102, li_103, li_104, li_105, li_106, li_107, li_108, li_109, li_110, li_111, li_112, li_113, li_114, li_115, li_116, li_117, li_118, li_119, li_120, li_121, li_122, li_123, li_124, li_125, li_126, li_127, li_128, li_129, li_130, li_180, li_186, li_192, li_304, li_305, li_306, li_307, li_319, li_320, li_321, li_322, li_408, li_409, li_410, li_416, li_422, li_428, li_458, li_459, li_460, li_2300, li_2760, nI_add, z_m6, z_m12, z_m30, z_l10, z_l12, z_l14, z_l17, z_l30, z_l460, z_sub, z_dec, z_dec0, z_m11, z_cl, z_leT, z_leF, z_ltT, z_ltF, z_eqT, z_eqF, z_em, z_me, z_mlt, z_mle, z_ltm, z_lem, z_mltm, z_mlem, z_nleT, z_nleF, z_nltT, z_nltF, or_false, or_self, false_or, or_true, true_or, not_true_eq_false, not_false_eq_true, ↓reduceIte, lt, z_ob, Nat.zero_add, Nat.add_zero, sp_X3_readAll_1, bX3_readAll_1, b2_f]
  | succ k ih =>
    intro i p kd li wo va sl su sw q b fu hi hp hw hf
    obtain ⟨fu, rfl⟩ := fuS hf
    rw [whF] at hw
    obtain ⟨x0, x1⟩ := ptX h hp kd li wo va sl su sw
    cases ht : ptO tx n p with
    | mk q1 o =>
      rw [ht] at hw
      cases o with
      | none =>
        cases hw
        obtain ⟨-, kd', li', wo', va', sl', su', sw', e1⟩ := x0 _ ht
        refine ⟨kd', li', wo', va', sl', su', sw', ?_⟩
        simp (disch := first | omega | assumption) only [↓z_m1, li_0, li_1, li_2, li_3, li_4, li_5, li_6, li_7, li_8, li_9, li_10, li_11, li_12, li_13, li_14, li_15, li_16, li_17, li_18, li_19, li_20, li_21, li_22, li_23, li_24, li_25, li_26, li_27, li_28, li_29, li_30, li_31, li_32, li_33, li_34, li_35, li_36, li_37, li_38, li_39, li_40, li_41, li_42, li_43, li_44, li_45, li_46, li_47, li_48, li_49, li_50, li_51, li_52, li_53, li_54, li_55, li_56, li_57, li_58, li_59, li_60, li_61, li_62, li_63, li_64, li_65, li_66, li_67, li_68, li_69, li_70, li_71, li_72, li_73, li_74, li_75, li_76, li_77, li_78, li_79, li_80, li_81, li_82, li_83, li_84, li_85, li_86, li_87, li_88, li_89, li_90, li_91, li_92, li_93, li_94, li_95, li_96, li_97, li_98, li_99, li_100, li_101, li_102, li_103, li_104, li_105, li_106, li_107, li_108, li_109, li_110, li_111, li_112, li_113, li_114, li_115, li_116, li_117, li_118, li_119, li_120, li_121, li_122, li_123, li_124, li_125, li_126, li_127, li_128, li_129, li_130, li_180, li_186, li_192, li_304, li_305, li_306, li_307, li_319, li_320, li_321, li_322, li_408, li_409, li_410, li_416, li_422, li_428, li_458, li_459, li_460, li_2300, li_2760, nI_add, z_m6, z_m12, z_m30, z_l10, z_l12, z_l14, z_l17, z_l30, z_l460, z_sub, z_dec, z_dec0, z_m11, z_cl, z_leT, z_leF, z_ltT, z_ltF, z_eqT, z_eqF, z_em, z_me, z_mlt, z_mle, z_ltm, z_lem, z_mltm, z_mlem, z_nleT, z_nleF, z_nltT, z_nltF, or_false, or_self, false_or, or_true, true_or, not_true_eq_false, not_false_eq_true, ↓reduceIte, lt, z_ob, Nat.zero_add, Nat.add_zero, sp_X3_readAll_1, bX3_readAll_1, e1, b2_f]
      | some o =>
        obtain ⟨y1, y2, y3, kd', li', wo', va', sl', su', sw', e1, -⟩ := x1 q1 o ht
        dsimp only at hw
        by_cases e2 : q1 = n
        · rw [if_pos e2] at hw
          cases hw
          refine ⟨kd', li', wo', va', sl', su', sw', ?_⟩
          simp (disch := first | omega | assumption) only [↓z_m1, li_0, li_1, li_2, li_3, li_4, li_5, li_6, li_7, li_8, li_9, li_10, li_11, li_12, li_13, li_14, li_15, li_16, li_17, li_18, li_19, li_20, li_21, li_22, li_23, li_24, li_25, li_26, li_27, li_28, li_29, li_30, li_31, li_32, li_33, li_34, li_35, li_36, li_37, li_38, li_39, li_40, li_41, li_42, li_43, li_44, li_45, li_46, li_47, li_48, li_49, li_50, li_51, li_52, li_53, li_54, li_55, li_56, li_57, li_58, li_59, li_60, li_61, li_62, li_63, li_64, li_65, li_66, li_67, li_68, li_69, li_70, li_71, li_72, li_73, li_74, li_75, li_76, li_77, li_78, li_79, li_80, li_81, li_82, li_83, li_84, li_85, li_86, li_87, li_88, li_89, li_90, li_91, li_92, li_93, li_94, li_95, li_96, li_97, li_98, li_99, li_100, li_101, li_102, li_103, li_104, li_105, li_106, li_107, li_108, li_109, li_110, li_111, li_112, li_113, li_114, li_115, li_116, li_117, li_118, li_119, li_120, li_121, li_122, li_123, li_124, li_125, li_126, li_127, li_128, li_129, li_130, li_180, li_186, li_192, li_304, li_305, li_306, li_307, li_319, li_320, li_321, li_322, li_408, li_409, li_410, li_416, li_422, li_428, li_458, li_459, li_460, li_2300, li_2760, nI_add, z_m6, z_m12, z_m30, z_l10, z_l12, z_l14, z_l17, z_l30, z_l460, z_sub, z_dec, z_dec0, z_m11, z_cl, z_leT, z_leF, z_ltT, z_ltF, z_eqT, z_eqF, z_em, z_me, z_mlt, z_mle, z_ltm, z_lem, z_mltm, z_mlem, z_nleT, z_nleF, z_nltT, z_nltF, or_false, or_self, false_or, or_true, true_or, not_true_eq_false, not_false_eq_true, ↓reduceIte, lt, z_ob, Nat.zero_add, Nat.add_zero, sp_X3_readAll_1, bX3_readAll_1, e1, e2, b2_t]
        · rw [if_neg e2] at hw
          by_cases e3 : chrN tx n q1 = 59
          · rw [if_pos e3] at hw
            have hl := chr_lt (by omega) e3
            obtain ⟨kd2, li2, wo2, va2, sl2, su2, sw2, e4⟩ := ih (i + 1) (q1 + 1) kd' li' wo' va' sl' su' sw' q b fu (by omega) (by omega) hw (by omega)
            refine ⟨kd2, li2, wo2, va2, sl2, su2, sw2, ?_⟩
            rw [← e4]
            simp (disch := first | omega | assumption) only [↓z_m1, li_0, li_1, li_2, li_3, li_4, li_5, li_6, li_7, li_8, li_9, li_10, li_11, li_12, li_13, li_14, li_15, li_16, li_17, li_18, li_19, li_20, li_21, li_22, li_23, li_24, li_25, li_26, li_27, li_28, li_29, li_30, li_31, li_32, li_33, li_34, li_35, li_36, li_37, li_38, li_39, li_40, li_41, li_42, li_43, li_44, li_45, li_46, li_47, li_48, li_49, li_50, li_51, li_52, li_53, li_54, li_55, li_56, li_57, li_58, li_59, li_60, li_61, li_62, li_63, li_64, li_65, li_66, li_67, li_68, li_69, li_70, li_71, li_72, li_73, li_74, li_75, li_76, li_77, li_78, li_79, li_80, li_81, li_82, li_83, li_84, li_85, li_86, li_87, li_88, li_89, li_90, li_91, li_92, li_93, li_94, li_95, li_96, li_97, li_98, li_99, li_100, li_101, li_102, li_103, li_104, li_105, li_106, li_107, li_108, li_109, li_110, li_111, li_112, li_113, li_114, li_115, li_116, li_117, li_118, li_119, li_120, li_121, li_122, li_123, li_124, li_125, li_126, li_127, li_128, li_129, li_130, li_180, li_186, li_192, li_304, li_305, li_306, li_307, li_319, li_320, li_321, li_322, li_408, li_409, li_410, li_416, li_422, li_428, li_458, li_459, li_460, li_2300, li_2760, nI_add, z_m6, z_m12, z_m30, z_l10, z_l12, z_l14, z_l17, z_l30, z_l460, z_sub, z_dec, z_dec0, z_m11, z_cl, z_leT, z_leF, z_ltT, z_ltF, z_eqT, z_eqF, z_em, z_me, z_mlt, z_mle, z_ltm, z_lem, z_mltm, z_mlem, z_nleT, z_nleF, z_nltT, z_nltF, or_false, or_self, false_or, or_true, true_or, not_true_eq_false, not_false_eq_true, ↓reduceIte, lt, z_ob, Nat.zero_add, Nat.add_zero, sp_X3_readAll_1, bX3_readAll_1, e1, take_1 h (show q1 ≤ 100 by omega) (show 0 < 59 by omega) (show 59 ≤ 126 by omega) e3]
          · rw [if_neg e3] at hw
            cases hw
            refine ⟨kd', li', wo', va', sl', su', sw', ?_⟩
            simp (disch := first | omega | assumption) only [↓z_m1, li_0, li_1, li_2, li_3, li_4, li_5, li_6, li_7, li_8, li_9, li_10, li_11, li_12, li_13, li_14, li_15, li_16, li_17, li_18, li_19, li_20, li_21, li_22, li_23, li_24, li_25, li_26, li_27, li_28, li_29, li_30, li_31, li_32, li_33, li_34, li_35, li_36, li_37, li_38, li_39, li_40, li_41, li_42, li_43, li_44, li_45, li_46, li_47, li_48, li_49, li_50, li_51, li_52, li_53, li_54, li_55, li_56, li_57, li_58, li_59, li_60, li_61, li_62, li_63, li_64, li_65, li_66, li_67, li_68, li_69, li_70, li_71, li_72, li_73, li_74, li_75, li_76, li_77, li_78, li_79, li_80, li_81, li_82, li_83, li_84, li_85, li_86, li_87, li_88, li_89, li_90, li_91, li_92, li_93, li_94, li_95, li_96, li_97, li_98, li_99, li_100, li_101, li_102, li_103, li_104, li_105, li_106, li_107, li_108, li_109, li_110, li_111, li_112, li_113, li_114, li_115, li_116, li_117, li_118, li_119, li_120, li_121, li_122, li_123, li_124, li_125, li_126, li_127, li_128, li_129, li_130, li_180, li_186, li_192, li_304, li_305, li_306, li_307, li_319, li_320, li_321, li_322, li_408, li_409, li_410, li_416, li_422, li_428, li_458, li_459, li_460, li_2300, li_2760, nI_add, z_m6, z_m12, z_m30, z_l10, z_l12, z_l14, z_l17, z_l30, z_l460, z_sub, z_dec, z_dec0, z_m11, z_cl, z_leT, z_leF, z_ltT, z_ltF, z_eqT, z_eqF, z_em, z_me, z_mlt, z_mle, z_ltm, z_lem, z_mltm, z_mlem, z_nleT, z_nleF, z_nltT, z_nltF, or_false, or_self, false_or, or_true, true_or, not_true_eq_false, not_false_eq_true, ↓reduceIte, lt, z_ob, Nat.zero_add, Nat.add_zero, sp_X3_readAll_1, bX3_readAll_1, e1, take_0 h (show q ≤ 100 by omega) (show 0 < 59 by omega) (show 59 ≤ 126 by omega) e3, b2_f]
theorem whX (h : BR n cs tx) (po kd li wo va sl su : Int32) (sw : Nat → Int32) {q : Nat} {b : Bool} (hw : whF tx n 60 0 = (q, b)) : ∃ kd' li' wo' va' sl' su' sw', fX3_readAll (nI n) po kd li wo va cs sl su sw = some (b2 b, nI q, kd', li', wo', va', sl', su', sw') := by
  obtain ⟨kd', li', wo', va', sl', su', sw', e⟩ := whX_r h 60 0 0 kd li wo va sl su sw q b fuelN (by omega) (by omega) hw (by decide)
  refine ⟨kd', li', wo', va', sl', su', sw', ?_⟩
  unfold fX3_readAll eX3_readAll fX3_startReading
  simp (disch := first | omega | assumption) only [↓z_m1, li_0, li_1, li_2, li_3, li_4, li_5, li_6, li_7, li_8, li_9, li_10, li_11, li_12, li_13, li_14, li_15, li_16, li_17, li_18, li_19, li_20, li_21, li_22, li_23, li_24, li_25, li_26, li_27, li_28, li_29, li_30, li_31, li_32, li_33, li_34, li_35, li_36, li_37, li_38, li_39, li_40, li_41, li_42, li_43, li_44, li_45, li_46, li_47, li_48, li_49, li_50, li_51, li_52, li_53, li_54, li_55, li_56, li_57, li_58, li_59, li_60, li_61, li_62, li_63, li_64, li_65, li_66, li_67, li_68, li_69, li_70, li_71, li_72, li_73, li_74, li_75, li_76, li_77, li_78, li_79, li_80, li_81, li_82, li_83, li_84, li_85, li_86, li_87, li_88, li_89, li_90, li_91, li_92, li_93, li_94, li_95, li_96, li_97, li_98, li_99, li_100, li_101, li_102, li_103, li_104, li_105, li_106, li_107, li_108, li_109, li_110, li_111, li_112, li_113, li_114, li_115, li_116, li_117, li_118, li_119, li_120, li_121, li_122, li_123, li_124, li_125, li_126, li_127, li_128, li_129, li_130, li_180, li_186, li_192, li_304, li_305, li_306, li_307, li_319, li_320, li_321, li_322, li_408, li_409, li_410, li_416, li_422, li_428, li_458, li_459, li_460, li_2300, li_2760, nI_add, z_m6, z_m12, z_m30, z_l10, z_l12, z_l14, z_l17, z_l30, z_l460, z_sub, z_dec, z_dec0, z_m11, z_cl, z_leT, z_leF, z_ltT, z_ltF, z_eqT, z_eqF, z_em, z_me, z_mlt, z_mle, z_ltm, z_lem, z_mltm, z_mlem, z_nleT, z_nleF, z_nltT, z_nltF, or_false, or_self, false_or, or_true, true_or, not_true_eq_false, not_false_eq_true, ↓reduceIte, lt, z_ob, Nat.zero_add, Nat.add_zero, e]
theorem whM_r (h : BR n cs tx) : ∀ (k p : Nat) (le fi se th ma : Int32) (wo : Nat → Int32) (q : Nat) (b : Bool) (fu : Nat), p ≤ n → n < p + 3 * k → whF tx n k p = (q, b) → 2 * k + 1 < fu →
    ∃ le' fi' se' th' ma' wo', rX9_isWhole (nI n) tx fu 1 (nI 1) (nI 0) (nI p) (nI 0) le fi se th ma wo = some (b2 b, nI q, b2 (!b), le', fi', se', th', ma', wo') := by
  have h60 := h.1
  intro k
  induction k with
  | zero => intro p le fi se th ma wo q b fu hp hn; omega
  | succ k ih =>
    intro p le fi se th ma wo q b fu hp hn hw hf
    obtain ⟨fu, rfl⟩ : ∃ z, fu = z + 1 + 1 + 1 := ⟨fu - 3, by omega⟩
    rw [whF] at hw
    obtain ⟨x0, x1⟩ := ptM h hp le fi se th ma wo
    have xx := ptX h hp 0 0 0 0 0 0 wo
    cases ht : ptO tx n p with
    | mk q1 o =>
      rw [ht] at hw
      cases o with
      | none =>
        cases hw
        have hq := (xx.1 _ ht).1
        obtain ⟨le', fi', se', th', ma', wo', e1⟩ := x0 _ ht
        refine ⟨le', fi', se', th', ma', wo', ?_⟩
        simp (disch := first | omega | assumption) only [↓z_m1, li_0, li_1, li_2, li_3, li_4, li_5, li_6, li_7, li_8, li_9, li_10, li_11, li_12, li_13, li_14, li_15, li_16, li_17, li_18, li_19, li_20, li_21, li_22, li_23, li_24, li_25, li_26, li_27, li_28, li_29, li_30, li_31, li_32, li_33, li_34, li_35, li_36, li_37, li_38, li_39, li_40, li_41, li_42, li_43, li_44, li_45, li_46, li_47, li_48, li_49, li_50, li_51, li_52, li_53, li_54, li_55, li_56, li_57, li_58, li_59, li_60, li_61, li_62, li_63, li_64, li_65, li_66, li_67, li_68, li_69, li_70, li_71, li_72, li_73, li_74, li_75, li_76, li_77, li_78, li_79, li_80, li_81, li_82, li_83, li_84, li_85, li_86, li_87, li_88, li_89, li_90, li_91, li_92, li_93, li_94, li_95, li_96, li_97, li_98, li_99, li_100, li_101, li_102, li_103, li_104, li_105, li_106, li_107, li_108, li_109, li_110, li_111, li_112, li_113, li_114, li_115, li_116, li_117, li_118, li_119, li_120, li_121, li_122, li_123, li_124, li_125, li_126, li_127, li_128, li_129, li_130, li_180, li_186, li_192, li_304, li_305, li_306, li_307, li_319, li_320, li_321, li_322, li_408, li_409, li_410, li_416, li_422, li_428, li_458, li_459, li_460, li_2300, li_2760, nI_add, z_m6, z_m12, z_m30, z_l10, z_l12, z_l14, z_l17, z_l30, z_l460, z_sub, z_dec, z_dec0, z_m11, z_cl, z_leT, z_leF, z_ltT, z_ltF, z_eqT, z_eqF, z_em, z_me, z_mlt, z_mle, z_ltm, z_lem, z_mltm, z_mlem, z_nleT, z_nleF, z_nltT, z_nltF, or_false, or_self, false_or, or_true, true_or, not_true_eq_false, not_false_eq_true, ↓reduceIte, lt, z_ob, Nat.zero_add, Nat.add_zero, sp_X9_isWhole_1, bX9_isWhole_1, e1, sp_X9_isWhole_2, bX9_isWhole_2, b2_f]
        rfl
      | some o =>
        obtain ⟨y1, y2, y3, -⟩ := xx.2 q1 o ht
        obtain ⟨le', fi', se', th', ma', wo', e1, -⟩ := x1 q1 o ht
        dsimp only at hw
        by_cases e2 : q1 = n
        · rw [if_pos e2] at hw
          cases hw
          refine ⟨le', fi', se', th', ma', wo', ?_⟩
          simp (disch := first | omega | assumption) only [↓z_m1, li_0, li_1, li_2, li_3, li_4, li_5, li_6, li_7, li_8, li_9, li_10, li_11, li_12, li_13, li_14, li_15, li_16, li_17, li_18, li_19, li_20, li_21, li_22, li_23, li_24, li_25, li_26, li_27, li_28, li_29, li_30, li_31, li_32, li_33, li_34, li_35, li_36, li_37, li_38, li_39, li_40, li_41, li_42, li_43, li_44, li_45, li_46, li_47, li_48, li_49, li_50, li_51, li_52, li_53, li_54, li_55, li_56, li_57, li_58, li_59, li_60, li_61, li_62, li_63, li_64, li_65, li_66, li_67, li_68, li_69, li_70, li_71, li_72, li_73, li_74, li_75, li_76, li_77, li_78, li_79, li_80, li_81, li_82, li_83, li_84, li_85, li_86, li_87, li_88, li_89, li_90, li_91, li_92, li_93, li_94, li_95, li_96, li_97, li_98, li_99, li_100, li_101, li_102, li_103, li_104, li_105, li_106, li_107, li_108, li_109, li_110, li_111, li_112, li_113, li_114, li_115, li_116, li_117, li_118, li_119, li_120, li_121, li_122, li_123, li_124, li_125, li_126, li_127, li_128, li_129, li_130, li_180, li_186, li_192, li_304, li_305, li_306, li_307, li_319, li_320, li_321, li_322, li_408, li_409, li_410, li_416, li_422, li_428, li_458, li_459, li_460, li_2300, li_2760, nI_add, z_m6, z_m12, z_m30, z_l10, z_l12, z_l14, z_l17, z_l30, z_l460, z_sub, z_dec, z_dec0, z_m11, z_cl, z_leT, z_leF, z_ltT, z_ltF, z_eqT, z_eqF, z_em, z_me, z_mlt, z_mle, z_ltm, z_lem, z_mltm, z_mlem, z_nleT, z_nleF, z_nltT, z_nltF, or_false, or_self, false_or, or_true, true_or, not_true_eq_false, not_false_eq_true, ↓reduceIte, lt, z_ob, Nat.zero_add, Nat.add_zero, sp_X9_isWhole_1, bX9_isWhole_1, e1, e2, sp_X9_isWhole_2, bX9_isWhole_2, b2_t]
          rfl
        · rw [if_neg e2] at hw
          by_cases e3 : chrN tx n q1 = 59
          · rw [if_pos e3] at hw
            have hl := chr_lt (by omega) e3
            obtain ⟨le2, fi2, se2, th2, ma2, wo2, e4⟩ := ih (q1 + 1) le' fi' se' th' ma' wo' q b (fu + 1) (by omega) (by omega) hw (by omega)
            refine ⟨le2, fi2, se2, th2, ma2, wo2, ?_⟩
            rw [← e4]
            simp (disch := first | omega | assumption) only [↓z_m1, li_0, li_1, li_2, li_3, li_4, li_5, li_6, li_7, li_8, li_9, li_10, li_11, li_12, li_13, li_14, li_15, li_16, li_17, li_18, li_19, li_20, li_21, li_22, li_23, li_24, li_25, li_26, li_27, li_28, li_29, li_30, li_31, li_32, li_33, li_34, li_35, li_36, li_37, li_38, li_39, li_40, li_41, li_42, li_43, li_44, li_45, li_46, li_47, li_48, li_49, li_50, li_51, li_52, li_53, li_54, li_55, li_56, li_57, li_58, li_59, li_60, li_61, li_62, li_63, li_64, li_65, li_66, li_67, li_68, li_69, li_70, li_71, li_72, li_73, li_74, li_75, li_76, li_77, li_78, li_79, li_80, li_81, li_82, li_83, li_84, li_85, li_86, li_87, li_88, li_89, li_90, li_91, li_92, li_93, li_94, li_95, li_96, li_97, li_98, li_99, li_100, li_101, li_102, li_103, li_104, li_105, li_106, li_107, li_108, li_109, li_110, li_111, li_112, li_113, li_114, li_115, li_116, li_117, li_118, li_119, li_120, li_121, li_122, li_123, li_124, li_125, li_126, li_127, li_128, li_129, li_130, li_180, li_186, li_192, li_304, li_305, li_306, li_307, li_319, li_320, li_321, li_322, li_408, li_409, li_410, li_416, li_422, li_428, li_458, li_459, li_460, li_2300, li_2760, nI_add, z_m6, z_m12, z_m30, z_l10, z_l12, z_l14, z_l17, z_l30, z_l460, z_sub, z_dec, z_dec0, z_m11, z_cl, z_leT, z_leF, z_ltT, z_ltF, z_eqT, z_eqF, z_em, z_me, z_mlt, z_mle, z_ltm, z_lem, z_mltm, z_mlem, z_nleT, z_nleF, z_nltT, z_nltF, or_false, or_self, false_or, or_true, true_or, not_true_eq_false, not_false_eq_true, ↓reduceIte, lt, z_ob, Nat.zero_add, Nat.add_zero, sp_X9_isWhole_1, bX9_isWhole_1, e1, sp_X9_isWhole_2, bX9_isWhole_2, sign_1 h (show q1 ≤ 100 by omega) (show 59 ≤ 126 by omega) e3]
          · rw [if_neg e3] at hw
            cases hw
            refine ⟨le', fi', se', th', ma', wo', ?_⟩
            simp (disch := first | omega | assumption) only [↓z_m1, li_0, li_1, li_2, li_3, li_4, li_5, li_6, li_7, li_8, li_9, li_10, li_11, li_12, li_13, li_14, li_15, li_16, li_17, li_18, li_19, li_20, li_21, li_22, li_23, li_24, li_25, li_26, li_27, li_28, li_29, li_30, li_31, li_32, li_33, li_34, li_35, li_36, li_37, li_38, li_39, li_40, li_41, li_42, li_43, li_44, li_45, li_46, li_47, li_48, li_49, li_50, li_51, li_52, li_53, li_54, li_55, li_56, li_57, li_58, li_59, li_60, li_61, li_62, li_63, li_64, li_65, li_66, li_67, li_68, li_69, li_70, li_71, li_72, li_73, li_74, li_75, li_76, li_77, li_78, li_79, li_80, li_81, li_82, li_83, li_84, li_85, li_86, li_87, li_88, li_89, li_90, li_91, li_92, li_93, li_94, li_95, li_96, li_97, li_98, li_99, li_100, li_101, li_102, li_103, li_104, li_105, li_106, li_107, li_108, li_109, li_110, li_111, li_112, li_113, li_114, li_115, li_116, li_117, li_118, li_119, li_120, li_121, li_122, li_123, li_124, li_125, li_126, li_127, li_128, li_129, li_130, li_180, li_186, li_192, li_304, li_305, li_306, li_307, li_319, li_320, li_321, li_322, li_408, li_409, li_410, li_416, li_422, li_428, li_458, li_459, li_460, li_2300, li_2760, nI_add, z_m6, z_m12, z_m30, z_l10, z_l12, z_l14, z_l17, z_l30, z_l460, z_sub, z_dec, z_dec0, z_m11, z_cl, z_leT, z_leF, z_ltT, z_ltF, z_eqT, z_eqF, z_em, z_me, z_mlt, z_mle, z_ltm, z_lem, z_mltm, z_mlem, z_nleT, z_nleF, z_nltT, z_nltF, or_false, or_self, false_or, or_true, true_or, not_true_eq_false, not_false_eq_true, ↓reduceIte, lt, z_ob, Nat.zero_add, Nat.add_zero, sp_X9_isWhole_1, bX9_isWhole_1, e1, sp_X9_isWhole_2, bX9_isWhole_2, sign_0 h (show q ≤ 100 by omega) (show 59 ≤ 126 by omega) e3, b2_f]
            rfl
theorem whM (h : BR n cs tx) (sp wr le fi se th ma : Int32) (wo : Nat → Int32) {q : Nat} {b : Bool} (hw : whF tx n 60 0 = (q, b)) : ∃ le' fi' se' th' ma' wo', fX9_isWhole (nI n) sp wr le fi se th ma tx wo = some (b2 b, nI q, b2 (!b), le', fi', se', th', ma', wo') := by
  have h60 := h.1
  obtain ⟨le', fi', se', th', ma', wo', e⟩ := whM_r h 60 0 le fi se th ma wo q b fuelN (by omega) (by omega) hw (by decide)
  refine ⟨le', fi', se', th', ma', wo', ?_⟩
  unfold fX9_isWhole eX9_isWhole
  exact e
theorem whF_n : ∀ (k p q : Nat), whF tx n k p = (q, true) → q = n := by
  intro k
  induction k with
  | zero => intro p q h; cases h
  | succ k ih =>
    intro p q h
    rw [whF] at h
    cases ht : ptO tx n p with
    | mk q1 o =>
      rw [ht] at h
      cases o with
      | none => cases h
      | some o =>
        dsimp only at h
        by_cases e2 : q1 = n
        · rw [if_pos e2] at h; cases h; exact e2
        · rw [if_neg e2] at h
          by_cases e3 : chrN tx n q1 = 59
          · rw [if_pos e3] at h; exact ih _ _ h
          · rw [if_neg e3] at h; cases h
theorem F_firstError (h : BR n cs tx) (po kd li wo va sl su : Int32) (sw : Nat → Int32) (th0 sp wr le fi se th ma : Int32) (wo2 : Nat → Int32) :
    ∃ v po' kd' li' wo' va' sl' su' sw' sp' wr' le' fi' se' th' ma' wo3, fX8_firstError (nI n) po kd li wo va cs sl su sw = some (v, po', kd', li', wo', va', sl', su', sw') ∧ fX9_firstError (nI n) th0 sp wr le fi se th ma tx wo2 = some (v, nI 0, sp', wr', le', fi', se', th', ma', wo3) := by
  cases hw : whF tx n 60 0 with
  | mk q b =>
    obtain ⟨kd', li', wo', va', sl', su', sw', e1⟩ := whX h po kd li wo va sl su sw hw
    obtain ⟨le', fi', se', th', ma', wo3, e2⟩ := whM h sp wr le fi se th ma wo2 hw
    refine ⟨nI q, nI q, kd', li', wo', va', sl', su', sw', nI q, b2 (!b), le', fi', se', th', ma', wo3, ?_, ?_⟩
    · unfold fX8_firstError
      simp (disch := first | omega | assumption) only [↓z_m1, li_0, li_1, li_2, li_3, li_4, li_5, li_6, li_7, li_8, li_9, li_10, li_11, li_12, li_13, li_14, li_15, li_16, li_17, li_18, li_19, li_20, li_21, li_22, li_23, li_24, li_25, li_26, li_27, li_28, li_29, li_30, li_31, li_32, li_33, li_34, li_35, li_36, li_37, li_38, li_39, li_40, li_41, li_42, li_43, li_44, li_45, li_46, li_47, li_48, li_49, li_50, li_51, li_52, li_53, li_54, li_55, li_56, li_57, li_58, li_59, li_60, li_61, li_62, li_63, li_64, li_65, li_66, li_67, li_68, li_69, li_70, li_71, li_72, li_73, li_74, li_75, li_76, li_77, li_78, li_79, li_80, li_81, li_82, li_83, li_84, li_85, li_86, li_87, li_88, li_89, li_90, li_91, li_92, li_93, li_94, li_95, li_96, li_97, li_98, li_99, li_100, li_101, li_102, li_103, li_104, li_105, li_106, li_107, li_108, li_109, li_110, li_111, li_112, li_113, li_114, li_115, li_116, li_117, li_118, li_119, li_120, li_121, li_122, li_123, li_124, li_125, li_126, li_127, li_128, li_129, li_130, li_180, li_186, li_192, li_304, li_305, li_306, li_307, li_319, li_320, li_321, li_322, li_408, li_409, li_410, li_416, li_422, li_428, li_458, li_459, li_460, li_2300, li_2760, nI_add, z_m6, z_m12, z_m30, z_l10, z_l12, z_l14, z_l17, z_l30, z_l460, z_sub, z_dec, z_dec0, z_m11, z_cl, z_leT, z_leF, z_ltT, z_ltF, z_eqT, z_eqF, z_em, z_me, z_mlt, z_mle, z_ltm, z_lem, z_mltm, z_mlem, z_nleT, z_nleF, z_nltT, z_nltF, or_false, or_self, false_or, or_true, true_or, not_true_eq_false, not_false_eq_true, ↓reduceIte, lt, z_ob, Nat.zero_add, Nat.add_zero, e1]
    · unfold fX9_firstError
      cases b with
      | true =>
        have := whF_n 60 0 q hw
        rw [b2_t] at e2
        simp (disch := first | omega | assumption) only [↓z_m1, li_0, li_1, li_2, li_3, li_4, li_5, li_6, li_7, li_8, li_9, li_10, li_11, li_12, li_13, li_14, li_15, li_16, li_17, li_18, li_19, li_20, li_21, li_22, li_23, li_24, li_25, li_26, li_27, li_28, li_29, li_30, li_31, li_32, li_33, li_34, li_35, li_36, li_37, li_38, li_39, li_40, li_41, li_42, li_43, li_44, li_45, li_46, li_47, li_48, li_49, li_50, li_51, li_52, li_53, li_54, li_55, li_56, li_57, li_58, li_59, li_60, li_61, li_62, li_63, li_64, li_65, li_66, li_67, li_68, li_69, li_70, li_71, li_72, li_73, li_74, li_75, li_76, li_77, li_78, li_79, li_80, li_81, li_82, li_83, li_84, li_85, li_86, li_87, li_88, li_89, li_90, li_91, li_92, li_93, li_94, li_95, li_96, li_97, li_98, li_99, li_100, li_101, li_102, li_103, li_104, li_105, li_106, li_107, li_108, li_109, li_110, li_111, li_112, li_113, li_114, li_115, li_116, li_117, li_118, li_119, li_120, li_121, li_122, li_123, li_124, li_125, li_126, li_127, li_128, li_129, li_130, li_180, li_186, li_192, li_304, li_305, li_306, li_307, li_319, li_320, li_321, li_322, li_408, li_409, li_410, li_416, li_422, li_428, li_458, li_459, li_460, li_2300, li_2760, nI_add, z_m6, z_m12, z_m30, z_l10, z_l12, z_l14, z_l17, z_l30, z_l460, z_sub, z_dec, z_dec0, z_m11, z_cl, z_leT, z_leF, z_ltT, z_ltF, z_eqT, z_eqF, z_em, z_me, z_mlt, z_mle, z_ltm, z_lem, z_mltm, z_mlem, z_nleT, z_nleF, z_nltT, z_nltF, or_false, or_self, false_or, or_true, true_or, not_true_eq_false, not_false_eq_true, ↓reduceIte, lt, z_ob, Nat.zero_add, Nat.add_zero, e2, this]
      | false =>
        rw [b2_f] at e2
        simp (disch := first | omega | assumption) only [↓z_m1, li_0, li_1, li_2, li_3, li_4, li_5, li_6, li_7, li_8, li_9, li_10, li_11, li_12, li_13, li_14, li_15, li_16, li_17, li_18, li_19, li_20, li_21, li_22, li_23, li_24, li_25, li_26, li_27, li_28, li_29, li_30, li_31, li_32, li_33, li_34, li_35, li_36, li_37, li_38, li_39, li_40, li_41, li_42, li_43, li_44, li_45, li_46, li_47, li_48, li_49, li_50, li_51, li_52, li_53, li_54, li_55, li_56, li_57, li_58, li_59, li_60, li_61, li_62, li_63, li_64, li_65, li_66, li_67, li_68, li_69, li_70, li_71, li_72, li_73, li_74, li_75, li_76, li_77, li_78, li_79, li_80, li_81, li_82, li_83, li_84, li_85, li_86, li_87, li_88, li_89, li_90, li_91, li_92, li_93, li_94, li_95, li_96, li_97, li_98, li_99, li_100, li_101, li_102, li_103, li_104, li_105, li_106, li_107, li_108, li_109, li_110, li_111, li_112, li_113, li_114, li_115, li_116, li_117, li_118, li_119, li_120, li_121, li_122, li_123, li_124, li_125, li_126, li_127, li_128, li_129, li_130, li_180, li_186, li_192, li_304, li_305, li_306, li_307, li_319, li_320, li_321, li_322, li_408, li_409, li_410, li_416, li_422, li_428, li_458, li_459, li_460, li_2300, li_2760, nI_add, z_m6, z_m12, z_m30, z_l10, z_l12, z_l14, z_l17, z_l30, z_l460, z_sub, z_dec, z_dec0, z_m11, z_cl, z_leT, z_leF, z_ltT, z_ltF, z_eqT, z_eqF, z_em, z_me, z_mlt, z_mle, z_ltm, z_lem, z_mltm, z_mlem, z_nleT, z_nleF, z_nltT, z_nltF, or_false, or_self, false_or, or_true, true_or, not_true_eq_false, not_false_eq_true, ↓reduceIte, lt, z_ob, Nat.zero_add, Nat.add_zero, e2]
end PM

-- the looks
set_option maxHeartbeats 4000000 in
set_option maxRecDepth 100000 in
theorem jo_meaning {l : Launch} {sa sv : Nat → Nat} {G : va_G} {cI cS : ClassId} {ad : Nat} {al : Nat → Nat} {B : List Nat} {M : MT} {K : Nat} {ws : va_W} {nw : Nat} {P : List Nat} (hJ : JP cI cS ad al B M nw K P ws) {i w k : Nat} (hi : i < 6) (hw : w < 30) (hk : k < 3) : LwS l sa sv G (tyH cI cS) yL_meaning wsL_meaning 0 0 [.ref ad, .int (nI i), .int (nI w), .int (nI k)] ws (fun x ws1 => vMean M.s i w k = x ∧ JP cI cS ad al B M nw K P ws1) := by
  obtain ⟨⟨went, sp, sr, wz, az, po, kd, li, wo, va, osl, osu, tl, tu, mn, er, fe, ms, pa, lo, ww, wl, wu, aw, af, tw, cs, osw, tv, rr, ll, bk, np, tn, bs, sn⟩, hp, hB, hC, hH, hs, hn⟩ := hJ
  have hp : ws.Perm (EW cI cS ad al ((went, sp, sr, wz, az, po, kd, li, wo, va, osl, osu, tl, tu, mn, er, fe, ms, pa, lo, ww, wl, wu, aw, af, tw, cs, osw, tv, rr, ll, bk, np, tn, bs, sn) : LV) ++ (tlW cI bs ++ tlW cI sn)) := hp
  have hC : CR M.s nw K P went sp sr mn er fe ms pa lo wz ww wl wu az aw af tw := hC
  exact oW_meaning hp (mean_XV hC.1.1 hC.1.2 hi hw hk) (fun ws2 hp2 => ⟨rfl, _, hp2, hB, hC, hH, hs, hn⟩)
set_option maxHeartbeats 4000000 in
set_option maxRecDepth 100000 in
theorem jo_link {l : Launch} {sa sv : Nat → Nat} {G : va_G} {cI cS : ClassId} {ad : Nat} {al : Nat → Nat} {B : List Nat} {M : MT} {K : Nat} {ws : va_W} {nw : Nat} {P : List Nat} (hJ : JP cI cS ad al B M nw K P ws) {i k : Nat} (hi : i < 6) (hk : k < 7) : LwS l sa sv G (tyH cI cS) yL_link wsL_link 0 0 [.ref ad, .int (nI i), .int (nI k)] ws (fun x ws1 => vLink M.s i k = x ∧ JP cI cS ad al B M nw K P ws1) := by
  obtain ⟨⟨went, sp, sr, wz, az, po, kd, li, wo, va, osl, osu, tl, tu, mn, er, fe, ms, pa, lo, ww, wl, wu, aw, af, tw, cs, osw, tv, rr, ll, bk, np, tn, bs, sn⟩, hp, hB, hC, hH, hs, hn⟩ := hJ
  have hp : ws.Perm (EW cI cS ad al ((went, sp, sr, wz, az, po, kd, li, wo, va, osl, osu, tl, tu, mn, er, fe, ms, pa, lo, ww, wl, wu, aw, af, tw, cs, osw, tv, rr, ll, bk, np, tn, bs, sn) : LV) ++ (tlW cI bs ++ tlW cI sn)) := hp
  have hC : CR M.s nw K P went sp sr mn er fe ms pa lo wz ww wl wu az aw af tw := hC
  exact oW_link hp (link_XV hC hi hk) (fun ws2 hp2 => ⟨rfl, _, hp2, hB, hC, hH, hs, hn⟩)
set_option maxHeartbeats 4000000 in
set_option maxRecDepth 100000 in
theorem jo_count {l : Launch} {sa sv : Nat → Nat} {G : va_G} {cI cS : ClassId} {ad : Nat} {al : Nat → Nat} {B : List Nat} {M : MT} {K : Nat} {ws : va_W} {nw : Nat} {P : List Nat} (hJ : JP cI cS ad al B M nw K P ws) {k : Nat} (hk : k < 7) {npN : Nat} (hnp : M.np = nI npN) : LwS l sa sv G (tyH cI cS) yL_count wsL_count 0 0 [.ref ad, .int (nI k)] ws (fun x ws1 => vCount M.s npN k = x ∧ JP cI cS ad al B M nw K P ws1) := by
  obtain ⟨⟨went, sp, sr, wz, az, po, kd, li, wo, va, osl, osu, tl, tu, mn, er, fe, ms, pa, lo, ww, wl, wu, aw, af, tw, cs, osw, tv, rr, ll, bk, np, tn, bs, sn⟩, hp, hB, hC, hH, hs, hn⟩ := hJ
  have hp : ws.Perm (EW cI cS ad al ((went, sp, sr, wz, az, po, kd, li, wo, va, osl, osu, tl, tu, mn, er, fe, ms, pa, lo, ww, wl, wu, aw, af, tw, cs, osw, tv, rr, ll, bk, np, tn, bs, sn) : LV) ++ (tlW cI bs ++ tlW cI sn)) := hp
  have hC : CR M.s nw K P went sp sr mn er fe ms pa lo wz ww wl wu az aw af tw := hC
  have hn : M.np = nI np := hn
  have hq : nI np = nI npN := hn.symm.trans hnp
  have e : fX8_count (nI k) went ms pa lo wz az (nI np) = some (.inr (vCount M.s npN k)) := by rw [hq]; exact count_XV hC npN hk
  exact oW_count hp e (fun ws2 hp2 => ⟨rfl, _, hp2, hB, hC, hH, hs, hn⟩)
set_option maxHeartbeats 4000000 in
set_option maxRecDepth 100000 in
theorem jo_stopped {l : Launch} {sa sv : Nat → Nat} {G : va_G} {cI cS : ClassId} {ad : Nat} {al : Nat → Nat} {B : List Nat} {M : MT} {K : Nat} {ws : va_W} {nw : Nat} {P : List Nat} (hJ : JP cI cS ad al B M nw K P ws) {k : Nat} (hk : k < 2) : LwS l sa sv G (tyH cI cS) yL_stopped wsL_stopped 0 0 [.ref ad, .int (nI k)] ws (fun x ws1 => vStop M.s k = x ∧ JP cI cS ad al B M nw K P ws1) := by
  obtain ⟨⟨went, sp, sr, wz, az, po, kd, li, wo, va, osl, osu, tl, tu, mn, er, fe, ms, pa, lo, ww, wl, wu, aw, af, tw, cs, osw, tv, rr, ll, bk, np, tn, bs, sn⟩, hp, hB, hC, hH, hs, hn⟩ := hJ
  have hp : ws.Perm (EW cI cS ad al ((went, sp, sr, wz, az, po, kd, li, wo, va, osl, osu, tl, tu, mn, er, fe, ms, pa, lo, ww, wl, wu, aw, af, tw, cs, osw, tv, rr, ll, bk, np, tn, bs, sn) : LV) ++ (tlW cI bs ++ tlW cI sn)) := hp
  have hC : CR M.s nw K P went sp sr mn er fe ms pa lo wz ww wl wu az aw af tw := hC
  exact oW_stopped hp (stop_XV hC.2.2.2.2.2.2.2.2.2.2.1 hk) (fun ws2 hp2 => ⟨rfl, _, hp2, hB, hC, hH, hs, hn⟩)
set_option maxHeartbeats 4000000 in
set_option maxRecDepth 100000 in
theorem jo_waits {l : Launch} {sa sv : Nat → Nat} {G : va_G} {cI cS : ClassId} {ad : Nat} {al : Nat → Nat} {B : List Nat} {M : MT} {K : Nat} {ws : va_W} {nw : Nat} {P : List Nat} (hJ : JP cI cS ad al B M nw K P ws) {p k : Nat} (hp8 : p < 1000) (hk : k < 3) : LwS l sa sv G (tyH cI cS) yL_waits wsL_waits 0 0 [.ref ad, .int (nI p), .int (nI k)] ws (fun x ws1 => vWait M.s P p k = x ∧ JP cI cS ad al B M nw K P ws1) := by
  obtain ⟨⟨went, sp, sr, wz, az, po, kd, li, wo, va, osl, osu, tl, tu, mn, er, fe, ms, pa, lo, ww, wl, wu, aw, af, tw, cs, osw, tv, rr, ll, bk, np, tn, bs, sn⟩, hp, hB, hC, hH, hs, hn⟩ := hJ
  have hp : ws.Perm (EW cI cS ad al ((went, sp, sr, wz, az, po, kd, li, wo, va, osl, osu, tl, tu, mn, er, fe, ms, pa, lo, ww, wl, wu, aw, af, tw, cs, osw, tv, rr, ll, bk, np, tn, bs, sn) : LV) ++ (tlW cI bs ++ tlW cI sn)) := hp
  have hC : CR M.s nw K P went sp sr mn er fe ms pa lo wz ww wl wu az aw af tw := hC
  obtain ⟨-, -, -, -, -, -, -, ⟨hw, hP, hz, h8⟩, -⟩ := id hC
  have n8 := hw.2.1
  have hl := hP.len (ahW_asy M.s)
  by_cases e : p < P.length
  · have hpa : P[p]? = some (P[p]'e) := List.getElem?_eq_getElem e
    generalize P[p]'e = a at hpa
    obtain ⟨sl', su', sw', e1, -⟩ := waits_XM hC hpa hk tl tu tv
    have hv : vWait M.s P p k = M.s (192 + 14 * a + k) := by unfold vWait; rw [hpa]
    rw [hv]
    exact oW_waits hp e1 (fun ws2 hp2 => ⟨rfl, _, hp2, hB, hC, hH, hs, hn⟩)
  · have hpa : P[p]? = none := List.getElem?_eq_none (by omega)
    have hv : vWait M.s P p k = mI := by unfold vWait; rw [hpa]
    rw [hv]
    have e1 : fX8_waits (nI p) (nI k) wz ww wl wu tl tu tv = some (.inr (mI, tl, tu, tv)) := by
      subst hz
      unfold fX8_waits
      simp (disch := first | omega | assumption) only [↓z_m1, li_0, li_1, li_2, li_3, li_4, li_5, li_6, li_7, li_8, li_9, li_10, li_11, li_12, li_13, li_14, li_15, li_16, li_17, li_18, li_19, li_20, li_21, li_22, li_23, li_24, li_25, li_26, li_27, li_28, li_29, li_30, li_31, li_32, li_33, li_34, li_35, li_36, li_37, li_38, li_39, li_40, li_41, li_42, li_43, li_44, li_45, li_46, li_47, li_48, li_49, li_50, li_51, li_52, li_53, li_54, li_55, li_56, li_57, li_58, li_59, li_60, li_61, li_62, li_63, li_64, li_65, li_66, li_67, li_68, li_69, li_70, li_71, li_72, li_73, li_74, li_75, li_76, li_77, li_78, li_79, li_80, li_81, li_82, li_83, li_84, li_85, li_86, li_87, li_88, li_89, li_90, li_91, li_92, li_93, li_94, li_95, li_96, li_97, li_98, li_99, li_100, li_101, li_102, li_103, li_104, li_105, li_106, li_107, li_108, li_109, li_110, li_111, li_112, li_113, li_114, li_115, li_116, li_117, li_118, li_119, li_120, li_121, li_122, li_123, li_124, li_125, li_126, li_127, li_128, li_129, li_130, li_180, li_186, li_192, li_304, li_305, li_306, li_307, li_319, li_320, li_321, li_322, li_408, li_409, li_410, li_416, li_422, li_428, li_458, li_459, li_460, li_2300, li_2760, nI_add, z_m6, z_m12, z_m30, z_l10, z_l12, z_l14, z_l17, z_l30, z_l460, z_sub, z_dec, z_dec0, z_m11, z_cl, z_leT, z_leF, z_ltT, z_ltF, z_eqT, z_eqF, z_em, z_me, z_mlt, z_mle, z_ltm, z_lem, z_mltm, z_mlem, z_nleT, z_nleF, z_nltT, z_nltF, or_false, or_self, false_or, or_true, true_or, not_true_eq_false, not_false_eq_true, ↓reduceIte, lt, z_ob, Nat.zero_add, Nat.add_zero, ckN_ok, ckR_ok, sx]
    exact oW_waits hp e1 (fun ws2 hp2 => ⟨rfl, _, hp2, hB, hC, hH, hs, hn⟩)
set_option maxHeartbeats 4000000 in
set_option maxRecDepth 100000 in
theorem jo_arrival {l : Launch} {sa sv : Nat → Nat} {G : va_G} {cI cS : ClassId} {ad : Nat} {al : Nat → Nat} {B : List Nat} {M : MT} {K : Nat} {ws : va_W} {nw : Nat} {P : List Nat} (hJ : JP cI cS ad al B M nw K P ws) {b k : Nat} (hb : b < 6) (hk : k < 6) : LwS l sa sv G (tyH cI cS) yL_arrival wsL_arrival 0 0 [.ref ad, .int (nI b), .int (nI k)] ws (fun x ws1 => vArrv M.s b k = x ∧ JP cI cS ad al B M nw K P ws1) := by
  obtain ⟨⟨went, sp, sr, wz, az, po, kd, li, wo, va, osl, osu, tl, tu, mn, er, fe, ms, pa, lo, ww, wl, wu, aw, af, tw, cs, osw, tv, rr, ll, bk, np, tn, bs, sn⟩, hp, hB, hC, hH, hs, hn⟩ := hJ
  have hp : ws.Perm (EW cI cS ad al ((went, sp, sr, wz, az, po, kd, li, wo, va, osl, osu, tl, tu, mn, er, fe, ms, pa, lo, ww, wl, wu, aw, af, tw, cs, osw, tv, rr, ll, bk, np, tn, bs, sn) : LV) ++ (tlW cI bs ++ tlW cI sn)) := hp
  have hC : CR M.s nw K P went sp sr mn er fe ms pa lo wz ww wl wu az aw af tw := hC
  obtain ⟨kp, hkp, h408, haz, hA⟩ := hC.2.2.2.2.2.2.2.2.1
  have hk8 : (M.s 408).toNatClampNeg = kp := by rw [h408, z_cl (by omega)]
  subst haz
  by_cases e : b < kp
  · obtain ⟨L, m1, m2, m3, m4, m5, m6, m7⟩ := arrd_M hA hkp e
    have hv : vArrv M.s b k = vArr M.s L b k := by unfold vArrv; rw [hk8, if_pos e, arrN_eq m1 m3 m4 m2]
    rw [hv]
    exact oW_arrival hp (m7 k hk).1 (fun ws2 hp2 => ⟨rfl, _, hp2, hB, hC, hH, hs, hn⟩)
  · have hv : vArrv M.s b k = mI := by unfold vArrv; rw [hk8, if_neg e]
    rw [hv]
    have e1 : fX8_arrival (nI b) (nI k) (nI kp) af = some (.inr mI) := by
      unfold fX8_arrival
      simp (disch := first | omega | assumption) only [↓z_m1, li_0, li_1, li_2, li_3, li_4, li_5, li_6, li_7, li_8, li_9, li_10, li_11, li_12, li_13, li_14, li_15, li_16, li_17, li_18, li_19, li_20, li_21, li_22, li_23, li_24, li_25, li_26, li_27, li_28, li_29, li_30, li_31, li_32, li_33, li_34, li_35, li_36, li_37, li_38, li_39, li_40, li_41, li_42, li_43, li_44, li_45, li_46, li_47, li_48, li_49, li_50, li_51, li_52, li_53, li_54, li_55, li_56, li_57, li_58, li_59, li_60, li_61, li_62, li_63, li_64, li_65, li_66, li_67, li_68, li_69, li_70, li_71, li_72, li_73, li_74, li_75, li_76, li_77, li_78, li_79, li_80, li_81, li_82, li_83, li_84, li_85, li_86, li_87, li_88, li_89, li_90, li_91, li_92, li_93, li_94, li_95, li_96, li_97, li_98, li_99, li_100, li_101, li_102, li_103, li_104, li_105, li_106, li_107, li_108, li_109, li_110, li_111, li_112, li_113, li_114, li_115, li_116, li_117, li_118, li_119, li_120, li_121, li_122, li_123, li_124, li_125, li_126, li_127, li_128, li_129, li_130, li_180, li_186, li_192, li_304, li_305, li_306, li_307, li_319, li_320, li_321, li_322, li_408, li_409, li_410, li_416, li_422, li_428, li_458, li_459, li_460, li_2300, li_2760, nI_add, z_m6, z_m12, z_m30, z_l10, z_l12, z_l14, z_l17, z_l30, z_l460, z_sub, z_dec, z_dec0, z_m11, z_cl, z_leT, z_leF, z_ltT, z_ltF, z_eqT, z_eqF, z_em, z_me, z_mlt, z_mle, z_ltm, z_lem, z_mltm, z_mlem, z_nleT, z_nleF, z_nltT, z_nltF, or_false, or_self, false_or, or_true, true_or, not_true_eq_false, not_false_eq_true, ↓reduceIte, lt, z_ob, Nat.zero_add, Nat.add_zero, ckR_ok, sx, fact_no]
    exact oW_arrival hp e1 (fun ws2 hp2 => ⟨rfl, _, hp2, hB, hC, hH, hs, hn⟩)
set_option maxHeartbeats 4000000 in
set_option maxRecDepth 100000 in
theorem jo_told {l : Launch} {sa sv : Nat → Nat} {G : va_G} {cI cS : ClassId} {ad : Nat} {al : Nat → Nat} {B : List Nat} {M : MT} {K : Nat} {ws : va_W} {nw : Nat} {P : List Nat} (hJ : JP cI cS ad al B M nw K P ws) {b i : Nat} (hb : b < 6) (hi : i < 1000) : LwS l sa sv G (tyH cI cS) yL_told wsL_told 0 0 [.ref ad, .int (nI b), .int (nI i)] ws (fun x ws1 => vTold M.s b i = x ∧ JP cI cS ad al B M nw K P ws1) := by
  obtain ⟨⟨went, sp, sr, wz, az, po, kd, li, wo, va, osl, osu, tl, tu, mn, er, fe, ms, pa, lo, ww, wl, wu, aw, af, tw, cs, osw, tv, rr, ll, bk, np, tn, bs, sn⟩, hp, hB, hC, hH, hs, hn⟩ := hJ
  have hp : ws.Perm (EW cI cS ad al ((went, sp, sr, wz, az, po, kd, li, wo, va, osl, osu, tl, tu, mn, er, fe, ms, pa, lo, ww, wl, wu, aw, af, tw, cs, osw, tv, rr, ll, bk, np, tn, bs, sn) : LV) ++ (tlW cI bs ++ tlW cI sn)) := hp
  have hC : CR M.s nw K P went sp sr mn er fe ms pa lo wz ww wl wu az aw af tw := hC
  obtain ⟨kp, hkp, h408, haz, hA⟩ := hC.2.2.2.2.2.2.2.2.1
  have hk8 : (M.s 408).toNatClampNeg = kp := by rw [h408, z_cl (by omega)]
  subst haz
  by_cases e : b < kp
  · obtain ⟨L, m1, m2, m3, m4, m5, m6, -⟩ := arrd_M hA hkp e
    have hv : vTold M.s b i = chT L i := by unfold vTold; rw [hk8, if_pos e, arrN_eq m1 m3 m4 m2]
    rw [hv]
    exact oW_told hp (told_XM e hkp m1 m2 m3 m4 m5 m6 (i := i) (by omega)).1 (fun ws2 hp2 => ⟨rfl, _, hp2, hB, hC, hH, hs, hn⟩)
  · have hv : vTold M.s b i = mI := by unfold vTold; rw [hk8, if_neg e]
    rw [hv]
    have e1 : fX8_told (nI b) (nI i) (nI kp) aw af = some (.inr mI) := by
      unfold fX8_told fX0_codeAt eX0_codeAt
      rw [fuN1]
      simp (disch := first | omega | assumption) only [↓z_m1, li_0, li_1, li_2, li_3, li_4, li_5, li_6, li_7, li_8, li_9, li_10, li_11, li_12, li_13, li_14, li_15, li_16, li_17, li_18, li_19, li_20, li_21, li_22, li_23, li_24, li_25, li_26, li_27, li_28, li_29, li_30, li_31, li_32, li_33, li_34, li_35, li_36, li_37, li_38, li_39, li_40, li_41, li_42, li_43, li_44, li_45, li_46, li_47, li_48, li_49, li_50, li_51, li_52, li_53, li_54, li_55, li_56, li_57, li_58, li_59, li_60, li_61, li_62, li_63, li_64, li_65, li_66, li_67, li_68, li_69, li_70, li_71, li_72, li_73, li_74, li_75, li_76, li_77, li_78, li_79, li_80, li_81, li_82, li_83, li_84, li_85, li_86, li_87, li_88, li_89, li_90, li_91, li_92, li_93, li_94, li_95, li_96, li_97, li_98, li_99, li_100, li_101, li_102, li_103, li_104, li_105, li_106, li_107, li_108, li_109, li_110, li_111, li_112, li_113, li_114, li_115, li_116, li_117, li_118, li_119, li_120, li_121, li_122, li_123, li_124, li_125, li_126, li_127, li_128, li_129, li_130, li_180, li_186, li_192, li_304, li_305, li_306, li_307, li_319, li_320, li_321, li_322, li_408, li_409, li_410, li_416, li_422, li_428, li_458, li_459, li_460, li_2300, li_2760, nI_add, z_m6, z_m12, z_m30, z_l10, z_l12, z_l14, z_l17, z_l30, z_l460, z_sub, z_dec, z_dec0, z_m11, z_cl, z_leT, z_leF, z_ltT, z_ltF, z_eqT, z_eqF, z_em, z_me, z_mlt, z_mle, z_ltm, z_lem, z_mltm, z_mlem, z_nleT, z_nleF, z_nltT, z_nltF, or_false, or_self, false_or, or_true, true_or, not_true_eq_false, not_false_eq_true, ↓reduceIte, lt, z_ob, Nat.zero_add, Nat.add_zero, ckR_ok, ckN_ok, sx, sp_X0_codeAt_1, bX0_codeAt_1, fact_no]
    exact oW_told hp e1 (fun ws2 hp2 => ⟨rfl, _, hp2, hB, hC, hH, hs, hn⟩)
set_option maxHeartbeats 4000000 in
set_option maxRecDepth 100000 in
theorem jo_lost {l : Launch} {sa sv : Nat → Nat} {G : va_G} {cI cS : ClassId} {ad : Nat} {al : Nat → Nat} {B : List Nat} {M : MT} {K : Nat} {ws : va_W} {nw : Nat} {P : List Nat} (hJ : JP cI cS ad al B M nw K P ws) {p a k : Nat} {PL : List Nat} (hPL : Srt (ahL M.s) 30 PL) (hpa : PL[p]? = some a) (hK : K ≤ 512) (hk : k < 2) : LwS l sa sv G (tyH cI cS) yL_lost wsL_lost 0 0 [.ref ad, .int (nI p), .int (nI k)] ws (fun x ws1 => vLost M.s a k = x ∧ JP cI cS ad al B M nw K P ws1) := by
  obtain ⟨⟨went, sp, sr, wz, az, po, kd, li, wo, va, osl, osu, tl, tu, mn, er, fe, ms, pa, lo, ww, wl, wu, aw, af, tw, cs, osw, tv, rr, ll, bk, np, tn, bs, sn⟩, hp, hB, hC, hH, hs, hn⟩ := hJ
  have hp : ws.Perm (EW cI cS ad al ((went, sp, sr, wz, az, po, kd, li, wo, va, osl, osu, tl, tu, mn, er, fe, ms, pa, lo, ww, wl, wu, aw, af, tw, cs, osw, tv, rr, ll, bk, np, tn, bs, sn) : LV) ++ (tlW cI bs ++ tlW cI sn)) := hp
  have hC : CR M.s nw K P went sp sr mn er fe ms pa lo wz ww wl wu az aw af tw := hC
  have hb := LtB_of hK hC
  have ha := hC.2.2.2.2.2.2.1
  have hl := hPL.len (ahL_asy M.s)
  have hp30 : p < 30 := by have := (List.getElem?_eq_some_iff.mp hpa).1; omega
  have ha30 : a < 30 := (hPL.2 a).mp (List.mem_of_getElem? hpa)
  have e1 := wla_X hb ha hPL hpa
  have e3 := ha a ha30
  have e2 : fX8_lost (nI p) (nI k) tw = some (.inr (vLost M.s a k)) := by
    unfold fX8_lost vLost
    by_cases e : k = 0
    · rw [if_pos e]
      simp (disch := first | omega | assumption) only [↓z_m1, li_0, li_1, li_2, li_3, li_4, li_5, li_6, li_7, li_8, li_9, li_10, li_11, li_12, li_13, li_14, li_15, li_16, li_17, li_18, li_19, li_20, li_21, li_22, li_23, li_24, li_25, li_26, li_27, li_28, li_29, li_30, li_31, li_32, li_33, li_34, li_35, li_36, li_37, li_38, li_39, li_40, li_41, li_42, li_43, li_44, li_45, li_46, li_47, li_48, li_49, li_50, li_51, li_52, li_53, li_54, li_55, li_56, li_57, li_58, li_59, li_60, li_61, li_62, li_63, li_64, li_65, li_66, li_67, li_68, li_69, li_70, li_71, li_72, li_73, li_74, li_75, li_76, li_77, li_78, li_79, li_80, li_81, li_82, li_83, li_84, li_85, li_86, li_87, li_88, li_89, li_90, li_91, li_92, li_93, li_94, li_95, li_96, li_97, li_98, li_99, li_100, li_101, li_102, li_103, li_104, li_105, li_106, li_107, li_108, li_109, li_110, li_111, li_112, li_113, li_114, li_115, li_116, li_117, li_118, li_119, li_120, li_121, li_122, li_123, li_124, li_125, li_126, li_127, li_128, li_129, li_130, li_180, li_186, li_192, li_304, li_305, li_306, li_307, li_319, li_320, li_321, li_322, li_408, li_409, li_410, li_416, li_422, li_428, li_458, li_459, li_460, li_2300, li_2760, nI_add, z_m6, z_m12, z_m30, z_l10, z_l12, z_l14, z_l17, z_l30, z_l460, z_sub, z_dec, z_dec0, z_m11, z_cl, z_leT, z_leF, z_ltT, z_ltF, z_eqT, z_eqF, z_em, z_me, z_mlt, z_mle, z_ltm, z_lem, z_mltm, z_mlem, z_nleT, z_nleF, z_nltT, z_nltF, or_false, or_self, false_or, or_true, true_or, not_true_eq_false, not_false_eq_true, ↓reduceIte, lt, z_ob, Nat.zero_add, Nat.add_zero, ckR_ok, sx, e1]
    · rw [if_neg e]
      simp (disch := first | omega | assumption) only [↓z_m1, li_0, li_1, li_2, li_3, li_4, li_5, li_6, li_7, li_8, li_9, li_10, li_11, li_12, li_13, li_14, li_15, li_16, li_17, li_18, li_19, li_20, li_21, li_22, li_23, li_24, li_25, li_26, li_27, li_28, li_29, li_30, li_31, li_32, li_33, li_34, li_35, li_36, li_37, li_38, li_39, li_40, li_41, li_42, li_43, li_44, li_45, li_46, li_47, li_48, li_49, li_50, li_51, li_52, li_53, li_54, li_55, li_56, li_57, li_58, li_59, li_60, li_61, li_62, li_63, li_64, li_65, li_66, li_67, li_68, li_69, li_70, li_71, li_72, li_73, li_74, li_75, li_76, li_77, li_78, li_79, li_80, li_81, li_82, li_83, li_84, li_85, li_86, li_87, li_88, li_89, li_90, li_91, li_92, li_93, li_94, li_95, li_96, li_97, li_98, li_99, li_100, li_101, li_102, li_103, li_104, li_105, li_106, li_107, li_108, li_109, li_110, li_111, li_112, li_113, li_114, li_115, li_116, li_117, li_118, li_119, li_120, li_121, li_122, li_123, li_124, li_125, li_126, li_127, li_128, li_129, li_130, li_180, li_186, li_192, li_304, li_305, li_306, li_307, li_319, li_320, li_321, li_322, li_408, li_409, li_410, li_416, li_422, li_428, li_458, li_459, li_460, li_2300, li_2760, nI_add, z_m6, z_m12, z_m30, z_l10, z_l12, z_l14, z_l17, z_l30, z_l460, z_sub, z_dec, z_dec0, z_m11, z_cl, z_leT, z_leF, z_ltT, z_ltF, z_eqT, z_eqF, z_em, z_me, z_mlt, z_mle, z_ltm, z_lem, z_mltm, z_mlem, z_nleT, z_nleF, z_nltT, z_nltF, or_false, or_self, false_or, or_true, true_or, not_true_eq_false, not_false_eq_true, ↓reduceIte, lt, z_ob, Nat.zero_add, Nat.add_zero, ckR_ok, sx, e1, e3]
  exact oW_lost hp e2 (fun ws2 hp2 => ⟨rfl, _, hp2, hB, hC, hH, hs, hn⟩)
set_option maxHeartbeats 4000000 in
set_option maxRecDepth 100000 in
theorem jo_ifGone {l : Launch} {sa sv : Nat → Nat} {G : va_G} {cI cS : ClassId} {ad : Nat} {al : Nat → Nat} {B : List Nat} {M : MT} {K : Nat} {ws : va_W} {nw : Nat} {P : List Nat} (hJ : JP cI cS ad al B M nw K P ws) {i k : Nat} (hi : i < 6) (hk : k < 4) : LwS l sa sv G (tyH cI cS) yL_ifGone wsL_ifGone 0 0 [.ref ad, .int (nI i), .int (nI k)] ws (fun x ws1 => vIf M.s P i k = x ∧ JP cI cS ad al B M nw K P ws1) := by
  obtain ⟨⟨went, sp, sr, wz, az, po, kd, li, wo, va, osl, osu, tl, tu, mn, er, fe, ms, pa, lo, ww, wl, wu, aw, af, tw, cs, osw, tv, rr, ll, bk, np, tn, bs, sn⟩, hp, hB, hC, hH, hs, hn⟩ := hJ
  have hp : ws.Perm (EW cI cS ad al ((went, sp, sr, wz, az, po, kd, li, wo, va, osl, osu, tl, tu, mn, er, fe, ms, pa, lo, ww, wl, wu, aw, af, tw, cs, osw, tv, rr, ll, bk, np, tn, bs, sn) : LV) ++ (tlW cI bs ++ tlW cI sn)) := hp
  have hC : CR M.s nw K P went sp sr mn er fe ms pa lo wz ww wl wu az aw af tw := hC
  cases hP0 : P[0]? with
  | none =>
    have hv : vIf M.s P i k = mI := by unfold vIf; rw [hP0]
    rw [hv]
    obtain ⟨-, -, -, -, -, -, -, ⟨hw, hP, hz, h8⟩, -⟩ := id hC
    have hl := hP.len (ahW_asy M.s)
    have h0 : P.length ≤ 0 := List.getElem?_eq_none_iff.mp hP0
    exact oW_ifGone hp (gone_0 (by rw [hz, show nw = 0 by omega]) hi hk tl tu tv rr ll) (fun ws2 hp2 => ⟨rfl, _, hp2, hB, hC, hH, hs, hn⟩)
  | some a =>
    have hv : vIf M.s P i k = vGone M.s a i k := by unfold vIf; rw [hP0]
    rw [hv]
    obtain ⟨sl', su', sw', rw2, lw2, e1⟩ := gone_X hC hP0 hi hk tl tu tv rr ll
    exact oW_ifGone hp e1 (fun ws2 hp2 => ⟨rfl, _, hp2, hB, hC, hH, hs, hn⟩)
set_option maxHeartbeats 4000000 in
set_option maxRecDepth 100000 in
theorem jo_lostAt {l : Launch} {sa sv : Nat → Nat} {G : va_G} {cI cS : ClassId} {ad : Nat} {al : Nat → Nat} {B : List Nat} {M : MT} {K : Nat} {ws : va_W} {nw : Nat} {P : List Nat} (hJ : JP cI cS ad al B M nw K P ws) {w : Nat} (hw : w < 30) : LwS l sa sv G (tyH cI cS) yL_lostAt wsL_lostAt 0 0 [.ref ad, .int (nI w)] ws (fun x ws1 => lk (lossN M.s 6 0 w) = x ∧ JP cI cS ad al B M nw K P ws1) := by
  obtain ⟨⟨went, sp, sr, wz, az, po, kd, li, wo, va, osl, osu, tl, tu, mn, er, fe, ms, pa, lo, ww, wl, wu, aw, af, tw, cs, osw, tv, rr, ll, bk, np, tn, bs, sn⟩, hp, hB, hC, hH, hs, hn⟩ := hJ
  have hp : ws.Perm (EW cI cS ad al ((went, sp, sr, wz, az, po, kd, li, wo, va, osl, osu, tl, tu, mn, er, fe, ms, pa, lo, ww, wl, wu, aw, af, tw, cs, osw, tv, rr, ll, bk, np, tn, bs, sn) : LV) ++ (tlW cI bs ++ tlW cI sn)) := hp
  have hC : CR M.s nw K P went sp sr mn er fe ms pa lo wz ww wl wu az aw af tw := hC
  exact oW_lostAt hp (lostAt_X hC.1.1 hC.1.2 hw) (fun ws2 hp2 => ⟨rfl, _, hp2, hB, hC, hH, hs, hn⟩)
set_option maxHeartbeats 4000000 in
set_option maxRecDepth 100000 in
theorem jo_costs {l : Launch} {sa sv : Nat → Nat} {G : va_G} {cI cS : ClassId} {ad : Nat} {al : Nat → Nat} {B : List Nat} {M : MT} {K : Nat} {ws : va_W} {nw : Nat} {P : List Nat} (hJ : JP cI cS ad al B M nw K P ws) : LwX l sa sv G [(cI, .int)] yX8_costs wsX8_costs ({ frames := 4, cells := 0, slots := 0, locals := 99 } : Room) ad [] ws (fun x ws1 => P.foldl (fun x b => x + costN M.s b) (nI 0) = x ∧ JP cI cS ad al B M nw K P ws1) := by
  obtain ⟨⟨went, sp, sr, wz, az, po, kd, li, wo, va, osl, osu, tl, tu, mn, er, fe, ms, pa, lo, ww, wl, wu, aw, af, tw, cs, osw, tv, rr, ll, bk, np, tn, bs, sn⟩, hp, hB, hC, hH, hs, hn⟩ := hJ
  have hp : ws.Perm (EW cI cS ad al ((went, sp, sr, wz, az, po, kd, li, wo, va, osl, osu, tl, tu, mn, er, fe, ms, pa, lo, ww, wl, wu, aw, af, tw, cs, osw, tv, rr, ll, bk, np, tn, bs, sn) : LV) ++ (tlW cI bs ++ tlW cI sn)) := hp
  have hC : CR M.s nw K P went sp sr mn er fe ms pa lo wz ww wl wu az aw af tw := hC
  obtain ⟨sl', su', sw', rw2, lw2, e⟩ := costs_rX hC nw 0 (nI 0) tl tu tv rr ll fuelN (by omega) (by have := hC.2.2.2.2.2.2.2.1.1.2.1; show _ < 1000000; omega)
  have e1 : fX8_costs mn er fe wz ww wl wu tl tu tv rr ll = some (P.foldl (fun x b => x + costN M.s b) (nI 0), sl', su', sw', rw2, lw2) := e
  exact oX_costs hp e1 (fun ws2 hp2 => ⟨rfl, _, hp2, hB, hC, hH, hs, hn⟩)
set_option maxHeartbeats 4000000 in
set_option maxRecDepth 100000 in
theorem jo_throughShare {l : Launch} {sa sv : Nat → Nat} {G : va_G} {cI cS : ClassId} {ad : Nat} {al : Nat → Nat} {B : List Nat} {M : MT} {K : Nat} {ws : va_W} {nw : Nat} {P : List Nat} (hJ : JP cI cS ad al B M nw K P ws) (hK : K ≤ 512) : LwXd l sa sv G [(cI, .int)] yX8_throughShare wsX8_throughShare ({ frames := 1, cells := 0, slots := 0, locals := 25 } : Room) ad [] ws (fun x ws1 => shareN M.s = x ∧ JP cI cS ad al B M nw K P ws1) := by
  obtain ⟨⟨went, sp, sr, wz, az, po, kd, li, wo, va, osl, osu, tl, tu, mn, er, fe, ms, pa, lo, ww, wl, wu, aw, af, tw, cs, osw, tv, rr, ll, bk, np, tn, bs, sn⟩, hp, hB, hC, hH, hs, hn⟩ := hJ
  have hp : ws.Perm (EW cI cS ad al ((went, sp, sr, wz, az, po, kd, li, wo, va, osl, osu, tl, tu, mn, er, fe, ms, pa, lo, ww, wl, wu, aw, af, tw, cs, osw, tv, rr, ll, bk, np, tn, bs, sn) : LV) ++ (tlW cI bs ++ tlW cI sn)) := hp
  have hC : CR M.s nw K P went sp sr mn er fe ms pa lo wz ww wl wu az aw af tw := hC
  exact oX_throughShare hp (share_XM hK hC).1 (fun ws2 hp2 => ⟨rfl, _, hp2, hB, hC, hH, hs, hn⟩)

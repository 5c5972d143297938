-- the buffer, obey, the digest
set_option maxHeartbeats 4000000 in
set_option maxRecDepth 100000 in
theorem jo_clearBuffer {l : Launch} {sa sv : Nat → Nat} {G : va_G} {cI cS : ClassId} {ad : Nat} {al : Nat → Nat} {B : List Nat} {M : MT} {K : Nat} {ws : va_W} (hJ : JJ cI cS ad al B M K ws) : LwX l sa sv G [(cI, .int)] yX8_clearBuffer wsX8_clearBuffer ({ frames := 0, cells := 0, slots := 0, locals := 0 } : Room) ad [] ws (fun x ws1 => nI B.length = x ∧ JJ cI cS ad al [] M K ws1) := by
  obtain ⟨nw, P, ⟨went, sp, sr, wz, az, po, kd, li, wo, va, osl, osu, tl, tu, mn, er, fe, ms, pa, lo, ww, wl, wu, aw, af, tw, cs, osw, tv, rr, ll, bk, np, tn, bs, sn⟩, hp, hB, hC, hH, hs, hn⟩ := hJ
  have hp : ws.Perm (EW cI cS ad al ((went, sp, sr, wz, az, po, kd, li, wo, va, osl, osu, tl, tu, mn, er, fe, ms, pa, lo, ww, wl, wu, aw, af, tw, cs, osw, tv, rr, ll, bk, np, tn, bs, sn) : LV) ++ (tlW cI bs ++ tlW cI sn)) := hp
  have hB : tn = B.length ∧ BR B.length cs (txB B) := hB
  have hC : CR M.s nw K P went sp sr mn er fe ms pa lo wz ww wl wu az aw af tw := hC
  have hH : HR bs np K M.past := hH
  have hs : (sn = [] ∧ M.ik = nI 0) ∨ ∃ b n P, sn = [b] ∧ M.ik = nI 1 ∧ CV M.snap n K P b.2 := hs
  have hn : M.np = nI np := hn
  have e : fX8_clearBuffer (nI tn) = some (nI tn, nI 0) := rfl
  exact oX_clearBuffer (tn' := 0) hp e (fun ws2 hp2 => ⟨by rw [hB.1], nw, P, _, hp2, ⟨rfl, BR_0 _ _⟩, hC, hH, hs, hn⟩)
set_option maxHeartbeats 4000000 in
set_option maxRecDepth 100000 in
theorem jo_firstError {l : Launch} {sa sv : Nat → Nat} {G : va_G} {cI cS : ClassId} {ad : Nat} {al : Nat → Nat} {B : List Nat} {M : MT} {K : Nat} {ws : va_W} (hJ : JJ cI cS ad al B M K ws) : LwX l sa sv G [(cI, .int)] yX8_firstError wsX8_firstError ({ frames := 7, cells := 0, slots := 0, locals := 148 } : Room) ad [] ws (fun x ws1 => nI (whF (txB B) B.length 60 0).1 = x ∧ JJ cI cS ad al B M K ws1) := by
  obtain ⟨nw, P, ⟨went, sp, sr, wz, az, po, kd, li, wo, va, osl, osu, tl, tu, mn, er, fe, ms, pa, lo, ww, wl, wu, aw, af, tw, cs, osw, tv, rr, ll, bk, np, tn, bs, sn⟩, hp, hB, hC, hH, hs, hn⟩ := hJ
  have hp : ws.Perm (EW cI cS ad al ((went, sp, sr, wz, az, po, kd, li, wo, va, osl, osu, tl, tu, mn, er, fe, ms, pa, lo, ww, wl, wu, aw, af, tw, cs, osw, tv, rr, ll, bk, np, tn, bs, sn) : LV) ++ (tlW cI bs ++ tlW cI sn)) := hp
  obtain ⟨rfl, hB⟩ : tn = B.length ∧ BR B.length cs (txB B) := hB
  have hC : CR M.s nw K P went sp sr mn er fe ms pa lo wz ww wl wu az aw af tw := hC
  have hH : HR bs np K M.past := hH
  have hs : (sn = [] ∧ M.ik = nI 0) ∨ ∃ b n P, sn = [b] ∧ M.ik = nI 1 ∧ CV M.snap n K P b.2 := hs
  have hn : M.np = nI np := hn
  cases hw : whF (txB B) B.length 60 0 with
  | mk q b =>
    obtain ⟨kd', li', wo', va', sl', su', sw', e⟩ := whX hB po kd li wo va osl osu osw hw
    have e1 : fX8_firstError (nI B.length) po kd li wo va cs osl osu osw = some (nI q, nI q, kd', li', wo', va', sl', su', sw') := by
      unfold fX8_firstError
      simp (disch := first | omega | assumption) only [↓z_m1, li_0, li_1, li_2, li_3, li_4, li_5, li_6, li_7, li_8, li_9, li_10, li_11, li_12, li_13, li_14, li_15, li_16, li_17, li_18, li_19, li_20, li_21, li_22, li_23, li_24, li_25, li_26, li_27, li_28, li_29, li_30, li_31, li_32, li_33, li_34, li_35, li_36, li_37, li_38, li_39, li_40, li_41, li_42, li_43, li_44, li_45, li_46, li_47, li_48, li_49, li_50, li_51, li_52, li_53, li_54, li_55, li_56, li_57, li_58, li_59, li_60, li_61, li_62, li_63, li_64, li_65, li_66, li_67, li_68, li_69, li_70, li_71, li_72, li_73, li_74, li_75, li_76, li_77, li_78, li_79, li_80, li_81, li_82, li_83, li_84, li_85, li_86, li_87, li_88, li_89, li_90, li_91, li_92, li_93, li_94, li_95, li_96, li_97, li_98, li_99, li_100, li_101, li_102, li_103, li_104, li_105, li_106, li_107, li_108, li_109, li_110, li_111, li_112, li_113, li_114, li_115, li_116, li_117, li_118, li_119, li_120, li_121, li_122, li_123, li_124, li_125, li_126, li_127, li_128, li_129, li_130, li_180, li_186, li_192, li_304, li_305, li_306, li_307, li_319, li_320, li_321, li_322, li_408, li_409, li_410, li_416, li_422, li_428, li_458, li_459, li_460, li_2300, li_2760, nI_add, z_m6, z_m12, z_m30, z_l10, z_l12, z_l14, z_l17, z_l30, z_l460, z_sub, z_dec, z_dec0, z_m11, z_cl, z_leT, z_leF, z_ltT, z_ltF, z_eqT, z_eqF, z_em, z_me, z_mlt, z_mle, z_ltm, z_lem, z_mltm, z_mlem, z_nleT, z_nleF, z_nltT, z_nltF, or_false, or_self, false_or, or_true, true_or, not_true_eq_false, not_false_eq_true, ↓reduceIte, lt, z_ob, Nat.zero_add, Nat.add_zero, e]
    exact oX_firstError hp e1 (fun ws2 hp2 => ⟨rfl, nw, P, _, hp2, ⟨rfl, hB⟩, hC, hH, hs, hn⟩)
theorem txB_snoc (B : List Nat) (c : Nat) : ∀ i, i < B.length + 1 → txB (B ++ [c]) i = if i = B.length then nI c else txB B i := by
  intro i hi
  unfold txB
  by_cases e : i = B.length
  · rw [if_pos e, e, List.getD_eq_getElem?_getD, List.getElem?_append_right (Nat.le_refl _), Nat.sub_self]; rfl
  · rw [if_neg e, List.getD_eq_getElem?_getD, List.getElem?_append_left (by omega), ← List.getD_eq_getElem?_getD]
/-- a heard character -/
theorem app_X {B : List Nat} {cs : Nat → Int32} (hB : BR B.length cs (txB B)) {c : Nat} (h1 : 33 ≤ c) (h2 : c ≤ 126) (h60 : B.length < 60) : ∃ cs', fX8_append (nI c) (nI B.length) cs = some (.inr (nI (B.length + 1), nI (B.length + 1), cs')) ∧ BR (B ++ [c]).length cs' (txB (B ++ [c])) := by
  refine ⟨upd cs B.length (nI c), ?_, ?_⟩
  · unfold fX8_append fX3_add
    simp (disch := first | omega | assumption) only [↓z_m1, li_0, li_1, li_2, li_3, li_4, li_5, li_6, li_7, li_8, li_9, li_10, li_11, li_12, li_13, li_14, li_15, li_16, li_17, li_18, li_19, li_20, li_21, li_22, li_23, li_24, li_25, li_26, li_27, li_28, li_29, li_30, li_31, li_32, li_33, li_34, li_35, li_36, li_37, li_38, li_39, li_40, li_41, li_42, li_43, li_44, li_45, li_46, li_47, li_48, li_49, li_50, li_51, li_52, li_53, li_54, li_55, li_56, li_57, li_58, li_59, li_60, li_61, li_62, li_63, li_64, li_65, li_66, li_67, li_68, li_69, li_70, li_71, li_72, li_73, li_74, li_75, li_76, li_77, li_78, li_79, li_80, li_81, li_82, li_83, li_84, li_85, li_86, li_87, li_88, li_89, li_90, li_91, li_92, li_93, li_94, li_95, li_96, li_97, li_98, li_99, li_100, li_101, li_102, li_103, li_104, li_105, li_106, li_107, li_108, li_109, li_110, li_111, li_112, li_113, li_114, li_115, li_116, li_117, li_118, li_119, li_120, li_121, li_122, li_123, li_124, li_125, li_126, li_127, li_128, li_129, li_130, li_180, li_186, li_192, li_304, li_305, li_306, li_307, li_319, li_320, li_321, li_322, li_408, li_409, li_410, li_416, li_422, li_428, li_458, li_459, li_460, li_2300, li_2760, nI_add, z_m6, z_m12, z_m30, z_l10, z_l12, z_l14, z_l17, z_l30, z_l460, z_sub, z_dec, z_dec0, z_m11, z_cl, z_leT, z_leF, z_ltT, z_ltF, z_eqT, z_eqF, z_em, z_me, z_mlt, z_mle, z_ltm, z_lem, z_mltm, z_mlem, z_nleT, z_nleF, z_nltT, z_nltF, or_false, or_self, false_or, or_true, true_or, not_true_eq_false, not_false_eq_true, ↓reduceIte, lt, z_ob, Nat.zero_add, Nat.add_zero, ckR_ok, sx]
  · rw [List.length_append, List.length_singleton]
    refine ⟨by omega, fun i hi => ?_⟩
    rw [txB_snoc B c i hi]
    by_cases e : i = B.length
    · rw [if_pos e, e, pk_us]; exact ⟨rfl, c, h1, h2, rfl⟩
    · rw [if_neg e, pk_un e]; exact hB.2 i (by omega)
set_option maxHeartbeats 4000000 in
set_option maxRecDepth 100000 in
theorem jo_append {l : Launch} {sa sv : Nat → Nat} {G : va_G} {cI cS : ClassId} {ad : Nat} {al : Nat → Nat} {B : List Nat} {M : MT} {K : Nat} {ws : va_W} (hJ : JJ cI cS ad al B M K ws) {c : Nat} (h1 : 33 ≤ c) (h2 : c ≤ 126) (h60 : B.length < 60) : LwS l sa sv G (tyH cI cS) yL_append wsL_append 0 0 [.ref ad, .int (nI c)] ws (fun x ws1 => nI (B.length + 1) = x ∧ JJ cI cS ad al (B ++ [c]) M K ws1) := by
  obtain ⟨nw, P, ⟨went, sp, sr, wz, az, po, kd, li, wo, va, osl, osu, tl, tu, mn, er, fe, ms, pa, lo, ww, wl, wu, aw, af, tw, cs, osw, tv, rr, ll, bk, np, tn, bs, sn⟩, hp, hB, hC, hH, hs, hn⟩ := hJ
  have hp : ws.Perm (EW cI cS ad al ((went, sp, sr, wz, az, po, kd, li, wo, va, osl, osu, tl, tu, mn, er, fe, ms, pa, lo, ww, wl, wu, aw, af, tw, cs, osw, tv, rr, ll, bk, np, tn, bs, sn) : LV) ++ (tlW cI bs ++ tlW cI sn)) := hp
  obtain ⟨rfl, hB⟩ : tn = B.length ∧ BR B.length cs (txB B) := hB
  have hC : CR M.s nw K P went sp sr mn er fe ms pa lo wz ww wl wu az aw af tw := hC
  have hH : HR bs np K M.past := hH
  have hs : (sn = [] ∧ M.ik = nI 0) ∨ ∃ b n P, sn = [b] ∧ M.ik = nI 1 ∧ CV M.snap n K P b.2 := hs
  have hn : M.np = nI np := hn
  obtain ⟨cs', e, hB'⟩ := app_X hB h1 h2 h60
  exact oW_append hp e (fun ws2 hp2 => ⟨rfl, nw, P, _, hp2, ⟨by show B.length + 1 = (B ++ [c]).length; rw [List.length_append, List.length_singleton], hB'⟩, hC, hH, hs, hn⟩)
set_option maxHeartbeats 4000000 in
set_option maxRecDepth 100000 in
theorem jo_obey {l : Launch} {sa sv : Nat → Nat} {G : va_G} {cI cS : ClassId} {ad : Nat} {al : Nat → Nat} {B : List Nat} {M : MT} {K : Nat} {ws : va_W} (hst : l.stackTraces = false) (hJ : JJ cI cS ad al B M K ws) : ∃ r B' M', fL_obey B M = some (r, B', M') ∧ LwS l sa sv G (tyH cI cS) yL_obey wsL_obey 16 480 [.ref ad] ws (fun x ws1 => r = x ∧ JJ cI cS ad al B' M' (K + 4 + 4 * scN (txB B) B.length 0) ws1) := by
  obtain ⟨nw, P, ⟨went, sp, sr, wz, az, po, kd, li, wo, va, osl, osu, tl, tu, mn, er, fe, ms, pa, lo, ww, wl, wu, aw, af, tw, cs, osw, tv, rr, ll, bk, np, tn, bs, sn⟩, hp, hB, hC, hH, hs, hn⟩ := hJ
  obtain ⟨np9, ik, th, sz, mi, pd, ls, spt, wrg, le, fi, se, thd, ma, s, past, snap, line, back, wm⟩ := M
  have hn : np9 = nI np := hn
  subst hn
  have hp : ws.Perm (EW cI cS ad al ((went, sp, sr, wz, az, po, kd, li, wo, va, osl, osu, tl, tu, mn, er, fe, ms, pa, lo, ww, wl, wu, aw, af, tw, cs, osw, tv, rr, ll, bk, np, tn, bs, sn) : LV) ++ (tlW cI bs ++ tlW cI sn)) := hp
  have hC : CR s nw K P went sp sr mn er fe ms pa lo wz ww wl wu az aw af tw := hC
  have hv : CV s nw K P (nowB (al 0) (al 1) (al 2) (al 3) (al 4) (al 5) (al 6) (al 7) (al 8) (al 9) (al 10) (al 11) (al 12) (al 13) (al 14) (al 15) went sp sr mn er fe ms pa lo wz ww wl wu az aw af tw).2 := hC
  have hH : HR bs np K past := hH
  have hs : (sn = [] ∧ ik = nI 0) ∨ ∃ b n P, sn = [b] ∧ ik = nI 1 ∧ CV snap n K P b.2 := hs
  have hB : tn = B.length ∧ BR B.length cs (txB B) := hB
  obtain ⟨r0, h0, -⟩ := ini_X5
  have hH2 := hH
  obtain ⟨q1, q2, q3, q4⟩ := hH2
  obtain ⟨rfl, hBB⟩ := hB
  have hKK : K ≤ K + 4 + 4 * scN (txB B) B.length 0 := by omega
  have hsK : (sn = [] ∧ ik = nI 0) ∨ ∃ b n P, sn = [b] ∧ ik = nI 1 ∧ CV snap n (K + 4 + 4 * scN (txB B) B.length 0) P b.2 := SNR.mono (v := ((went, sp, sr, wz, az, po, kd, li, wo, va, osl, osu, tl, tu, mn, er, fe, ms, pa, lo, ww, wl, wu, aw, af, tw, cs, osw, tv, rr, ll, bk, np, B.length, bs, sn) : LV)) (M := ((nI np, ik, th, sz, mi, pd, ls, spt, wrg, le, fi, se, thd, ma, s, past, snap, line, back, wm) : MT)) hKK hs
  rcases F_obey hBB hC q1 past po kd li wo va osl osu osw tl tu tv rr ll bk th sz mi pd ls spt wrg le fi se thd ma line back wm with ⟨q, kd', li', wo', va', sl', su', sw', spot', wrong', le', fi', se', th', ma', wm', e1, e2⟩ | ⟨b, op', kd', li', wo', va', sl', su', sw', tl', tu', tv', rr', ll', bk', went', mn', er', fe', ms', pa', lo', wz', ww', wl', wu', az', aw', af', tw', sp', sr', s', n', P', past', sz', mi', pd', ls', spot', wrong', le', fi', se', th', ma', line', back', wm', e1, e2, eS, hC'⟩
  · exact ⟨(-2), B, ((nI np, ik, th, sz, mi, pd, ls, spt, wrg, le, fi, se, thd, ma, s, past, snap, line, back, wm) : MT), by show (fX9_obey (nI np) (nI B.length) th sz mi pd ls spt wrg le fi se thd ma s past (txB B) line back wm).bind _ = _; rw [e2]; first | done | rfl, oV_obey_1 hst hp e1 (fun ws1 hp1 => ⟨rfl, nw, P, _, hp1, ⟨rfl, hBB⟩, CR.cong (fun _ _ => rfl) hKK hC, HR.mono hKK hH, hsK, rfl⟩)⟩
  · exact ⟨b, [], ((nI (if np < 6 then np + 1 else 6), ik, nI 0, sz', mi', pd', ls', spot', wrong', le', fi', se', th', ma', s', past', snap, line', back', wm') : MT), by show (fX9_obey (nI np) (nI B.length) th sz mi pd ls spt wrg le fi se thd ma s past (txB B) line back wm).bind _ = _; rw [e2]; first | done | rfl, oW_obey h0 q1 q2 q3 hp e1 (fun bs2 ws1 hs2 hp1 => ⟨rfl, n', P', _, hp1, ⟨rfl, BR_0 _ _⟩, hC', HR.mono hKK (HR.save hH hv hs2 eS), hsK, rfl⟩)⟩
set_option maxHeartbeats 4000000 in
set_option maxRecDepth 100000 in
theorem jo_digest {l : Launch} {sa sv : Nat → Nat} {G : va_G} {cI cS : ClassId} {ad : Nat} {al : Nat → Nat} {B : List Nat} {M : MT} {K : Nat} {ws : va_W} {nw : Nat} {P : List Nat} (hJ : JP cI cS ad al B M nw K P ws) (hK : K ≤ 512) (h0 : B = []) : ∃ r, LwXl l sa sv G [(cI, .int)] yX8_digest wsX8_digest ({ frames := 6, cells := 0, slots := 0, locals := 148 } : Room) ad [] ws (fun x ws1 => r = x ∧ JP cI cS ad al B M nw K P ws1) ∧ fL_digest M = some r := by
  obtain ⟨⟨went, sp, sr, wz, az, po, kd, li, wo, va, osl, osu, tl, tu, mn, er, fe, ms, pa, lo, ww, wl, wu, aw, af, tw, cs, osw, tv, rr, ll, bk, np, tn, bs, sn⟩, hp, hB, hC, hH, hs, hn⟩ := hJ
  obtain ⟨np9, ik, th, sz, mi, pd, ls, spt, wrg, le, fi, se, thd, ma, s, past, snap, line, back, wm⟩ := M
  have hn : np9 = nI np := hn
  subst hn
  have hp : ws.Perm (EW cI cS ad al ((went, sp, sr, wz, az, po, kd, li, wo, va, osl, osu, tl, tu, mn, er, fe, ms, pa, lo, ww, wl, wu, aw, af, tw, cs, osw, tv, rr, ll, bk, np, tn, bs, sn) : LV) ++ (tlW cI bs ++ tlW cI sn)) := hp
  have hC : CR s nw K P went sp sr mn er fe ms pa lo wz ww wl wu az aw af tw := hC
  subst h0
  obtain ⟨rfl, hB⟩ : tn = 0 ∧ BR 0 cs (txB []) := hB
  obtain ⟨b, sl', su', sw', rr', ll', sz', mi', pd', ls', line', e1, e2⟩ := F_digest hK hB hC np tl tu tv rr ll th sz mi pd ls line
  exact ⟨b, oX_digest hp e1 (fun ws2 hp2 => ⟨rfl, _, hp2, ⟨rfl, hB⟩, hC, hH, hs, rfl⟩), by show (fX9_digest (nI np) (nI 0) th sz mi pd ls s (txB []) line).bind _ = _; rw [e2]; rfl⟩

-- the calls that change
set_option maxHeartbeats 4000000 in
set_option maxRecDepth 100000 in
theorem jo_teach {l : Launch} {sa sv : Nat → Nat} {G : va_G} {cI cS : ClassId} {ad : Nat} {al : Nat → Nat} {B : List Nat} {M : MT} {K : Nat} {ws : va_W} (hst : l.stackTraces = false) (hJ : JJ cI cS ad al B M K ws) (p1 p2 p3 : Int32) : ∃ r M', fL_teach p1 p2 p3 M = some (r, M') ∧ LwS l sa sv G (tyH cI cS) yL_teach wsL_teach 16 480 [.ref ad, .int p1, .int p2, .int p3] ws (fun x ws1 => r = x ∧ JJ cI cS ad al B M' K ws1) := by
  obtain ⟨nw, P, ⟨went, sp, sr, wz, az, po, kd, li, wo, va, osl, osu, tl, tu, mn, er, fe, ms, pa, lo, ww, wl, wu, aw, af, tw, cs, osw, tv, rr, ll, bk, np, tn, bs, sn⟩, hp, hB, hC, hH, hs, hn⟩ := hJ
  obtain ⟨np9, ik, th, sz, mi, pd, ls, spt, wrg, le, fi, se, thd, ma, s, past, snap, line, back, wm⟩ := M
  have hn : np9 = nI np := hn
  subst hn
  have hp : ws.Perm (EW cI cS ad al ((went, sp, sr, wz, az, po, kd, li, wo, va, osl, osu, tl, tu, mn, er, fe, ms, pa, lo, ww, wl, wu, aw, af, tw, cs, osw, tv, rr, ll, bk, np, tn, bs, sn) : LV) ++ (tlW cI bs ++ tlW cI sn)) := hp
  have hC : CR s nw K P went sp sr mn er fe ms pa lo wz ww wl wu az aw af tw := hC
  have hv : CV s nw K P (nowB (al 0) (al 1) (al 2) (al 3) (al 4) (al 5) (al 6) (al 7) (al 8) (al 9) (al 10) (al 11) (al 12) (al 13) (al 14) (al 15) went sp sr mn er fe ms pa lo wz ww wl wu az aw af tw).2 := hC
  have hH : HR bs np K past := hH
  have hs : (sn = [] ∧ ik = nI 0) ∨ ∃ b n P, sn = [b] ∧ ik = nI 1 ∧ CV snap n K P b.2 := hs
  have hB : tn = B.length ∧ BR B.length cs (txB B) := hB
  obtain ⟨r0, h0, -⟩ := ini_X5
  have hH2 := hH
  obtain ⟨q1, q2, q3, q4⟩ := hH2
  rcases F_teach hC q1 past p1 p2 p3 th with ⟨e, t, e1, e2, ec⟩ | ⟨b, mn', s', past', e1, e2, eS, hC'⟩
  · rcases ec with ⟨rfl, rfl⟩ | ⟨rfl, rfl⟩
    · exact ⟨(-3), ((nI np, ik, th, sz, mi, pd, ls, spt, wrg, le, fi, se, thd, ma, s, past, snap, line, back, wm) : MT), by show (fX9_teach p1 p2 p3 (nI np) th s past).bind _ = _; rw [e2]; first | done | rfl, oV_teach_1 hst h0 q1 q2 q3 hp e1 (fun ws1 hp1 => ⟨rfl, nw, P, _, hp1, hB, hC, hH, hs, rfl⟩)⟩
    · exact ⟨(-2), ((nI np, ik, th, sz, mi, pd, ls, spt, wrg, le, fi, se, thd, ma, s, past, snap, line, back, wm) : MT), by show (fX9_teach p1 p2 p3 (nI np) th s past).bind _ = _; rw [e2]; first | done | rfl, oV_teach_2 hst h0 q1 q2 q3 hp e1 (fun ws1 hp1 => ⟨rfl, nw, P, _, hp1, hB, hC, hH, hs, rfl⟩)⟩
  · exact ⟨b, ((nI (if np < 6 then np + 1 else 6), ik, nI 0, sz, mi, pd, ls, spt, wrg, le, fi, se, thd, ma, s', past', snap, line, back, wm) : MT), by show (fX9_teach p1 p2 p3 (nI np) th s past).bind _ = _; rw [e2]; first | done | rfl, oW_teach h0 q1 q2 q3 hp e1 (fun bs2 ws1 hs2 hp1 => ⟨rfl, nw, P, _, hp1, hB, hC', HR.save hH hv hs2 eS, hs, rfl⟩)⟩
set_option maxHeartbeats 4000000 in
set_option maxRecDepth 100000 in
theorem jo_ear {l : Launch} {sa sv : Nat → Nat} {G : va_G} {cI cS : ClassId} {ad : Nat} {al : Nat → Nat} {B : List Nat} {M : MT} {K : Nat} {ws : va_W} (hst : l.stackTraces = false) (hJ : JJ cI cS ad al B M K ws) (p1 p2 : Int32) : ∃ r M', fL_ear p1 p2 M = some (r, M') ∧ LwS l sa sv G (tyH cI cS) yL_ear wsL_ear 16 480 [.ref ad, .int p1, .int p2] ws (fun x ws1 => r = x ∧ JJ cI cS ad al B M' K ws1) := by
  obtain ⟨nw, P, ⟨went, sp, sr, wz, az, po, kd, li, wo, va, osl, osu, tl, tu, mn, er, fe, ms, pa, lo, ww, wl, wu, aw, af, tw, cs, osw, tv, rr, ll, bk, np, tn, bs, sn⟩, hp, hB, hC, hH, hs, hn⟩ := hJ
  obtain ⟨np9, ik, th, sz, mi, pd, ls, spt, wrg, le, fi, se, thd, ma, s, past, snap, line, back, wm⟩ := M
  have hn : np9 = nI np := hn
  subst hn
  have hp : ws.Perm (EW cI cS ad al ((went, sp, sr, wz, az, po, kd, li, wo, va, osl, osu, tl, tu, mn, er, fe, ms, pa, lo, ww, wl, wu, aw, af, tw, cs, osw, tv, rr, ll, bk, np, tn, bs, sn) : LV) ++ (tlW cI bs ++ tlW cI sn)) := hp
  have hC : CR s nw K P went sp sr mn er fe ms pa lo wz ww wl wu az aw af tw := hC
  have hv : CV s nw K P (nowB (al 0) (al 1) (al 2) (al 3) (al 4) (al 5) (al 6) (al 7) (al 8) (al 9) (al 10) (al 11) (al 12) (al 13) (al 14) (al 15) went sp sr mn er fe ms pa lo wz ww wl wu az aw af tw).2 := hC
  have hH : HR bs np K past := hH
  have hs : (sn = [] ∧ ik = nI 0) ∨ ∃ b n P, sn = [b] ∧ ik = nI 1 ∧ CV snap n K P b.2 := hs
  have hB : tn = B.length ∧ BR B.length cs (txB B) := hB
  obtain ⟨r0, h0, -⟩ := ini_X5
  have hH2 := hH
  obtain ⟨q1, q2, q3, q4⟩ := hH2
  rcases F_ear hC q1 past p1 p2 th with ⟨e, t, e1, e2, ec⟩ | ⟨b, er', s', past', e1, e2, eS, hC'⟩
  · rcases ec with ⟨rfl, rfl⟩ | ⟨rfl, rfl⟩
    · exact ⟨(-3), ((nI np, ik, th, sz, mi, pd, ls, spt, wrg, le, fi, se, thd, ma, s, past, snap, line, back, wm) : MT), by show (fX9_ear p1 p2 (nI np) th s past).bind _ = _; rw [e2]; first | done | rfl, oV_ear_1 hst h0 q1 q2 q3 hp e1 (fun ws1 hp1 => ⟨rfl, nw, P, _, hp1, hB, hC, hH, hs, rfl⟩)⟩
    · exact ⟨(-2), ((nI np, ik, th, sz, mi, pd, ls, spt, wrg, le, fi, se, thd, ma, s, past, snap, line, back, wm) : MT), by show (fX9_ear p1 p2 (nI np) th s past).bind _ = _; rw [e2]; first | done | rfl, oV_ear_2 hst h0 q1 q2 q3 hp e1 (fun ws1 hp1 => ⟨rfl, nw, P, _, hp1, hB, hC, hH, hs, rfl⟩)⟩
  · exact ⟨b, ((nI (if np < 6 then np + 1 else 6), ik, nI 0, sz, mi, pd, ls, spt, wrg, le, fi, se, thd, ma, s', past', snap, line, back, wm) : MT), by show (fX9_ear p1 p2 (nI np) th s past).bind _ = _; rw [e2]; first | done | rfl, oW_ear h0 q1 q2 q3 hp e1 (fun bs2 ws1 hs2 hp1 => ⟨rfl, nw, P, _, hp1, hB, hC', HR.save hH hv hs2 eS, hs, rfl⟩)⟩
set_option maxHeartbeats 4000000 in
set_option maxRecDepth 100000 in
theorem jo_fee {l : Launch} {sa sv : Nat → Nat} {G : va_G} {cI cS : ClassId} {ad : Nat} {al : Nat → Nat} {B : List Nat} {M : MT} {K : Nat} {ws : va_W} (hst : l.stackTraces = false) (hJ : JJ cI cS ad al B M K ws) (p1 p2 : Int32) : ∃ r M', fL_fee p1 p2 M = some (r, M') ∧ LwS l sa sv G (tyH cI cS) yL_fee wsL_fee 16 480 [.ref ad, .int p1, .int p2] ws (fun x ws1 => r = x ∧ JJ cI cS ad al B M' K ws1) := by
  obtain ⟨nw, P, ⟨went, sp, sr, wz, az, po, kd, li, wo, va, osl, osu, tl, tu, mn, er, fe, ms, pa, lo, ww, wl, wu, aw, af, tw, cs, osw, tv, rr, ll, bk, np, tn, bs, sn⟩, hp, hB, hC, hH, hs, hn⟩ := hJ
  obtain ⟨np9, ik, th, sz, mi, pd, ls, spt, wrg, le, fi, se, thd, ma, s, past, snap, line, back, wm⟩ := M
  have hn : np9 = nI np := hn
  subst hn
  have hp : ws.Perm (EW cI cS ad al ((went, sp, sr, wz, az, po, kd, li, wo, va, osl, osu, tl, tu, mn, er, fe, ms, pa, lo, ww, wl, wu, aw, af, tw, cs, osw, tv, rr, ll, bk, np, tn, bs, sn) : LV) ++ (tlW cI bs ++ tlW cI sn)) := hp
  have hC : CR s nw K P went sp sr mn er fe ms pa lo wz ww wl wu az aw af tw := hC
  have hv : CV s nw K P (nowB (al 0) (al 1) (al 2) (al 3) (al 4) (al 5) (al 6) (al 7) (al 8) (al 9) (al 10) (al 11) (al 12) (al 13) (al 14) (al 15) went sp sr mn er fe ms pa lo wz ww wl wu az aw af tw).2 := hC
  have hH : HR bs np K past := hH
  have hs : (sn = [] ∧ ik = nI 0) ∨ ∃ b n P, sn = [b] ∧ ik = nI 1 ∧ CV snap n K P b.2 := hs
  have hB : tn = B.length ∧ BR B.length cs (txB B) := hB
  obtain ⟨r0, h0, -⟩ := ini_X5
  have hH2 := hH
  obtain ⟨q1, q2, q3, q4⟩ := hH2
  rcases F_fee hC q1 past p1 p2 th with ⟨e, t, e1, e2, ec⟩ | ⟨b, fe', s', past', e1, e2, eS, hC'⟩
  · rcases ec with ⟨rfl, rfl⟩ | ⟨rfl, rfl⟩
    · exact ⟨(-3), ((nI np, ik, th, sz, mi, pd, ls, spt, wrg, le, fi, se, thd, ma, s, past, snap, line, back, wm) : MT), by show (fX9_fee p1 p2 (nI np) th s past).bind _ = _; rw [e2]; first | done | rfl, oV_fee_1 hst h0 q1 q2 q3 hp e1 (fun ws1 hp1 => ⟨rfl, nw, P, _, hp1, hB, hC, hH, hs, rfl⟩)⟩
    · exact ⟨(-2), ((nI np, ik, th, sz, mi, pd, ls, spt, wrg, le, fi, se, thd, ma, s, past, snap, line, back, wm) : MT), by show (fX9_fee p1 p2 (nI np) th s past).bind _ = _; rw [e2]; first | done | rfl, oV_fee_2 hst h0 q1 q2 q3 hp e1 (fun ws1 hp1 => ⟨rfl, nw, P, _, hp1, hB, hC, hH, hs, rfl⟩)⟩
  · exact ⟨b, ((nI (if np < 6 then np + 1 else 6), ik, nI 0, sz, mi, pd, ls, spt, wrg, le, fi, se, thd, ma, s', past', snap, line, back, wm) : MT), by show (fX9_fee p1 p2 (nI np) th s past).bind _ = _; rw [e2]; first | done | rfl, oW_fee h0 q1 q2 q3 hp e1 (fun bs2 ws1 hs2 hp1 => ⟨rfl, nw, P, _, hp1, hB, hC', HR.save hH hv hs2 eS, hs, rfl⟩)⟩
set_option maxHeartbeats 4000000 in
set_option maxRecDepth 100000 in
theorem jo_go {l : Launch} {sa sv : Nat → Nat} {G : va_G} {cI cS : ClassId} {ad : Nat} {al : Nat → Nat} {B : List Nat} {M : MT} {K : Nat} {ws : va_W} (hst : l.stackTraces = false) (hJ : JJ cI cS ad al B M K ws) : ∃ r M', fL_go M = some (r, M') ∧ LwS l sa sv G (tyH cI cS) yL_go wsL_go 16 480 [.ref ad] ws (fun x ws1 => r = x ∧ JJ cI cS ad al B M' K ws1) := by
  obtain ⟨nw, P, ⟨went, sp, sr, wz, az, po, kd, li, wo, va, osl, osu, tl, tu, mn, er, fe, ms, pa, lo, ww, wl, wu, aw, af, tw, cs, osw, tv, rr, ll, bk, np, tn, bs, sn⟩, hp, hB, hC, hH, hs, hn⟩ := hJ
  obtain ⟨np9, ik, th, sz, mi, pd, ls, spt, wrg, le, fi, se, thd, ma, s, past, snap, line, back, wm⟩ := M
  have hn : np9 = nI np := hn
  subst hn
  have hp : ws.Perm (EW cI cS ad al ((went, sp, sr, wz, az, po, kd, li, wo, va, osl, osu, tl, tu, mn, er, fe, ms, pa, lo, ww, wl, wu, aw, af, tw, cs, osw, tv, rr, ll, bk, np, tn, bs, sn) : LV) ++ (tlW cI bs ++ tlW cI sn)) := hp
  have hC : CR s nw K P went sp sr mn er fe ms pa lo wz ww wl wu az aw af tw := hC
  have hv : CV s nw K P (nowB (al 0) (al 1) (al 2) (al 3) (al 4) (al 5) (al 6) (al 7) (al 8) (al 9) (al 10) (al 11) (al 12) (al 13) (al 14) (al 15) went sp sr mn er fe ms pa lo wz ww wl wu az aw af tw).2 := hC
  have hH : HR bs np K past := hH
  have hs : (sn = [] ∧ ik = nI 0) ∨ ∃ b n P, sn = [b] ∧ ik = nI 1 ∧ CV snap n K P b.2 := hs
  have hB : tn = B.length ∧ BR B.length cs (txB B) := hB
  obtain ⟨r0, h0, -⟩ := ini_X5
  have hH2 := hH
  obtain ⟨q1, q2, q3, q4⟩ := hH2
  rcases F_go hC q1 past tl tu tv rr ll bk th sz mi pd ls line back with ⟨e1, e2⟩ | ⟨b, tl', tu', tv', rr', ll', bk', went', ms', pa', lo', wz', ww', wl', wu', az', aw', af', tw', s', n', P', past', sz', mi', pd', ls', line', back', e1, e2, eS, hC'⟩
  · exact ⟨(-2), ((nI np, ik, th, sz, mi, pd, ls, spt, wrg, le, fi, se, thd, ma, s, past, snap, line, back, wm) : MT), by show (fX9_go (nI np) th sz mi pd ls s past line back).bind _ = _; rw [e2]; first | done | rfl, oV_go_1 hst h0 q1 q2 q3 hp e1 (fun ws1 hp1 => ⟨rfl, nw, P, _, hp1, hB, hC, hH, hs, rfl⟩)⟩
  · exact ⟨b, ((nI (if np < 6 then np + 1 else 6), ik, nI 0, sz', mi', pd', ls', spt, wrg, le, fi, se, thd, ma, s', past', snap, line', back', wm) : MT), by show (fX9_go (nI np) th sz mi pd ls s past line back).bind _ = _; rw [e2]; first | done | rfl, oW_go h0 q1 q2 q3 hp e1 (fun bs2 ws1 hs2 hp1 => ⟨rfl, n', P', _, hp1, hB, hC', HR.save hH hv hs2 eS, hs, rfl⟩)⟩
section KZ
variable {l : Launch} {sa sv : Nat → Nat} {G : va_G} {cI cS : ClassId} {ad : Nat} {al : Nat → Nat} {T ws : va_W}
variable {went sp sr wz az po kd li wo va osl osu tl tu : Int32}
variable {mn er fe ms pa lo ww wl wu aw af tw cs osw tv rr ll bk : Nat → Int32} {np tn : Nat} {bs sn : List Blk}
set_option maxHeartbeats 4000000 in
set_option maxRecDepth 100000 in
theorem oV_undo_z (hst : l.stackTraces = false) (hz : np = 0) {Q : Int32 → va_W → Prop} (hp : ws.Perm (EW cI cS ad al ((went, sp, sr, wz, az, po, kd, li, wo, va, osl, osu, tl, tu, mn, er, fe, ms, pa, lo, ww, wl, wu, aw, af, tw, cs, osw, tv, rr, ll, bk, np, tn, bs, sn) : LV) ++ (tlW cI bs ++ T))) (hQ : ∀ ws2, ws2.Perm (EW cI cS ad al ((went, sp, sr, wz, az, po, kd, li, wo, va, osl, osu, tl, tu, mn, er, fe, ms, pa, lo, ww, wl, wu, aw, af, tw, cs, osw, tv, rr, ll, bk, np, tn, bs, sn) : LV) ++ (tlW cI bs ++ T)) → Q (-2) ws2) : LwS l sa sv G (tyH cI cS) yL_undo wsL_undo 16 480 [.ref ad] ws Q := by
  subst hz
  exact oV_undo_1 hst hp hQ
end KZ
set_option maxHeartbeats 4000000 in
set_option maxRecDepth 100000 in
theorem jo_undo {l : Launch} {sa sv : Nat → Nat} {G : va_G} {cI cS : ClassId} {ad : Nat} {al : Nat → Nat} {B : List Nat} {M : MT} {K : Nat} {ws : va_W} (hst : l.stackTraces = false) (hJ : JJ cI cS ad al B M K ws) : ∃ r M', fL_undo M = some (r, M') ∧ LwS l sa sv G (tyH cI cS) yL_undo wsL_undo 16 480 [.ref ad] ws (fun x ws1 => r = x ∧ JJ cI cS ad al B M' K ws1) := by
  obtain ⟨nw, P, ⟨went, sp, sr, wz, az, po, kd, li, wo, va, osl, osu, tl, tu, mn, er, fe, ms, pa, lo, ww, wl, wu, aw, af, tw, cs, osw, tv, rr, ll, bk, np, tn, bs, sn⟩, hp, hB, hC, hH, hs, hn⟩ := hJ
  obtain ⟨np9, ik, th, sz, mi, pd, ls, spt, wrg, le, fi, se, thd, ma, s, past, snap, line, back, wm⟩ := M
  have hn : np9 = nI np := hn
  subst hn
  have hp : ws.Perm (EW cI cS ad al ((went, sp, sr, wz, az, po, kd, li, wo, va, osl, osu, tl, tu, mn, er, fe, ms, pa, lo, ww, wl, wu, aw, af, tw, cs, osw, tv, rr, ll, bk, np, tn, bs, sn) : LV) ++ (tlW cI bs ++ tlW cI sn)) := hp
  have hC : CR s nw K P went sp sr mn er fe ms pa lo wz ww wl wu az aw af tw := hC
  have hv : CV s nw K P (nowB (al 0) (al 1) (al 2) (al 3) (al 4) (al 5) (al 6) (al 7) (al 8) (al 9) (al 10) (al 11) (al 12) (al 13) (al 14) (al 15) went sp sr mn er fe ms pa lo wz ww wl wu az aw af tw).2 := hC
  have hH : HR bs np K past := hH
  have hs : (sn = [] ∧ ik = nI 0) ∨ ∃ b n P, sn = [b] ∧ ik = nI 1 ∧ CV snap n K P b.2 := hs
  have hB : tn = B.length ∧ BR B.length cs (txB B) := hB
  have hH2 := hH
  obtain ⟨q1, q2, q3, q4⟩ := hH2
  by_cases hz : np = 0
  · have e2 : fX9_undo (nI np) th s past = some (nI 0, nI np, nI 1, s) := by rw [hz]; exact und_0 s past th
    exact ⟨(-2), ((nI np, ik, th, sz, mi, pd, ls, spt, wrg, le, fi, se, thd, ma, s, past, snap, line, back, wm) : MT), by show (fX9_undo (nI np) th s past).bind _ = _; rw [e2]; first | done | rfl, oV_undo_z hst hz hp (fun ws1 hp1 => ⟨rfl, nw, P, _, hp1, hB, hC, hH, hs, rfl⟩)⟩
  · obtain ⟨k, rfl⟩ : ∃ k, np = k + 1 := ⟨np - 1, by omega⟩
    obtain ⟨b, n2, P2, eb, hcv⟩ := q4 k (by omega)
    obtain ⟨s', e2, e3⟩ := und_M s past (np := k) (by omega) th
    have hC' : CV s' n2 K P2 (cpV b.2 (nowB (al 0) (al 1) (al 2) (al 3) (al 4) (al 5) (al 6) (al 7) (al 8) (al 9) (al 10) (al 11) (al 12) (al 13) (al 14) (al 15) went sp sr mn er fe ms pa lo wz ww wl wu az aw af tw).2) := CR.cong (fun j hj => e3 j hj) (Nat.le_refl _) (CV.copy (nowB (al 0) (al 1) (al 2) (al 3) (al 4) (al 5) (al 6) (al 7) (al 8) (al 9) (al 10) (al 11) (al 12) (al 13) (al 14) (al 15) went sp sr mn er fe ms pa lo wz ww wl wu az aw af tw).2 hcv)
    have hH3 : HR bs k K past := ⟨by omega, by omega, q3, fun j hj => q4 j (by omega)⟩
    exact ⟨nI k, ((nI k, ik, nI 0, sz, mi, pd, ls, spt, wrg, le, fi, se, thd, ma, s', past, snap, line, back, wm) : MT), by show (fX9_undo (nI (k + 1)) th s past).bind _ = _; rw [e2]; first | done | rfl, oW_undo (by omega) eb hp (fun ws1 hp1 => ⟨rfl, n2, P2, _, hp1, hB, hC', hH3, hs, rfl⟩)⟩
set_option maxHeartbeats 4000000 in
set_option maxRecDepth 100000 in
theorem jo_restore {l : Launch} {sa sv : Nat → Nat} {G : va_G} {cI cS : ClassId} {ad : Nat} {al : Nat → Nat} {B : List Nat} {M : MT} {K : Nat} {ws : va_W} (hst : l.stackTraces = false) (hJ : JJ cI cS ad al B M K ws) : ∃ r M', fL_restore M = some (r, M') ∧ LwS l sa sv G (tyH cI cS) yL_restore wsL_restore 16 480 [.ref ad] ws (fun x ws1 => r = x ∧ JJ cI cS ad al B M' K ws1) := by
  obtain ⟨nw, P, ⟨went, sp, sr, wz, az, po, kd, li, wo, va, osl, osu, tl, tu, mn, er, fe, ms, pa, lo, ww, wl, wu, aw, af, tw, cs, osw, tv, rr, ll, bk, np, tn, bs, sn⟩, hp, hB, hC, hH, hs, hn⟩ := hJ
  obtain ⟨np9, ik, th, sz, mi, pd, ls, spt, wrg, le, fi, se, thd, ma, s, past, snap, line, back, wm⟩ := M
  have hn : np9 = nI np := hn
  subst hn
  have hp : ws.Perm (EW cI cS ad al ((went, sp, sr, wz, az, po, kd, li, wo, va, osl, osu, tl, tu, mn, er, fe, ms, pa, lo, ww, wl, wu, aw, af, tw, cs, osw, tv, rr, ll, bk, np, tn, bs, sn) : LV) ++ (tlW cI bs ++ tlW cI sn)) := hp
  have hC : CR s nw K P went sp sr mn er fe ms pa lo wz ww wl wu az aw af tw := hC
  have hv : CV s nw K P (nowB (al 0) (al 1) (al 2) (al 3) (al 4) (al 5) (al 6) (al 7) (al 8) (al 9) (al 10) (al 11) (al 12) (al 13) (al 14) (al 15) went sp sr mn er fe ms pa lo wz ww wl wu az aw af tw).2 := hC
  have hH : HR bs np K past := hH
  have hs : (sn = [] ∧ ik = nI 0) ∨ ∃ b n P, sn = [b] ∧ ik = nI 1 ∧ CV snap n K P b.2 := hs
  have hB : tn = B.length ∧ BR B.length cs (txB B) := hB
  obtain ⟨r0, h0, -⟩ := ini_X5
  have hH2 := hH
  obtain ⟨q1, q2, q3, q4⟩ := hH2
  rcases hs with ⟨rfl, rfl⟩ | ⟨b, n2, P2, rfl, rfl, hcv⟩
  · have e2 := res_0 s snap past (nI np) th
    exact ⟨(-2), ((nI np, nI 0, th, sz, mi, pd, ls, spt, wrg, le, fi, se, thd, ma, s, past, snap, line, back, wm) : MT), by show (fX9_restore (nI np) (nI 0) th s past snap).bind _ = _; rw [e2]; first | done | rfl, oV_restore_1 hst hp (fun ws1 hp1 => ⟨rfl, nw, P, _, hp1, hB, hC, hH, Or.inl ⟨rfl, rfl⟩, rfl⟩)⟩
  · obtain ⟨s', past', e2, eS, e3⟩ := res_M s snap past q1 th
    have h304 := hcv.2.2.2.2.2.2.2.1.1.1
    have hz := hcv.2.2.2.2.2.2.2.1.2.2.1
    have hC' : CV s' n2 K P2 (cpV b.2 (nowB (al 0) (al 1) (al 2) (al 3) (al 4) (al 5) (al 6) (al 7) (al 8) (al 9) (al 10) (al 11) (al 12) (al 13) (al 14) (al 15) went sp sr mn er fe ms pa lo wz ww wl wu az aw af tw).2) := CR.cong (fun j hj => e3 j hj) (Nat.le_refl _) (CV.copy (nowB (al 0) (al 1) (al 2) (al 3) (al 4) (al 5) (al 6) (al 7) (al 8) (al 9) (al 10) (al 11) (al 12) (al 13) (al 14) (al 15) went sp sr mn er fe ms pa lo wz ww wl wu az aw af tw).2 hcv)
    have et : stW cI b = tlW cI [b] := by simp only [tlW, List.flatMap_cons, List.flatMap_nil, List.append_nil]
    rw [← et] at hp
    refine ⟨snap 304, ((nI (if np < 6 then np + 1 else 6), nI 1, nI 0, sz, mi, pd, ls, spt, wrg, le, fi, se, thd, ma, s', past', snap, line, back, wm) : MT), by show (fX9_restore (nI np) (nI 1) th s past snap).bind _ = _; rw [e2]; first | done | rfl, oW_restore h0 q1 q2 q3 hp (fun bs2 ws1 hs2 hp1 => ⟨h304.trans hz.symm, ?_⟩)⟩
    rw [et] at hp1
    exact ⟨n2, P2, _, hp1, hB, hC', HR.save hH hv hs2 eS, Or.inr ⟨b, n2, P2, rfl, rfl, hcv⟩, rfl⟩
set_option maxHeartbeats 4000000 in
set_option maxRecDepth 100000 in
theorem jo_keep {l : Launch} {sa sv : Nat → Nat} {G : va_G} {cI cS : ClassId} {ad : Nat} {al : Nat → Nat} {B : List Nat} {M : MT} {K : Nat} {ws : va_W} (hJ : JJ cI cS ad al B M K ws) : ∃ r M', fL_keep M = some (r, M') ∧ LwX l sa sv G [(cI, .int)] yX8_keep wsX8_keep ({ frames := 3, cells := 16, slots := 480, locals := 90 } : Room) ad [] ws (fun x ws1 => r = x ∧ JJ cI cS ad al B M' K ws1) := by
  obtain ⟨nw, P, ⟨went, sp, sr, wz, az, po, kd, li, wo, va, osl, osu, tl, tu, mn, er, fe, ms, pa, lo, ww, wl, wu, aw, af, tw, cs, osw, tv, rr, ll, bk, np, tn, bs, sn⟩, hp, hB, hC, hH, hs, hn⟩ := hJ
  obtain ⟨np9, ik, th, sz, mi, pd, ls, spt, wrg, le, fi, se, thd, ma, s, past, snap, line, back, wm⟩ := M
  have hn : np9 = nI np := hn
  subst hn
  have hp : ws.Perm (EW cI cS ad al ((went, sp, sr, wz, az, po, kd, li, wo, va, osl, osu, tl, tu, mn, er, fe, ms, pa, lo, ww, wl, wu, aw, af, tw, cs, osw, tv, rr, ll, bk, np, tn, bs, sn) : LV) ++ (tlW cI bs ++ tlW cI sn)) := hp
  have hC : CR s nw K P went sp sr mn er fe ms pa lo wz ww wl wu az aw af tw := hC
  have hv : CV s nw K P (nowB (al 0) (al 1) (al 2) (al 3) (al 4) (al 5) (al 6) (al 7) (al 8) (al 9) (al 10) (al 11) (al 12) (al 13) (al 14) (al 15) went sp sr mn er fe ms pa lo wz ww wl wu az aw af tw).2 := hC
  have hH : HR bs np K past := hH
  have hs : (sn = [] ∧ ik = nI 0) ∨ ∃ b n P, sn = [b] ∧ ik = nI 1 ∧ CV snap n K P b.2 := hs
  have hB : tn = B.length ∧ BR B.length cs (txB B) := hB
  obtain ⟨r0, h0, -⟩ := ini_X5
  have hsn : sn.length ≤ 1 := by
    rcases hs with ⟨rfl, -⟩ | ⟨b, n2, P2, rfl, -, -⟩
    · exact Nat.zero_le _
    · exact Nat.le_refl _
  obtain ⟨t', e2, e3⟩ := kee_M s snap ik th
  have h304 := hC.2.2.2.2.2.2.2.1.1.1
  have hz := hC.2.2.2.2.2.2.2.1.2.2.1
  refine ⟨s 304, ((nI np, nI 1, nI 0, sz, mi, pd, ls, spt, wrg, le, fi, se, thd, ma, s, past, t', line, back, wm) : MT), by show (fX9_keep ik th s snap).bind _ = _; rw [e2]; rfl, oX_keep h0 hsn hp (fun u ws1 hu hp1 => ⟨h304.trans hz.symm, ?_⟩)⟩
  obtain ⟨a, w, rfl⟩ := hu
  rw [show stW cI (a, cpV (nowB (al 0) (al 1) (al 2) (al 3) (al 4) (al 5) (al 6) (al 7) (al 8) (al 9) (al 10) (al 11) (al 12) (al 13) (al 14) (al 15) went sp sr mn er fe ms pa lo wz ww wl wu az aw af tw).2 w) = tlW cI [(a, cpV (nowB (al 0) (al 1) (al 2) (al 3) (al 4) (al 5) (al 6) (al 7) (al 8) (al 9) (al 10) (al 11) (al 12) (al 13) (al 14) (al 15) went sp sr mn er fe ms pa lo wz ww wl wu az aw af tw).2 w)] by simp only [tlW, List.flatMap_cons, List.flatMap_nil, List.append_nil]] at hp1
  exact ⟨nw, P, _, hp1, hB, hC, hH, Or.inr ⟨_, nw, P, rfl, rfl, CR.cong (fun j hj => e3 j hj) (Nat.le_refl _) (CV.copy w hv)⟩, rfl⟩

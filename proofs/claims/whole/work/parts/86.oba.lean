set_option maxHeartbeats 4000000 in
set_option maxRecDepth 100000 in
theorem ob_append {l : Launch} (hst : l.stackTraces = false) {sa sv : Nat → Nat} {G : va_G} {cI cS cJ : ClassId} {ad am ao : Nat} {al : Nat → Nat} {xs : Nat → Int32} {i n : Nat} {ws : va_W} (hn : n ≤ 511) (hI : Inv cI cS cJ ad am ao al n ws) : Ob_append l sa sv G cI cS cJ xs ad am ao i ws (Inv cI cS cJ ad am ao al (n + 1)) := by
  obtain ⟨⟨went, sp, sr, wz, az, po, kd, li, wo, va, osl, osu, tl, tu, ik, th, sz, mi, pd, ls, spt, wrg, le, fi, se, thd, ma, mn, er, fe, ms, pa, lo, ww, wl, wu, aw, af, tw, cs, osw, tv, rr, ll, bk, s, past, snap, tx, line, back, wm, g, np, tn, np9, tn9, bs, sn⟩, nw, K, P, hp, ⟨hB, hC, hH, hs, h9, h8⟩, hK⟩ := hI
  have k9 : np = np9 := h9.symm
  have k8 : tn = tn9 := h8.symm
  clear h9 h8
  subst k9
  subst k8
  have hp : ws.Perm (EW cI cS cJ ad am ao al ((went, sp, sr, wz, az, po, kd, li, wo, va, osl, osu, tl, tu, ik, th, sz, mi, pd, ls, spt, wrg, le, fi, se, thd, ma, mn, er, fe, ms, pa, lo, ww, wl, wu, aw, af, tw, cs, osw, tv, rr, ll, bk, s, past, snap, tx, line, back, wm, g, np, tn, np, tn, bs, sn) : LV) ++ (tlW cI bs ++ tlW cI sn)) := hp
  have hB : BR tn cs tx := hB
  have hC : CR s nw K P went sp sr mn er fe ms pa lo wz ww wl wu az aw af tw := hC
  have hv : CV s nw K P (nowB (al 0) (al 1) (al 2) (al 3) (al 4) (al 5) (al 6) (al 7) (al 8) (al 9) (al 10) (al 11) (al 12) (al 13) (al 14) (al 15) went sp sr mn er fe ms pa lo wz ww wl wu az aw af tw).2 := hC
  have hH : HR bs np K past := hH
  have hs : (sn = [] ∧ ik = nI 0) ∨ ∃ b n P, sn = [b] ∧ ik = nI 1 ∧ CV snap n K P b.2 := hs
  have hK : K + tn ≤ n := hK
  unfold Ob_append
  rcases F_append hB (xs (i + 1)) th with ⟨e, t, e1, e2, ec⟩ | ⟨b, cs', tx', e1, e2, hB'⟩
  · rcases ec with ⟨rfl, rfl⟩ | ⟨rfl, rfl⟩
    · exact oV_append_1 hst hp e1 (fun ws1 hp1 => o9_append hp1 e2 (fun ws2 hp2 => lwT hp2 (fun ws3 hp3 => ⟨by decide, fun hk => absurd hk (by decide), _, nw, K, P, hp3, ⟨hB, hC, hH, hs, rfl, rfl⟩, (show K + tn ≤ n + 1 by omega)⟩)))
    · exact oV_append_2 hst hp e1 (fun ws1 hp1 => o9_append hp1 e2 (fun ws2 hp2 => lwT hp2 (fun ws3 hp3 => ⟨by decide, fun hk => absurd hk (by decide), _, nw, K, P, hp3, ⟨hB, hC, hH, hs, rfl, rfl⟩, (show K + tn ≤ n + 1 by omega)⟩)))
  · exact oW_append hp e1 (fun ws1 hp1 => o9_append hp1 e2 (fun ws2 hp2 => lwT hp2 (fun ws3 hp3 => ⟨by decide, fun _ => out_g hp3 (upd0 g _), _, nw, K, P, hp3, ⟨hB', hC, hH, hs, rfl, rfl⟩, (show K + (tn + 1) ≤ n + 1 by omega)⟩)))
set_option maxHeartbeats 4000000 in
set_option maxRecDepth 100000 in
theorem ob_clearBuffer {l : Launch} (hst : l.stackTraces = false) {sa sv : Nat → Nat} {G : va_G} {cI cS cJ : ClassId} {ad am ao : Nat} {al : Nat → Nat} {xs : Nat → Int32} {i n : Nat} {ws : va_W} (hn : n ≤ 511) (hI : Inv cI cS cJ ad am ao al n ws) : Ob_clearBuffer l sa sv G cI cS cJ xs ad am ao i ws (Inv cI cS cJ ad am ao al (n + 1)) := by
  obtain ⟨⟨went, sp, sr, wz, az, po, kd, li, wo, va, osl, osu, tl, tu, ik, th, sz, mi, pd, ls, spt, wrg, le, fi, se, thd, ma, mn, er, fe, ms, pa, lo, ww, wl, wu, aw, af, tw, cs, osw, tv, rr, ll, bk, s, past, snap, tx, line, back, wm, g, np, tn, np9, tn9, bs, sn⟩, nw, K, P, hp, ⟨hB, hC, hH, hs, h9, h8⟩, hK⟩ := hI
  have k9 : np = np9 := h9.symm
  have k8 : tn = tn9 := h8.symm
  clear h9 h8
  subst k9
  subst k8
  have hp : ws.Perm (EW cI cS cJ ad am ao al ((went, sp, sr, wz, az, po, kd, li, wo, va, osl, osu, tl, tu, ik, th, sz, mi, pd, ls, spt, wrg, le, fi, se, thd, ma, mn, er, fe, ms, pa, lo, ww, wl, wu, aw, af, tw, cs, osw, tv, rr, ll, bk, s, past, snap, tx, line, back, wm, g, np, tn, np, tn, bs, sn) : LV) ++ (tlW cI bs ++ tlW cI sn)) := hp
  have hB : BR tn cs tx := hB
  have hC : CR s nw K P went sp sr mn er fe ms pa lo wz ww wl wu az aw af tw := hC
  have hv : CV s nw K P (nowB (al 0) (al 1) (al 2) (al 3) (al 4) (al 5) (al 6) (al 7) (al 8) (al 9) (al 10) (al 11) (al 12) (al 13) (al 14) (al 15) went sp sr mn er fe ms pa lo wz ww wl wu az aw af tw).2 := hC
  have hH : HR bs np K past := hH
  have hs : (sn = [] ∧ ik = nI 0) ∨ ∃ b n P, sn = [b] ∧ ik = nI 1 ∧ CV snap n K P b.2 := hs
  have hK : K + tn ≤ n := hK
  unfold Ob_clearBuffer
  obtain ⟨e1, e2⟩ := F_clear tn th
  exact oX_clearBuffer hp e1 (fun ws1 hp1 => o9_clearBuffer hp1 e2 (fun ws3 hp3 => ⟨rfl, _, nw, K, P, hp3, ⟨BR_0 _ _, hC, hH, hs, rfl, rfl⟩, (show K + 0 ≤ n + 1 by omega)⟩))
set_option maxHeartbeats 4000000 in
set_option maxRecDepth 100000 in
theorem ob_firstError {l : Launch} (hst : l.stackTraces = false) {sa sv : Nat → Nat} {G : va_G} {cI cS cJ : ClassId} {ad am ao : Nat} {al : Nat → Nat} {xs : Nat → Int32} {i n : Nat} {ws : va_W} (hn : n ≤ 511) (hI : Inv cI cS cJ ad am ao al n ws) : Ob_firstError l sa sv G cI cS cJ xs ad am ao i ws (Inv cI cS cJ ad am ao al (n + 1)) := by
  obtain ⟨⟨went, sp, sr, wz, az, po, kd, li, wo, va, osl, osu, tl, tu, ik, th, sz, mi, pd, ls, spt, wrg, le, fi, se, thd, ma, mn, er, fe, ms, pa, lo, ww, wl, wu, aw, af, tw, cs, osw, tv, rr, ll, bk, s, past, snap, tx, line, back, wm, g, np, tn, np9, tn9, bs, sn⟩, nw, K, P, hp, ⟨hB, hC, hH, hs, h9, h8⟩, hK⟩ := hI
  have k9 : np = np9 := h9.symm
  have k8 : tn = tn9 := h8.symm
  clear h9 h8
  subst k9
  subst k8
  have hp : ws.Perm (EW cI cS cJ ad am ao al ((went, sp, sr, wz, az, po, kd, li, wo, va, osl, osu, tl, tu, ik, th, sz, mi, pd, ls, spt, wrg, le, fi, se, thd, ma, mn, er, fe, ms, pa, lo, ww, wl, wu, aw, af, tw, cs, osw, tv, rr, ll, bk, s, past, snap, tx, line, back, wm, g, np, tn, np, tn, bs, sn) : LV) ++ (tlW cI bs ++ tlW cI sn)) := hp
  have hB : BR tn cs tx := hB
  have hC : CR s nw K P went sp sr mn er fe ms pa lo wz ww wl wu az aw af tw := hC
  have hv : CV s nw K P (nowB (al 0) (al 1) (al 2) (al 3) (al 4) (al 5) (al 6) (al 7) (al 8) (al 9) (al 10) (al 11) (al 12) (al 13) (al 14) (al 15) went sp sr mn er fe ms pa lo wz ww wl wu az aw af tw).2 := hC
  have hH : HR bs np K past := hH
  have hs : (sn = [] ∧ ik = nI 0) ∨ ∃ b n P, sn = [b] ∧ ik = nI 1 ∧ CV snap n K P b.2 := hs
  have hK : K + tn ≤ n := hK
  unfold Ob_firstError
  obtain ⟨b, po', kd', li', wo', va', sl', su', sw', sp', wr', le', fi', se', th', ma', wo3, e1, e2⟩ := F_firstError hB po kd li wo va osl osu osw th spt wrg le fi se thd ma wm
  exact oX_firstError hp e1 (fun ws1 hp1 => o9_firstError hp1 e2 (fun ws3 hp3 => ⟨rfl, _, nw, K, P, hp3, ⟨hB, hC, hH, hs, rfl, rfl⟩, (show K + tn ≤ n + 1 by omega)⟩))
set_option maxHeartbeats 4000000 in
set_option maxRecDepth 100000 in
theorem ob_stopped {l : Launch} (hst : l.stackTraces = false) {sa sv : Nat → Nat} {G : va_G} {cI cS cJ : ClassId} {ad am ao : Nat} {al : Nat → Nat} {xs : Nat → Int32} {i n : Nat} {ws : va_W} (hn : n ≤ 511) (hI : Inv cI cS cJ ad am ao al n ws) : Ob_stopped l sa sv G cI cS cJ xs ad am ao i ws (Inv cI cS cJ ad am ao al (n + 1)) := by
  obtain ⟨⟨went, sp, sr, wz, az, po, kd, li, wo, va, osl, osu, tl, tu, ik, th, sz, mi, pd, ls, spt, wrg, le, fi, se, thd, ma, mn, er, fe, ms, pa, lo, ww, wl, wu, aw, af, tw, cs, osw, tv, rr, ll, bk, s, past, snap, tx, line, back, wm, g, np, tn, np9, tn9, bs, sn⟩, nw, K, P, hp, ⟨hB, hC, hH, hs, h9, h8⟩, hK⟩ := hI
  have k9 : np = np9 := h9.symm
  have k8 : tn = tn9 := h8.symm
  clear h9 h8
  subst k9
  subst k8
  have hp : ws.Perm (EW cI cS cJ ad am ao al ((went, sp, sr, wz, az, po, kd, li, wo, va, osl, osu, tl, tu, ik, th, sz, mi, pd, ls, spt, wrg, le, fi, se, thd, ma, mn, er, fe, ms, pa, lo, ww, wl, wu, aw, af, tw, cs, osw, tv, rr, ll, bk, s, past, snap, tx, line, back, wm, g, np, tn, np, tn, bs, sn) : LV) ++ (tlW cI bs ++ tlW cI sn)) := hp
  have hB : BR tn cs tx := hB
  have hC : CR s nw K P went sp sr mn er fe ms pa lo wz ww wl wu az aw af tw := hC
  have hv : CV s nw K P (nowB (al 0) (al 1) (al 2) (al 3) (al 4) (al 5) (al 6) (al 7) (al 8) (al 9) (al 10) (al 11) (al 12) (al 13) (al 14) (al 15) went sp sr mn er fe ms pa lo wz ww wl wu az aw af tw).2 := hC
  have hH : HR bs np K past := hH
  have hs : (sn = [] ∧ ik = nI 0) ∨ ∃ b n P, sn = [b] ∧ ik = nI 1 ∧ CV snap n K P b.2 := hs
  have hK : K + tn ≤ n := hK
  unfold Ob_stopped
  rcases F_stopped hC.2.2.2.2.2.2.2.2.2.2.1 (xs (i + 1)) th with ⟨e1, e2⟩ | ⟨b, e1, e2⟩
  · exact oV_stopped_1 hst hp e1 (fun ws1 hp1 => o9_stopped hp1 e2 (fun ws2 hp2 => lwT hp2 (fun ws3 hp3 => ⟨by decide, fun hk => absurd hk (by decide), _, nw, K, P, hp3, ⟨hB, hC, hH, hs, rfl, rfl⟩, (show K + tn ≤ n + 1 by omega)⟩)))
  · exact oW_stopped hp e1 (fun ws1 hp1 => o9_stopped hp1 e2 (fun ws2 hp2 => lwT hp2 (fun ws3 hp3 => ⟨by decide, fun _ => out_g hp3 (upd0 g _), _, nw, K, P, hp3, ⟨hB, hC, hH, hs, rfl, rfl⟩, (show K + tn ≤ n + 1 by omega)⟩)))
set_option maxHeartbeats 4000000 in
set_option maxRecDepth 100000 in
theorem ob_told {l : Launch} (hst : l.stackTraces = false) {sa sv : Nat → Nat} {G : va_G} {cI cS cJ : ClassId} {ad am ao : Nat} {al : Nat → Nat} {xs : Nat → Int32} {i n : Nat} {ws : va_W} (hn : n ≤ 511) (hI : Inv cI cS cJ ad am ao al n ws) : Ob_told l sa sv G cI cS cJ xs ad am ao i ws (Inv cI cS cJ ad am ao al (n + 1)) := by
  obtain ⟨⟨went, sp, sr, wz, az, po, kd, li, wo, va, osl, osu, tl, tu, ik, th, sz, mi, pd, ls, spt, wrg, le, fi, se, thd, ma, mn, er, fe, ms, pa, lo, ww, wl, wu, aw, af, tw, cs, osw, tv, rr, ll, bk, s, past, snap, tx, line, back, wm, g, np, tn, np9, tn9, bs, sn⟩, nw, K, P, hp, ⟨hB, hC, hH, hs, h9, h8⟩, hK⟩ := hI
  have k9 : np = np9 := h9.symm
  have k8 : tn = tn9 := h8.symm
  clear h9 h8
  subst k9
  subst k8
  have hp : ws.Perm (EW cI cS cJ ad am ao al ((went, sp, sr, wz, az, po, kd, li, wo, va, osl, osu, tl, tu, ik, th, sz, mi, pd, ls, spt, wrg, le, fi, se, thd, ma, mn, er, fe, ms, pa, lo, ww, wl, wu, aw, af, tw, cs, osw, tv, rr, ll, bk, s, past, snap, tx, line, back, wm, g, np, tn, np, tn, bs, sn) : LV) ++ (tlW cI bs ++ tlW cI sn)) := hp
  have hB : BR tn cs tx := hB
  have hC : CR s nw K P went sp sr mn er fe ms pa lo wz ww wl wu az aw af tw := hC
  have hv : CV s nw K P (nowB (al 0) (al 1) (al 2) (al 3) (al 4) (al 5) (al 6) (al 7) (al 8) (al 9) (al 10) (al 11) (al 12) (al 13) (al 14) (al 15) went sp sr mn er fe ms pa lo wz ww wl wu az aw af tw).2 := hC
  have hH : HR bs np K past := hH
  have hs : (sn = [] ∧ ik = nI 0) ∨ ∃ b n P, sn = [b] ∧ ik = nI 1 ∧ CV snap n K P b.2 := hs
  have hK : K + tn ≤ n := hK
  unfold Ob_told
  rcases F_told hC (xs (i + 1)) (xs (i + 2)) th with ⟨e1, e2⟩ | ⟨b, e1, e2⟩
  · exact oV_told_1 hst hp e1 (fun ws1 hp1 => o9_told hp1 e2 (fun ws2 hp2 => lwT hp2 (fun ws3 hp3 => ⟨by decide, fun hk => absurd hk (by decide), _, nw, K, P, hp3, ⟨hB, hC, hH, hs, rfl, rfl⟩, (show K + tn ≤ n + 1 by omega)⟩)))
  · exact oW_told hp e1 (fun ws1 hp1 => o9_told hp1 e2 (fun ws2 hp2 => lwT hp2 (fun ws3 hp3 => ⟨by decide, fun _ => out_g hp3 (upd0 g _), _, nw, K, P, hp3, ⟨hB, hC, hH, hs, rfl, rfl⟩, (show K + tn ≤ n + 1 by omega)⟩)))
set_option maxHeartbeats 4000000 in
set_option maxRecDepth 100000 in
theorem ob_meaning {l : Launch} (hst : l.stackTraces = false) {sa sv : Nat → Nat} {G : va_G} {cI cS cJ : ClassId} {ad am ao : Nat} {al : Nat → Nat} {xs : Nat → Int32} {i n : Nat} {ws : va_W} (hn : n ≤ 511) (hI : Inv cI cS cJ ad am ao al n ws) : Ob_meaning l sa sv G cI cS cJ xs ad am ao i ws (Inv cI cS cJ ad am ao al (n + 1)) := by
  obtain ⟨⟨went, sp, sr, wz, az, po, kd, li, wo, va, osl, osu, tl, tu, ik, th, sz, mi, pd, ls, spt, wrg, le, fi, se, thd, ma, mn, er, fe, ms, pa, lo, ww, wl, wu, aw, af, tw, cs, osw, tv, rr, ll, bk, s, past, snap, tx, line, back, wm, g, np, tn, np9, tn9, bs, sn⟩, nw, K, P, hp, ⟨hB, hC, hH, hs, h9, h8⟩, hK⟩ := hI
  have k9 : np = np9 := h9.symm
  have k8 : tn = tn9 := h8.symm
  clear h9 h8
  subst k9
  subst k8
  have hp : ws.Perm (EW cI cS cJ ad am ao al ((went, sp, sr, wz, az, po, kd, li, wo, va, osl, osu, tl, tu, ik, th, sz, mi, pd, ls, spt, wrg, le, fi, se, thd, ma, mn, er, fe, ms, pa, lo, ww, wl, wu, aw, af, tw, cs, osw, tv, rr, ll, bk, s, past, snap, tx, line, back, wm, g, np, tn, np, tn, bs, sn) : LV) ++ (tlW cI bs ++ tlW cI sn)) := hp
  have hB : BR tn cs tx := hB
  have hC : CR s nw K P went sp sr mn er fe ms pa lo wz ww wl wu az aw af tw := hC
  have hv : CV s nw K P (nowB (al 0) (al 1) (al 2) (al 3) (al 4) (al 5) (al 6) (al 7) (al 8) (al 9) (al 10) (al 11) (al 12) (al 13) (al 14) (al 15) went sp sr mn er fe ms pa lo wz ww wl wu az aw af tw).2 := hC
  have hH : HR bs np K past := hH
  have hs : (sn = [] ∧ ik = nI 0) ∨ ∃ b n P, sn = [b] ∧ ik = nI 1 ∧ CV snap n K P b.2 := hs
  have hK : K + tn ≤ n := hK
  unfold Ob_meaning
  rcases F_meaning hC (xs (i + 1)) (xs (i + 2)) (xs (i + 3)) th with ⟨e, t, e1, e2, ec⟩ | ⟨b, e1, e2⟩
  · rcases ec with ⟨rfl, rfl⟩ | ⟨rfl, rfl⟩
    · exact oV_meaning_1 hst hp e1 (fun ws1 hp1 => o9_meaning hp1 e2 (fun ws2 hp2 => lwT hp2 (fun ws3 hp3 => ⟨by decide, fun hk => absurd hk (by decide), _, nw, K, P, hp3, ⟨hB, hC, hH, hs, rfl, rfl⟩, (show K + tn ≤ n + 1 by omega)⟩)))
    · exact oV_meaning_2 hst hp e1 (fun ws1 hp1 => o9_meaning hp1 e2 (fun ws2 hp2 => lwT hp2 (fun ws3 hp3 => ⟨by decide, fun hk => absurd hk (by decide), _, nw, K, P, hp3, ⟨hB, hC, hH, hs, rfl, rfl⟩, (show K + tn ≤ n + 1 by omega)⟩)))
  · exact oW_meaning hp e1 (fun ws1 hp1 => o9_meaning hp1 e2 (fun ws2 hp2 => lwT hp2 (fun ws3 hp3 => ⟨by decide, fun _ => out_g hp3 (upd0 g _), _, nw, K, P, hp3, ⟨hB, hC, hH, hs, rfl, rfl⟩, (show K + tn ≤ n + 1 by omega)⟩)))
set_option maxHeartbeats 4000000 in
set_option maxRecDepth 100000 in
theorem ob_link {l : Launch} (hst : l.stackTraces = false) {sa sv : Nat → Nat} {G : va_G} {cI cS cJ : ClassId} {ad am ao : Nat} {al : Nat → Nat} {xs : Nat → Int32} {i n : Nat} {ws : va_W} (hn : n ≤ 511) (hI : Inv cI cS cJ ad am ao al n ws) : Ob_link l sa sv G cI cS cJ xs ad am ao i ws (Inv cI cS cJ ad am ao al (n + 1)) := by
  obtain ⟨⟨went, sp, sr, wz, az, po, kd, li, wo, va, osl, osu, tl, tu, ik, th, sz, mi, pd, ls, spt, wrg, le, fi, se, thd, ma, mn, er, fe, ms, pa, lo, ww, wl, wu, aw, af, tw, cs, osw, tv, rr, ll, bk, s, past, snap, tx, line, back, wm, g, np, tn, np9, tn9, bs, sn⟩, nw, K, P, hp, ⟨hB, hC, hH, hs, h9, h8⟩, hK⟩ := hI
  have k9 : np = np9 := h9.symm
  have k8 : tn = tn9 := h8.symm
  clear h9 h8
  subst k9
  subst k8
  have hp : ws.Perm (EW cI cS cJ ad am ao al ((went, sp, sr, wz, az, po, kd, li, wo, va, osl, osu, tl, tu, ik, th, sz, mi, pd, ls, spt, wrg, le, fi, se, thd, ma, mn, er, fe, ms, pa, lo, ww, wl, wu, aw, af, tw, cs, osw, tv, rr, ll, bk, s, past, snap, tx, line, back, wm, g, np, tn, np, tn, bs, sn) : LV) ++ (tlW cI bs ++ tlW cI sn)) := hp
  have hB : BR tn cs tx := hB
  have hC : CR s nw K P went sp sr mn er fe ms pa lo wz ww wl wu az aw af tw := hC
  have hv : CV s nw K P (nowB (al 0) (al 1) (al 2) (al 3) (al 4) (al 5) (al 6) (al 7) (al 8) (al 9) (al 10) (al 11) (al 12) (al 13) (al 14) (al 15) went sp sr mn er fe ms pa lo wz ww wl wu az aw af tw).2 := hC
  have hH : HR bs np K past := hH
  have hs : (sn = [] ∧ ik = nI 0) ∨ ∃ b n P, sn = [b] ∧ ik = nI 1 ∧ CV snap n K P b.2 := hs
  have hK : K + tn ≤ n := hK
  unfold Ob_link
  rcases F_link hC (xs (i + 1)) (xs (i + 2)) th with ⟨e, t, e1, e2, ec⟩ | ⟨b, e1, e2⟩
  · rcases ec with ⟨rfl, rfl⟩ | ⟨rfl, rfl⟩
    · exact oV_link_1 hst hp e1 (fun ws1 hp1 => o9_link hp1 e2 (fun ws2 hp2 => lwT hp2 (fun ws3 hp3 => ⟨by decide, fun hk => absurd hk (by decide), _, nw, K, P, hp3, ⟨hB, hC, hH, hs, rfl, rfl⟩, (show K + tn ≤ n + 1 by omega)⟩)))
    · exact oV_link_2 hst hp e1 (fun ws1 hp1 => o9_link hp1 e2 (fun ws2 hp2 => lwT hp2 (fun ws3 hp3 => ⟨by decide, fun hk => absurd hk (by decide), _, nw, K, P, hp3, ⟨hB, hC, hH, hs, rfl, rfl⟩, (show K + tn ≤ n + 1 by omega)⟩)))
  · exact oW_link hp e1 (fun ws1 hp1 => o9_link hp1 e2 (fun ws2 hp2 => lwT hp2 (fun ws3 hp3 => ⟨by decide, fun _ => out_g hp3 (upd0 g _), _, nw, K, P, hp3, ⟨hB, hC, hH, hs, rfl, rfl⟩, (show K + tn ≤ n + 1 by omega)⟩)))
set_option maxHeartbeats 4000000 in
set_option maxRecDepth 100000 in
theorem ob_waits {l : Launch} (hst : l.stackTraces = false) {sa sv : Nat → Nat} {G : va_G} {cI cS cJ : ClassId} {ad am ao : Nat} {al : Nat → Nat} {xs : Nat → Int32} {i n : Nat} {ws : va_W} (hn : n ≤ 511) (hI : Inv cI cS cJ ad am ao al n ws) : Ob_waits l sa sv G cI cS cJ xs ad am ao i ws (Inv cI cS cJ ad am ao al (n + 1)) := by
  obtain ⟨⟨went, sp, sr, wz, az, po, kd, li, wo, va, osl, osu, tl, tu, ik, th, sz, mi, pd, ls, spt, wrg, le, fi, se, thd, ma, mn, er, fe, ms, pa, lo, ww, wl, wu, aw, af, tw, cs, osw, tv, rr, ll, bk, s, past, snap, tx, line, back, wm, g, np, tn, np9, tn9, bs, sn⟩, nw, K, P, hp, ⟨hB, hC, hH, hs, h9, h8⟩, hK⟩ := hI
  have k9 : np = np9 := h9.symm
  have k8 : tn = tn9 := h8.symm
  clear h9 h8
  subst k9
  subst k8
  have hp : ws.Perm (EW cI cS cJ ad am ao al ((went, sp, sr, wz, az, po, kd, li, wo, va, osl, osu, tl, tu, ik, th, sz, mi, pd, ls, spt, wrg, le, fi, se, thd, ma, mn, er, fe, ms, pa, lo, ww, wl, wu, aw, af, tw, cs, osw, tv, rr, ll, bk, s, past, snap, tx, line, back, wm, g, np, tn, np, tn, bs, sn) : LV) ++ (tlW cI bs ++ tlW cI sn)) := hp
  have hB : BR tn cs tx := hB
  have hC : CR s nw K P went sp sr mn er fe ms pa lo wz ww wl wu az aw af tw := hC
  have hv : CV s nw K P (nowB (al 0) (al 1) (al 2) (al 3) (al 4) (al 5) (al 6) (al 7) (al 8) (al 9) (al 10) (al 11) (al 12) (al 13) (al 14) (al 15) went sp sr mn er fe ms pa lo wz ww wl wu az aw af tw).2 := hC
  have hH : HR bs np K past := hH
  have hs : (sn = [] ∧ ik = nI 0) ∨ ∃ b n P, sn = [b] ∧ ik = nI 1 ∧ CV snap n K P b.2 := hs
  have hK : K + tn ≤ n := hK
  unfold Ob_waits
  rcases F_waits hC (xs (i + 1)) (xs (i + 2)) th tl tu tv with ⟨e1, e2⟩ | ⟨b, sl', su', sw', e1, e2⟩
  · exact oV_waits_1 hst hp e1 (fun ws1 hp1 => o9_waits hp1 e2 (fun ws2 hp2 => lwT hp2 (fun ws3 hp3 => ⟨by decide, fun hk => absurd hk (by decide), _, nw, K, P, hp3, ⟨hB, hC, hH, hs, rfl, rfl⟩, (show K + tn ≤ n + 1 by omega)⟩)))
  · exact oW_waits hp e1 (fun ws1 hp1 => o9_waits hp1 e2 (fun ws2 hp2 => lwT hp2 (fun ws3 hp3 => ⟨by decide, fun _ => out_g hp3 (upd0 g _), _, nw, K, P, hp3, ⟨hB, hC, hH, hs, rfl, rfl⟩, (show K + tn ≤ n + 1 by omega)⟩)))
set_option maxHeartbeats 4000000 in
set_option maxRecDepth 100000 in
theorem ob_arrival {l : Launch} (hst : l.stackTraces = false) {sa sv : Nat → Nat} {G : va_G} {cI cS cJ : ClassId} {ad am ao : Nat} {al : Nat → Nat} {xs : Nat → Int32} {i n : Nat} {ws : va_W} (hn : n ≤ 511) (hI : Inv cI cS cJ ad am ao al n ws) : Ob_arrival l sa sv G cI cS cJ xs ad am ao i ws (Inv cI cS cJ ad am ao al (n + 1)) := by
  obtain ⟨⟨went, sp, sr, wz, az, po, kd, li, wo, va, osl, osu, tl, tu, ik, th, sz, mi, pd, ls, spt, wrg, le, fi, se, thd, ma, mn, er, fe, ms, pa, lo, ww, wl, wu, aw, af, tw, cs, osw, tv, rr, ll, bk, s, past, snap, tx, line, back, wm, g, np, tn, np9, tn9, bs, sn⟩, nw, K, P, hp, ⟨hB, hC, hH, hs, h9, h8⟩, hK⟩ := hI
  have k9 : np = np9 := h9.symm
  have k8 : tn = tn9 := h8.symm
  clear h9 h8
  subst k9
  subst k8
  have hp : ws.Perm (EW cI cS cJ ad am ao al ((went, sp, sr, wz, az, po, kd, li, wo, va, osl, osu, tl, tu, ik, th, sz, mi, pd, ls, spt, wrg, le, fi, se, thd, ma, mn, er, fe, ms, pa, lo, ww, wl, wu, aw, af, tw, cs, osw, tv, rr, ll, bk, s, past, snap, tx, line, back, wm, g, np, tn, np, tn, bs, sn) : LV) ++ (tlW cI bs ++ tlW cI sn)) := hp
  have hB : BR tn cs tx := hB
  have hC : CR s nw K P went sp sr mn er fe ms pa lo wz ww wl wu az aw af tw := hC
  have hv : CV s nw K P (nowB (al 0) (al 1) (al 2) (al 3) (al 4) (al 5) (al 6) (al 7) (al 8) (al 9) (al 10) (al 11) (al 12) (al 13) (al 14) (al 15) went sp sr mn er fe ms pa lo wz ww wl wu az aw af tw).2 := hC
  have hH : HR bs np K past := hH
  have hs : (sn = [] ∧ ik = nI 0) ∨ ∃ b n P, sn = [b] ∧ ik = nI 1 ∧ CV snap n K P b.2 := hs
  have hK : K + tn ≤ n := hK
  unfold Ob_arrival
  rcases F_arrival hC (xs (i + 1)) (xs (i + 2)) th with ⟨e1, e2⟩ | ⟨b, e1, e2⟩
  · exact oV_arrival_1 hst hp e1 (fun ws1 hp1 => o9_arrival hp1 e2 (fun ws2 hp2 => lwT hp2 (fun ws3 hp3 => ⟨by decide, fun hk => absurd hk (by decide), _, nw, K, P, hp3, ⟨hB, hC, hH, hs, rfl, rfl⟩, (show K + tn ≤ n + 1 by omega)⟩)))
  · exact oW_arrival hp e1 (fun ws1 hp1 => o9_arrival hp1 e2 (fun ws2 hp2 => lwT hp2 (fun ws3 hp3 => ⟨by decide, fun _ => out_g hp3 (upd0 g _), _, nw, K, P, hp3, ⟨hB, hC, hH, hs, rfl, rfl⟩, (show K + tn ≤ n + 1 by omega)⟩)))
set_option maxHeartbeats 4000000 in
set_option maxRecDepth 100000 in
theorem ob_count {l : Launch} (hst : l.stackTraces = false) {sa sv : Nat → Nat} {G : va_G} {cI cS cJ : ClassId} {ad am ao : Nat} {al : Nat → Nat} {xs : Nat → Int32} {i n : Nat} {ws : va_W} (hn : n ≤ 511) (hI : Inv cI cS cJ ad am ao al n ws) : Ob_count l sa sv G cI cS cJ xs ad am ao i ws (Inv cI cS cJ ad am ao al (n + 1)) := by
  obtain ⟨⟨went, sp, sr, wz, az, po, kd, li, wo, va, osl, osu, tl, tu, ik, th, sz, mi, pd, ls, spt, wrg, le, fi, se, thd, ma, mn, er, fe, ms, pa, lo, ww, wl, wu, aw, af, tw, cs, osw, tv, rr, ll, bk, s, past, snap, tx, line, back, wm, g, np, tn, np9, tn9, bs, sn⟩, nw, K, P, hp, ⟨hB, hC, hH, hs, h9, h8⟩, hK⟩ := hI
  have k9 : np = np9 := h9.symm
  have k8 : tn = tn9 := h8.symm
  clear h9 h8
  subst k9
  subst k8
  have hp : ws.Perm (EW cI cS cJ ad am ao al ((went, sp, sr, wz, az, po, kd, li, wo, va, osl, osu, tl, tu, ik, th, sz, mi, pd, ls, spt, wrg, le, fi, se, thd, ma, mn, er, fe, ms, pa, lo, ww, wl, wu, aw, af, tw, cs, osw, tv, rr, ll, bk, s, past, snap, tx, line, back, wm, g, np, tn, np, tn, bs, sn) : LV) ++ (tlW cI bs ++ tlW cI sn)) := hp
  have hB : BR tn cs tx := hB
  have hC : CR s nw K P went sp sr mn er fe ms pa lo wz ww wl wu az aw af tw := hC
  have hv : CV s nw K P (nowB (al 0) (al 1) (al 2) (al 3) (al 4) (al 5) (al 6) (al 7) (al 8) (al 9) (al 10) (al 11) (al 12) (al 13) (al 14) (al 15) went sp sr mn er fe ms pa lo wz ww wl wu az aw af tw).2 := hC
  have hH : HR bs np K past := hH
  have hs : (sn = [] ∧ ik = nI 0) ∨ ∃ b n P, sn = [b] ∧ ik = nI 1 ∧ CV snap n K P b.2 := hs
  have hK : K + tn ≤ n := hK
  unfold Ob_count
  rcases F_count hC np (xs (i + 1)) th with ⟨e1, e2⟩ | ⟨b, e1, e2⟩
  · exact oV_count_1 hst hp e1 (fun ws1 hp1 => o9_count hp1 e2 (fun ws2 hp2 => lwT hp2 (fun ws3 hp3 => ⟨by decide, fun hk => absurd hk (by decide), _, nw, K, P, hp3, ⟨hB, hC, hH, hs, rfl, rfl⟩, (show K + tn ≤ n + 1 by omega)⟩)))
  · exact oW_count hp e1 (fun ws1 hp1 => o9_count hp1 e2 (fun ws2 hp2 => lwT hp2 (fun ws3 hp3 => ⟨by decide, fun _ => out_g hp3 (upd0 g _), _, nw, K, P, hp3, ⟨hB, hC, hH, hs, rfl, rfl⟩, (show K + tn ≤ n + 1 by omega)⟩)))
set_option maxHeartbeats 4000000 in
set_option maxRecDepth 100000 in
theorem ob_lost {l : Launch} (hst : l.stackTraces = false) {sa sv : Nat → Nat} {G : va_G} {cI cS cJ : ClassId} {ad am ao : Nat} {al : Nat → Nat} {xs : Nat → Int32} {i n : Nat} {ws : va_W} (hn : n ≤ 511) (hI : Inv cI cS cJ ad am ao al n ws) : Ob_lost l sa sv G cI cS cJ xs ad am ao i ws (Inv cI cS cJ ad am ao al (n + 1)) := by
  obtain ⟨⟨went, sp, sr, wz, az, po, kd, li, wo, va, osl, osu, tl, tu, ik, th, sz, mi, pd, ls, spt, wrg, le, fi, se, thd, ma, mn, er, fe, ms, pa, lo, ww, wl, wu, aw, af, tw, cs, osw, tv, rr, ll, bk, s, past, snap, tx, line, back, wm, g, np, tn, np9, tn9, bs, sn⟩, nw, K, P, hp, ⟨hB, hC, hH, hs, h9, h8⟩, hK⟩ := hI
  have k9 : np = np9 := h9.symm
  have k8 : tn = tn9 := h8.symm
  clear h9 h8
  subst k9
  subst k8
  have hp : ws.Perm (EW cI cS cJ ad am ao al ((went, sp, sr, wz, az, po, kd, li, wo, va, osl, osu, tl, tu, ik, th, sz, mi, pd, ls, spt, wrg, le, fi, se, thd, ma, mn, er, fe, ms, pa, lo, ww, wl, wu, aw, af, tw, cs, osw, tv, rr, ll, bk, s, past, snap, tx, line, back, wm, g, np, tn, np, tn, bs, sn) : LV) ++ (tlW cI bs ++ tlW cI sn)) := hp
  have hB : BR tn cs tx := hB
  have hC : CR s nw K P went sp sr mn er fe ms pa lo wz ww wl wu az aw af tw := hC
  have hv : CV s nw K P (nowB (al 0) (al 1) (al 2) (al 3) (al 4) (al 5) (al 6) (al 7) (al 8) (al 9) (al 10) (al 11) (al 12) (al 13) (al 14) (al 15) went sp sr mn er fe ms pa lo wz ww wl wu az aw af tw).2 := hC
  have hH : HR bs np K past := hH
  have hs : (sn = [] ∧ ik = nI 0) ∨ ∃ b n P, sn = [b] ∧ ik = nI 1 ∧ CV snap n K P b.2 := hs
  have hK : K + tn ≤ n := hK
  unfold Ob_lost
  rcases F_lost (LtB_of (by omega) hC) hC.2.2.2.2.2.2.1 (xs (i + 1)) (xs (i + 2)) th with ⟨e1, e2⟩ | ⟨b, e1, e2⟩
  · exact oV_lost_1 hst hp e1 (fun ws1 hp1 => o9_lost hp1 e2 (fun ws2 hp2 => lwT hp2 (fun ws3 hp3 => ⟨by decide, fun hk => absurd hk (by decide), _, nw, K, P, hp3, ⟨hB, hC, hH, hs, rfl, rfl⟩, (show K + tn ≤ n + 1 by omega)⟩)))
  · exact oW_lost hp e1 (fun ws1 hp1 => o9_lost hp1 e2 (fun ws2 hp2 => lwT hp2 (fun ws3 hp3 => ⟨by decide, fun _ => out_g hp3 (upd0 g _), _, nw, K, P, hp3, ⟨hB, hC, hH, hs, rfl, rfl⟩, (show K + tn ≤ n + 1 by omega)⟩)))
set_option maxHeartbeats 4000000 in
set_option maxRecDepth 100000 in
theorem ob_ifGone {l : Launch} (hst : l.stackTraces = false) {sa sv : Nat → Nat} {G : va_G} {cI cS cJ : ClassId} {ad am ao : Nat} {al : Nat → Nat} {xs : Nat → Int32} {i n : Nat} {ws : va_W} (hn : n ≤ 511) (hI : Inv cI cS cJ ad am ao al n ws) : Ob_ifGone l sa sv G cI cS cJ xs ad am ao i ws (Inv cI cS cJ ad am ao al (n + 1)) := by
  obtain ⟨⟨went, sp, sr, wz, az, po, kd, li, wo, va, osl, osu, tl, tu, ik, th, sz, mi, pd, ls, spt, wrg, le, fi, se, thd, ma, mn, er, fe, ms, pa, lo, ww, wl, wu, aw, af, tw, cs, osw, tv, rr, ll, bk, s, past, snap, tx, line, back, wm, g, np, tn, np9, tn9, bs, sn⟩, nw, K, P, hp, ⟨hB, hC, hH, hs, h9, h8⟩, hK⟩ := hI
  have k9 : np = np9 := h9.symm
  have k8 : tn = tn9 := h8.symm
  clear h9 h8
  subst k9
  subst k8
  have hp : ws.Perm (EW cI cS cJ ad am ao al ((went, sp, sr, wz, az, po, kd, li, wo, va, osl, osu, tl, tu, ik, th, sz, mi, pd, ls, spt, wrg, le, fi, se, thd, ma, mn, er, fe, ms, pa, lo, ww, wl, wu, aw, af, tw, cs, osw, tv, rr, ll, bk, s, past, snap, tx, line, back, wm, g, np, tn, np, tn, bs, sn) : LV) ++ (tlW cI bs ++ tlW cI sn)) := hp
  have hB : BR tn cs tx := hB
  have hC : CR s nw K P went sp sr mn er fe ms pa lo wz ww wl wu az aw af tw := hC
  have hv : CV s nw K P (nowB (al 0) (al 1) (al 2) (al 3) (al 4) (al 5) (al 6) (al 7) (al 8) (al 9) (al 10) (al 11) (al 12) (al 13) (al 14) (al 15) went sp sr mn er fe ms pa lo wz ww wl wu az aw af tw).2 := hC
  have hH : HR bs np K past := hH
  have hs : (sn = [] ∧ ik = nI 0) ∨ ∃ b n P, sn = [b] ∧ ik = nI 1 ∧ CV snap n K P b.2 := hs
  have hK : K + tn ≤ n := hK
  unfold Ob_ifGone
  rcases F_ifGone hC (xs (i + 1)) (xs (i + 2)) th tl tu tv rr ll sz mi pd ls line with ⟨e, t, e1, e2, ec⟩ | ⟨b, sl', su', sw', rw2, lw2, sz', mi', pd', ls', line', e1, e2⟩
  · rcases ec with ⟨rfl, rfl⟩ | ⟨rfl, rfl⟩
    · exact oV_ifGone_1 hst hp e1 (fun ws1 hp1 => o9_ifGone hp1 e2 (fun ws2 hp2 => lwT hp2 (fun ws3 hp3 => ⟨by decide, fun hk => absurd hk (by decide), _, nw, K, P, hp3, ⟨hB, hC, hH, hs, rfl, rfl⟩, (show K + tn ≤ n + 1 by omega)⟩)))
    · exact oV_ifGone_2 hst hp e1 (fun ws1 hp1 => o9_ifGone hp1 e2 (fun ws2 hp2 => lwT hp2 (fun ws3 hp3 => ⟨by decide, fun hk => absurd hk (by decide), _, nw, K, P, hp3, ⟨hB, hC, hH, hs, rfl, rfl⟩, (show K + tn ≤ n + 1 by omega)⟩)))
  · exact oW_ifGone hp e1 (fun ws1 hp1 => o9_ifGone hp1 e2 (fun ws2 hp2 => lwT hp2 (fun ws3 hp3 => ⟨by decide, fun _ => out_g hp3 (upd0 g _), _, nw, K, P, hp3, ⟨hB, hC, hH, hs, rfl, rfl⟩, (show K + tn ≤ n + 1 by omega)⟩)))
set_option maxHeartbeats 4000000 in
set_option maxRecDepth 100000 in
theorem ob_lostAt {l : Launch} (hst : l.stackTraces = false) {sa sv : Nat → Nat} {G : va_G} {cI cS cJ : ClassId} {ad am ao : Nat} {al : Nat → Nat} {xs : Nat → Int32} {i n : Nat} {ws : va_W} (hn : n ≤ 511) (hI : Inv cI cS cJ ad am ao al n ws) : Ob_lostAt l sa sv G cI cS cJ xs ad am ao i ws (Inv cI cS cJ ad am ao al (n + 1)) := by
  obtain ⟨⟨went, sp, sr, wz, az, po, kd, li, wo, va, osl, osu, tl, tu, ik, th, sz, mi, pd, ls, spt, wrg, le, fi, se, thd, ma, mn, er, fe, ms, pa, lo, ww, wl, wu, aw, af, tw, cs, osw, tv, rr, ll, bk, s, past, snap, tx, line, back, wm, g, np, tn, np9, tn9, bs, sn⟩, nw, K, P, hp, ⟨hB, hC, hH, hs, h9, h8⟩, hK⟩ := hI
  have k9 : np = np9 := h9.symm
  have k8 : tn = tn9 := h8.symm
  clear h9 h8
  subst k9
  subst k8
  have hp : ws.Perm (EW cI cS cJ ad am ao al ((went, sp, sr, wz, az, po, kd, li, wo, va, osl, osu, tl, tu, ik, th, sz, mi, pd, ls, spt, wrg, le, fi, se, thd, ma, mn, er, fe, ms, pa, lo, ww, wl, wu, aw, af, tw, cs, osw, tv, rr, ll, bk, s, past, snap, tx, line, back, wm, g, np, tn, np, tn, bs, sn) : LV) ++ (tlW cI bs ++ tlW cI sn)) := hp
  have hB : BR tn cs tx := hB
  have hC : CR s nw K P went sp sr mn er fe ms pa lo wz ww wl wu az aw af tw := hC
  have hv : CV s nw K P (nowB (al 0) (al 1) (al 2) (al 3) (al 4) (al 5) (al 6) (al 7) (al 8) (al 9) (al 10) (al 11) (al 12) (al 13) (al 14) (al 15) went sp sr mn er fe ms pa lo wz ww wl wu az aw af tw).2 := hC
  have hH : HR bs np K past := hH
  have hs : (sn = [] ∧ ik = nI 0) ∨ ∃ b n P, sn = [b] ∧ ik = nI 1 ∧ CV snap n K P b.2 := hs
  have hK : K + tn ≤ n := hK
  unfold Ob_lostAt
  rcases F_lostAt hC (xs (i + 1)) th sz mi pd ls line with ⟨e1, e2⟩ | ⟨b, sz', mi', pd', ls', line', e1, e2⟩
  · exact oV_lostAt_1 hst hp e1 (fun ws1 hp1 => o9_lostAt hp1 e2 (fun ws2 hp2 => lwT hp2 (fun ws3 hp3 => ⟨by decide, fun hk => absurd hk (by decide), _, nw, K, P, hp3, ⟨hB, hC, hH, hs, rfl, rfl⟩, (show K + tn ≤ n + 1 by omega)⟩)))
  · exact oW_lostAt hp e1 (fun ws1 hp1 => o9_lostAt hp1 e2 (fun ws2 hp2 => lwT hp2 (fun ws3 hp3 => ⟨by decide, fun _ => out_g hp3 (upd0 g _), _, nw, K, P, hp3, ⟨hB, hC, hH, hs, rfl, rfl⟩, (show K + tn ≤ n + 1 by omega)⟩)))
set_option maxHeartbeats 4000000 in
set_option maxRecDepth 100000 in
theorem ob_worstEar {l : Launch} (hst : l.stackTraces = false) {sa sv : Nat → Nat} {G : va_G} {cI cS cJ : ClassId} {ad am ao : Nat} {al : Nat → Nat} {xs : Nat → Int32} {i n : Nat} {ws : va_W} (hn : n ≤ 511) (hI : Inv cI cS cJ ad am ao al n ws) : Ob_worstEar l sa sv G cI cS cJ xs ad am ao i ws (Inv cI cS cJ ad am ao al (n + 1)) := by
  obtain ⟨⟨went, sp, sr, wz, az, po, kd, li, wo, va, osl, osu, tl, tu, ik, th, sz, mi, pd, ls, spt, wrg, le, fi, se, thd, ma, mn, er, fe, ms, pa, lo, ww, wl, wu, aw, af, tw, cs, osw, tv, rr, ll, bk, s, past, snap, tx, line, back, wm, g, np, tn, np9, tn9, bs, sn⟩, nw, K, P, hp, ⟨hB, hC, hH, hs, h9, h8⟩, hK⟩ := hI
  have k9 : np = np9 := h9.symm
  have k8 : tn = tn9 := h8.symm
  clear h9 h8
  subst k9
  subst k8
  have hp : ws.Perm (EW cI cS cJ ad am ao al ((went, sp, sr, wz, az, po, kd, li, wo, va, osl, osu, tl, tu, ik, th, sz, mi, pd, ls, spt, wrg, le, fi, se, thd, ma, mn, er, fe, ms, pa, lo, ww, wl, wu, aw, af, tw, cs, osw, tv, rr, ll, bk, s, past, snap, tx, line, back, wm, g, np, tn, np, tn, bs, sn) : LV) ++ (tlW cI bs ++ tlW cI sn)) := hp
  have hB : BR tn cs tx := hB
  have hC : CR s nw K P went sp sr mn er fe ms pa lo wz ww wl wu az aw af tw := hC
  have hv : CV s nw K P (nowB (al 0) (al 1) (al 2) (al 3) (al 4) (al 5) (al 6) (al 7) (al 8) (al 9) (al 10) (al 11) (al 12) (al 13) (al 14) (al 15) went sp sr mn er fe ms pa lo wz ww wl wu az aw af tw).2 := hC
  have hH : HR bs np K past := hH
  have hs : (sn = [] ∧ ik = nI 0) ∨ ∃ b n P, sn = [b] ∧ ik = nI 1 ∧ CV snap n K P b.2 := hs
  have hK : K + tn ≤ n := hK
  unfold Ob_worstEar
  obtain ⟨b, sl', su', sw', rr', ll', sz', mi', pd', ls', line', e1, e2⟩ := F_worst hC tl tu tv rr ll th sz mi pd ls line
  exact oX_worstEar hp e1 (fun ws1 hp1 => o9_worstEar hp1 e2 (fun ws3 hp3 => ⟨rfl, _, nw, K, P, hp3, ⟨hB, hC, hH, hs, rfl, rfl⟩, (show K + tn ≤ n + 1 by omega)⟩))
set_option maxHeartbeats 4000000 in
set_option maxRecDepth 100000 in
theorem ob_costs {l : Launch} (hst : l.stackTraces = false) {sa sv : Nat → Nat} {G : va_G} {cI cS cJ : ClassId} {ad am ao : Nat} {al : Nat → Nat} {xs : Nat → Int32} {i n : Nat} {ws : va_W} (hn : n ≤ 511) (hI : Inv cI cS cJ ad am ao al n ws) : Ob_costs l sa sv G cI cS cJ xs ad am ao i ws (Inv cI cS cJ ad am ao al (n + 1)) := by
  obtain ⟨⟨went, sp, sr, wz, az, po, kd, li, wo, va, osl, osu, tl, tu, ik, th, sz, mi, pd, ls, spt, wrg, le, fi, se, thd, ma, mn, er, fe, ms, pa, lo, ww, wl, wu, aw, af, tw, cs, osw, tv, rr, ll, bk, s, past, snap, tx, line, back, wm, g, np, tn, np9, tn9, bs, sn⟩, nw, K, P, hp, ⟨hB, hC, hH, hs, h9, h8⟩, hK⟩ := hI
  have k9 : np = np9 := h9.symm
  have k8 : tn = tn9 := h8.symm
  clear h9 h8
  subst k9
  subst k8
  have hp : ws.Perm (EW cI cS cJ ad am ao al ((went, sp, sr, wz, az, po, kd, li, wo, va, osl, osu, tl, tu, ik, th, sz, mi, pd, ls, spt, wrg, le, fi, se, thd, ma, mn, er, fe, ms, pa, lo, ww, wl, wu, aw, af, tw, cs, osw, tv, rr, ll, bk, s, past, snap, tx, line, back, wm, g, np, tn, np, tn, bs, sn) : LV) ++ (tlW cI bs ++ tlW cI sn)) := hp
  have hB : BR tn cs tx := hB
  have hC : CR s nw K P went sp sr mn er fe ms pa lo wz ww wl wu az aw af tw := hC
  have hv : CV s nw K P (nowB (al 0) (al 1) (al 2) (al 3) (al 4) (al 5) (al 6) (al 7) (al 8) (al 9) (al 10) (al 11) (al 12) (al 13) (al 14) (al 15) went sp sr mn er fe ms pa lo wz ww wl wu az aw af tw).2 := hC
  have hH : HR bs np K past := hH
  have hs : (sn = [] ∧ ik = nI 0) ∨ ∃ b n P, sn = [b] ∧ ik = nI 1 ∧ CV snap n K P b.2 := hs
  have hK : K + tn ≤ n := hK
  unfold Ob_costs
  obtain ⟨b, sl', su', sw', rr', ll', sz', mi', pd', ls', line', e1, e2⟩ := F_costs hC tl tu tv rr ll th sz mi pd ls line
  exact oX_costs hp e1 (fun ws1 hp1 => o9_costs hp1 e2 (fun ws3 hp3 => ⟨rfl, _, nw, K, P, hp3, ⟨hB, hC, hH, hs, rfl, rfl⟩, (show K + tn ≤ n + 1 by omega)⟩))
set_option maxHeartbeats 4000000 in
set_option maxRecDepth 100000 in
theorem ob_throughShare {l : Launch} (hst : l.stackTraces = false) {sa sv : Nat → Nat} {G : va_G} {cI cS cJ : ClassId} {ad am ao : Nat} {al : Nat → Nat} {xs : Nat → Int32} {i n : Nat} {ws : va_W} (hn : n ≤ 511) (hI : Inv cI cS cJ ad am ao al n ws) : Ob_throughShare l sa sv G cI cS cJ xs ad am ao i ws (Inv cI cS cJ ad am ao al (n + 1)) := by
  obtain ⟨⟨went, sp, sr, wz, az, po, kd, li, wo, va, osl, osu, tl, tu, ik, th, sz, mi, pd, ls, spt, wrg, le, fi, se, thd, ma, mn, er, fe, ms, pa, lo, ww, wl, wu, aw, af, tw, cs, osw, tv, rr, ll, bk, s, past, snap, tx, line, back, wm, g, np, tn, np9, tn9, bs, sn⟩, nw, K, P, hp, ⟨hB, hC, hH, hs, h9, h8⟩, hK⟩ := hI
  have k9 : np = np9 := h9.symm
  have k8 : tn = tn9 := h8.symm
  clear h9 h8
  subst k9
  subst k8
  have hp : ws.Perm (EW cI cS cJ ad am ao al ((went, sp, sr, wz, az, po, kd, li, wo, va, osl, osu, tl, tu, ik, th, sz, mi, pd, ls, spt, wrg, le, fi, se, thd, ma, mn, er, fe, ms, pa, lo, ww, wl, wu, aw, af, tw, cs, osw, tv, rr, ll, bk, s, past, snap, tx, line, back, wm, g, np, tn, np, tn, bs, sn) : LV) ++ (tlW cI bs ++ tlW cI sn)) := hp
  have hB : BR tn cs tx := hB
  have hC : CR s nw K P went sp sr mn er fe ms pa lo wz ww wl wu az aw af tw := hC
  have hv : CV s nw K P (nowB (al 0) (al 1) (al 2) (al 3) (al 4) (al 5) (al 6) (al 7) (al 8) (al 9) (al 10) (al 11) (al 12) (al 13) (al 14) (al 15) went sp sr mn er fe ms pa lo wz ww wl wu az aw af tw).2 := hC
  have hH : HR bs np K past := hH
  have hs : (sn = [] ∧ ik = nI 0) ∨ ∃ b n P, sn = [b] ∧ ik = nI 1 ∧ CV snap n K P b.2 := hs
  have hK : K + tn ≤ n := hK
  unfold Ob_throughShare
  obtain ⟨b, e1, e2, e3⟩ := F_share (by omega) hC th
  exact oX_throughShare hp e1 (fun ws1 hp1 => o9_throughShare hp1 e2 (fun ws3 hp3 => ⟨rfl, e3, _, nw, K, P, hp3, ⟨hB, hC, hH, hs, rfl, rfl⟩, (show K + tn ≤ n + 1 by omega)⟩))
set_option maxHeartbeats 4000000 in
set_option maxRecDepth 100000 in
theorem ob_digest {l : Launch} (hst : l.stackTraces = false) {sa sv : Nat → Nat} {G : va_G} {cI cS cJ : ClassId} {ad am ao : Nat} {al : Nat → Nat} {xs : Nat → Int32} {i n : Nat} {ws : va_W} (hn : n ≤ 511) (hI : Inv cI cS cJ ad am ao al n ws) : Ob_digest l sa sv G cI cS cJ xs ad am ao i ws (Inv cI cS cJ ad am ao al (n + 1)) := by
  obtain ⟨⟨went, sp, sr, wz, az, po, kd, li, wo, va, osl, osu, tl, tu, ik, th, sz, mi, pd, ls, spt, wrg, le, fi, se, thd, ma, mn, er, fe, ms, pa, lo, ww, wl, wu, aw, af, tw, cs, osw, tv, rr, ll, bk, s, past, snap, tx, line, back, wm, g, np, tn, np9, tn9, bs, sn⟩, nw, K, P, hp, ⟨hB, hC, hH, hs, h9, h8⟩, hK⟩ := hI
  have k9 : np = np9 := h9.symm
  have k8 : tn = tn9 := h8.symm
  clear h9 h8
  subst k9
  subst k8
  have hp : ws.Perm (EW cI cS cJ ad am ao al ((went, sp, sr, wz, az, po, kd, li, wo, va, osl, osu, tl, tu, ik, th, sz, mi, pd, ls, spt, wrg, le, fi, se, thd, ma, mn, er, fe, ms, pa, lo, ww, wl, wu, aw, af, tw, cs, osw, tv, rr, ll, bk, s, past, snap, tx, line, back, wm, g, np, tn, np, tn, bs, sn) : LV) ++ (tlW cI bs ++ tlW cI sn)) := hp
  have hB : BR tn cs tx := hB
  have hC : CR s nw K P went sp sr mn er fe ms pa lo wz ww wl wu az aw af tw := hC
  have hv : CV s nw K P (nowB (al 0) (al 1) (al 2) (al 3) (al 4) (al 5) (al 6) (al 7) (al 8) (al 9) (al 10) (al 11) (al 12) (al 13) (al 14) (al 15) went sp sr mn er fe ms pa lo wz ww wl wu az aw af tw).2 := hC
  have hH : HR bs np K past := hH
  have hs : (sn = [] ∧ ik = nI 0) ∨ ∃ b n P, sn = [b] ∧ ik = nI 1 ∧ CV snap n K P b.2 := hs
  have hK : K + tn ≤ n := hK
  unfold Ob_digest
  obtain ⟨b, sl', su', sw', rr', ll', sz', mi', pd', ls', line', e1, e2⟩ := F_digest (by omega) hB hC np tl tu tv rr ll th sz mi pd ls line
  exact oX_digest hp e1 (fun ws1 hp1 => o9_digest hp1 e2 (fun ws3 hp3 => ⟨rfl, _, nw, K, P, hp3, ⟨hB, hC, hH, hs, rfl, rfl⟩, (show K + tn ≤ n + 1 by omega)⟩))

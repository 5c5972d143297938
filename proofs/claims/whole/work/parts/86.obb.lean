set_option maxHeartbeats 4000000 in
set_option maxRecDepth 100000 in
theorem ob_teach {l : Launch} (hst : l.stackTraces = false) {sa sv : Nat → Nat} {G : va_G} {cI cS cJ : ClassId} {ad am ao : Nat} {al : Nat → Nat} {xs : Nat → Int32} {i n : Nat} {ws : va_W} (hn : n ≤ 511) (hI : Inv cI cS cJ ad am ao al n ws) : Ob_teach l sa sv G cI cS cJ xs ad am ao i ws (Inv cI cS cJ ad am ao al (n + 1)) := by
  obtain ⟨⟨went, sp, sr, wz, az, po, kd, li, wo, va, osl, osu, tl, tu, ik, th, sz, mi, pd, ls, spt, wrg, le, fi, se, thd, ma, mn, er, fe, ms, pa, lo, ww, wl, wu, aw, af, tw, cs, osw, tv, rr, ll, bk, s, past, snap, tx, line, back, wm, g, np, tn, np9, tn9, bs, sn⟩, nw, K, P, hp, ⟨hB, hC, hH, hs, h9, h8⟩, hK⟩ := hI
  have k9 : np = np9 := h9.symm
  have k8 : tn = tn9 := h8.symm
  clear h9 h8
  subst k9
  subst k8
  have hp : ws.Perm (EW cI cS cJ ad am ao al ((went, sp, sr, wz, az, po, kd, li, wo, va, osl, osu, tl, tu, ik, th, sz, mi, pd, ls, spt, wrg, le, fi, se, thd, ma, mn, er, fe, ms, pa, lo, ww, wl, wu, aw, af, tw, cs, osw, tv, rr, ll, bk, s, past, snap, tx, line, back, wm, g, np, tn, np, tn, bs, sn) : LV) ++ (tlW cI bs ++ tlW cI sn)) := hp
  have hB : BR tn cs tx := hB
  have hC : CR s nw K P went sp sr mn er fe ms pa lo wz ww wl wu az aw af tw := hC
  have hv : CV s nw K P (nowB (al 0) (al 1) (al 2) (al 3) (al 4) (al 5) (al 6) (al 7) (al 8) (al 9) (al 10) (al 11) (al 12) (al 13) (al 14) (al 15) went sp sr mn er fe ms pa lo wz ww wl wu az aw af tw).2 := hC
  have hH : HR bs np K past := hH
  have hs : (sn = [] ∧ ik = nI 0) ∨ ∃ b n P, sn = [b] ∧ ik = nI 1 ∧ CV snap n K P b.2 := hs
  have hK : K + tn ≤ n := hK
  unfold Ob_teach
  obtain ⟨r0, h0, -⟩ := ini_X5
  have hH2 := hH
  obtain ⟨q1, q2, q3, q4⟩ := hH2
  rcases F_teach hC q1 past (xs (i + 1)) (xs (i + 2)) (xs (i + 3)) th with ⟨e, t, e1, e2, ec⟩ | ⟨b, mn', s', past', e1, e2, eS, hC'⟩
  · rcases ec with ⟨rfl, rfl⟩ | ⟨rfl, rfl⟩
    · exact oV_teach_1 hst h0 q1 q2 q3 hp e1 (fun ws1 hp1 => o9_teach hp1 e2 (fun ws2 hp2 => lwT hp2 (fun ws3 hp3 => ⟨by decide, fun hk => absurd hk (by decide), _, nw, K, P, hp3, ⟨hB, hC, hH, hs, rfl, rfl⟩, (show K + tn ≤ n + 1 by omega)⟩)))
    · exact oV_teach_2 hst h0 q1 q2 q3 hp e1 (fun ws1 hp1 => o9_teach hp1 e2 (fun ws2 hp2 => lwT hp2 (fun ws3 hp3 => ⟨by decide, fun hk => absurd hk (by decide), _, nw, K, P, hp3, ⟨hB, hC, hH, hs, rfl, rfl⟩, (show K + tn ≤ n + 1 by omega)⟩)))
  · exact oW_teach h0 q1 q2 q3 hp e1 (fun bs2 ws1 hs2 hp1 => o9_teach hp1 e2 (fun ws2 hp2 => lwT hp2 (fun ws3 hp3 => ⟨by decide, fun _ => out_g hp3 (upd0 g _), _, nw, K, P, hp3, ⟨hB, hC', HR.save hH hv hs2 eS, hs, rfl, rfl⟩, (show K + tn ≤ n + 1 by omega)⟩)))
set_option maxHeartbeats 4000000 in
set_option maxRecDepth 100000 in
theorem ob_ear {l : Launch} (hst : l.stackTraces = false) {sa sv : Nat → Nat} {G : va_G} {cI cS cJ : ClassId} {ad am ao : Nat} {al : Nat → Nat} {xs : Nat → Int32} {i n : Nat} {ws : va_W} (hn : n ≤ 511) (hI : Inv cI cS cJ ad am ao al n ws) : Ob_ear l sa sv G cI cS cJ xs ad am ao i ws (Inv cI cS cJ ad am ao al (n + 1)) := by
  obtain ⟨⟨went, sp, sr, wz, az, po, kd, li, wo, va, osl, osu, tl, tu, ik, th, sz, mi, pd, ls, spt, wrg, le, fi, se, thd, ma, mn, er, fe, ms, pa, lo, ww, wl, wu, aw, af, tw, cs, osw, tv, rr, ll, bk, s, past, snap, tx, line, back, wm, g, np, tn, np9, tn9, bs, sn⟩, nw, K, P, hp, ⟨hB, hC, hH, hs, h9, h8⟩, hK⟩ := hI
  have k9 : np = np9 := h9.symm
  have k8 : tn = tn9 := h8.symm
  clear h9 h8
  subst k9
  subst k8
  have hp : ws.Perm (EW cI cS cJ ad am ao al ((went, sp, sr, wz, az, po, kd, li, wo, va, osl, osu, tl, tu, ik, th, sz, mi, pd, ls, spt, wrg, le, fi, se, thd, ma, mn, er, fe, ms, pa, lo, ww, wl, wu, aw, af, tw, cs, osw, tv, rr, ll, bk, s, past, snap, tx, line, back, wm, g, np, tn, np, tn, bs, sn) : LV) ++ (tlW cI bs ++ tlW cI sn)) := hp
  have hB : BR tn cs tx := hB
  have hC : CR s nw K P went sp sr mn er fe ms pa lo wz ww wl wu az aw af tw := hC
  have hv : CV s nw K P (nowB (al 0) (al 1) (al 2) (al 3) (al 4) (al 5) (al 6) (al 7) (al 8) (al 9) (al 10) (al 11) (al 12) (al 13) (al 14) (al 15) went sp sr mn er fe ms pa lo wz ww wl wu az aw af tw).2 := hC
  have hH : HR bs np K past := hH
  have hs : (sn = [] ∧ ik = nI 0) ∨ ∃ b n P, sn = [b] ∧ ik = nI 1 ∧ CV snap n K P b.2 := hs
  have hK : K + tn ≤ n := hK
  unfold Ob_ear
  obtain ⟨r0, h0, -⟩ := ini_X5
  have hH2 := hH
  obtain ⟨q1, q2, q3, q4⟩ := hH2
  rcases F_ear hC q1 past (xs (i + 1)) (xs (i + 2)) th with ⟨e, t, e1, e2, ec⟩ | ⟨b, er', s', past', e1, e2, eS, hC'⟩
  · rcases ec with ⟨rfl, rfl⟩ | ⟨rfl, rfl⟩
    · exact oV_ear_1 hst h0 q1 q2 q3 hp e1 (fun ws1 hp1 => o9_ear hp1 e2 (fun ws2 hp2 => lwT hp2 (fun ws3 hp3 => ⟨by decide, fun hk => absurd hk (by decide), _, nw, K, P, hp3, ⟨hB, hC, hH, hs, rfl, rfl⟩, (show K + tn ≤ n + 1 by omega)⟩)))
    · exact oV_ear_2 hst h0 q1 q2 q3 hp e1 (fun ws1 hp1 => o9_ear hp1 e2 (fun ws2 hp2 => lwT hp2 (fun ws3 hp3 => ⟨by decide, fun hk => absurd hk (by decide), _, nw, K, P, hp3, ⟨hB, hC, hH, hs, rfl, rfl⟩, (show K + tn ≤ n + 1 by omega)⟩)))
  · exact oW_ear h0 q1 q2 q3 hp e1 (fun bs2 ws1 hs2 hp1 => o9_ear hp1 e2 (fun ws2 hp2 => lwT hp2 (fun ws3 hp3 => ⟨by decide, fun _ => out_g hp3 (upd0 g _), _, nw, K, P, hp3, ⟨hB, hC', HR.save hH hv hs2 eS, hs, rfl, rfl⟩, (show K + tn ≤ n + 1 by omega)⟩)))
set_option maxHeartbeats 4000000 in
set_option maxRecDepth 100000 in
theorem ob_fee {l : Launch} (hst : l.stackTraces = false) {sa sv : Nat → Nat} {G : va_G} {cI cS cJ : ClassId} {ad am ao : Nat} {al : Nat → Nat} {xs : Nat → Int32} {i n : Nat} {ws : va_W} (hn : n ≤ 511) (hI : Inv cI cS cJ ad am ao al n ws) : Ob_fee l sa sv G cI cS cJ xs ad am ao i ws (Inv cI cS cJ ad am ao al (n + 1)) := by
  obtain ⟨⟨went, sp, sr, wz, az, po, kd, li, wo, va, osl, osu, tl, tu, ik, th, sz, mi, pd, ls, spt, wrg, le, fi, se, thd, ma, mn, er, fe, ms, pa, lo, ww, wl, wu, aw, af, tw, cs, osw, tv, rr, ll, bk, s, past, snap, tx, line, back, wm, g, np, tn, np9, tn9, bs, sn⟩, nw, K, P, hp, ⟨hB, hC, hH, hs, h9, h8⟩, hK⟩ := hI
  have k9 : np = np9 := h9.symm
  have k8 : tn = tn9 := h8.symm
  clear h9 h8
  subst k9
  subst k8
  have hp : ws.Perm (EW cI cS cJ ad am ao al ((went, sp, sr, wz, az, po, kd, li, wo, va, osl, osu, tl, tu, ik, th, sz, mi, pd, ls, spt, wrg, le, fi, se, thd, ma, mn, er, fe, ms, pa, lo, ww, wl, wu, aw, af, tw, cs, osw, tv, rr, ll, bk, s, past, snap, tx, line, back, wm, g, np, tn, np, tn, bs, sn) : LV) ++ (tlW cI bs ++ tlW cI sn)) := hp
  have hB : BR tn cs tx := hB
  have hC : CR s nw K P went sp sr mn er fe ms pa lo wz ww wl wu az aw af tw := hC
  have hv : CV s nw K P (nowB (al 0) (al 1) (al 2) (al 3) (al 4) (al 5) (al 6) (al 7) (al 8) (al 9) (al 10) (al 11) (al 12) (al 13) (al 14) (al 15) went sp sr mn er fe ms pa lo wz ww wl wu az aw af tw).2 := hC
  have hH : HR bs np K past := hH
  have hs : (sn = [] ∧ ik = nI 0) ∨ ∃ b n P, sn = [b] ∧ ik = nI 1 ∧ CV snap n K P b.2 := hs
  have hK : K + tn ≤ n := hK
  unfold Ob_fee
  obtain ⟨r0, h0, -⟩ := ini_X5
  have hH2 := hH
  obtain ⟨q1, q2, q3, q4⟩ := hH2
  rcases F_fee hC q1 past (xs (i + 1)) (xs (i + 2)) th with ⟨e, t, e1, e2, ec⟩ | ⟨b, fe', s', past', e1, e2, eS, hC'⟩
  · rcases ec with ⟨rfl, rfl⟩ | ⟨rfl, rfl⟩
    · exact oV_fee_1 hst h0 q1 q2 q3 hp e1 (fun ws1 hp1 => o9_fee hp1 e2 (fun ws2 hp2 => lwT hp2 (fun ws3 hp3 => ⟨by decide, fun hk => absurd hk (by decide), _, nw, K, P, hp3, ⟨hB, hC, hH, hs, rfl, rfl⟩, (show K + tn ≤ n + 1 by omega)⟩)))
    · exact oV_fee_2 hst h0 q1 q2 q3 hp e1 (fun ws1 hp1 => o9_fee hp1 e2 (fun ws2 hp2 => lwT hp2 (fun ws3 hp3 => ⟨by decide, fun hk => absurd hk (by decide), _, nw, K, P, hp3, ⟨hB, hC, hH, hs, rfl, rfl⟩, (show K + tn ≤ n + 1 by omega)⟩)))
  · exact oW_fee h0 q1 q2 q3 hp e1 (fun bs2 ws1 hs2 hp1 => o9_fee hp1 e2 (fun ws2 hp2 => lwT hp2 (fun ws3 hp3 => ⟨by decide, fun _ => out_g hp3 (upd0 g _), _, nw, K, P, hp3, ⟨hB, hC', HR.save hH hv hs2 eS, hs, rfl, rfl⟩, (show K + tn ≤ n + 1 by omega)⟩)))
set_option maxHeartbeats 4000000 in
set_option maxRecDepth 100000 in
theorem ob_go {l : Launch} (hst : l.stackTraces = false) {sa sv : Nat → Nat} {G : va_G} {cI cS cJ : ClassId} {ad am ao : Nat} {al : Nat → Nat} {xs : Nat → Int32} {i n : Nat} {ws : va_W} (hn : n ≤ 511) (hI : Inv cI cS cJ ad am ao al n ws) : Ob_go l sa sv G cI cS cJ xs ad am ao i ws (Inv cI cS cJ ad am ao al (n + 1)) := by
  obtain ⟨⟨went, sp, sr, wz, az, po, kd, li, wo, va, osl, osu, tl, tu, ik, th, sz, mi, pd, ls, spt, wrg, le, fi, se, thd, ma, mn, er, fe, ms, pa, lo, ww, wl, wu, aw, af, tw, cs, osw, tv, rr, ll, bk, s, past, snap, tx, line, back, wm, g, np, tn, np9, tn9, bs, sn⟩, nw, K, P, hp, ⟨hB, hC, hH, hs, h9, h8⟩, hK⟩ := hI
  have k9 : np = np9 := h9.symm
  have k8 : tn = tn9 := h8.symm
  clear h9 h8
  subst k9
  subst k8
  have hp : ws.Perm (EW cI cS cJ ad am ao al ((went, sp, sr, wz, az, po, kd, li, wo, va, osl, osu, tl, tu, ik, th, sz, mi, pd, ls, spt, wrg, le, fi, se, thd, ma, mn, er, fe, ms, pa, lo, ww, wl, wu, aw, af, tw, cs, osw, tv, rr, ll, bk, s, past, snap, tx, line, back, wm, g, np, tn, np, tn, bs, sn) : LV) ++ (tlW cI bs ++ tlW cI sn)) := hp
  have hB : BR tn cs tx := hB
  have hC : CR s nw K P went sp sr mn er fe ms pa lo wz ww wl wu az aw af tw := hC
  have hv : CV s nw K P (nowB (al 0) (al 1) (al 2) (al 3) (al 4) (al 5) (al 6) (al 7) (al 8) (al 9) (al 10) (al 11) (al 12) (al 13) (al 14) (al 15) went sp sr mn er fe ms pa lo wz ww wl wu az aw af tw).2 := hC
  have hH : HR bs np K past := hH
  have hs : (sn = [] ∧ ik = nI 0) ∨ ∃ b n P, sn = [b] ∧ ik = nI 1 ∧ CV snap n K P b.2 := hs
  have hK : K + tn ≤ n := hK
  unfold Ob_go
  obtain ⟨r0, h0, -⟩ := ini_X5
  have hH2 := hH
  obtain ⟨q1, q2, q3, q4⟩ := hH2
  rcases F_go hC q1 past tl tu tv rr ll bk th sz mi pd ls line back with ⟨e1, e2⟩ | ⟨b, tl', tu', tv', rr', ll', bk', went', ms', pa', lo', wz', ww', wl', wu', az', aw', af', tw', s', n', P', past', sz', mi', pd', ls', line', back', e1, e2, eS, hC'⟩
  · exact oV_go_1 hst h0 q1 q2 q3 hp e1 (fun ws1 hp1 => o9_go hp1 e2 (fun ws2 hp2 => lwT hp2 (fun ws3 hp3 => ⟨by decide, fun hk => absurd hk (by decide), _, nw, K, P, hp3, ⟨hB, hC, hH, hs, rfl, rfl⟩, (show K + tn ≤ n + 1 by omega)⟩)))
  · exact oW_go h0 q1 q2 q3 hp e1 (fun bs2 ws1 hs2 hp1 => o9_go hp1 e2 (fun ws2 hp2 => lwT hp2 (fun ws3 hp3 => ⟨by decide, fun _ => out_g hp3 (upd0 g _), _, n', K, P', hp3, ⟨hB, hC', HR.save hH hv hs2 eS, hs, rfl, rfl⟩, (show K + tn ≤ n + 1 by omega)⟩)))
set_option maxHeartbeats 4000000 in
set_option maxRecDepth 100000 in
theorem ob_obey {l : Launch} (hst : l.stackTraces = false) {sa sv : Nat → Nat} {G : va_G} {cI cS cJ : ClassId} {ad am ao : Nat} {al : Nat → Nat} {xs : Nat → Int32} {i n : Nat} {ws : va_W} (hn : n ≤ 511) (hI : Inv cI cS cJ ad am ao al n ws) : Ob_obey l sa sv G cI cS cJ xs ad am ao i ws (Inv cI cS cJ ad am ao al (n + 1)) := by
  obtain ⟨⟨went, sp, sr, wz, az, po, kd, li, wo, va, osl, osu, tl, tu, ik, th, sz, mi, pd, ls, spt, wrg, le, fi, se, thd, ma, mn, er, fe, ms, pa, lo, ww, wl, wu, aw, af, tw, cs, osw, tv, rr, ll, bk, s, past, snap, tx, line, back, wm, g, np, tn, np9, tn9, bs, sn⟩, nw, K, P, hp, ⟨hB, hC, hH, hs, h9, h8⟩, hK⟩ := hI
  have k9 : np = np9 := h9.symm
  have k8 : tn = tn9 := h8.symm
  clear h9 h8
  subst k9
  subst k8
  have hp : ws.Perm (EW cI cS cJ ad am ao al ((went, sp, sr, wz, az, po, kd, li, wo, va, osl, osu, tl, tu, ik, th, sz, mi, pd, ls, spt, wrg, le, fi, se, thd, ma, mn, er, fe, ms, pa, lo, ww, wl, wu, aw, af, tw, cs, osw, tv, rr, ll, bk, s, past, snap, tx, line, back, wm, g, np, tn, np, tn, bs, sn) : LV) ++ (tlW cI bs ++ tlW cI sn)) := hp
  have hB : BR tn cs tx := hB
  have hC : CR s nw K P went sp sr mn er fe ms pa lo wz ww wl wu az aw af tw := hC
  have hv : CV s nw K P (nowB (al 0) (al 1) (al 2) (al 3) (al 4) (al 5) (al 6) (al 7) (al 8) (al 9) (al 10) (al 11) (al 12) (al 13) (al 14) (al 15) went sp sr mn er fe ms pa lo wz ww wl wu az aw af tw).2 := hC
  have hH : HR bs np K past := hH
  have hs : (sn = [] ∧ ik = nI 0) ∨ ∃ b n P, sn = [b] ∧ ik = nI 1 ∧ CV snap n K P b.2 := hs
  have hK : K + tn ≤ n := hK
  unfold Ob_obey
  obtain ⟨r0, h0, -⟩ := ini_X5
  have hH2 := hH
  obtain ⟨q1, q2, q3, q4⟩ := hH2
  rcases F_obey hB hC q1 past po kd li wo va osl osu osw tl tu tv rr ll bk th sz mi pd ls spt wrg le fi se thd ma line back wm with ⟨q, kd', li', wo', va', sl', su', sw', spot', wrong', le', fi', se', th', ma', wm', e1, e2⟩ | ⟨b, op', kd', li', wo', va', sl', su', sw', tl', tu', tv', rr', ll', bk', went', mn', er', fe', ms', pa', lo', wz', ww', wl', wu', az', aw', af', tw', sp', sr', s', n', P', past', sz', mi', pd', ls', spot', wrong', le', fi', se', th', ma', line', back', wm', e1, e2, eS, hC'⟩
  · exact oV_obey_1 hst hp e1 (fun ws1 hp1 => o9_obey hp1 e2 (fun ws2 hp2 => lwT hp2 (fun ws3 hp3 => ⟨by decide, fun hk => absurd hk (by decide), _, nw, K, P, hp3, ⟨hB, hC, hH, hs, rfl, rfl⟩, (show K + tn ≤ n + 1 by omega)⟩)))
  · have hs9 : (sn = [] ∧ ik = nI 0) ∨ ∃ b n P, sn = [b] ∧ ik = nI 1 ∧ CV snap n (K + tn) P b.2 := by
      rcases hs with h | ⟨b9, n9, P9, g1, g2, g3⟩
      · exact Or.inl h
      · exact Or.inr ⟨b9, n9, P9, g1, g2, CR.cong (fun j hj => rfl) (Nat.le_add_right K tn) g3⟩
    exact oW_obey h0 q1 q2 q3 hp e1 (fun bs2 ws1 hs2 hp1 => o9_obey hp1 e2 (fun ws2 hp2 => lwT hp2 (fun ws3 hp3 => ⟨by decide, fun _ => out_g hp3 (upd0 g _), _, n', K + tn, P', hp3, ⟨BR_0 _ _, hC', HR.mono (Nat.le_add_right K tn) (HR.save hH hv hs2 eS), hs9, rfl, rfl⟩, (show K + tn + 0 ≤ n + 1 by omega)⟩)))
set_option maxHeartbeats 4000000 in
set_option maxRecDepth 100000 in
theorem ob_undo {l : Launch} (hst : l.stackTraces = false) {sa sv : Nat → Nat} {G : va_G} {cI cS cJ : ClassId} {ad am ao : Nat} {al : Nat → Nat} {xs : Nat → Int32} {i n : Nat} {ws : va_W} (hn : n ≤ 511) (hI : Inv cI cS cJ ad am ao al n ws) : Ob_undo l sa sv G cI cS cJ xs ad am ao i ws (Inv cI cS cJ ad am ao al (n + 1)) := by
  obtain ⟨⟨went, sp, sr, wz, az, po, kd, li, wo, va, osl, osu, tl, tu, ik, th, sz, mi, pd, ls, spt, wrg, le, fi, se, thd, ma, mn, er, fe, ms, pa, lo, ww, wl, wu, aw, af, tw, cs, osw, tv, rr, ll, bk, s, past, snap, tx, line, back, wm, g, np, tn, np9, tn9, bs, sn⟩, nw, K, P, hp, ⟨hB, hC, hH, hs, h9, h8⟩, hK⟩ := hI
  have k9 : np = np9 := h9.symm
  have k8 : tn = tn9 := h8.symm
  clear h9 h8
  subst k9
  subst k8
  have hp : ws.Perm (EW cI cS cJ ad am ao al ((went, sp, sr, wz, az, po, kd, li, wo, va, osl, osu, tl, tu, ik, th, sz, mi, pd, ls, spt, wrg, le, fi, se, thd, ma, mn, er, fe, ms, pa, lo, ww, wl, wu, aw, af, tw, cs, osw, tv, rr, ll, bk, s, past, snap, tx, line, back, wm, g, np, tn, np, tn, bs, sn) : LV) ++ (tlW cI bs ++ tlW cI sn)) := hp
  have hB : BR tn cs tx := hB
  have hC : CR s nw K P went sp sr mn er fe ms pa lo wz ww wl wu az aw af tw := hC
  have hv : CV s nw K P (nowB (al 0) (al 1) (al 2) (al 3) (al 4) (al 5) (al 6) (al 7) (al 8) (al 9) (al 10) (al 11) (al 12) (al 13) (al 14) (al 15) went sp sr mn er fe ms pa lo wz ww wl wu az aw af tw).2 := hC
  have hH : HR bs np K past := hH
  have hs : (sn = [] ∧ ik = nI 0) ∨ ∃ b n P, sn = [b] ∧ ik = nI 1 ∧ CV snap n K P b.2 := hs
  have hK : K + tn ≤ n := hK
  unfold Ob_undo
  have hH2 := hH
  obtain ⟨q1, q2, q3, q4⟩ := hH2
  cases np with
  | zero =>
    exact oV_undo_1 hst hp (fun ws1 hp1 => o9_undo hp1 (und_0 s past th) (fun ws2 hp2 => lwT hp2 (fun ws3 hp3 => ⟨by decide, fun hk => absurd hk (by decide), _, nw, K, P, hp3, ⟨hB, hC, hH, hs, rfl, rfl⟩, (show K + tn ≤ n + 1 by omega)⟩)))
  | succ k =>
    obtain ⟨b, n2, P2, eb, hcv⟩ := q4 k (by omega)
    obtain ⟨s', e2, e3⟩ := und_M s past (np := k) (by omega) th
    have hC' : CV s' n2 K P2 (cpV b.2 (nowB (al 0) (al 1) (al 2) (al 3) (al 4) (al 5) (al 6) (al 7) (al 8) (al 9) (al 10) (al 11) (al 12) (al 13) (al 14) (al 15) went sp sr mn er fe ms pa lo wz ww wl wu az aw af tw).2) := CR.cong (fun j hj => e3 j hj) (Nat.le_refl _) (CV.copy (nowB (al 0) (al 1) (al 2) (al 3) (al 4) (al 5) (al 6) (al 7) (al 8) (al 9) (al 10) (al 11) (al 12) (al 13) (al 14) (al 15) went sp sr mn er fe ms pa lo wz ww wl wu az aw af tw).2 hcv)
    have hH3 : HR bs k K past := ⟨by omega, by omega, q3, fun j hj => q4 j (by omega)⟩
    exact oW_undo (by omega) eb hp (fun ws1 hp1 => o9_undo hp1 e2 (fun ws2 hp2 => lwT hp2 (fun ws3 hp3 => ⟨by decide, fun _ => out_g hp3 (upd0 g _), _, n2, K, P2, hp3, ⟨hB, hC', hH3, hs, rfl, rfl⟩, (show K + tn ≤ n + 1 by omega)⟩)))
set_option maxHeartbeats 4000000 in
set_option maxRecDepth 100000 in
theorem ob_keep {l : Launch} (hst : l.stackTraces = false) {sa sv : Nat → Nat} {G : va_G} {cI cS cJ : ClassId} {ad am ao : Nat} {al : Nat → Nat} {xs : Nat → Int32} {i n : Nat} {ws : va_W} (hn : n ≤ 511) (hI : Inv cI cS cJ ad am ao al n ws) : Ob_keep l sa sv G cI cS cJ xs ad am ao i ws (Inv cI cS cJ ad am ao al (n + 1)) := by
  obtain ⟨⟨went, sp, sr, wz, az, po, kd, li, wo, va, osl, osu, tl, tu, ik, th, sz, mi, pd, ls, spt, wrg, le, fi, se, thd, ma, mn, er, fe, ms, pa, lo, ww, wl, wu, aw, af, tw, cs, osw, tv, rr, ll, bk, s, past, snap, tx, line, back, wm, g, np, tn, np9, tn9, bs, sn⟩, nw, K, P, hp, ⟨hB, hC, hH, hs, h9, h8⟩, hK⟩ := hI
  have k9 : np = np9 := h9.symm
  have k8 : tn = tn9 := h8.symm
  clear h9 h8
  subst k9
  subst k8
  have hp : ws.Perm (EW cI cS cJ ad am ao al ((went, sp, sr, wz, az, po, kd, li, wo, va, osl, osu, tl, tu, ik, th, sz, mi, pd, ls, spt, wrg, le, fi, se, thd, ma, mn, er, fe, ms, pa, lo, ww, wl, wu, aw, af, tw, cs, osw, tv, rr, ll, bk, s, past, snap, tx, line, back, wm, g, np, tn, np, tn, bs, sn) : LV) ++ (tlW cI bs ++ tlW cI sn)) := hp
  have hB : BR tn cs tx := hB
  have hC : CR s nw K P went sp sr mn er fe ms pa lo wz ww wl wu az aw af tw := hC
  have hv : CV s nw K P (nowB (al 0) (al 1) (al 2) (al 3) (al 4) (al 5) (al 6) (al 7) (al 8) (al 9) (al 10) (al 11) (al 12) (al 13) (al 14) (al 15) went sp sr mn er fe ms pa lo wz ww wl wu az aw af tw).2 := hC
  have hH : HR bs np K past := hH
  have hs : (sn = [] ∧ ik = nI 0) ∨ ∃ b n P, sn = [b] ∧ ik = nI 1 ∧ CV snap n K P b.2 := hs
  have hK : K + tn ≤ n := hK
  unfold Ob_keep
  obtain ⟨r0, h0, -⟩ := ini_X5
  have hsn : sn.length ≤ 1 := by
    rcases hs with ⟨rfl, -⟩ | ⟨b, n2, P2, rfl, -, -⟩
    · exact Nat.zero_le _
    · exact Nat.le_refl _
  obtain ⟨t', e2, e3⟩ := kee_M s snap ik th
  have h304 := hC.2.2.2.2.2.2.2.1.1.1
  have hz := hC.2.2.2.2.2.2.2.1.2.2.1
  refine oX_keep h0 hsn hp (fun u ws1 hu hp1 => o9_keep hp1 e2 (fun ws2 hp2 => ⟨hz.trans h304.symm, ?_⟩))
  obtain ⟨a, w, rfl⟩ := hu
  rw [show stW cI (a, cpV (nowB (al 0) (al 1) (al 2) (al 3) (al 4) (al 5) (al 6) (al 7) (al 8) (al 9) (al 10) (al 11) (al 12) (al 13) (al 14) (al 15) went sp sr mn er fe ms pa lo wz ww wl wu az aw af tw).2 w) = tlW cI [(a, cpV (nowB (al 0) (al 1) (al 2) (al 3) (al 4) (al 5) (al 6) (al 7) (al 8) (al 9) (al 10) (al 11) (al 12) (al 13) (al 14) (al 15) went sp sr mn er fe ms pa lo wz ww wl wu az aw af tw).2 w)] by simp only [tlW, List.flatMap_cons, List.flatMap_nil, List.append_nil]] at hp2
  exact ⟨_, nw, K, P, hp2, ⟨hB, hC, hH, Or.inr ⟨_, nw, P, rfl, rfl, CR.cong (fun j hj => e3 j hj) (Nat.le_refl _) (CV.copy w hv)⟩, rfl, rfl⟩, (show K + tn ≤ n + 1 by omega)⟩
set_option maxHeartbeats 4000000 in
set_option maxRecDepth 100000 in
theorem ob_restore {l : Launch} (hst : l.stackTraces = false) {sa sv : Nat → Nat} {G : va_G} {cI cS cJ : ClassId} {ad am ao : Nat} {al : Nat → Nat} {xs : Nat → Int32} {i n : Nat} {ws : va_W} (hn : n ≤ 511) (hI : Inv cI cS cJ ad am ao al n ws) : Ob_restore l sa sv G cI cS cJ xs ad am ao i ws (Inv cI cS cJ ad am ao al (n + 1)) := by
  obtain ⟨⟨went, sp, sr, wz, az, po, kd, li, wo, va, osl, osu, tl, tu, ik, th, sz, mi, pd, ls, spt, wrg, le, fi, se, thd, ma, mn, er, fe, ms, pa, lo, ww, wl, wu, aw, af, tw, cs, osw, tv, rr, ll, bk, s, past, snap, tx, line, back, wm, g, np, tn, np9, tn9, bs, sn⟩, nw, K, P, hp, ⟨hB, hC, hH, hs, h9, h8⟩, hK⟩ := hI
  have k9 : np = np9 := h9.symm
  have k8 : tn = tn9 := h8.symm
  clear h9 h8
  subst k9
  subst k8
  have hp : ws.Perm (EW cI cS cJ ad am ao al ((went, sp, sr, wz, az, po, kd, li, wo, va, osl, osu, tl, tu, ik, th, sz, mi, pd, ls, spt, wrg, le, fi, se, thd, ma, mn, er, fe, ms, pa, lo, ww, wl, wu, aw, af, tw, cs, osw, tv, rr, ll, bk, s, past, snap, tx, line, back, wm, g, np, tn, np, tn, bs, sn) : LV) ++ (tlW cI bs ++ tlW cI sn)) := hp
  have hB : BR tn cs tx := hB
  have hC : CR s nw K P went sp sr mn er fe ms pa lo wz ww wl wu az aw af tw := hC
  have hv : CV s nw K P (nowB (al 0) (al 1) (al 2) (al 3) (al 4) (al 5) (al 6) (al 7) (al 8) (al 9) (al 10) (al 11) (al 12) (al 13) (al 14) (al 15) went sp sr mn er fe ms pa lo wz ww wl wu az aw af tw).2 := hC
  have hH : HR bs np K past := hH
  have hs : (sn = [] ∧ ik = nI 0) ∨ ∃ b n P, sn = [b] ∧ ik = nI 1 ∧ CV snap n K P b.2 := hs
  have hK : K + tn ≤ n := hK
  unfold Ob_restore
  obtain ⟨r0, h0, -⟩ := ini_X5
  have hH2 := hH
  obtain ⟨q1, q2, q3, q4⟩ := hH2
  rcases hs with ⟨rfl, rfl⟩ | ⟨b, n2, P2, rfl, rfl, hcv⟩
  · exact oV_restore_1 hst hp (fun ws1 hp1 => o9_restore hp1 (res_0 s snap past (nI np) th) (fun ws2 hp2 => lwT hp2 (fun ws3 hp3 => ⟨by decide, fun hk => absurd hk (by decide), _, nw, K, P, hp3, ⟨hB, hC, hH, Or.inl ⟨rfl, rfl⟩, rfl, rfl⟩, (show K + tn ≤ n + 1 by omega)⟩)))
  · obtain ⟨s', past', e2, eS, e3⟩ := res_M s snap past q1 th
    have h304 := hcv.2.2.2.2.2.2.2.1.1.1
    have hz := hcv.2.2.2.2.2.2.2.1.2.2.1
    have hC' : CV s' n2 K P2 (cpV b.2 (nowB (al 0) (al 1) (al 2) (al 3) (al 4) (al 5) (al 6) (al 7) (al 8) (al 9) (al 10) (al 11) (al 12) (al 13) (al 14) (al 15) went sp sr mn er fe ms pa lo wz ww wl wu az aw af tw).2) := CR.cong (fun j hj => e3 j hj) (Nat.le_refl _) (CV.copy (nowB (al 0) (al 1) (al 2) (al 3) (al 4) (al 5) (al 6) (al 7) (al 8) (al 9) (al 10) (al 11) (al 12) (al 13) (al 14) (al 15) went sp sr mn er fe ms pa lo wz ww wl wu az aw af tw).2 hcv)
    have et : stW cI b = tlW cI [b] := by simp only [tlW, List.flatMap_cons, List.flatMap_nil, List.append_nil]
    rw [← et] at hp
    refine oW_restore h0 q1 q2 q3 hp (fun bs2 ws1 hs2 hp1 => o9_restore hp1 e2 (fun ws2 hp2 => lwT hp2 (fun ws3 hp3 => ⟨by decide, fun _ => out_g hp3 ((upd0 g _).trans (by rw [hz, h304])), ?_⟩)))
    rw [et] at hp3
    exact ⟨_, n2, K, P2, hp3, ⟨hB, hC', HR.save hH hv hs2 eS, Or.inr ⟨b, n2, P2, rfl, rfl, hcv⟩, rfl, rfl⟩, (show K + tn ≤ n + 1 by omega)⟩
theorem Inv.mono1 {cI cS cJ : ClassId} {ad am ao : Nat} {al : Nat → Nat} {n : Nat} {ws : va_W} (h : Inv cI cS cJ ad am ao al n ws) : Inv cI cS cJ ad am ao al (n + 1) ws := by
  obtain ⟨v, nw, K, P, h1, h2, h3⟩ := h
  exact ⟨v, nw, K, P, h1, h2, Nat.le_succ_of_le h3⟩
theorem ob_all {l : Launch} (hst : l.stackTraces = false) {sa sv : Nat → Nat} {G : va_G} {cI cS cJ : ClassId} {ad am ao : Nat} {al : Nat → Nat} {xs : Nat → Int32} {i n : Nat} {ws : va_W} (hn : n ≤ 511) (hI : Inv cI cS cJ ad am ao al n ws) : Obl l sa sv G cI cS cJ xs ad am ao i ws (Inv cI cS cJ ad am ao al (n + 1)) :=
  ⟨fun _ => ob_teach hst hn hI, fun _ => ob_ear hst hn hI, fun _ => ob_fee hst hn hI, fun _ => ob_go hst hn hI, fun _ => ob_append hst hn hI, fun _ => ob_clearBuffer hst hn hI, fun _ => ob_firstError hst hn hI, fun _ => ob_obey hst hn hI, fun _ => ob_stopped hst hn hI, fun _ => ob_told hst hn hI, fun _ => ob_undo hst hn hI, fun _ => ob_keep hst hn hI, fun _ => ob_restore hst hn hI, fun _ => ob_meaning hst hn hI, fun _ => ob_link hst hn hI, fun _ => ob_waits hst hn hI, fun _ => ob_arrival hst hn hI, fun _ => ob_count hst hn hI, fun _ => ob_lost hst hn hI, fun _ => ob_ifGone hst hn hI, fun _ => ob_lostAt hst hn hI, fun _ => ob_worstEar hst hn hI, fun _ => ob_costs hst hn hI, fun _ => ob_throughShare hst hn hI, fun _ => ob_digest hst hn hI, fun _ => Inv.mono1 hI⟩

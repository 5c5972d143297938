set_option maxHeartbeats 4000000 in
set_option maxRecDepth 100000 in
theorem ob_teach {l : Launch} (hst : l.stackTraces = false) {sa sv : Nat → Nat} {G : va_G} {cI cS cJ : ClassId} {ad am ao : Nat} {al : Nat → Nat} {xs : Nat → Int32} {i n : Nat} {ws : va_W} (hn : n ≤ 511) (hI : Inv cI cS cJ ad am ao al n ws) : Ob_teach l sa sv G cI cS cJ xs ad am ao i ws (Inv cI cS cJ ad am ao al (n + 1)) := by
  obtain ⟨⟨went, sp, sr, wz, az, po, kd, li, wo, va, osl, osu, tl, tu, ik, th, sz, mi, pd, ls, spt, wrg, le, fi, se, thd, ma, mn, er, fe, ms, pa, lo, ww, wl, wu, aw, af, tw, cs, osw, tv, rr, ll, bk, s, past, snap, tx, line, back, wm, g, np, tn, np9, tn9, bs, sn⟩, nw, K, P, hp, ⟨hB, hC, hH, hs, h9, h8⟩, hK⟩ := hI
  have k9 : np = np9 := h9.symm
  have k8 : tn = tn9 := h8.symm
  clear h9 h8
  subst k9
  subst k8
  have hp : ws.Perm (EW cI cS cJ ad am ao al ((went, sp, sr, wz, az, po, kd, li, wo, va, osl, osu, tl, tu, ik, th, sz, mi, pd, ls, spt, wrg, le, fi, se, thd, ma, mn, er, fe, ms, pa, lo, ww, wl, wu, aw, af, tw, cs, osw, tv, rr, ll, bk, s, past, snap, tx, line, back, wm, g, np, tn, np, tn, bs, sn) : LV) ++ (tlW cI bs ++ tlW cI sn)) := hp
  have hB : BR tn cs tx := hB
  have hC : CR s nw K P went sp sr mn er fe ms pa lo wz ww wl wu az aw af tw := hC
  have hv : CV s nw K P (nowB (al 0) (al 1) (al 2) (al 3) (al 4) (al 5) (al 6) (al 7) (al 8) (al 9) (al 10) (al 11) (al 12) (al 13) (al 14) (al 15) went sp sr mn er fe ms pa lo wz ww wl wu az aw af tw).2 := hC
  have hH : HR bs np K past := hH
  have hs : (sn = [] ∧ ik = nI 0) ∨ ∃ b n P, sn = [b] ∧ ik = nI 1 ∧ CV snap n K P b.2 := hs
  have hK : K + tn ≤ n := hK
  unfold Ob_teach
  obtain ⟨r0, h0, -⟩ := ini_X5
  have hH2 := hH
  obtain ⟨q1, q2, q3, q4⟩ := hH2
  rcases F_teach hC q1 past (xs (i + 1)) (xs (i + 2)) (xs (i + 3)) th with ⟨e, t, e1, e2, ec⟩ | ⟨b, mn', s', past', e1, e2, eS, hC'⟩
  · rcases ec with ⟨rfl, rfl⟩ | ⟨rfl, rfl⟩
    · exact oV_teach_1 hst h0 q1 q2 q3 hp e1 (fun ws1 hp1 => o9_teach hp1 e2 (fun ws2 hp2 => lwT hp2 (fun ws3 hp3 => ⟨by decide, fun hk => absurd hk (by decide), _, nw, K, P, hp3, ⟨hB, hC, hH, hs, rfl, rfl⟩, (show K + tn ≤ n + 1 by omega)⟩)))
    · exact oV_teach_2 hst h0 q1 q2 q3 hp e1 (fun ws1 hp1 => o9_teach hp1 e2 (fun ws2 hp2 => lwT hp2 (fun ws3 hp3 => ⟨by decide, fun hk => absurd hk (by decide), _, nw, K, P, hp3, ⟨hB, hC, hH, hs, rfl, rfl⟩, (show K + tn ≤ n + 1 by omega)⟩)))
  · exact oW_teach h0 q1 q2 q3 hp e1 (fun bs2 ws1 hs2 hp1 => o9_teach hp1 e2 (fun ws2 hp2 => lwT hp2 (fun ws3 hp3 => ⟨by decide, fun _ => out_g hp3 (upd0 g _), _, nw, K, P, hp3, ⟨hB, hC', HR.save hH hv hs2 eS, hs, rfl, rfl⟩, (show K + tn ≤ n + 1 by omega)⟩)))

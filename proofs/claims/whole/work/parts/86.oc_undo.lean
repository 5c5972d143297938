section KZ
variable {l : Launch} {sa sv : Nat → Nat} {G : va_G} {cI cS cJ : ClassId} {ad am ao : Nat} {al : Nat → Nat} {T ws : va_W}
variable {went sp sr wz az po kd li wo va osl osu tl tu ik th sz mi pd ls spt wrg le fi se thd ma : Int32}
variable {mn er fe ms pa lo ww wl wu aw af tw cs osw tv rr ll bk s past snap tx line back wm : Nat → Int32} {g : Nat → Int64} {np tn np9 tn9 : Nat} {bs sn : List Blk}
set_option maxHeartbeats 4000000 in
set_option maxRecDepth 100000 in
theorem oV_undo_z (hst : l.stackTraces = false) (hz : np = 0) {Q : Int32 → va_W → Prop} (hp : ws.Perm (EW cI cS cJ ad am ao al ((went, sp, sr, wz, az, po, kd, li, wo, va, osl, osu, tl, tu, ik, th, sz, mi, pd, ls, spt, wrg, le, fi, se, thd, ma, mn, er, fe, ms, pa, lo, ww, wl, wu, aw, af, tw, cs, osw, tv, rr, ll, bk, s, past, snap, tx, line, back, wm, g, np, tn, np9, tn9, bs, sn) : LV) ++ (tlW cI bs ++ T))) (hQ : ∀ ws2, ws2.Perm (EW cI cS cJ ad am ao al ((went, sp, sr, wz, az, po, kd, li, wo, va, osl, osu, tl, tu, ik, th, sz, mi, pd, ls, spt, wrg, le, fi, se, thd, ma, mn, er, fe, ms, pa, lo, ww, wl, wu, aw, af, tw, cs, osw, tv, rr, ll, bk, s, past, snap, tx, line, back, wm, g, np, tn, np9, tn9, bs, sn) : LV) ++ (tlW cI bs ++ T)) → Q 1 ws2) : LwS l sa sv G (tyw cI cS cJ) yL_undo wsL_undo [.ref ad, .ref ao] ws Q := by
  subst hz
  exact oV_undo_1 hst hp hQ
end KZ
set_option maxHeartbeats 4000000 in
set_option maxRecDepth 100000 in
theorem ob_undo {l : Launch} (hst : l.stackTraces = false) {sa sv : Nat → Nat} {G : va_G} {cI cS cJ : ClassId} {ad am ao : Nat} {al : Nat → Nat} {xs : Nat → Int32} {i n : Nat} {ws : va_W} (hn : n ≤ 511) (hI : Inv cI cS cJ ad am ao al n ws) : Ob_undo l sa sv G cI cS cJ xs ad am ao i ws (Inv cI cS cJ ad am ao al (n + 1)) := by
  obtain ⟨⟨went, sp, sr, wz, az, po, kd, li, wo, va, osl, osu, tl, tu, ik, th, sz, mi, pd, ls, spt, wrg, le, fi, se, thd, ma, mn, er, fe, ms, pa, lo, ww, wl, wu, aw, af, tw, cs, osw, tv, rr, ll, bk, s, past, snap, tx, line, back, wm, g, np, tn, np9, tn9, bs, sn⟩, nw, K, P, hp, ⟨hB, hC, hH, hs, h9, h8⟩, hK⟩ := hI
  have k9 : np = np9 := h9.symm
  have k8 : tn = tn9 := h8.symm
  clear h9 h8
  subst k9
  subst k8
  have hp : ws.Perm (EW cI cS cJ ad am ao al ((went, sp, sr, wz, az, po, kd, li, wo, va, osl, osu, tl, tu, ik, th, sz, mi, pd, ls, spt, wrg, le, fi, se, thd, ma, mn, er, fe, ms, pa, lo, ww, wl, wu, aw, af, tw, cs, osw, tv, rr, ll, bk, s, past, snap, tx, line, back, wm, g, np, tn, np, tn, bs, sn) : LV) ++ (tlW cI bs ++ tlW cI sn)) := hp
  have hB : BR tn cs tx := hB
  have hC : CR s nw K P went sp sr mn er fe ms pa lo wz ww wl wu az aw af tw := hC
  have hv : CV s nw K P (nowB (al 0) (al 1) (al 2) (al 3) (al 4) (al 5) (al 6) (al 7) (al 8) (al 9) (al 10) (al 11) (al 12) (al 13) (al 14) (al 15) went sp sr mn er fe ms pa lo wz ww wl wu az aw af tw).2 := hC
  have hH : HR bs np K past := hH
  have hs : (sn = [] ∧ ik = nI 0) ∨ ∃ b n P, sn = [b] ∧ ik = nI 1 ∧ CV snap n K P b.2 := hs
  have hK : K + tn ≤ n := hK
  unfold Ob_undo
  have hH2 := hH
  obtain ⟨q1, q2, q3, q4⟩ := hH2
  by_cases hz : np = 0
  · have e2 : fX9_undo (nI np) th s past = some (nI 0, nI np, nI 1, s) := by rw [hz]; exact und_0 s past th
    exact oV_undo_z hst hz hp (fun ws1 hp1 => o9_undo hp1 e2 (fun ws2 hp2 => lwT hp2 (fun ws3 hp3 => ⟨by decide, fun hk => absurd hk (by decide), _, nw, K, P, hp3, ⟨hB, hC, hH, hs, rfl, rfl⟩, (show K + tn ≤ n + 1 by omega)⟩)))
  · obtain ⟨k, rfl⟩ : ∃ k, np = k + 1 := ⟨np - 1, by omega⟩
    obtain ⟨b, n2, P2, eb, hcv⟩ := q4 k (by omega)
    obtain ⟨s', e2, e3⟩ := und_M s past (np := k) (by omega) th
    have hC' : CV s' n2 K P2 (cpV b.2 (nowB (al 0) (al 1) (al 2) (al 3) (al 4) (al 5) (al 6) (al 7) (al 8) (al 9) (al 10) (al 11) (al 12) (al 13) (al 14) (al 15) went sp sr mn er fe ms pa lo wz ww wl wu az aw af tw).2) := CR.cong (fun j hj => e3 j hj) (Nat.le_refl _) (CV.copy (nowB (al 0) (al 1) (al 2) (al 3) (al 4) (al 5) (al 6) (al 7) (al 8) (al 9) (al 10) (al 11) (al 12) (al 13) (al 14) (al 15) went sp sr mn er fe ms pa lo wz ww wl wu az aw af tw).2 hcv)
    have hH3 : HR bs k K past := ⟨by omega, by omega, q3, fun j hj => q4 j (by omega)⟩
    exact oW_undo (by omega) eb hp (fun ws1 hp1 => o9_undo hp1 e2 (fun ws2 hp2 => lwT hp2 (fun ws3 hp3 => ⟨by decide, fun _ => out_g hp3 (upd0 g _), _, n2, K, P2, hp3, ⟨hB, hC', hH3, hs, rfl, rfl⟩, (show K + tn ≤ n + 1 by omega)⟩)))

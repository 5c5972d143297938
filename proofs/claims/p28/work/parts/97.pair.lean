-- two chains at once
theorem LwXd.perm {l : Launch} {sa sv : Nat → Nat} {G : va_G} {tyc : List (ClassId × FieldType)} {y : MethodName} {wy : List Cond} {rm : Room} {b : Nat} {As : List Value} {ws ws' : va_W} {Q : UInt64 → va_W → Prop} (hp' : ws'.Perm ws) (h : LwXd l sa sv G tyc y wy rm b As ws Q) : LwXd l sa sv G tyc y wy rm b As ws' Q := by
  obtain ⟨wc, wr, S, post, w1, q0, fs, he, hp, hM, hq⟩ := h
  exact ⟨wc, wr, S, post, w1, q0, fs, he, hp'.trans hp, hM, hq⟩
/-- one chain's world beside the other's -/
def Two (JO JQ : va_W → Prop) (ws : va_W) : Prop := ∃ wo wq, ws.Perm (wo ++ wq) ∧ JO wo ∧ JQ wq
theorem Two.l {p : Prop} {J JQ : va_W → Prop} {ws : va_W} (h : Two (fun w => p ∧ J w) JQ ws) : p ∧ Two J JQ ws := by
  obtain ⟨wo, wq, hp, ⟨h1, h2⟩, hq⟩ := h
  exact ⟨h1, wo, wq, hp, h2, hq⟩
theorem Two.r {p : Prop} {JO J : va_W → Prop} {ws : va_W} (h : Two JO (fun w => p ∧ J w) ws) : p ∧ Two JO J ws := by
  obtain ⟨wo, wq, hp, hq, ⟨h1, h2⟩⟩ := h
  exact ⟨h1, wo, wq, hp, hq, h2⟩
theorem Two.imp {JO JO' JQ JQ' : va_W → Prop} {ws : va_W} (h : Two JO JQ ws) (h1 : ∀ w, JO w → JO' w) (h2 : ∀ w, JQ w → JQ' w) : Two JO' JQ' ws := by
  obtain ⟨wo, wq, hp, ho, hq⟩ := h
  exact ⟨wo, wq, hp, h1 _ ho, h2 _ hq⟩
theorem LwS.fst {l : Launch} {sa sv : Nat → Nat} {G : va_G} {tys : List (ClassId × FieldType)} {c0 s0 : Nat} {y : MethodName} {wy : List Cond} {As : List Value} {ws : va_W} {JO JQ : va_W → Prop} {Q : Int32 → va_W → Prop} (h2 : Two JO JQ ws) (h : ∀ wo, JO wo → LwS l sa sv G tys y wy c0 s0 As wo Q) : LwS l sa sv G tys y wy c0 s0 As ws (fun x w => Two (Q x) JQ w) := by
  obtain ⟨wo, wq, hp, ho, hq⟩ := h2
  exact ((h wo ho).frame (T := wq) (fun x w hx => ⟨w, wq, List.Perm.refl _, hx, hq⟩)).perm hp
theorem LwS.snd {l : Launch} {sa sv : Nat → Nat} {G : va_G} {tys : List (ClassId × FieldType)} {c0 s0 : Nat} {y : MethodName} {wy : List Cond} {As : List Value} {ws : va_W} {JO JQ : va_W → Prop} {Q : Int32 → va_W → Prop} (h2 : Two JO JQ ws) (h : ∀ wq, JQ wq → LwS l sa sv G tys y wy c0 s0 As wq Q) : LwS l sa sv G tys y wy c0 s0 As ws (fun x w => Two JO (Q x) w) := by
  obtain ⟨wo, wq, hp, ho, hq⟩ := h2
  exact ((h wq hq).frame (T := wo) (fun x w hx => ⟨wo, w, List.perm_append_comm, ho, hx⟩)).perm (hp.trans List.perm_append_comm)
theorem LwP.fst {l : Launch} {sa sv : Nat → Nat} {G : va_G} {tys : List (ClassId × FieldType)} {b L F Lo c0 s0 : Nat} {xs : Nat → Int32} {y : MethodName} {wy : List Cond} {As : List Value} {ws : va_W} {JO JQ : va_W → Prop} {Q : Int32 → va_W → Prop} (h2 : Two JO JQ ws) (h : ∀ wo, JO wo → LwP l sa sv G tys b L xs y wy F Lo c0 s0 As wo Q) : LwP l sa sv G tys b L xs y wy F Lo c0 s0 As ws (fun x w => Two (Q x) JQ w) := by
  obtain ⟨wo, wq, hp, ho, hq⟩ := h2
  exact ((h wo ho).frame (T := wq) (fun x w hx => ⟨w, wq, List.Perm.refl _, hx, hq⟩)).perm hp
theorem LwP.snd {l : Launch} {sa sv : Nat → Nat} {G : va_G} {tys : List (ClassId × FieldType)} {b L F Lo c0 s0 : Nat} {xs : Nat → Int32} {y : MethodName} {wy : List Cond} {As : List Value} {ws : va_W} {JO JQ : va_W → Prop} {Q : Int32 → va_W → Prop} (h2 : Two JO JQ ws) (h : ∀ wq, JQ wq → LwP l sa sv G tys b L xs y wy F Lo c0 s0 As wq Q) : LwP l sa sv G tys b L xs y wy F Lo c0 s0 As ws (fun x w => Two JO (Q x) w) := by
  obtain ⟨wo, wq, hp, ho, hq⟩ := h2
  exact ((h wq hq).frame (T := wo) (fun x w hx => ⟨wo, w, List.perm_append_comm, ho, hx⟩)).perm (hp.trans List.perm_append_comm)
theorem LwX.fst {l : Launch} {sa sv : Nat → Nat} {G : va_G} {tyc : List (ClassId × FieldType)} {rm : Room} {b : Nat} {y : MethodName} {wy : List Cond} {As : List Value} {ws : va_W} {JO JQ : va_W → Prop} {Q : Int32 → va_W → Prop} (h2 : Two JO JQ ws) (h : ∀ wo, JO wo → LwX l sa sv G tyc y wy rm b As wo Q) : LwX l sa sv G tyc y wy rm b As ws (fun x w => Two (Q x) JQ w) := by
  obtain ⟨wo, wq, hp, ho, hq⟩ := h2
  exact ((h wo ho).frame (T := wq) (fun x w hx => ⟨w, wq, List.Perm.refl _, hx, hq⟩)).perm hp
theorem LwX.snd {l : Launch} {sa sv : Nat → Nat} {G : va_G} {tyc : List (ClassId × FieldType)} {rm : Room} {b : Nat} {y : MethodName} {wy : List Cond} {As : List Value} {ws : va_W} {JO JQ : va_W → Prop} {Q : Int32 → va_W → Prop} (h2 : Two JO JQ ws) (h : ∀ wq, JQ wq → LwX l sa sv G tyc y wy rm b As wq Q) : LwX l sa sv G tyc y wy rm b As ws (fun x w => Two JO (Q x) w) := by
  obtain ⟨wo, wq, hp, ho, hq⟩ := h2
  exact ((h wq hq).frame (T := wo) (fun x w hx => ⟨wo, w, List.perm_append_comm, ho, hx⟩)).perm (hp.trans List.perm_append_comm)
theorem LwXl.fst {l : Launch} {sa sv : Nat → Nat} {G : va_G} {tyc : List (ClassId × FieldType)} {rm : Room} {b : Nat} {y : MethodName} {wy : List Cond} {As : List Value} {ws : va_W} {JO JQ : va_W → Prop} {Q : Int64 → va_W → Prop} (h2 : Two JO JQ ws) (h : ∀ wo, JO wo → LwXl l sa sv G tyc y wy rm b As wo Q) : LwXl l sa sv G tyc y wy rm b As ws (fun x w => Two (Q x) JQ w) := by
  obtain ⟨wo, wq, hp, ho, hq⟩ := h2
  exact ((h wo ho).frame (T := wq) (fun x w hx => ⟨w, wq, List.Perm.refl _, hx, hq⟩)).perm hp
theorem LwXl.snd {l : Launch} {sa sv : Nat → Nat} {G : va_G} {tyc : List (ClassId × FieldType)} {rm : Room} {b : Nat} {y : MethodName} {wy : List Cond} {As : List Value} {ws : va_W} {JO JQ : va_W → Prop} {Q : Int64 → va_W → Prop} (h2 : Two JO JQ ws) (h : ∀ wq, JQ wq → LwXl l sa sv G tyc y wy rm b As wq Q) : LwXl l sa sv G tyc y wy rm b As ws (fun x w => Two JO (Q x) w) := by
  obtain ⟨wo, wq, hp, ho, hq⟩ := h2
  exact ((h wq hq).frame (T := wo) (fun x w hx => ⟨wo, w, List.perm_append_comm, ho, hx⟩)).perm (hp.trans List.perm_append_comm)
theorem LwXd.fst {l : Launch} {sa sv : Nat → Nat} {G : va_G} {tyc : List (ClassId × FieldType)} {rm : Room} {b : Nat} {y : MethodName} {wy : List Cond} {As : List Value} {ws : va_W} {JO JQ : va_W → Prop} {Q : UInt64 → va_W → Prop} (h2 : Two JO JQ ws) (h : ∀ wo, JO wo → LwXd l sa sv G tyc y wy rm b As wo Q) : LwXd l sa sv G tyc y wy rm b As ws (fun x w => Two (Q x) JQ w) := by
  obtain ⟨wo, wq, hp, ho, hq⟩ := h2
  exact ((h wo ho).frame (T := wq) (fun x w hx => ⟨w, wq, List.Perm.refl _, hx, hq⟩)).perm hp
theorem LwXd.snd {l : Launch} {sa sv : Nat → Nat} {G : va_G} {tyc : List (ClassId × FieldType)} {rm : Room} {b : Nat} {y : MethodName} {wy : List Cond} {As : List Value} {ws : va_W} {JO JQ : va_W → Prop} {Q : UInt64 → va_W → Prop} (h2 : Two JO JQ ws) (h : ∀ wq, JQ wq → LwXd l sa sv G tyc y wy rm b As wq Q) : LwXd l sa sv G tyc y wy rm b As ws (fun x w => Two JO (Q x) w) := by
  obtain ⟨wo, wq, hp, ho, hq⟩ := h2
  exact ((h wq hq).frame (T := wo) (fun x w hx => ⟨wo, w, List.perm_append_comm, ho, hx⟩)).perm (hp.trans List.perm_append_comm)
theorem LwX.imp {l : Launch} {sa sv : Nat → Nat} {G : va_G} {tyc : List (ClassId × FieldType)} {y : MethodName} {wy : List Cond} {rm : Room} {b : Nat} {As : List Value} {ws : va_W} {Q Q' : Int32 → va_W → Prop} (h : LwX l sa sv G tyc y wy rm b As ws Q) (hQ : ∀ x w, Q x w → Q' x w) : LwX l sa sv G tyc y wy rm b As ws Q' := by
  obtain ⟨wc, wr, S, post, w1, q0, fs, he, hp, hM, hq⟩ := h
  exact ⟨wc, wr, S, post, w1, q0, fs, he, hp, hM, fun x u hx => hQ x _ (hq x u hx)⟩
theorem LwXl.imp {l : Launch} {sa sv : Nat → Nat} {G : va_G} {tyc : List (ClassId × FieldType)} {y : MethodName} {wy : List Cond} {rm : Room} {b : Nat} {As : List Value} {ws : va_W} {Q Q' : Int64 → va_W → Prop} (h : LwXl l sa sv G tyc y wy rm b As ws Q) (hQ : ∀ x w, Q x w → Q' x w) : LwXl l sa sv G tyc y wy rm b As ws Q' := by
  obtain ⟨wc, wr, S, post, w1, q0, fs, he, hp, hM, hq⟩ := h
  exact ⟨wc, wr, S, post, w1, q0, fs, he, hp, hM, fun x u hx => hQ x _ (hq x u hx)⟩
theorem LwXd.imp {l : Launch} {sa sv : Nat → Nat} {G : va_G} {tyc : List (ClassId × FieldType)} {y : MethodName} {wy : List Cond} {rm : Room} {b : Nat} {As : List Value} {ws : va_W} {Q Q' : UInt64 → va_W → Prop} (h : LwXd l sa sv G tyc y wy rm b As ws Q) (hQ : ∀ x w, Q x w → Q' x w) : LwXd l sa sv G tyc y wy rm b As ws Q' := by
  obtain ⟨wc, wr, S, post, w1, q0, fs, he, hp, hM, hq⟩ := h
  exact ⟨wc, wr, S, post, w1, q0, fs, he, hp, hM, fun x u hx => hQ x _ (hq x u hx)⟩
/-- the calls over what a chain stands for, the order of those that wait left out -/
theorem jj_np {cI cS : ClassId} {ad : Nat} {al : Nat → Nat} {B : List Nat} {M : MT} {K : Nat} {ws : va_W} (hJ : JJ cI cS ad al B M K ws) : ∃ npN, M.np = nI npN := by
  obtain ⟨nw, P, v, -, -, -, -, -, hn⟩ := hJ
  exact ⟨_, hn⟩
theorem jj_count {l : Launch} {sa sv : Nat → Nat} {G : va_G} {cI cS : ClassId} {ad : Nat} {al : Nat → Nat} {B : List Nat} {M : MT} {K : Nat} {ws : va_W} (hJ : JJ cI cS ad al B M K ws) {k : Nat} (hk : k < 7) {npN : Nat} (hnp : M.np = nI npN) : LwS l sa sv G (tyH cI cS) yL_count wsL_count 0 0 [.ref ad, .int (nI k)] ws (fun x w => vCount M.s npN k = x ∧ JJ cI cS ad al B M K w) := by
  obtain ⟨nw, P, hJP⟩ := hJ
  exact (jo_count hJP hk hnp).mono (Nat.le_refl _) (Nat.le_refl _) (fun x w h => ⟨h.1, nw, P, h.2⟩)
theorem jj_count6 {l : Launch} {sa sv : Nat → Nat} {G : va_G} {cI cS : ClassId} {ad : Nat} {al : Nat → Nat} {B : List Nat} {M : MT} {K : Nat} {ws : va_W} (hJ : JJ cI cS ad al B M K ws) : LwS l sa sv G (tyH cI cS) yL_count wsL_count 0 0 [.ref ad, .int (nI 6)] ws (fun x w => M.np = x ∧ JJ cI cS ad al B M K w) := by
  obtain ⟨npN, hnp⟩ := jj_np hJ
  exact (jj_count hJ (k := 6) (by decide) hnp).mono (Nat.le_refl _) (Nat.le_refl _) (fun x w h => ⟨hnp.trans h.1, h.2⟩)
theorem jj_stopped {l : Launch} {sa sv : Nat → Nat} {G : va_G} {cI cS : ClassId} {ad : Nat} {al : Nat → Nat} {B : List Nat} {M : MT} {K : Nat} {ws : va_W} (hJ : JJ cI cS ad al B M K ws) {k : Nat} (hk : k < 2) : LwS l sa sv G (tyH cI cS) yL_stopped wsL_stopped 0 0 [.ref ad, .int (nI k)] ws (fun x w => vStop M.s k = x ∧ JJ cI cS ad al B M K w) := by
  obtain ⟨nw, P, hJP⟩ := hJ
  exact (jo_stopped hJP hk).mono (Nat.le_refl _) (Nat.le_refl _) (fun x w h => ⟨h.1, nw, P, h.2⟩)
theorem jj_lostAt {l : Launch} {sa sv : Nat → Nat} {G : va_G} {cI cS : ClassId} {ad : Nat} {al : Nat → Nat} {B : List Nat} {M : MT} {K : Nat} {ws : va_W} (hJ : JJ cI cS ad al B M K ws) {w : Nat} (hw : w < 30) : LwS l sa sv G (tyH cI cS) yL_lostAt wsL_lostAt 0 0 [.ref ad, .int (nI w)] ws (fun x ws1 => lk (lossN M.s 6 0 w) = x ∧ JJ cI cS ad al B M K ws1) := by
  obtain ⟨nw, P, hJP⟩ := hJ
  exact (jo_lostAt hJP hw).mono (Nat.le_refl _) (Nat.le_refl _) (fun x w h => ⟨h.1, nw, P, h.2⟩)
theorem jj_throughShare {l : Launch} {sa sv : Nat → Nat} {G : va_G} {cI cS : ClassId} {ad : Nat} {al : Nat → Nat} {B : List Nat} {M : MT} {K : Nat} {ws : va_W} (hJ : JJ cI cS ad al B M K ws) (hK : K ≤ 512) : LwXd l sa sv G [(cI, .int)] yX8_throughShare wsX8_throughShare ({ frames := 1, cells := 0, slots := 0, locals := 25 } : Room) ad [] ws (fun x w => shareN M.s = x ∧ JJ cI cS ad al B M K w) := by
  obtain ⟨nw, P, hJP⟩ := hJ
  exact (jo_throughShare hJP hK).imp (fun x w h => ⟨h.1, nw, P, h.2⟩)
theorem jj_costs {l : Launch} {sa sv : Nat → Nat} {G : va_G} {cI cS : ClassId} {ad : Nat} {al : Nat → Nat} {B : List Nat} {M : MT} {K : Nat} {ws : va_W} (hJ : JJ cI cS ad al B M K ws) : LwX l sa sv G [(cI, .int)] yX8_costs wsX8_costs ({ frames := 4, cells := 0, slots := 0, locals := 99 } : Room) ad [] ws (fun x w => allC M.s = x ∧ JJ cI cS ad al B M K w) := by
  obtain ⟨nw, P, hJP⟩ := hJ
  have hc : P.foldl (fun x b => x + costN M.s b) (nI 0) = allC M.s := by
    obtain ⟨v, -, -, hC, -⟩ := hJP
    exact allC_P hC.2.2.2.2.2.2.2.1.1 hC.2.2.2.2.2.2.2.1.2.1
  exact (jo_costs hJP).imp (fun x w h => ⟨hc.symm.trans h.1, nw, P, h.2⟩)
theorem jj_digest {l : Launch} {sa sv : Nat → Nat} {G : va_G} {cI cS : ClassId} {ad : Nat} {al : Nat → Nat} {M : MT} {K : Nat} {ws : va_W} (hJ : JJ cI cS ad al [] M K ws) (hK : K ≤ 512) : LwXl l sa sv G [(cI, .int)] yX8_digest wsX8_digest ({ frames := 6, cells := 0, slots := 0, locals := 148 } : Room) ad [] ws (fun x w => fL_digest M = some x ∧ JJ cI cS ad al [] M K w) := by
  obtain ⟨nw, P, hJP⟩ := hJ
  obtain ⟨r, h1, h2⟩ := jo_digest hJP hK rfl
  exact h1.imp (fun x w h => ⟨by rw [← h.1]; exact h2, nw, P, h.2⟩)
/-- how many wait -/
theorem jj_304 {cI cS : ClassId} {ad : Nat} {al : Nat → Nat} {B : List Nat} {M : MT} {K : Nat} {ws : va_W} (hJ : JJ cI cS ad al B M K ws) : ∃ n, n ≤ 8 ∧ M.s 304 = nI n := by
  obtain ⟨nw, P, v, -, -, hC, -⟩ := hJ
  have hw := hC.2.2.2.2.2.2.2.1.1
  exact ⟨nw, hw.2.1, hw.1⟩
set_option maxHeartbeats 4000000 in
set_option maxRecDepth 100000 in
theorem jj_go {l : Launch} {sa sv : Nat → Nat} {G : va_G} {cI cS : ClassId} {ad : Nat} {al : Nat → Nat} (hst : l.stackTraces = false) {B : List Nat} {M : MT} {K : Nat} {ws : va_W} (hJ : JJ cI cS ad al B M K ws) {n : Nat} (n8 : n < 8) (h304 : M.s 304 = nI (n + 1)) : ∃ z M', fL_go M = some (nI z, M') ∧ z ≤ 12 ∧ M'.s 304 = nI n ∧ paidN M'.s + allC M'.s = paidN M.s + allC M.s := by
  obtain ⟨nw, P, ⟨went, sp, sr, wz, az, po, kd, li, wo, va, osl, osu, tl, tu, mn, er, fe, ms, pa, lo, ww, wl, wu, aw, af, tw, cs, osw, tv, rr, ll, bk, np, tn, bs, sn⟩, -, -, hC, hH, -, hn⟩ := hJ
  obtain ⟨np9, ik, th, sz, mi, pd, ls, spt, wrg, le, fi, se, thd, ma, s, past, snap, line, back, wm⟩ := M
  have hn : np9 = nI np := hn
  have hC : CR s nw K P went sp sr mn er fe ms pa lo wz ww wl wu az aw af tw := hC
  have hH : HR bs np K past := hH
  have h304 : s 304 = nI (n + 1) := h304
  subst hn
  have hw := hC.2.2.2.2.2.2.2.1.1
  have hnw : nw = n + 1 := by
    have e : nI nw = nI (n + 1) := hw.1.symm.trans h304
    exact (nI_eq (by have := hw.2.1; omega) (by omega)).mp e
  subst hnw
  obtain ⟨q1, -, -, -⟩ := hH
  obtain ⟨z, s', np', past', sz', mi', pd', ls', line', back', e, h1, h2, h3⟩ := go_MG hC (by omega) q1 past th sz mi pd ls line back
  refine ⟨z, ((np', ik, nI 0, sz', mi', pd', ls', spt, wrg, le, fi, se, thd, ma, s', past', snap, line', back', wm) : MT), ?_, h1, h2, h3⟩
  show (fX9_go (nI np) th sz mi pd ls s past line back).bind _ = _
  rw [e]
  first | done | rfl
theorem jj_go_c {l : Launch} {sa sv : Nat → Nat} {G : va_G} {cI cS : ClassId} {ad : Nat} {al : Nat → Nat} (hst : l.stackTraces = false) {B : List Nat} {M M' : MT} {K : Nat} {r : Int32} (hf : fL_go M = some (r, M')) {ws : va_W} (hJ : JJ cI cS ad al B M K ws) : LwS l sa sv G (tyH cI cS) yL_go wsL_go 16 480 [.ref ad] ws (fun x w => r = x ∧ JJ cI cS ad al B M' K w) := by
  obtain ⟨r2, M2, h1, h2⟩ := jo_go hst hJ
  rw [hf] at h1
  have e := Option.some.inj h1
  have e1 : r = r2 := congrArg Prod.fst e
  have e2 : M' = M2 := congrArg Prod.snd e
  rw [e1, e2]
  exact h2
set_option maxHeartbeats 4000000 in
set_option maxRecDepth 100000 in
theorem jt_undo_0 {l : Launch} {sa sv : Nat → Nat} {G : va_G} {cI cS : ClassId} {ad : Nat} {al : Nat → Nat} (hst : l.stackTraces = false) {B : List Nat} {M : MT} {K : Nat} (h0 : M.np = nI 0) {ws : va_W} (hJ : JJ cI cS ad al B M K ws) : LwS l sa sv G (tyH cI cS) yL_undo wsL_undo 16 480 [.ref ad] ws (fun x w => (-2) = x ∧ JJ cI cS ad al B M K w) := by
  obtain ⟨nw, P, ⟨went, sp, sr, wz, az, po, kd, li, wo, va, osl, osu, tl, tu, mn, er, fe, ms, pa, lo, ww, wl, wu, aw, af, tw, cs, osw, tv, rr, ll, bk, np, tn, bs, sn⟩, hp, hB, hC, hH, hs, hn⟩ := hJ
  have hp : ws.Perm (EW cI cS ad al ((went, sp, sr, wz, az, po, kd, li, wo, va, osl, osu, tl, tu, mn, er, fe, ms, pa, lo, ww, wl, wu, aw, af, tw, cs, osw, tv, rr, ll, bk, np, tn, bs, sn) : LV) ++ (tlW cI bs ++ tlW cI sn)) := hp
  have hn : M.np = nI np := hn
  have hH2 : HR bs np K M.past := hH
  have hz : np = 0 := by
    have e : nI np = nI 0 := hn.symm.trans h0
    exact (nI_eq (by have := hH2.1; omega) (by omega)).mp e
  exact oV_undo_z hst hz hp (fun ws1 hp1 => ⟨rfl, nw, P, _, hp1, hB, hC, hH, hs, hn⟩)
set_option maxHeartbeats 4000000 in
set_option maxRecDepth 100000 in
theorem jt_restore_0 {l : Launch} {sa sv : Nat → Nat} {G : va_G} {cI cS : ClassId} {ad : Nat} {al : Nat → Nat} (hst : l.stackTraces = false) {B : List Nat} {M : MT} {K : Nat} (h0 : M.ik = nI 0) {ws : va_W} (hJ : JJ cI cS ad al B M K ws) : LwS l sa sv G (tyH cI cS) yL_restore wsL_restore 16 480 [.ref ad] ws (fun x w => (-2) = x ∧ JJ cI cS ad al B M K w) := by
  obtain ⟨nw, P, ⟨went, sp, sr, wz, az, po, kd, li, wo, va, osl, osu, tl, tu, mn, er, fe, ms, pa, lo, ww, wl, wu, aw, af, tw, cs, osw, tv, rr, ll, bk, np, tn, bs, sn⟩, hp, hB, hC, hH, hs, hn⟩ := hJ
  have hp : ws.Perm (EW cI cS ad al ((went, sp, sr, wz, az, po, kd, li, wo, va, osl, osu, tl, tu, mn, er, fe, ms, pa, lo, ww, wl, wu, aw, af, tw, cs, osw, tv, rr, ll, bk, np, tn, bs, sn) : LV) ++ (tlW cI bs ++ tlW cI sn)) := hp
  have hs2 : (sn = [] ∧ M.ik = nI 0) ∨ ∃ b n P, sn = [b] ∧ M.ik = nI 1 ∧ CV M.snap n K P b.2 := hs
  have hz : sn = [] := by
    rcases hs2 with ⟨h, -⟩ | ⟨b, n, P, -, h, -⟩
    · exact h
    · rw [h0] at h
      exact absurd h (by decide)
  subst hz
  exact oV_restore_1 hst hp (fun ws1 hp1 => ⟨rfl, nw, P, _, hp1, hB, hC, hH, hs, hn⟩)

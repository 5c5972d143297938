-- the law's world: all that both sides hold, one row
abbrev LV : Type := Int32 × Int32 × Int32 × Int32 × Int32 × Int32 × Int32 × Int32 × Int32 × Int32 × Int32 × Int32 × Int32 × Int32 × Int32 × Int32 × Int32 × Int32 × Int32 × Int32 × Int32 × Int32 × Int32 × Int32 × Int32 × Int32 × Int32 × (Nat → Int32) × (Nat → Int32) × (Nat → Int32) × (Nat → Int32) × (Nat → Int32) × (Nat → Int32) × (Nat → Int32) × (Nat → Int32) × (Nat → Int32) × (Nat → Int32) × (Nat → Int32) × (Nat → Int32) × (Nat → Int32) × (Nat → Int32) × (Nat → Int32) × (Nat → Int32) × (Nat → Int32) × (Nat → Int32) × (Nat → Int32) × (Nat → Int32) × (Nat → Int32) × (Nat → Int32) × (Nat → Int32) × (Nat → Int32) × (Nat → Int32) × (Nat → Int64) × Nat × Nat × Nat × Nat × (List Blk) × (List Blk)
abbrev LV.went (v : LV) : Int32 := v.1
abbrev LV.sp (v : LV) : Int32 := v.2.1
abbrev LV.sr (v : LV) : Int32 := v.2.2.1
abbrev LV.wz (v : LV) : Int32 := v.2.2.2.1
abbrev LV.az (v : LV) : Int32 := v.2.2.2.2.1
abbrev LV.po (v : LV) : Int32 := v.2.2.2.2.2.1
abbrev LV.kd (v : LV) : Int32 := v.2.2.2.2.2.2.1
abbrev LV.li (v : LV) : Int32 := v.2.2.2.2.2.2.2.1
abbrev LV.wo (v : LV) : Int32 := v.2.2.2.2.2.2.2.2.1
abbrev LV.va (v : LV) : Int32 := v.2.2.2.2.2.2.2.2.2.1
abbrev LV.osl (v : LV) : Int32 := v.2.2.2.2.2.2.2.2.2.2.1
abbrev LV.osu (v : LV) : Int32 := v.2.2.2.2.2.2.2.2.2.2.2.1
abbrev LV.tl (v : LV) : Int32 := v.2.2.2.2.2.2.2.2.2.2.2.2.1
abbrev LV.tu (v : LV) : Int32 := v.2.2.2.2.2.2.2.2.2.2.2.2.2.1
abbrev LV.ik (v : LV) : Int32 := v.2.2.2.2.2.2.2.2.2.2.2.2.2.2.1
abbrev LV.th (v : LV) : Int32 := v.2.2.2.2.2.2.2.2.2.2.2.2.2.2.2.1
abbrev LV.sz (v : LV) : Int32 := v.2.2.2.2.2.2.2.2.2.2.2.2.2.2.2.2.1
abbrev LV.mi (v : LV) : Int32 := v.2.2.2.2.2.2.2.2.2.2.2.2.2.2.2.2.2.1
abbrev LV.pd (v : LV) : Int32 := v.2.2.2.2.2.2.2.2.2.2.2.2.2.2.2.2.2.2.1
abbrev LV.ls (v : LV) : Int32 := v.2.2.2.2.2.2.2.2.2.2.2.2.2.2.2.2.2.2.2.1
abbrev LV.spt (v : LV) : Int32 := v.2.2.2.2.2.2.2.2.2.2.2.2.2.2.2.2.2.2.2.2.1
abbrev LV.wrg (v : LV) : Int32 := v.2.2.2.2.2.2.2.2.2.2.2.2.2.2.2.2.2.2.2.2.2.1
abbrev LV.le (v : LV) : Int32 := v.2.2.2.2.2.2.2.2.2.2.2.2.2.2.2.2.2.2.2.2.2.2.1
abbrev LV.fi (v : LV) : Int32 := v.2.2.2.2.2.2.2.2.2.2.2.2.2.2.2.2.2.2.2.2.2.2.2.1
abbrev LV.se (v : LV) : Int32 := v.2.2.2.2.2.2.2.2.2.2.2.2.2.2.2.2.2.2.2.2.2.2.2.2.1
abbrev LV.thd (v : LV) : Int32 := v.2.2.2.2.2.2.2.2.2.2.2.2.2.2.2.2.2.2.2.2.2.2.2.2.2.1
abbrev LV.ma (v : LV) : Int32 := v.2.2.2.2.2.2.2.2.2.2.2.2.2.2.2.2.2.2.2.2.2.2.2.2.2.2.1
abbrev LV.mn (v : LV) : Nat → Int32 := v.2.2.2.2.2.2.2.2.2.2.2.2.2.2.2.2.2.2.2.2.2.2.2.2.2.2.2.1
abbrev LV.er (v : LV) : Nat → Int32 := v.2.2.2.2.2.2.2.2.2.2.2.2.2.2.2.2.2.2.2.2.2.2.2.2.2.2.2.2.1
abbrev LV.fe (v : LV) : Nat → Int32 := v.2.2.2.2.2.2.2.2.2.2.2.2.2.2.2.2.2.2.2.2.2.2.2.2.2.2.2.2.2.1
abbrev LV.ms (v : LV) : Nat → Int32 := v.2.2.2.2.2.2.2.2.2.2.2.2.2.2.2.2.2.2.2.2.2.2.2.2.2.2.2.2.2.2.1
abbrev LV.pa (v : LV) : Nat → Int32 := v.2.2.2.2.2.2.2.2.2.2.2.2.2.2.2.2.2.2.2.2.2.2.2.2.2.2.2.2.2.2.2.1
abbrev LV.lo (v : LV) : Nat → Int32 := v.2.2.2.2.2.2.2.2.2.2.2.2.2.2.2.2.2.2.2.2.2.2.2.2.2.2.2.2.2.2.2.2.1
abbrev LV.ww (v : LV) : Nat → Int32 := v.2.2.2.2.2.2.2.2.2.2.2.2.2.2.2.2.2.2.2.2.2.2.2.2.2.2.2.2.2.2.2.2.2.1
abbrev LV.wl (v : LV) : Nat → Int32 := v.2.2.2.2.2.2.2.2.2.2.2.2.2.2.2.2.2.2.2.2.2.2.2.2.2.2.2.2.2.2.2.2.2.2.1
abbrev LV.wu (v : LV) : Nat → Int32 := v.2.2.2.2.2.2.2.2.2.2.2.2.2.2.2.2.2.2.2.2.2.2.2.2.2.2.2.2.2.2.2.2.2.2.2.1
abbrev LV.aw (v : LV) : Nat → Int32 := v.2.2.2.2.2.2.2.2.2.2.2.2.2.2.2.2.2.2.2.2.2.2.2.2.2.2.2.2.2.2.2.2.2.2.2.2.1
abbrev LV.af (v : LV) : Nat → Int32 := v.2.2.2.2.2.2.2.2.2.2.2.2.2.2.2.2.2.2.2.2.2.2.2.2.2.2.2.2.2.2.2.2.2.2.2.2.2.1
abbrev LV.tw (v : LV) : Nat → Int32 := v.2.2.2.2.2.2.2.2.2.2.2.2.2.2.2.2.2.2.2.2.2.2.2.2.2.2.2.2.2.2.2.2.2.2.2.2.2.2.1
abbrev LV.cs (v : LV) : Nat → Int32 := v.2.2.2.2.2.2.2.2.2.2.2.2.2.2.2.2.2.2.2.2.2.2.2.2.2.2.2.2.2.2.2.2.2.2.2.2.2.2.2.1
abbrev LV.osw (v : LV) : Nat → Int32 := v.2.2.2.2.2.2.2.2.2.2.2.2.2.2.2.2.2.2.2.2.2.2.2.2.2.2.2.2.2.2.2.2.2.2.2.2.2.2.2.2.1
abbrev LV.tv (v : LV) : Nat → Int32 := v.2.2.2.2.2.2.2.2.2.2.2.2.2.2.2.2.2.2.2.2.2.2.2.2.2.2.2.2.2.2.2.2.2.2.2.2.2.2.2.2.2.1
abbrev LV.rr (v : LV) : Nat → Int32 := v.2.2.2.2.2.2.2.2.2.2.2.2.2.2.2.2.2.2.2.2.2.2.2.2.2.2.2.2.2.2.2.2.2.2.2.2.2.2.2.2.2.2.1
abbrev LV.ll (v : LV) : Nat → Int32 := v.2.2.2.2.2.2.2.2.2.2.2.2.2.2.2.2.2.2.2.2.2.2.2.2.2.2.2.2.2.2.2.2.2.2.2.2.2.2.2.2.2.2.2.1
abbrev LV.bk (v : LV) : Nat → Int32 := v.2.2.2.2.2.2.2.2.2.2.2.2.2.2.2.2.2.2.2.2.2.2.2.2.2.2.2.2.2.2.2.2.2.2.2.2.2.2.2.2.2.2.2.2.1
abbrev LV.s (v : LV) : Nat → Int32 := v.2.2.2.2.2.2.2.2.2.2.2.2.2.2.2.2.2.2.2.2.2.2.2.2.2.2.2.2.2.2.2.2.2.2.2.2.2.2.2.2.2.2.2.2.2.1
abbrev LV.past (v : LV) : Nat → Int32 := v.2.2.2.2.2.2.2.2.2.2.2.2.2.2.2.2.2.2.2.2.2.2.2.2.2.2.2.2.2.2.2.2.2.2.2.2.2.2.2.2.2.2.2.2.2.2.1
abbrev LV.snap (v : LV) : Nat → Int32 := v.2.2.2.2.2.2.2.2.2.2.2.2.2.2.2.2.2.2.2.2.2.2.2.2.2.2.2.2.2.2.2.2.2.2.2.2.2.2.2.2.2.2.2.2.2.2.2.1
abbrev LV.tx (v : LV) : Nat → Int32 := v.2.2.2.2.2.2.2.2.2.2.2.2.2.2.2.2.2.2.2.2.2.2.2.2.2.2.2.2.2.2.2.2.2.2.2.2.2.2.2.2.2.2.2.2.2.2.2.2.1
abbrev LV.line (v : LV) : Nat → Int32 := v.2.2.2.2.2.2.2.2.2.2.2.2.2.2.2.2.2.2.2.2.2.2.2.2.2.2.2.2.2.2.2.2.2.2.2.2.2.2.2.2.2.2.2.2.2.2.2.2.2.1
abbrev LV.back (v : LV) : Nat → Int32 := v.2.2.2.2.2.2.2.2.2.2.2.2.2.2.2.2.2.2.2.2.2.2.2.2.2.2.2.2.2.2.2.2.2.2.2.2.2.2.2.2.2.2.2.2.2.2.2.2.2.2.1
abbrev LV.wm (v : LV) : Nat → Int32 := v.2.2.2.2.2.2.2.2.2.2.2.2.2.2.2.2.2.2.2.2.2.2.2.2.2.2.2.2.2.2.2.2.2.2.2.2.2.2.2.2.2.2.2.2.2.2.2.2.2.2.2.1
abbrev LV.g (v : LV) : Nat → Int64 := v.2.2.2.2.2.2.2.2.2.2.2.2.2.2.2.2.2.2.2.2.2.2.2.2.2.2.2.2.2.2.2.2.2.2.2.2.2.2.2.2.2.2.2.2.2.2.2.2.2.2.2.2.1
abbrev LV.np (v : LV) : Nat := v.2.2.2.2.2.2.2.2.2.2.2.2.2.2.2.2.2.2.2.2.2.2.2.2.2.2.2.2.2.2.2.2.2.2.2.2.2.2.2.2.2.2.2.2.2.2.2.2.2.2.2.2.2.1
abbrev LV.tn (v : LV) : Nat := v.2.2.2.2.2.2.2.2.2.2.2.2.2.2.2.2.2.2.2.2.2.2.2.2.2.2.2.2.2.2.2.2.2.2.2.2.2.2.2.2.2.2.2.2.2.2.2.2.2.2.2.2.2.2.1
abbrev LV.np9 (v : LV) : Nat := v.2.2.2.2.2.2.2.2.2.2.2.2.2.2.2.2.2.2.2.2.2.2.2.2.2.2.2.2.2.2.2.2.2.2.2.2.2.2.2.2.2.2.2.2.2.2.2.2.2.2.2.2.2.2.2.1
abbrev LV.tn9 (v : LV) : Nat := v.2.2.2.2.2.2.2.2.2.2.2.2.2.2.2.2.2.2.2.2.2.2.2.2.2.2.2.2.2.2.2.2.2.2.2.2.2.2.2.2.2.2.2.2.2.2.2.2.2.2.2.2.2.2.2.2.1
abbrev LV.bs (v : LV) : List Blk := v.2.2.2.2.2.2.2.2.2.2.2.2.2.2.2.2.2.2.2.2.2.2.2.2.2.2.2.2.2.2.2.2.2.2.2.2.2.2.2.2.2.2.2.2.2.2.2.2.2.2.2.2.2.2.2.2.2.1
abbrev LV.sn (v : LV) : List Blk := v.2.2.2.2.2.2.2.2.2.2.2.2.2.2.2.2.2.2.2.2.2.2.2.2.2.2.2.2.2.2.2.2.2.2.2.2.2.2.2.2.2.2.2.2.2.2.2.2.2.2.2.2.2.2.2.2.2.2
/-- the chain's state as a block -/
def LV.now (v : LV) (al : Nat → Nat) : Blk := nowB (al 0) (al 1) (al 2) (al 3) (al 4) (al 5) (al 6) (al 7) (al 8) (al 9) (al 10) (al 11) (al 12) (al 13) (al 14) (al 15) v.went v.sp v.sr v.mn v.er v.fe v.ms v.pa v.lo v.wz v.ww v.wl v.wu v.az v.aw v.af v.tw
/-- the cells of both sides and of the answer, in an order of ours -/
abbrev EW (cI cS cJ : ClassId) (ad am ao : Nat) (al : Nat → Nat) (v : LV) : va_W :=
  [(ad, .inr (8, [.ref (al 0), .ref (al 16), .ref (al 18), .ref (al 22), .ref (al 24), snV v.sn])),
   (al 0, .inr (5, [.ref (al 1), .ref (al 8), .ref (al 12), .ref (al 15), .int v.went, .int v.sp, .int v.sr])),
   (al 1, .inr (2, [.ref (al 2), .ref (al 3), .ref (al 4), .ref (al 5), .ref (al 6), .ref (al 7)])),
   (al 2, .inl (cI, 180, .inl v.mn)), (al 3, .inl (cI, 6, .inl v.er)), (al 4, .inl (cI, 6, .inl v.fe)), (al 5, .inl (cI, 6, .inl v.ms)), (al 6, .inl (cI, 6, .inl v.pa)), (al 7, .inl (cI, 6, .inl v.lo)),
   (al 8, .inr (7, [.ref (al 9), .ref (al 10), .ref (al 11), .int v.wz])), (al 9, .inl (cI, 96, .inl v.ww)), (al 10, .inl (cI, 8, .inl v.wl)), (al 11, .inl (cI, 8, .inl v.wu)),
   (al 12, .inr (0, [.ref (al 13), .ref (al 14), .int v.az])), (al 13, .inl (cI, 72, .inl v.aw)), (al 14, .inl (cI, 36, .inl v.af)), (al 15, .inl (cI, 30, .inl v.tw)),
   (al 16, .inr (1, [.ref (al 17), .int (nI v.np)])), (al 17, .inl (cS, 6, .inr (.inr (.inr (.inr (svOf v.bs)))))),
   (al 18, .inr (3, [.ref (al 19), .int (nI v.tn), .int v.po, .int v.kd, .int v.li, .int v.wo, .int v.va, .ref (al 20)])), (al 19, .inl (cI, 60, .inl v.cs)), (al 20, .inr (4, [.ref (al 21), .int v.osl, .int v.osu])), (al 21, .inl (cI, 12, .inl v.osw)),
   (al 22, .inr (4, [.ref (al 23), .int v.tl, .int v.tu])), (al 23, .inl (cI, 12, .inl v.tv)),
   (al 24, .inr (6, [.ref (al 25), .ref (al 26), .ref (al 27)])), (al 25, .inl (cI, 84, .inl v.rr)), (al 26, .inl (cI, 7, .inl v.ll)), (al 27, .inl (cI, 12, .inl v.bk)),
   (am, .inr (9, [.ref (al 28), .ref (al 29), .int (nI v.np9), .ref (al 30), .int v.ik, .ref (al 31), .int (nI v.tn9), .int v.th, .ref (al 32), .int v.sz, .ref (al 33), .int v.mi, .int v.pd, .int v.ls, .int v.spt, .int v.wrg, .int v.le, .int v.fi, .int v.se, .int v.thd, .ref (al 34), .int v.ma])),
   (al 28, .inl (cI, 460, .inl v.s)), (al 29, .inl (cI, 2760, .inl v.past)), (al 30, .inl (cI, 460, .inl v.snap)), (al 31, .inl (cI, 60, .inl v.tx)), (al 32, .inl (cI, 12, .inl v.line)), (al 33, .inl (cI, 12, .inl v.back)), (al 34, .inl (cI, 12, .inl v.wm)),
   ouW cJ ao v.g]
theorem range_get {α : Type} : ∀ (E : List α), (List.range E.length).filterMap (fun i => E[i]?) = E := by
  intro E
  induction E with
  | nil => rfl
  | cons a E ih =>
    rw [List.length_cons, List.range_succ_eq_map, List.filterMap_cons]
    show a :: List.filterMap (fun i => (a :: E)[i]?) (List.map Nat.succ (List.range E.length)) = a :: E
    rw [List.filterMap_map]
    exact congrArg (a :: ·) ih
theorem pl_0 {E wc : va_W} (isC isR : List Nat) {N : Nat} (hN : E.length = N) (hp : (isC ++ isR).Perm (List.range N)) (hC : isC.filterMap (fun i => E[i]?) = wc) : E.Perm (wc ++ isR.filterMap (fun i => E[i]?)) := by
  have h := hp.symm.filterMap (fun i => E[i]?)
  rw [← hN, range_get, List.filterMap_append, hC] at h
  exact h
theorem pl_in {E wc : va_W} (T : va_W) (isC isR : List Nat) {N : Nat} (hN : E.length = N) (hp : (isC ++ isR).Perm (List.range N)) (hC : isC.filterMap (fun i => E[i]?) = wc) : (E ++ T).Perm (wc ++ (isR.filterMap (fun i => E[i]?) ++ T)) := by
  rw [← List.append_assoc]
  exact (pl_0 isC isR hN hp hC).append_right T
theorem pl_out {E E' w1 : va_W} (T : va_W) (isC isR : List Nat) {N : Nat} (hN : E'.length = N) (hp : (isC ++ isR).Perm (List.range N)) (hC : isC.filterMap (fun i => E'[i]?) = w1) (hR : isR.filterMap (fun i => E[i]?) = isR.filterMap (fun i => E'[i]?)) : (w1 ++ (isR.filterMap (fun i => E[i]?) ++ T)).Perm (E' ++ T) := by
  rw [hR]
  exact (pl_in T isC isR hN hp hC).symm
/-- with the blocks of the history, or of the snapshot, behind the cells -/
theorem pl_inB {E wc : va_W} (B T : va_W) (isC isR : List Nat) {N : Nat} (hN : E.length = N) (hp : (isC ++ isR).Perm (List.range N)) (hC : isC.filterMap (fun i => E[i]?) = wc) : (E ++ (B ++ T)).Perm ((wc ++ B) ++ (isR.filterMap (fun i => E[i]?) ++ T)) := by
  refine (pl_in (B ++ T) isC isR hN hp hC).trans ?_
  rw [List.append_assoc]
  refine List.Perm.append_left wc ?_
  rw [← List.append_assoc, ← List.append_assoc]
  exact List.perm_append_comm.append_right T
theorem pl_outB {E E' w1 : va_W} (B T : va_W) (isC isR : List Nat) {N : Nat} (hN : E'.length = N) (hp : (isC ++ isR).Perm (List.range N)) (hC : isC.filterMap (fun i => E'[i]?) = w1) (hR : isR.filterMap (fun i => E[i]?) = isR.filterMap (fun i => E'[i]?)) : ((w1 ++ B) ++ (isR.filterMap (fun i => E[i]?) ++ T)).Perm (E' ++ (B ++ T)) := by
  rw [hR]
  exact (pl_inB B T isC isR hN hp hC).symm
theorem pl_inS {E wc : va_W} (B T : va_W) (isC isR : List Nat) {N : Nat} (hN : E.length = N) (hp : (isC ++ isR).Perm (List.range N)) (hC : isC.filterMap (fun i => E[i]?) = wc) : (E ++ (B ++ T)).Perm ((wc ++ T) ++ (isR.filterMap (fun i => E[i]?) ++ B)) :=
  (List.Perm.append_left E List.perm_append_comm).trans (pl_inB T B isC isR hN hp hC)
theorem pl_outS {E E' w1 : va_W} (B T : va_W) (isC isR : List Nat) {N : Nat} (hN : E'.length = N) (hp : (isC ++ isR).Perm (List.range N)) (hC : isC.filterMap (fun i => E'[i]?) = w1) (hR : isR.filterMap (fun i => E[i]?) = isR.filterMap (fun i => E'[i]?)) : ((w1 ++ T) ++ (isR.filterMap (fun i => E[i]?) ++ B)).Perm (E' ++ (B ++ T)) := by
  rw [hR]
  exact (pl_inS B T isC isR hN hp hC).symm
/-- what is kept, on both sides -/
def SNR (v : LV) (K : Nat) : Prop := (v.sn = [] ∧ v.ik = nI 0) ∨ ∃ b n P, v.sn = [b] ∧ v.ik = nI 1 ∧ CV v.snap n K P b.2
/-- both sides stand alike -/
def LR (v : LV) (nw K : Nat) (P : List Nat) : Prop := BR v.tn v.cs v.tx ∧ CR v.s nw K P v.went v.sp v.sr v.mn v.er v.fe v.ms v.pa v.lo v.wz v.ww v.wl v.wu v.az v.aw v.af v.tw ∧ HR v.bs v.np K v.past ∧ SNR v K ∧ v.np9 = v.np ∧ v.tn9 = v.tn
/-- after n calls -/
def Inv (cI cS cJ : ClassId) (ad am ao : Nat) (al : Nat → Nat) (n : Nat) (ws : va_W) : Prop := ∃ (v : LV) (nw K : Nat) (P : List Nat), ws.Perm (EW cI cS cJ ad am ao al v ++ (tlW cI v.bs ++ tlW cI v.sn)) ∧ LR v nw K P ∧ K + v.tn ≤ n

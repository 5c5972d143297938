-- the law's world: what a chain holds, one row
abbrev LV : Type := Int32 × Int32 × Int32 × Int32 × Int32 × Int32 × Int32 × Int32 × Int32 × Int32 × Int32 × Int32 × Int32 × Int32 × (Nat → Int32) × (Nat → Int32) × (Nat → Int32) × (Nat → Int32) × (Nat → Int32) × (Nat → Int32) × (Nat → Int32) × (Nat → Int32) × (Nat → Int32) × (Nat → Int32) × (Nat → Int32) × (Nat → Int32) × (Nat → Int32) × (Nat → Int32) × (Nat → Int32) × (Nat → Int32) × (Nat → Int32) × (Nat → Int32) × Nat × Nat × (List Blk) × (List Blk)
abbrev LV.went (v : LV) : Int32 := v.1
abbrev LV.sp (v : LV) : Int32 := v.2.1
abbrev LV.sr (v : LV) : Int32 := v.2.2.1
abbrev LV.wz (v : LV) : Int32 := v.2.2.2.1
abbrev LV.az (v : LV) : Int32 := v.2.2.2.2.1
abbrev LV.po (v : LV) : Int32 := v.2.2.2.2.2.1
abbrev LV.kd (v : LV) : Int32 := v.2.2.2.2.2.2.1
abbrev LV.li (v : LV) : Int32 := v.2.2.2.2.2.2.2.1
abbrev LV.wo (v : LV) : Int32 := v.2.2.2.2.2.2.2.2.1
abbrev LV.va (v : LV) : Int32 := v.2.2.2.2.2.2.2.2.2.1
abbrev LV.osl (v : LV) : Int32 := v.2.2.2.2.2.2.2.2.2.2.1
abbrev LV.osu (v : LV) : Int32 := v.2.2.2.2.2.2.2.2.2.2.2.1
abbrev LV.tl (v : LV) : Int32 := v.2.2.2.2.2.2.2.2.2.2.2.2.1
abbrev LV.tu (v : LV) : Int32 := v.2.2.2.2.2.2.2.2.2.2.2.2.2.1
abbrev LV.mn (v : LV) : Nat → Int32 := v.2.2.2.2.2.2.2.2.2.2.2.2.2.2.1
abbrev LV.er (v : LV) : Nat → Int32 := v.2.2.2.2.2.2.2.2.2.2.2.2.2.2.2.1
abbrev LV.fe (v : LV) : Nat → Int32 := v.2.2.2.2.2.2.2.2.2.2.2.2.2.2.2.2.1
abbrev LV.ms (v : LV) : Nat → Int32 := v.2.2.2.2.2.2.2.2.2.2.2.2.2.2.2.2.2.1
abbrev LV.pa (v : LV) : Nat → Int32 := v.2.2.2.2.2.2.2.2.2.2.2.2.2.2.2.2.2.2.1
abbrev LV.lo (v : LV) : Nat → Int32 := v.2.2.2.2.2.2.2.2.2.2.2.2.2.2.2.2.2.2.2.1
abbrev LV.ww (v : LV) : Nat → Int32 := v.2.2.2.2.2.2.2.2.2.2.2.2.2.2.2.2.2.2.2.2.1
abbrev LV.wl (v : LV) : Nat → Int32 := v.2.2.2.2.2.2.2.2.2.2.2.2.2.2.2.2.2.2.2.2.2.1
abbrev LV.wu (v : LV) : Nat → Int32 := v.2.2.2.2.2.2.2.2.2.2.2.2.2.2.2.2.2.2.2.2.2.2.1
abbrev LV.aw (v : LV) : Nat → Int32 := v.2.2.2.2.2.2.2.2.2.2.2.2.2.2.2.2.2.2.2.2.2.2.2.1
abbrev LV.af (v : LV) : Nat → Int32 := v.2.2.2.2.2.2.2.2.2.2.2.2.2.2.2.2.2.2.2.2.2.2.2.2.1
abbrev LV.tw (v : LV) : Nat → Int32 := v.2.2.2.2.2.2.2.2.2.2.2.2.2.2.2.2.2.2.2.2.2.2.2.2.2.1
abbrev LV.cs (v : LV) : Nat → Int32 := v.2.2.2.2.2.2.2.2.2.2.2.2.2.2.2.2.2.2.2.2.2.2.2.2.2.2.1
abbrev LV.osw (v : LV) : Nat → Int32 := v.2.2.2.2.2.2.2.2.2.2.2.2.2.2.2.2.2.2.2.2.2.2.2.2.2.2.2.1
abbrev LV.tv (v : LV) : Nat → Int32 := v.2.2.2.2.2.2.2.2.2.2.2.2.2.2.2.2.2.2.2.2.2.2.2.2.2.2.2.2.1
abbrev LV.rr (v : LV) : Nat → Int32 := v.2.2.2.2.2.2.2.2.2.2.2.2.2.2.2.2.2.2.2.2.2.2.2.2.2.2.2.2.2.1
abbrev LV.ll (v : LV) : Nat → Int32 := v.2.2.2.2.2.2.2.2.2.2.2.2.2.2.2.2.2.2.2.2.2.2.2.2.2.2.2.2.2.2.1
abbrev LV.bk (v : LV) : Nat → Int32 := v.2.2.2.2.2.2.2.2.2.2.2.2.2.2.2.2.2.2.2.2.2.2.2.2.2.2.2.2.2.2.2.1
abbrev LV.np (v : LV) : Nat := v.2.2.2.2.2.2.2.2.2.2.2.2.2.2.2.2.2.2.2.2.2.2.2.2.2.2.2.2.2.2.2.2.1
abbrev LV.tn (v : LV) : Nat := v.2.2.2.2.2.2.2.2.2.2.2.2.2.2.2.2.2.2.2.2.2.2.2.2.2.2.2.2.2.2.2.2.2.1
abbrev LV.bs (v : LV) : List Blk := v.2.2.2.2.2.2.2.2.2.2.2.2.2.2.2.2.2.2.2.2.2.2.2.2.2.2.2.2.2.2.2.2.2.2.1
abbrev LV.sn (v : LV) : List Blk := v.2.2.2.2.2.2.2.2.2.2.2.2.2.2.2.2.2.2.2.2.2.2.2.2.2.2.2.2.2.2.2.2.2.2.2
/-- what both chains stand for: a row of the plain model's numbers, without its text -/
abbrev MT : Type := Int32 × Int32 × Int32 × Int32 × Int32 × Int32 × Int32 × Int32 × Int32 × Int32 × Int32 × Int32 × Int32 × Int32 × (Nat → Int32) × (Nat → Int32) × (Nat → Int32) × (Nat → Int32) × (Nat → Int32) × (Nat → Int32)
abbrev MT.np (v : MT) : Int32 := v.1
abbrev MT.ik (v : MT) : Int32 := v.2.1
abbrev MT.th (v : MT) : Int32 := v.2.2.1
abbrev MT.sz (v : MT) : Int32 := v.2.2.2.1
abbrev MT.mi (v : MT) : Int32 := v.2.2.2.2.1
abbrev MT.pd (v : MT) : Int32 := v.2.2.2.2.2.1
abbrev MT.ls (v : MT) : Int32 := v.2.2.2.2.2.2.1
abbrev MT.spt (v : MT) : Int32 := v.2.2.2.2.2.2.2.1
abbrev MT.wrg (v : MT) : Int32 := v.2.2.2.2.2.2.2.2.1
abbrev MT.le (v : MT) : Int32 := v.2.2.2.2.2.2.2.2.2.1
abbrev MT.fi (v : MT) : Int32 := v.2.2.2.2.2.2.2.2.2.2.1
abbrev MT.se (v : MT) : Int32 := v.2.2.2.2.2.2.2.2.2.2.2.1
abbrev MT.thd (v : MT) : Int32 := v.2.2.2.2.2.2.2.2.2.2.2.2.1
abbrev MT.ma (v : MT) : Int32 := v.2.2.2.2.2.2.2.2.2.2.2.2.2.1
abbrev MT.s (v : MT) : Nat → Int32 := v.2.2.2.2.2.2.2.2.2.2.2.2.2.2.1
abbrev MT.past (v : MT) : Nat → Int32 := v.2.2.2.2.2.2.2.2.2.2.2.2.2.2.2.1
abbrev MT.snap (v : MT) : Nat → Int32 := v.2.2.2.2.2.2.2.2.2.2.2.2.2.2.2.2.1
abbrev MT.line (v : MT) : Nat → Int32 := v.2.2.2.2.2.2.2.2.2.2.2.2.2.2.2.2.2.1
abbrev MT.back (v : MT) : Nat → Int32 := v.2.2.2.2.2.2.2.2.2.2.2.2.2.2.2.2.2.2.1
abbrev MT.wm (v : MT) : Nat → Int32 := v.2.2.2.2.2.2.2.2.2.2.2.2.2.2.2.2.2.2.2
/-- the chain's state as a block -/
def LV.now (v : LV) (al : Nat → Nat) : Blk := nowB (al 0) (al 1) (al 2) (al 3) (al 4) (al 5) (al 6) (al 7) (al 8) (al 9) (al 10) (al 11) (al 12) (al 13) (al 14) (al 15) v.went v.sp v.sr v.mn v.er v.fe v.ms v.pa v.lo v.wz v.ww v.wl v.wu v.az v.aw v.af v.tw
/-- the cells of a chain, in an order of ours -/
abbrev EW (cI cS : ClassId) (ad : Nat) (al : Nat → Nat) (v : LV) : va_W :=
  [(ad, .inr (8, [.ref (al 0), .ref (al 16), .ref (al 18), .ref (al 22), .ref (al 24), snV v.sn])),
   (al 0, .inr (5, [.ref (al 1), .ref (al 8), .ref (al 12), .ref (al 15), .int v.went, .int v.sp, .int v.sr])),
   (al 1, .inr (2, [.ref (al 2), .ref (al 3), .ref (al 4), .ref (al 5), .ref (al 6), .ref (al 7)])),
   (al 2, .inl (cI, 180, .inl v.mn)), (al 3, .inl (cI, 6, .inl v.er)), (al 4, .inl (cI, 6, .inl v.fe)), (al 5, .inl (cI, 6, .inl v.ms)), (al 6, .inl (cI, 6, .inl v.pa)), (al 7, .inl (cI, 6, .inl v.lo)),
   (al 8, .inr (7, [.ref (al 9), .ref (al 10), .ref (al 11), .int v.wz])), (al 9, .inl (cI, 96, .inl v.ww)), (al 10, .inl (cI, 8, .inl v.wl)), (al 11, .inl (cI, 8, .inl v.wu)),
   (al 12, .inr (0, [.ref (al 13), .ref (al 14), .int v.az])), (al 13, .inl (cI, 72, .inl v.aw)), (al 14, .inl (cI, 36, .inl v.af)), (al 15, .inl (cI, 30, .inl v.tw)),
   (al 16, .inr (1, [.ref (al 17), .int (nI v.np)])), (al 17, .inl (cS, 6, .inr (.inr (.inr (.inr (svOf v.bs)))))),
   (al 18, .inr (3, [.ref (al 19), .int (nI v.tn), .int v.po, .int v.kd, .int v.li, .int v.wo, .int v.va, .ref (al 20)])), (al 19, .inl (cI, 60, .inl v.cs)), (al 20, .inr (4, [.ref (al 21), .int v.osl, .int v.osu])), (al 21, .inl (cI, 12, .inl v.osw)),
   (al 22, .inr (4, [.ref (al 23), .int v.tl, .int v.tu])), (al 23, .inl (cI, 12, .inl v.tv)),
   (al 24, .inr (6, [.ref (al 25), .ref (al 26), .ref (al 27)])), (al 25, .inl (cI, 84, .inl v.rr)), (al 26, .inl (cI, 7, .inl v.ll)), (al 27, .inl (cI, 12, .inl v.bk))]
theorem range_get {α : Type} : ∀ (E : List α), (List.range E.length).filterMap (fun i => E[i]?) = E := by
  intro E
  induction E with
  | nil => rfl
  | cons a E ih =>
    rw [List.length_cons, List.range_succ_eq_map, List.filterMap_cons]
    show a :: List.filterMap (fun i => (a :: E)[i]?) (List.map Nat.succ (List.range E.length)) = a :: E
    rw [List.filterMap_map]
    exact congrArg (a :: ·) ih
theorem pl_0 {E wc : va_W} (isC isR : List Nat) {N : Nat} (hN : E.length = N) (hp : (isC ++ isR).Perm (List.range N)) (hC : isC.filterMap (fun i => E[i]?) = wc) : E.Perm (wc ++ isR.filterMap (fun i => E[i]?)) := by
  have h := hp.symm.filterMap (fun i => E[i]?)
  rw [← hN, range_get, List.filterMap_append, hC] at h
  exact h
theorem pl_in {E wc : va_W} (T : va_W) (isC isR : List Nat) {N : Nat} (hN : E.length = N) (hp : (isC ++ isR).Perm (List.range N)) (hC : isC.filterMap (fun i => E[i]?) = wc) : (E ++ T).Perm (wc ++ (isR.filterMap (fun i => E[i]?) ++ T)) := by
  rw [← List.append_assoc]
  exact (pl_0 isC isR hN hp hC).append_right T
theorem pl_out {E E' w1 : va_W} (T : va_W) (isC isR : List Nat) {N : Nat} (hN : E'.length = N) (hp : (isC ++ isR).Perm (List.range N)) (hC : isC.filterMap (fun i => E'[i]?) = w1) (hR : isR.filterMap (fun i => E[i]?) = isR.filterMap (fun i => E'[i]?)) : (w1 ++ (isR.filterMap (fun i => E[i]?) ++ T)).Perm (E' ++ T) := by
  rw [hR]
  exact (pl_in T isC isR hN hp hC).symm
/-- with the blocks of the history, or of the snapshot, behind the cells -/
theorem pl_inB {E wc : va_W} (B T : va_W) (isC isR : List Nat) {N : Nat} (hN : E.length = N) (hp : (isC ++ isR).Perm (List.range N)) (hC : isC.filterMap (fun i => E[i]?) = wc) : (E ++ (B ++ T)).Perm ((wc ++ B) ++ (isR.filterMap (fun i => E[i]?) ++ T)) := by
  refine (pl_in (B ++ T) isC isR hN hp hC).trans ?_
  rw [List.append_assoc]
  refine List.Perm.append_left wc ?_
  rw [← List.append_assoc, ← List.append_assoc]
  exact List.perm_append_comm.append_right T
theorem pl_outB {E E' w1 : va_W} (B T : va_W) (isC isR : List Nat) {N : Nat} (hN : E'.length = N) (hp : (isC ++ isR).Perm (List.range N)) (hC : isC.filterMap (fun i => E'[i]?) = w1) (hR : isR.filterMap (fun i => E[i]?) = isR.filterMap (fun i => E'[i]?)) : ((w1 ++ B) ++ (isR.filterMap (fun i => E[i]?) ++ T)).Perm (E' ++ (B ++ T)) := by
  rw [hR]
  exact (pl_inB B T isC isR hN hp hC).symm
theorem pl_inS {E wc : va_W} (B T : va_W) (isC isR : List Nat) {N : Nat} (hN : E.length = N) (hp : (isC ++ isR).Perm (List.range N)) (hC : isC.filterMap (fun i => E[i]?) = wc) : (E ++ (B ++ T)).Perm ((wc ++ T) ++ (isR.filterMap (fun i => E[i]?) ++ B)) :=
  (List.Perm.append_left E List.perm_append_comm).trans (pl_inB T B isC isR hN hp hC)
theorem pl_outS {E E' w1 : va_W} (B T : va_W) (isC isR : List Nat) {N : Nat} (hN : E'.length = N) (hp : (isC ++ isR).Perm (List.range N)) (hC : isC.filterMap (fun i => E'[i]?) = w1) (hR : isR.filterMap (fun i => E[i]?) = isR.filterMap (fun i => E'[i]?)) : ((w1 ++ T) ++ (isR.filterMap (fun i => E[i]?) ++ B)).Perm (E' ++ (B ++ T)) := by
  rw [hR]
  exact (pl_inS B T isC isR hN hp hC).symm
/-- the buffer's codes as a row -/
def txB (B : List Nat) : Nat → Int32 := fun i => nI (B.getD i 0)
/-- what is kept -/
def SNR (v : LV) (M : MT) (K : Nat) : Prop := (v.sn = [] ∧ M.ik = nI 0) ∨ ∃ b n P, v.sn = [b] ∧ M.ik = nI 1 ∧ CV M.snap n K P b.2
/-- a chain with the buffer B stands for M -/
def LR (v : LV) (B : List Nat) (M : MT) (nw K : Nat) (P : List Nat) : Prop := (v.tn = B.length ∧ BR B.length v.cs (txB B)) ∧ CR M.s nw K P v.went v.sp v.sr v.mn v.er v.fe v.ms v.pa v.lo v.wz v.ww v.wl v.wu v.az v.aw v.af v.tw ∧ HR v.bs v.np K M.past ∧ SNR v M K ∧ M.np = nI v.np
def JP (cI cS : ClassId) (ad : Nat) (al : Nat → Nat) (B : List Nat) (M : MT) (nw K : Nat) (P : List Nat) (ws : va_W) : Prop := ∃ v : LV, ws.Perm (EW cI cS ad al v ++ (tlW cI v.bs ++ tlW cI v.sn)) ∧ LR v B M nw K P
def JJ (cI cS : ClassId) (ad : Nat) (al : Nat → Nat) (B : List Nat) (M : MT) (K : Nat) (ws : va_W) : Prop := ∃ nw P, JP cI cS ad al B M nw K P ws

-- the calls of the law, as steps of what both chains stand for
def fL_teach (p1 : Int32) (p2 : Int32) (p3 : Int32) (M : MT) : Option (Int32 × MT) := (fX9_teach p1 p2 p3 M.np M.th M.s M.past).bind fun r => if r.2.2.1 = nI 0 then some (r.1, ((r.2.1, M.ik, r.2.2.1, M.sz, M.mi, M.pd, M.ls, M.spt, M.wrg, M.le, M.fi, M.se, M.thd, M.ma, r.2.2.2.1, r.2.2.2.2, M.snap, M.line, M.back, M.wm) : MT)) else some (if r.2.2.1 = nI 1 then (-3) else (-2), M)
def fL_ear (p1 : Int32) (p2 : Int32) (M : MT) : Option (Int32 × MT) := (fX9_ear p1 p2 M.np M.th M.s M.past).bind fun r => if r.2.2.1 = nI 0 then some (r.1, ((r.2.1, M.ik, r.2.2.1, M.sz, M.mi, M.pd, M.ls, M.spt, M.wrg, M.le, M.fi, M.se, M.thd, M.ma, r.2.2.2.1, r.2.2.2.2, M.snap, M.line, M.back, M.wm) : MT)) else some (if r.2.2.1 = nI 1 then (-3) else (-2), M)
def fL_fee (p1 : Int32) (p2 : Int32) (M : MT) : Option (Int32 × MT) := (fX9_fee p1 p2 M.np M.th M.s M.past).bind fun r => if r.2.2.1 = nI 0 then some (r.1, ((r.2.1, M.ik, r.2.2.1, M.sz, M.mi, M.pd, M.ls, M.spt, M.wrg, M.le, M.fi, M.se, M.thd, M.ma, r.2.2.2.1, r.2.2.2.2, M.snap, M.line, M.back, M.wm) : MT)) else some (if r.2.2.1 = nI 1 then (-3) else (-2), M)
def fL_go (M : MT) : Option (Int32 × MT) := (fX9_go M.np M.th M.sz M.mi M.pd M.ls M.s M.past M.line M.back).bind fun r => if r.2.2.1 = nI 0 then some (r.1, ((r.2.1, M.ik, r.2.2.1, r.2.2.2.1, r.2.2.2.2.1, r.2.2.2.2.2.1, r.2.2.2.2.2.2.1, M.spt, M.wrg, M.le, M.fi, M.se, M.thd, M.ma, r.2.2.2.2.2.2.2.1, r.2.2.2.2.2.2.2.2.1, M.snap, r.2.2.2.2.2.2.2.2.2.1, r.2.2.2.2.2.2.2.2.2.2, M.wm) : MT)) else some ((-2), M)
def fL_undo (M : MT) : Option (Int32 × MT) := (fX9_undo M.np M.th M.s M.past).bind fun r => if r.2.2.1 = nI 0 then some (r.1, ((r.2.1, M.ik, r.2.2.1, M.sz, M.mi, M.pd, M.ls, M.spt, M.wrg, M.le, M.fi, M.se, M.thd, M.ma, r.2.2.2, M.past, M.snap, M.line, M.back, M.wm) : MT)) else some ((-2), M)
def fL_keep (M : MT) : Option (Int32 × MT) := (fX9_keep M.ik M.th M.s M.snap).bind fun r => some (r.1, ((M.np, r.2.1, r.2.2.1, M.sz, M.mi, M.pd, M.ls, M.spt, M.wrg, M.le, M.fi, M.se, M.thd, M.ma, M.s, M.past, r.2.2.2, M.line, M.back, M.wm) : MT))
def fL_restore (M : MT) : Option (Int32 × MT) := (fX9_restore M.np M.ik M.th M.s M.past M.snap).bind fun r => if r.2.2.1 = nI 0 then some (r.1, ((r.2.1, M.ik, r.2.2.1, M.sz, M.mi, M.pd, M.ls, M.spt, M.wrg, M.le, M.fi, M.se, M.thd, M.ma, r.2.2.2.1, r.2.2.2.2, M.snap, M.line, M.back, M.wm) : MT)) else some ((-2), M)
def fL_obey (B : List Nat) (M : MT) : Option (Int32 × List Nat × MT) := (fX9_obey M.np (nI B.length) M.th M.sz M.mi M.pd M.ls M.spt M.wrg M.le M.fi M.se M.thd M.ma M.s M.past (txB B) M.line M.back M.wm).bind fun r => if r.2.2.2.1 = nI 0 then some (r.1, [], ((r.2.1, M.ik, r.2.2.2.1, r.2.2.2.2.1, r.2.2.2.2.2.1, r.2.2.2.2.2.2.1, r.2.2.2.2.2.2.2.1, r.2.2.2.2.2.2.2.2.1, r.2.2.2.2.2.2.2.2.2.1, r.2.2.2.2.2.2.2.2.2.2.1, r.2.2.2.2.2.2.2.2.2.2.2.1, r.2.2.2.2.2.2.2.2.2.2.2.2.1, r.2.2.2.2.2.2.2.2.2.2.2.2.2.1, r.2.2.2.2.2.2.2.2.2.2.2.2.2.2.1, r.2.2.2.2.2.2.2.2.2.2.2.2.2.2.2.1, r.2.2.2.2.2.2.2.2.2.2.2.2.2.2.2.2.1, M.snap, r.2.2.2.2.2.2.2.2.2.2.2.2.2.2.2.2.2.1, r.2.2.2.2.2.2.2.2.2.2.2.2.2.2.2.2.2.2.1, r.2.2.2.2.2.2.2.2.2.2.2.2.2.2.2.2.2.2.2) : MT)) else some ((-2), B, M)
def fL_digest (M : MT) : Option Int64 := (fX9_digest M.np (nI 0) M.th M.sz M.mi M.pd M.ls M.s (txB []) M.line).bind fun r => some r.1
/-- what the looks answer, by the row that both chains stand for -/
def vWait (s : Nat → Int32) (P : List Nat) (p k : Nat) : Int32 := match P[p]? with
  | some a => s (192 + 14 * a + k)
  | none => mI
def arrN (s : Nat → Int32) (b : Nat) : List Nat := (List.range (s (306 + 17 * b)).toNatClampNeg).map (fun k => (s (306 + 17 * b + 1 + k)).toNatClampNeg)
theorem arrN_eq {s : Nat → Int32} {b : Nat} {L : List Nat} (h12 : L.length ≤ 12) (h : s (306 + 17 * b) = nI L.length) (hr : isR s (306 + 17 * b + 1) L) (hb : bd L) : arrN s b = L := by
  unfold arrN
  rw [h, z_cl (by omega)]
  refine List.ext_getElem (by rw [List.length_map, List.length_range]) (fun i h1 h2 => ?_)
  rw [List.getElem_map, List.getElem_range, isR_at hr i h2, List.getD_eq_getElem?_getD, List.getElem?_eq_getElem h2]
  have := hb _ (List.getElem_mem h2)
  exact z_cl (show L[i] < 2147483648 by omega)
def vArrv (s : Nat → Int32) (b k : Nat) : Int32 := if b < (s 408).toNatClampNeg then vArr s (arrN s b) b k else mI
def vTold (s : Nat → Int32) (b i : Nat) : Int32 := if b < (s 408).toNatClampNeg then chT (arrN s b) i else mI
def vLost (s : Nat → Int32) (a k : Nat) : Int32 := if k = 0 then nI a else s (428 + a)
def vIf (s : Nat → Int32) (P : List Nat) (i k : Nat) : Int32 := match P[0]? with
  | some a => vGone s a i k
  | none => mI

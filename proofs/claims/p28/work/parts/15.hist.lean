-- saved states: a State with what it holds is a block; blocks in any number
abbrev Blk := (Nat → Nat) × (Nat → Nat → Int32)
/-- values by slots: 0 went, 1 stopPart, 2 stopReason, 3 meanings, 4 ears, 5 fees, 6 missed, 7 paid, 8 losses, 9 how many wait, 10 their words, 11 lengths, 12 urgencies, 13 how many arrivals, 14 their words, 15 facts, 16 lostTimes -/
abbrev stW (cI : ClassId) (b : Blk) : va_W := [(b.1 0, .inr (5, [.ref (b.1 1), .ref (b.1 8), .ref (b.1 12), .ref (b.1 15), .int (b.2 0 0), .int (b.2 1 0), .int (b.2 2 0)])), (b.1 1, .inr (2, [.ref (b.1 2), .ref (b.1 3), .ref (b.1 4), .ref (b.1 5), .ref (b.1 6), .ref (b.1 7)])), (b.1 2, .inl (cI, 180, .inl (b.2 3))), (b.1 3, .inl (cI, 6, .inl (b.2 4))), (b.1 4, .inl (cI, 6, .inl (b.2 5))), (b.1 5, .inl (cI, 6, .inl (b.2 6))), (b.1 6, .inl (cI, 6, .inl (b.2 7))), (b.1 7, .inl (cI, 6, .inl (b.2 8))), (b.1 8, .inr (7, [.ref (b.1 9), .ref (b.1 10), .ref (b.1 11), .int (b.2 9 0)])), (b.1 9, .inl (cI, 96, .inl (b.2 10))), (b.1 10, .inl (cI, 8, .inl (b.2 11))), (b.1 11, .inl (cI, 8, .inl (b.2 12))), (b.1 12, .inr (0, [.ref (b.1 13), .ref (b.1 14), .int (b.2 13 0)])), (b.1 13, .inl (cI, 72, .inl (b.2 14))), (b.1 14, .inl (cI, 36, .inl (b.2 15))), (b.1 15, .inl (cI, 30, .inl (b.2 16)))]
def tlW (cI : ClassId) (bs : List Blk) : va_W := bs.flatMap (fun b => stW cI b)
def svOf (bs : List Blk) : Nat → Option Nat := fun k => (bs[k]?).map (fun b => b.1 0)
abbrev hsW (cS : ClassId) (ah as : Nat) (n : Int32) (bs : List Blk) : va_W := [(ah, .inr (1, [.ref as, .int n])), (as, .inl (cS, 6, .inr (.inr (.inr (.inr (svOf bs))))))]
/-- v copied over w -/
def cpV (v w : Nat → Nat → Int32) : Nat → Nat → Int32 := fun k => match k with
  | 3 => va_cpy (v 3) (w 3) (0 : Int32).toNatClampNeg (0 : Int32).toNatClampNeg (180 : Int32).toNatClampNeg
  | 4 => va_cpy (v 4) (w 4) (0 : Int32).toNatClampNeg (0 : Int32).toNatClampNeg (6 : Int32).toNatClampNeg
  | 5 => va_cpy (v 5) (w 5) (0 : Int32).toNatClampNeg (0 : Int32).toNatClampNeg (6 : Int32).toNatClampNeg
  | 6 => va_cpy (v 6) (w 6) (0 : Int32).toNatClampNeg (0 : Int32).toNatClampNeg (6 : Int32).toNatClampNeg
  | 7 => va_cpy (v 7) (w 7) (0 : Int32).toNatClampNeg (0 : Int32).toNatClampNeg (6 : Int32).toNatClampNeg
  | 8 => va_cpy (v 8) (w 8) (0 : Int32).toNatClampNeg (0 : Int32).toNatClampNeg (6 : Int32).toNatClampNeg
  | 10 => va_cpy (v 10) (w 10) (0 : Int32).toNatClampNeg (0 : Int32).toNatClampNeg (96 : Int32).toNatClampNeg
  | 11 => va_cpy (v 11) (w 11) (0 : Int32).toNatClampNeg (0 : Int32).toNatClampNeg (8 : Int32).toNatClampNeg
  | 12 => va_cpy (v 12) (w 12) (0 : Int32).toNatClampNeg (0 : Int32).toNatClampNeg (8 : Int32).toNatClampNeg
  | 14 => va_cpy (v 14) (w 14) (0 : Int32).toNatClampNeg (0 : Int32).toNatClampNeg (72 : Int32).toNatClampNeg
  | 15 => va_cpy (v 15) (w 15) (0 : Int32).toNatClampNeg (0 : Int32).toNatClampNeg (36 : Int32).toNatClampNeg
  | 16 => va_cpy (v 16) (w 16) (0 : Int32).toNatClampNeg (0 : Int32).toNatClampNeg (30 : Int32).toNatClampNeg
  | k => v k
theorem va_P.perm {G : va_G} {cl : List vw_C} {ws ws' : va_W} {H : Heap} (h : va_P G cl ws H) (p : ws.Perm ws') : va_P G cl ws' H := fun k q hk => by
  obtain ⟨i, hi⟩ := List.getElem?_of_mem (p.mem_iff.mpr (List.mem_of_getElem? hk))
  exact h i q hi
theorem va_D.nodup {A : Nat → Prop} {ws : va_W} (h : va_D A ws) : (ws.map Prod.fst).Nodup := by
  rw [List.nodup_iff_pairwise_ne] at *
  rw [List.pairwise_iff_getElem]
  intro i j hi hj hij e
  rw [List.length_map] at hi hj
  rw [List.getElem_map, List.getElem_map] at e
  have := h.1 i j ws[i] ws[j] (List.getElem?_eq_getElem hi) (List.getElem?_eq_getElem hj) e
  omega
theorem va_D.of_nodup {A : Nat → Prop} {ws : va_W} (h : (ws.map Prod.fst).Nodup) (hA : ∀ q ∈ ws, A q.1) : va_D A ws := by
  refine ⟨fun i j p q hi hj e => ?_, fun k q hk => hA q (List.mem_of_getElem? hk)⟩
  have h1 : (ws.map Prod.fst)[i]? = some p.1 := by rw [List.getElem?_map, hi]; rfl
  have h2 : (ws.map Prod.fst)[j]? = some q.1 := by rw [List.getElem?_map, hj]; rfl
  have hli := (List.getElem?_eq_some_iff.mp h1).1
  exact (List.getElem?_inj hli h).mp (by rw [h1, h2, e])
theorem va_D.perm {A : Nat → Prop} {ws ws' : va_W} (h : va_D A ws) (p : ws.Perm ws') : va_D A ws' := by
  refine va_D.of_nodup ((p.map Prod.fst).nodup_iff.mp h.nodup) (fun q hq => ?_)
  obtain ⟨i, hi⟩ := List.getElem?_of_mem (p.mem_iff.mpr hq)
  exact h.2 i q hi
theorem va_P.left {G : va_G} {cl : List vw_C} {w1 w2 : va_W} {H : Heap} (h : va_P G cl (w1 ++ w2) H) : va_P G cl w1 H := fun k q hk => h k q (by rw [List.getElem?_append_left (List.getElem?_eq_some_iff.mp hk).1]; exact hk)
theorem va_P.right {G : va_G} {cl : List vw_C} {w1 w2 : va_W} {H : Heap} (h : va_P G cl (w1 ++ w2) H) : va_P G cl w2 H := fun k q hk => h (w1.length + k) q (by rw [List.getElem?_append_right (Nat.le_add_right _ _), Nat.add_sub_cancel_left]; exact hk)
theorem va_D.left {A : Nat → Prop} {w1 w2 : va_W} (h : va_D A (w1 ++ w2)) : va_D A w1 := by
  refine va_D.of_nodup ?_ (fun q hq => ?_)
  · have := h.nodup
    rw [List.map_append] at this
    exact (List.nodup_append.mp this).1
  · obtain ⟨i, hi⟩ := List.getElem?_of_mem (List.mem_append_left w2 hq)
    exact h.2 i q hi
theorem va_D.right {A : Nat → Prop} {w1 w2 : va_W} (h : va_D A (w1 ++ w2)) : va_D A w2 := (h.perm List.perm_append_comm).left
/-- behind a call whose cells stand ahead of the others -/
theorem mPutA {G : va_G} {A : Nat → Prop} {wc wr w1 : va_W} {H H1 : Heap} (hP : va_P G vwCl (wc ++ wr) H) (hD : va_D A (wc ++ wr)) (hF : ∀ q, va_A wc H.size q → A q)
    (hk : ∀ q : Nat, q < H.size → ¬ va_A wc H.size q → H1[q]? = H[q]?) (hP1 : va_P G vwCl w1 H1) (hD1 : va_D (va_A wc H.size) w1) : va_P G vwCl (w1 ++ wr) H1 ∧ va_D A (w1 ++ wr) := by
  have apart : ∀ (k : Nat) (q : Nat × va_E), wr[k]? = some q → q.1 < H.size ∧ ¬ va_A wc H.size q.1 := by
    intro k q hq
    have hq2 : (wc ++ wr)[wc.length + k]? = some q := by rw [List.getElem?_append_right (Nat.le_add_right _ _), Nat.add_sub_cancel_left]; exact hq
    have hl := (hP _ q hq2).lt
    refine ⟨hl, fun h => ?_⟩
    rcases h with ⟨k2, e, h⟩ | h
    · have hlk := (List.getElem?_eq_some_iff.mp h).1
      have := hD.1 _ _ q (q.1, e) hq2 (by rw [List.getElem?_append_left hlk]; exact h) rfl
      omega
    · omega
  refine ⟨va_P.app hP1 (fun k q hq => ?_), va_D.app (hD1.weaken (fun k q _ h => hF q.1 h)) hD.right (fun i j x y hx hy hxy => ?_)⟩
  · obtain ⟨g1, g2⟩ := apart k q hq
    exact (hP.right k q hq).kept (hk q.1 g1 g2)
  · exact (apart j y hy).2 (by rw [← hxy]; exact hD1.2 i x hx)
theorem mFreeA {G : va_G} {A : Nat → Prop} {wc wr : va_W} {s : State} {H : Heap} {locs : List Loc} (hD : va_D A (wc ++ wr)) (hS : va_S A s.heap H locs) (hA : ∀ q : Nat, s.heap.size ≤ q → A q) : ∀ q, va_A wc H.size q → A q := by
  intro q h
  rcases h with ⟨k, e, h⟩ | h
  · exact hD.left.2 k (q, e) h
  · exact hA q (Nat.le_trans hS.1 h)
section MP
variable {p : Program} {l : Launch} {e : Env} {R : Room} {s : State} {m : MethodId} {args : Array Value} {below : List Frame} {meth : Method} {c : Code} {H : Heap} {locs : List Loc} {cells slots : Nat} {Q : State → Prop}
variable {cc : ByteArray} {pc : Nat} {ls : Array Slot} {rest st0 : List Value} {G : va_G} {A : Nat → Prop} {tys tyc : List (ClassId × FieldType)} {ws wc wr : va_W} {mc ms : Nat} {S : Type}
variable {y : MethodName} {bytes : ByteArray} {maxL nL n index : Nat} {ret : Option FieldType} {wy : List Cond} {rm : Room} {Ts : List Cond} {own C : String} {b : Nat} {As : List Value} {sa sv : Nat → Nat}

theorem mPreA {av : List Value} (hP : va_P G vwCl (wc ++ wr) H) (hD : va_D A (wc ++ wr)) (hKc : va_K G vwCl tyc s) : PreS s H (mPc G tyc av H.size wc) av :=
  ⟨mBlind, fun U hU hW => ⟨rfl, by rw [hU], by rw [hU]; exact hP.left, va_K.moved hW.alike hKc, hD.left.weaken (fun _ _ _ _ => trivial)⟩⟩
theorem mPreAX {av : List Value} (hE : EnvP sa sv A s s.heap) (hS : va_S A s.heap H locs) (hA : ∀ q : Nat, s.heap.size ≤ q → A q) (hP : va_P G vwCl (wc ++ wr) H) (hD : va_D A (wc ++ wr)) (hKc : va_K G vwCl tyc s) : PreS s H (mPcX sa sv G tyc av H.size wc) av :=
  ⟨mBlindX, fun U hU hW => ⟨rfl, by rw [hU], by rw [hU]; exact hP.left, va_K.moved hW.alike hKc, hD.left.weaken (fun _ _ _ _ => trivial), by
    rw [hU]; exact (EnvP.warm hW (hE.kept (fun q h1 h2 => hS.2.1 q h1 h2))).narrow (mFreeA (G := G) hD hS hA)⟩⟩
/-- a void call, its cells brought ahead -/
theorem mCallPV_v {post : S → Prop} {w1 : S → va_W} (CF : CallFix p m c cc nL s args Ts own) (hM : Met l y wy rm (mPc G tyc (.ref b :: As) H.size wc) (va_Qv (S := S) post (mB G tyc (va_A wc H.size) w1) (va_A wc H.size)) mc ms (va_A wc H.size)) (cw : CallW R s args own C index y bytes maxL ret wy rm mc ms n) (hP : va_P G vwCl ws H) (hD : va_D A ws) (hS : va_S A s.heap H locs) (hA : ∀ q : Nat, s.heap.size ≤ q → A q) (hKc : va_K G vwCl tyc s)
    (hp : ws.Perm (wc ++ wr)) (q0 ci : Nat) {qC : vw_C} {fs : List Value} (hcl : vwCl[ci]? = some qC) (he : wc[q0]? = some (b, .inr (ci, fs))) (hqC : qC.1 = C)
    (hlen : As.length = n) (hsize : ls.size = nL) (hstack : st0 = As.reverse ++ .ref b :: rest) (hW : 2 * (F0 m pc ls st0).monitorRoom + (rest.map fun v => v.category).sum ≤ 8) (hdg : decode cc pc = .ok (.invokevirtual index, 3)) (hroom : cells + mc ≤ R.cells ∧ slots + ms ≤ R.slots)
    (kk : ∀ (u : S) (H1 : Heap) (locs1 : List Loc), post u → va_P G vwCl (w1 u ++ wr) H1 → va_D A (w1 u ++ wr) → va_S A s.heap H1 locs1 → W p l e R s m args below meth c H1 locs1 (cells + mc) (slots + ms) Q (F0 m (pc + 3) ls rest)) : W p l e R s m args below meth c H locs cells slots Q (F0 m pc ls st0) := by
  subst hqC
  have hP := hP.perm hp
  have hD := hD.perm hp
  have hpre := mPreA (av := .ref b :: As) hP hD hKc
  refine va_callv (va_runV CF hM cw ⟨hpre.1, va_recv hKc hP.left (ci := ci) (q0 := q0) hcl he, hpre.2⟩ rfl hlen hsize hstack hW hdg hroom) hS (fun q _ h => mFreeA (G := G) hD hS hA q h) (mFreeA (G := G) hD hS hA) (fun u t H1 locs1 ht hvm hw hB hz1 hk1 hS1 => ?_)
  obtain ⟨hP1, -, hD1⟩ := hB
  rw [ht] at hP1
  obtain ⟨hP2, hD2⟩ := mPutA hP hD (mFreeA (G := G) hD hS hA) hk1 hP1 hD1
  exact kk u H1 locs1 hw hP2 hD2 hS1
theorem mCallPXV_v {post : S → Prop} {w1 : S → va_W} (hE : EnvP sa sv A s s.heap) (CF : CallFix p m c cc nL s args Ts own) (hM : Met l y wy rm (mPcX sa sv G tyc (.ref b :: As) H.size wc) (va_Qv (S := S) post (mB G tyc (va_A wc H.size) w1) (va_A wc H.size)) mc ms (va_A wc H.size)) (cw : CallW R s args own C index y bytes maxL ret wy rm mc ms n) (hP : va_P G vwCl ws H) (hD : va_D A ws) (hS : va_S A s.heap H locs) (hA : ∀ q : Nat, s.heap.size ≤ q → A q) (hKc : va_K G vwCl tyc s)
    (hp : ws.Perm (wc ++ wr)) (q0 ci : Nat) {qC : vw_C} {fs : List Value} (hcl : vwCl[ci]? = some qC) (he : wc[q0]? = some (b, .inr (ci, fs))) (hqC : qC.1 = C)
    (hlen : As.length = n) (hsize : ls.size = nL) (hstack : st0 = As.reverse ++ .ref b :: rest) (hW : 2 * (F0 m pc ls st0).monitorRoom + (rest.map fun v => v.category).sum ≤ 8) (hdg : decode cc pc = .ok (.invokevirtual index, 3)) (hroom : cells + mc ≤ R.cells ∧ slots + ms ≤ R.slots)
    (kk : ∀ (u : S) (H1 : Heap) (locs1 : List Loc), post u → va_P G vwCl (w1 u ++ wr) H1 → va_D A (w1 u ++ wr) → va_S A s.heap H1 locs1 → W p l e R s m args below meth c H1 locs1 (cells + mc) (slots + ms) Q (F0 m (pc + 3) ls rest)) : W p l e R s m args below meth c H locs cells slots Q (F0 m pc ls st0) := by
  subst hqC
  have hP := hP.perm hp
  have hD := hD.perm hp
  have hpre := mPreAX (av := .ref b :: As) hE hS hA hP hD hKc
  refine va_callv (va_runV CF hM cw ⟨hpre.1, va_recv hKc hP.left (ci := ci) (q0 := q0) hcl he, hpre.2⟩ rfl hlen hsize hstack hW hdg hroom) hS (fun q _ h => mFreeA (G := G) hD hS hA q h) (mFreeA (G := G) hD hS hA) (fun u t H1 locs1 ht hvm hw hB hz1 hk1 hS1 => ?_)
  obtain ⟨hP1, -, hD1⟩ := hB
  rw [ht] at hP1
  obtain ⟨hP2, hD2⟩ := mPutA hP hD (mFreeA (G := G) hD hS hA) hk1 hP1 hD1
  exact kk u H1 locs1 hw hP2 hD2 hS1
theorem mCallPXN_v {host : String} {post : S → Prop} {w1 : S → va_W} (hE : EnvP sa sv A s s.heap) (CF : CallFix p m c cc nL s args Ts own) (hM : Met l y wy rm (mPcX sa sv G tyc (.ref b :: As) H.size wc) (va_Qv (S := S) post (mB G tyc (va_A wc H.size) w1) (va_A wc H.size)) mc ms (va_A wc H.size)) (cw : va_CN R s args own index y host bytes maxL none wy rm mc ms n ∧ y.name = "<init>" ∧ (Cond.instanceMethod y).before args s = true) (hP : va_P G vwCl ws H) (hD : va_D A ws) (hS : va_S A s.heap H locs) (hA : ∀ q : Nat, s.heap.size ≤ q → A q) (hKc : va_K G vwCl tyc s)
    (hp : ws.Perm (wc ++ wr))
    (hlen : As.length = n) (hsize : ls.size = nL) (hstack : st0 = As.reverse ++ .ref b :: rest) (hW : 2 * (F0 m pc ls st0).monitorRoom + (rest.map fun v => v.category).sum ≤ 8) (hdg : decode cc pc = .ok (.invokespecial index, 3)) (hroom : cells + mc ≤ R.cells ∧ slots + ms ≤ R.slots)
    (kk : ∀ (u : S) (H1 : Heap) (locs1 : List Loc), post u → va_P G vwCl (w1 u ++ wr) H1 → va_D A (w1 u ++ wr) → va_S A s.heap H1 locs1 → W p l e R s m args below meth c H1 locs1 (cells + mc) (slots + ms) Q (F0 m (pc + 3) ls rest)) : W p l e R s m args below meth c H locs cells slots Q (F0 m pc ls st0) := by
  have hP := hP.perm hp
  have hD := hD.perm hp
  have hpre := mPreAX (av := .ref b :: As) hE hS hA hP hD hKc
  refine va_callv (va_runIN CF hM cw hpre rfl hlen hsize hstack hW hdg hroom) hS (fun q _ h => mFreeA (G := G) hD hS hA q h) (mFreeA (G := G) hD hS hA) (fun u t H1 locs1 ht hvm hw hB hz1 hk1 hS1 => ?_)
  obtain ⟨hP1, -, hD1⟩ := hB
  rw [ht] at hP1
  obtain ⟨hP2, hD2⟩ := mPutA hP hD (mFreeA (G := G) hD hS hA) hk1 hP1 hD1
  exact kk u H1 locs1 hw hP2 hD2 hS1
end MP
theorem mCopy (l : Launch) (G : va_G) (cI : ClassId) (sz : Nat) (b w : Blk) : Met l yX5_copyFrom wsX5_copyFrom ({ frames := 2, cells := 0, slots := 0, locals := 69 }) (mPc G [(cI, .int)] [.ref (b.1 0), .ref (w.1 0)] sz (stW cI b ++ stW cI w)) (va_Qv (S := Unit) (fun _ => True) (mB G [(cI, .int)] (va_A (stW cI b ++ stW cI w) sz) (fun _ : Unit => stW cI (b.1, cpV w.2 b.2) ++ stW cI w)) (va_A (stW cI b ++ stW cI w) sz)) 0 0 (va_A (stW cI b ++ stW cI w) sz) :=
  mX5_copyFrom l G cI (b.1 0) (b.1 1) (b.1 2) (b.1 3) (b.1 4) (b.1 5) (b.1 6) (b.1 7) (b.1 8) (b.1 9) (b.1 10) (b.1 11) (b.1 12) (b.1 13) (b.1 14) (b.1 15) (w.1 0) (w.1 1) (w.1 2) (w.1 3) (w.1 4) (w.1 5) (w.1 6) (w.1 7) (w.1 8) (w.1 9) (w.1 10) (w.1 11) (w.1 12) (w.1 13) (w.1 14) (w.1 15) sz (b.2 0 0) (b.2 1 0) (b.2 2 0) (b.2 3) (b.2 4) (b.2 5) (b.2 6) (b.2 7) (b.2 8) (b.2 9 0) (b.2 10) (b.2 11) (b.2 12) (b.2 13 0) (b.2 14) (b.2 15) (b.2 16) (w.2 0 0) (w.2 1 0) (w.2 2 0) (w.2 3) (w.2 4) (w.2 5) (w.2 6) (w.2 7) (w.2 8) (w.2 9 0) (w.2 10) (w.2 11) (w.2 12) (w.2 13 0) (w.2 14) (w.2 15) (w.2 16) _ rfl

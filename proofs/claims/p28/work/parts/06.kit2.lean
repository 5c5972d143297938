-- new cells: a callee that makes cells; constructors
theorem mArrEq {G : va_G} {cI cA : ClassId} {s : State} (h : va_K G vwCl ([(cI, .int)] ++ [(cA, .int)]) s) : cA = cI := by
  have h1 := (h.2 0 (cI, .int) rfl).2
  have h2 := (h.2 1 (cA, .int) rfl).2
  exact Option.some.inj (h2.symm.trans h1)
section MN
variable {p : Program} {l : Launch} {e : Env} {R : Room} {s : State} {m : MethodId} {args : Array Value} {below : List Frame} {meth : Method} {c : Code} {H : Heap} {locs : List Loc} {cells slots : Nat} {Q : State → Prop}
variable {cc : ByteArray} {pc : Nat} {ls : Array Slot} {rest st0 : List Value} {G : va_G} {A : Nat → Prop} {tys tyc : List (ClassId × FieldType)} {ws wc : va_W} {mc ms : Nat} {S : Type}
variable {y : MethodName} {bytes : ByteArray} {maxL nL n index : Nat} {ret : Option FieldType} {wy : List Cond} {rm : Room} {Ts : List Cond} {own C : String} {b : Nat} {As : List Value}
theorem mPutN {wa wx : va_W} {isC : List Nat} {ws1 : va_W} (isR : List Nat) (N : Nat) {H1 : Heap} (hP : va_P G vwCl ws H) (hD : va_D A ws) (hC : isC.map (fun i => ws[i]?) = wc.map some) (hfst : wa.map Prod.fst = wc.map Prod.fst) (hf1 : ws1.map Prod.fst = ws.map Prod.fst) (hC1 : isC.map (fun i => ws1[i]?) = wa.map some) (hR1 : isR.map (fun i => ws1[i]?) = isR.map (fun i => ws[i]?)) (hN : ws.length = N) (hcov : (List.range N).all (fun i => isC.contains i || isR.contains i) = true)
    (hk : ∀ q : Nat, q < H.size → ¬ va_A wc H.size q → H1[q]? = H[q]?) (hF : ∀ q, va_A wc H.size q → A q) (hP1 : va_P G vwCl (wa ++ wx) H1) (hD1 : va_D (va_A wc H.size) (wa ++ wx)) : va_P G vwCl (ws1 ++ wx) H1 ∧ va_D A (ws1 ++ wx) := by
  have hPa : va_P G vwCl wa H1 := fun k q hq => hP1 k q (by rw [List.getElem?_append_left (List.getElem?_eq_some_iff.mp hq).1]; exact hq)
  have hx : ∀ (k : Nat) (q : Nat × va_E), wx[k]? = some q → (wa ++ wx)[wa.length + k]? = some q := fun k q hq => by
    rw [List.getElem?_append_right (Nat.le_add_right _ _), Nat.add_sub_cancel_left]; exact hq
  have hPx : va_P G vwCl wx H1 := fun k q hq => hP1 (wa.length + k) q (hx k q hq)
  obtain ⟨r1, r2⟩ := mPut isR N hP hD hC hfst hf1 hC1 hR1 hN hcov hk hPa
  refine ⟨va_P.app r1 hPx, va_D.app r2 ⟨fun i j x y hi hj hxy => ?_, fun k q hq => hF q.1 (hD1.2 _ q (hx k q hq))⟩ (fun i j x y hi hj hxy => ?_)⟩
  · have := hD1.1 _ _ x y (hx i x hi) (hx j y hj) hxy
    omega
  · -- x in the old world, y new
    have hxs : ∃ x', ws[i]? = some x' ∧ x'.1 = x.1 := by
      have h1 : (ws1.map Prod.fst)[i]? = some x.1 := by rw [List.getElem?_map, hi]; rfl
      rw [hf1, List.getElem?_map] at h1
      cases hw : ws[i]? with
      | none => rw [hw] at h1; cases h1
      | some x' => rw [hw] at h1; exact ⟨x', rfl, Option.some.inj h1⟩
    obtain ⟨x', g1, g2⟩ := hxs
    have hlt := (hP i x' g1).lt
    rcases hD1.2 _ y (hx j y hj) with ⟨k, e2, h⟩ | h
    · -- the address is one of the callee's own old cells: then it stands twice in wa ++ wx
      have h1 : (wc.map Prod.fst)[k]? = some y.1 := by rw [List.getElem?_map, h]; rfl
      rw [← hfst, List.getElem?_map] at h1
      cases hw : wa[k]? with
      | none => rw [hw] at h1; cases h1
      | some z =>
        rw [hw] at h1
        have hz : z.1 = y.1 := Option.some.inj h1
        have hlk := (List.getElem?_eq_some_iff.mp hw).1
        have := hD1.1 k (wa.length + j) z y (by rw [List.getElem?_append_left hlk]; exact hw) (hx j y hj) hz
        omega
    · rw [g2, hxy] at hlt
      omega
theorem mCallI_v {wa wx : S → va_W} (CF : CallFix p m c cc nL s args Ts own) (hM : Met l y wy rm (mPc G tyc (.ref b :: As) H.size wc) (mQv G tyc (va_A wc H.size) (fun u => wa u ++ wx u)) mc ms (va_A wc H.size)) (cw : CallB R s args own index y bytes maxL none wy rm mc ms n ∧ y.name = "<init>" ∧ (Cond.instanceMethod y).before args s = true) (hP : va_P G vwCl ws H) (hD : va_D A ws) (hS : va_S A s.heap H locs) (hA : ∀ q : Nat, s.heap.size ≤ q → A q) (hKc : va_K G vwCl tyc s)
    (isC : List Nat) (hC : isC.map (fun i => ws[i]?) = wc.map some) (hn : va_nd isC = true) (adC : List Nat) (hfst : ∀ u, (wa u).map Prod.fst = adC) (hfc : wc.map Prod.fst = adC) (ws1 : S → va_W) (ad : List Nat) (hf1 : ∀ u, (ws1 u).map Prod.fst = ad) (hf0 : ws.map Prod.fst = ad) (hC1 : ∀ u, isC.map (fun i => (ws1 u)[i]?) = (wa u).map some) (isR : List Nat) (wr : va_W) (hR1 : ∀ u, isR.map (fun i => (ws1 u)[i]?) = wr.map some) (hR0 : isR.map (fun i => ws[i]?) = wr.map some) (N : Nat) (hN : ws.length = N) (hcov : (List.range N).all (fun i => isC.contains i || isR.contains i) = true)
    (hlen : As.length = n) (hsize : ls.size = nL) (hstack : st0 = As.reverse ++ .ref b :: rest) (hW : 2 * (F0 m pc ls st0).monitorRoom + (rest.map fun v => v.category).sum ≤ 8) (hdg : decode cc pc = .ok (.invokespecial index, 3)) (hroom : cells + mc ≤ R.cells ∧ slots + ms ≤ R.slots)
    (kk : ∀ (u : S) (H1 : Heap) (locs1 : List Loc), va_P G vwCl (ws1 u ++ wx u) H1 → va_D A (ws1 u ++ wx u) → va_S A s.heap H1 locs1 → W p l e R s m args below meth c H1 locs1 (cells + mc) (slots + ms) Q (F0 m (pc + 3) ls rest)) : W p l e R s m args below meth c H locs cells slots Q (F0 m pc ls st0) := by
  have hpre := mPre (av := .ref b :: As) hP hD hKc hC hn
  refine va_callv (va_runI CF hM cw hpre rfl hlen hsize hstack hW hdg hroom) hS (fun q _ h => mFree hD hS hA hC q h) (mFree hD hS hA hC) (fun u t H1 locs1 ht hvm hw hB hz1 hk1 hS1 => ?_)
  obtain ⟨hP1, -, hD1⟩ := hB
  rw [ht] at hP1
  obtain ⟨hP2, hD2⟩ := mPutN isR N hP hD hC ((hfst u).trans hfc.symm) ((hf1 u).trans hf0.symm) (hC1 u) ((hR1 u).trans hR0.symm) hN hcov hk1 (mFree hD hS hA hC) hP1 hD1
  exact kk u H1 locs1 hP2 hD2 hS1
end MN

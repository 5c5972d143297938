-- the generic head, ends and calls of a generated method proof
/-- branches, bindings and lets of the generated functions -/
theorem pf_t {α : Type} {c : Prop} {h : Decidable c} {A B r : α} (e : @ite α c h A B = r) (hc : c) : A = r := by rw [if_pos hc] at e; exact e
theorem pf_f {α : Type} {c : Prop} {h : Decidable c} {A B r : α} (e : @ite α c h A B = r) (hc : ¬ c) : B = r := by rw [if_neg hc] at e; exact e
/-- a check: where it fails there is no answer -/
theorem pf_k {α : Type} {c : Prop} {h : Decidable c} {B : Option α} {r : α} (e : @ite (Option α) c h none B = some r) : ¬ c ∧ B = some r := by
  by_cases hc : c
  · rw [if_pos hc] at e; cases e
  · rw [if_neg hc] at e; exact ⟨hc, e⟩
theorem pf_b {α β : Type} {x : Option α} {k : α → Option β} {r : β} (e : x.bind k = some r) : ∃ u, x = some u ∧ k u = some r := by
  cases x with
  | none => cases e
  | some u => exact ⟨u, rfl, e⟩
abbrev lt {α β : Type} (e : α) (k : α → β) : β := k e
theorem pf_l {α β : Type} {e : α} {k : α → β} {r : β} (h : lt e k = r) (y : α) (hy : y = e) : k y = r := by rw [hy]; exact h
theorem pf_z {v : Int32} (h : ¬ ¬ (v = 0 ∨ v = 1)) : narrow .boolean (.int v) = .int v := by
  rcases Decidable.not_not.mp h with rfl | rfl <;> rfl
theorem pf_zf {v : Int32} (h : ¬ ¬ (v = 0 ∨ v = 1)) : fits .boolean (.int v) = true := by
  rcases Decidable.not_not.mp h with rfl | rfl <;> rfl
abbrev fuelN : Nat := 1000000
theorem vp_lit {i : Int32} {n : Nat} (h : decide (i < 0 ∨ n ≤ i.toNatClampNeg) = false) : vp_in i n := of_decide_eq_false h
theorem sw_out {lo hi : Int} {x : Int32} (h : ∀ k : Nat, lo + k ≤ hi → x.toInt ≠ lo + k) : x.toInt < lo ∨ hi < x.toInt := by
  by_cases h1 : x.toInt < lo
  · exact Or.inl h1
  · by_cases h2 : hi < x.toInt
    · exact Or.inr h2
    · exact absurd (show x.toInt = lo + ((x.toInt - lo).toNat : Nat) by omega) (h (x.toInt - lo).toNat (by omega))
/-- a method's start: its world, its receiver and arguments -/
def mPc (G : va_G) (tys : List (ClassId × FieldType)) (av : List Value) (sz : Nat) (ws : va_W) : Array Value → State → Prop :=
  va_Pc av (fun U => U.heap.size = sz ∧ va_P G vwCl ws U.heap ∧ va_K G vwCl tys U ∧ va_D (fun _ => True) ws)
/-- the world behind a method -/
def mB (G : va_G) (tys : List (ClassId × FieldType)) (A : Nat → Prop) {S : Type} (w1 : S → va_W) : S → State → Prop :=
  fun u t => va_P G vwCl (w1 u) t.heap ∧ va_K G vwCl tys t ∧ va_D A (w1 u)
abbrev mQi (G : va_G) (tys : List (ClassId × FieldType)) (A : Nat → Prop) {S : Type} (r : S → Int32) (w1 : S → va_W) := va_Qi (S := S) (fun x u => x = r u) (mB G tys A w1) A
abbrev mQl (G : va_G) (tys : List (ClassId × FieldType)) (A : Nat → Prop) {S : Type} (r : S → Int64) (w1 : S → va_W) := va_Ql (S := S) (fun x u => x = r u) (mB G tys A w1) A
abbrev mQv (G : va_G) (tys : List (ClassId × FieldType)) (A : Nat → Prop) {S : Type} (w1 : S → va_W) := va_Qv (S := S) (fun _ => True) (mB G tys A w1) A
theorem mBlind {G : va_G} {tys : List (ClassId × FieldType)} {av : List Value} {sz : Nat} {ws : va_W} : FrameBlind (mPc G tys av sz ws) := fun a U g mk q => by
  obtain ⟨q0, q1, qP, qK, qD⟩ := q
  exact ⟨q0, q1, qP, va_K.moved (u := U) (U := U.calling g mk a) (Vm.Alike.refl U.vm) qK, qD⟩
theorem mStart {l : Launch} {y : MethodName} {wy ws' : List Cond} {rm : Room} {G : va_G} {tys : List (ClassId × FieldType)} {av : List Value} {sz : Nat} {ws : va_W} {Qc : Array Value → State → Outcome → State → Prop} {mc ms : Nat} {cc : ByteArray} {maxL : Nat} {ret : Option FieldType}
    (hy : plainName y.cls = true) (hw : wy = Cond.code y cc maxL ret :: ws') (hav : (lg_sl av).length ≤ maxL)
    (body : ∀ (p : Program) (e : Env) (s : State) (m : MethodId) (below : List Frame) (meth : Method) (c : Code) (A : Nat → Prop) (ls : Array Slot), p.tables.exec = Jvm.exec → c.code = cc → c.maxLocals = maxL → meth.sig.returnType = ret → (∀ w ∈ wy, w.before av.toArray s = true) → s.vm.findClass y.cls = some m.cls → meth.locks = false → meth.name = y.name → (∀ q : Nat, s.heap.size ≤ q → A q) → s.heap.size = sz → va_A ws sz = A → va_P G vwCl ws s.heap → va_K G vwCl tys s → va_D A ws → va_S A s.heap s.heap [] → lv_has ls maxL (lv_args 0 av) → W p l e rm s m av.toArray below meth c s.heap [] 0 0 (MQ below Qc av.toArray s mc ms A) (F0 m 0 ls [])) :
    Met l y wy rm (mPc G tys av sz ws) Qc mc ms (va_A ws sz) := by
  refine Met.ofW (cc := cc) (maxL := maxL) (ret := ret) hy hw ?_
  intro p e s m args below meth c s₁ B hml hv
  obtain ⟨rfl, hsz, hP, hK, hD0⟩ := hv
  have hl := lv_entry av (n := maxL) hav
  rw [lg_entry_eq]
  subst hsz
  exact body p e s m below meth c (va_A ws s.heap.size) _ B.exec B.bytes hml B.returns (atoms_spec (ws := wy) B.pre) (findClass_of_methodNamed B.named) B.notSynchronized (name_of_methodNamed B.named B.method).1 (fun q h => Or.inr h) rfl rfl hP hK hD0.self va_S.rf hl
section MK
variable {p : Program} {l : Launch} {e : Env} {R : Room} {s : State} {m : MethodId} {args : Array Value} {below : List Frame} {meth : Method} {c : Code} {H : Heap} {locs : List Loc} {cells slots : Nat} {Q : State → Prop}
variable {cc : ByteArray} {pc : Nat} {ls : Array Slot} {rest st0 : List Value} {G : va_G} {A : Nat → Prop} {tys : List (ClassId × FieldType)} {ws : va_W} {mc ms : Nat} {S : Type}
theorem mEnd_i {r : S → Int32} {w1 : S → va_W} (u : S) {v : Int32} (hx : p.tables.exec = Jvm.exec) (hb : c.code = cc) (hr : meth.sig.returnType = some .int) (hlocks : meth.locks = false) (hP : va_P G vwCl ws H) (hK : va_K G vwCl tys s) (hD : va_D A ws) (hS : va_S A s.heap H locs) (hv : v = r u) (hw : ws = w1 u) (hc : cells ≤ mc) (hs : slots ≤ ms) (hdg : decode cc pc = .ok (.ireturn, 1)) :
    W p l e R s m args below meth c H locs cells slots (MQ below (mQi G tys A r w1) args s mc ms A) (F0 m pc ls [.int v]) := by
  refine W.widen hc hs ?_
  exact W.iret hx hb hr (fun t ht hW => ⟨⟨v, u, rfl, hv, by rw [ht, ← hw]; exact hP, va_K.moved hW.alike hK, by rw [← hw]; exact hD⟩, hS.F ht⟩) hS.2.2 hdg hlocks
theorem mEnd_z {r : S → Int32} {w1 : S → va_W} (u : S) {v : Int32} {ty : FieldType} (hx : p.tables.exec = Jvm.exec) (hb : c.code = cc) (hr : meth.sig.returnType = some ty) (hn : narrow ty (.int v) = .int v) (hlocks : meth.locks = false) (hP : va_P G vwCl ws H) (hK : va_K G vwCl tys s) (hD : va_D A ws) (hS : va_S A s.heap H locs) (hv : v = r u) (hw : ws = w1 u) (hc : cells ≤ mc) (hs : slots ≤ ms) (hdg : decode cc pc = .ok (.ireturn, 1)) :
    W p l e R s m args below meth c H locs cells slots (MQ below (mQi G tys A r w1) args s mc ms A) (F0 m pc ls [.int v]) := by
  refine W.widen hc hs ?_
  exact W.zret hx hb hr hn (fun t ht hW => ⟨⟨v, u, rfl, hv, by rw [ht, ← hw]; exact hP, va_K.moved hW.alike hK, by rw [← hw]; exact hD⟩, hS.F ht⟩) hS.2.2 hdg hlocks
theorem mEnd_l {r : S → Int64} {w1 : S → va_W} (u : S) {v : Int64} (hx : p.tables.exec = Jvm.exec) (hb : c.code = cc) (hr : meth.sig.returnType = some .long) (hlocks : meth.locks = false) (hP : va_P G vwCl ws H) (hK : va_K G vwCl tys s) (hD : va_D A ws) (hS : va_S A s.heap H locs) (hv : v = r u) (hw : ws = w1 u) (hc : cells ≤ mc) (hs : slots ≤ ms) (hdg : decode cc pc = .ok (.lreturn, 1)) :
    W p l e R s m args below meth c H locs cells slots (MQ below (mQl G tys A r w1) args s mc ms A) (F0 m pc ls [.long v]) := by
  refine W.widen hc hs ?_
  exact W.lret hx hb hr (fun t ht hW => ⟨⟨v, u, rfl, hv, by rw [ht, ← hw]; exact hP, va_K.moved hW.alike hK, by rw [← hw]; exact hD⟩, hS.F ht⟩) hS.2.2 hdg hlocks
theorem mEnd_v {w1 : S → va_W} (u : S) (hx : p.tables.exec = Jvm.exec) (hb : c.code = cc) (hr : meth.sig.returnType = none) (hlocks : meth.locks = false) (hP : va_P G vwCl ws H) (hK : va_K G vwCl tys s) (hD : va_D A ws) (hS : va_S A s.heap H locs) (hw : ws = w1 u) (hc : cells ≤ mc) (hs : slots ≤ ms) (hdg : decode cc pc = .ok (.return_, 1)) :
    W p l e R s m args below meth c H locs cells slots (MQ below (mQv G tys A w1) args s mc ms A) (F0 m pc ls []) := by
  refine W.widen hc hs ?_
  exact W.vret hx hb hr (fun t ht hW => ⟨⟨u, rfl, trivial, by rw [ht, ← hw]; exact hP, va_K.moved hW.alike hK, by rw [← hw]; exact hD⟩, hS.F ht⟩) hS.2.2 hdg hlocks
theorem va_D.fst {A : Nat → Prop} {w w' : va_W} (h : va_D A w) (e : w'.map Prod.fst = w.map Prod.fst) : va_D A w' := by
  have key : ∀ (k : Nat) (q : Nat × va_E), w'[k]? = some q → ∃ q', w[k]? = some q' ∧ q'.1 = q.1 := by
    intro k q hk
    have h1 : (w'.map Prod.fst)[k]? = some q.1 := by rw [List.getElem?_map, hk]; rfl
    rw [e, List.getElem?_map] at h1
    cases hw : w[k]? with
    | none => rw [hw] at h1; cases h1
    | some q' => rw [hw] at h1; exact ⟨q', rfl, Option.some.inj h1⟩
  refine ⟨fun i j x y hi hj hxy => ?_, fun k q hk => ?_⟩
  · obtain ⟨x', h1, e1⟩ := key i x hi
    obtain ⟨y', h2, e2⟩ := key j y hj
    exact h.1 i j x' y' h1 h2 (e1.trans (hxy.trans e2.symm))
  · obtain ⟨q', h1, e1⟩ := key k q hk
    rw [← e1]
    exact h.2 k q' h1
/-- behind a call: the callee's cells (at the places isC) anew, the others (at isR) as they were -/
theorem mPut {wc w1 ws1 : va_W} {isC : List Nat} (isR : List Nat) (N : Nat) {H1 : Heap} (hP : va_P G vwCl ws H) (hD : va_D A ws) (hC : isC.map (fun i => ws[i]?) = wc.map some) (hfst : w1.map Prod.fst = wc.map Prod.fst) (hf1 : ws1.map Prod.fst = ws.map Prod.fst) (hC1 : isC.map (fun i => ws1[i]?) = w1.map some) (hR1 : isR.map (fun i => ws1[i]?) = isR.map (fun i => ws[i]?)) (hN : ws.length = N) (hcov : (List.range N).all (fun i => isC.contains i || isR.contains i) = true)
    (hk : ∀ q : Nat, q < H.size → ¬ va_A wc H.size q → H1[q]? = H[q]?) (hP1 : va_P G vwCl w1 H1) : va_P G vwCl ws1 H1 ∧ va_D A ws1 := by
  have at' : ∀ (k : Nat) (q : Nat × va_E), wc[k]? = some q → ∃ i, isC[k]? = some i ∧ ws[i]? = some q := by
    intro k q hq
    have h1 : (isC.map (fun i => ws[i]?))[k]? = some (some q) := by rw [hC, List.getElem?_map, hq]; rfl
    rw [List.getElem?_map] at h1
    cases hi : isC[k]? with
    | none => rw [hi] at h1; cases h1
    | some i => rw [hi] at h1; exact ⟨i, rfl, Option.some.inj h1⟩
  have hlen1 : ws1.length = N := by
    have := congrArg List.length hf1
    rw [List.length_map, List.length_map, hN] at this
    exact this
  refine ⟨fun j q hj => ?_, hD.fst hf1⟩
  by_cases hjC : j ∈ isC
  · obtain ⟨k, hk2⟩ := List.getElem?_of_mem hjC
    have h1 : (isC.map (fun i => ws1[i]?))[k]? = some (some q) := by rw [List.getElem?_map, hk2, ← hj]; rfl
    rw [hC1, List.getElem?_map] at h1
    cases hw : w1[k]? with
    | none => rw [hw] at h1; cases h1
    | some q' => rw [hw] at h1; cases Option.some.inj (Option.some.inj h1); exact hP1 k q hw
  · have hjN : j < N := by rw [← hlen1]; exact (List.getElem?_eq_some_iff.mp hj).1
    have hjR : j ∈ isR := by
      have h2 := List.all_eq_true.mp hcov j (List.mem_range.mpr hjN)
      simp only [Bool.or_eq_true, List.contains_iff_mem] at h2
      exact h2.resolve_left hjC
    obtain ⟨k, hk2⟩ := List.getElem?_of_mem hjR
    have h1 : (isR.map (fun i => ws1[i]?))[k]? = some (some q) := by rw [List.getElem?_map, hk2, ← hj]; rfl
    rw [hR1, List.getElem?_map, hk2] at h1
    have h2 : ws[j]? = some q := Option.some.inj h1
    have hl := (hP j q h2).lt
    refine (hP j q h2).kept (hk q.1 hl (fun h => ?_))
    rcases h with ⟨k2, e2, h⟩ | h
    · obtain ⟨i, h3, h4⟩ := at' k2 (q.1, e2) h
      have hij := hD.1 j i q (q.1, e2) h2 h4 rfl
      subst hij
      exact hjC (List.mem_of_getElem? h3)
    · omega
theorem mPub {wc : va_W} {isC : List Nat} (hC : isC.map (fun i => ws[i]?) = wc.map some) (hP : va_P G vwCl ws H) (hD : va_D A ws) (hn : va_nd isC = true) : va_P G vwCl wc H ∧ va_D A wc := by
  have hDs := hD.sub isC hn hC
  refine ⟨fun k q hq => ?_, hDs⟩
  have h1 : (isC.map (fun i => ws[i]?))[k]? = some (some q) := by rw [hC, List.getElem?_map, hq]; rfl
  rw [List.getElem?_map] at h1
  cases hi : isC[k]? with
  | none => rw [hi] at h1; cases h1
  | some i => rw [hi] at h1; exact hP i q (Option.some.inj h1)
/-- what a callee wants, given the caller's world -/
theorem mPre {wc : va_W} {isC : List Nat} {tyc : List (ClassId × FieldType)} {av : List Value} (hP : va_P G vwCl ws H) (hD : va_D A ws) (hKc : va_K G vwCl tyc s) (hC : isC.map (fun i => ws[i]?) = wc.map some) (hn : va_nd isC = true) : PreS s H (mPc G tyc av H.size wc) av :=
  ⟨mBlind, fun U hU hW => ⟨rfl, by rw [hU], by rw [hU]; exact (mPub hC hP hD hn).1, va_K.moved hW.alike hKc, (mPub hC hP hD hn).2.weaken (fun _ _ _ _ => trivial)⟩⟩
end MK
section MC
variable {p : Program} {l : Launch} {e : Env} {R : Room} {s : State} {m : MethodId} {args : Array Value} {below : List Frame} {meth : Method} {c : Code} {H : Heap} {locs : List Loc} {cells slots : Nat} {Q : State → Prop}
variable {cc : ByteArray} {pc : Nat} {ls : Array Slot} {rest st0 : List Value} {G : va_G} {A : Nat → Prop} {tys tyc : List (ClassId × FieldType)} {ws wc : va_W} {mc ms : Nat} {S : Type}
variable {y : MethodName} {bytes : ByteArray} {maxL nL n index : Nat} {ret : Option FieldType} {wy : List Cond} {rm : Room} {Ts : List Cond} {own C : String} {b : Nat} {As : List Value}
theorem mFree {isC : List Nat} (hD : va_D A ws) (hS : va_S A s.heap H locs) (hA : ∀ q : Nat, s.heap.size ≤ q → A q) (hC : isC.map (fun i => ws[i]?) = wc.map some) : ∀ q, va_A wc H.size q → A q := va_free hD hS hA isC hC
theorem mCallV_i {r : S → Int32} {w1 : S → va_W} (CF : CallFix p m c cc nL s args Ts own) (hM : Met l y wy rm (mPc G tyc (.ref b :: As) H.size wc) (mQi G tyc (va_A wc H.size) r w1) mc ms (va_A wc H.size)) (cw : CallW R s args own C index y bytes maxL ret wy rm mc ms n) (hP : va_P G vwCl ws H) (hD : va_D A ws) (hS : va_S A s.heap H locs) (hA : ∀ q : Nat, s.heap.size ≤ q → A q) (hKc : va_K G vwCl tyc s)
    (isC : List Nat) (hC : isC.map (fun i => ws[i]?) = wc.map some) (hn : va_nd isC = true) (q0 ci : Nat) {qC : vw_C} {fs : List Value} (hcl : vwCl[ci]? = some qC) (he : ws[q0]? = some (b, .inr (ci, fs))) (hqC : qC.1 = C) (hKs : va_K G vwCl tys s) (adC : List Nat) (hfst : ∀ u, (w1 u).map Prod.fst = adC) (hfc : wc.map Prod.fst = adC) (ws1 : S → va_W) (ad : List Nat) (hf1 : ∀ u, (ws1 u).map Prod.fst = ad) (hf0 : ws.map Prod.fst = ad) (hC1 : ∀ u, isC.map (fun i => (ws1 u)[i]?) = (w1 u).map some) (isR : List Nat) (wr : va_W) (hR1 : ∀ u, isR.map (fun i => (ws1 u)[i]?) = wr.map some) (hR0 : isR.map (fun i => ws[i]?) = wr.map some) (N : Nat) (hN : ws.length = N) (hcov : (List.range N).all (fun i => isC.contains i || isR.contains i) = true)
    (hlen : As.length = n) (hsize : ls.size = nL) (hstack : st0 = As.reverse ++ .ref b :: rest) (hW : 2 * (F0 m pc ls st0).monitorRoom + (rest.map fun v => v.category).sum ≤ 8) (hdg : decode cc pc = .ok (.invokevirtual index, 3)) (hroom : cells + mc ≤ R.cells ∧ slots + ms ≤ R.slots)
    (kk : ∀ (u : S) (H1 : Heap) (locs1 : List Loc), va_P G vwCl (ws1 u) H1 → va_D A (ws1 u) → va_S A s.heap H1 locs1 → W p l e R s m args below meth c H1 locs1 (cells + mc) (slots + ms) Q (F0 m (pc + 3) ls (.int (r u) :: rest))) : W p l e R s m args below meth c H locs cells slots Q (F0 m pc ls st0) := by
  subst hqC
  have hpre := mPre (av := .ref b :: As) hP hD hKc hC hn
  refine va_calli (va_runV CF hM cw ⟨hpre.1, va_recv hKs hP (ci := ci) (q0 := q0) hcl he, hpre.2⟩ rfl hlen hsize hstack hW hdg hroom) hS (fun q _ h => mFree hD hS hA hC q h) (mFree hD hS hA hC) (fun x u t H1 locs1 ht hvm hw hB hz1 hk1 hS1 => ?_)
  obtain ⟨hP1, -, -⟩ := hB
  rw [ht] at hP1
  obtain ⟨hP2, hD2⟩ := mPut isR N hP hD hC ((hfst u).trans hfc.symm) ((hf1 u).trans hf0.symm) (hC1 u) ((hR1 u).trans hR0.symm) hN hcov hk1 hP1
  rw [hw]
  exact kk u H1 locs1 hP2 hD2 hS1
theorem mCallV_l {r : S → Int64} {w1 : S → va_W} (CF : CallFix p m c cc nL s args Ts own) (hM : Met l y wy rm (mPc G tyc (.ref b :: As) H.size wc) (mQl G tyc (va_A wc H.size) r w1) mc ms (va_A wc H.size)) (cw : CallW R s args own C index y bytes maxL ret wy rm mc ms n) (hP : va_P G vwCl ws H) (hD : va_D A ws) (hS : va_S A s.heap H locs) (hA : ∀ q : Nat, s.heap.size ≤ q → A q) (hKc : va_K G vwCl tyc s)
    (isC : List Nat) (hC : isC.map (fun i => ws[i]?) = wc.map some) (hn : va_nd isC = true) (q0 ci : Nat) {qC : vw_C} {fs : List Value} (hcl : vwCl[ci]? = some qC) (he : ws[q0]? = some (b, .inr (ci, fs))) (hqC : qC.1 = C) (hKs : va_K G vwCl tys s) (adC : List Nat) (hfst : ∀ u, (w1 u).map Prod.fst = adC) (hfc : wc.map Prod.fst = adC) (ws1 : S → va_W) (ad : List Nat) (hf1 : ∀ u, (ws1 u).map Prod.fst = ad) (hf0 : ws.map Prod.fst = ad) (hC1 : ∀ u, isC.map (fun i => (ws1 u)[i]?) = (w1 u).map some) (isR : List Nat) (wr : va_W) (hR1 : ∀ u, isR.map (fun i => (ws1 u)[i]?) = wr.map some) (hR0 : isR.map (fun i => ws[i]?) = wr.map some) (N : Nat) (hN : ws.length = N) (hcov : (List.range N).all (fun i => isC.contains i || isR.contains i) = true)
    (hlen : As.length = n) (hsize : ls.size = nL) (hstack : st0 = As.reverse ++ .ref b :: rest) (hW : 2 * (F0 m pc ls st0).monitorRoom + (rest.map fun v => v.category).sum ≤ 8) (hdg : decode cc pc = .ok (.invokevirtual index, 3)) (hroom : cells + mc ≤ R.cells ∧ slots + ms ≤ R.slots)
    (kk : ∀ (u : S) (H1 : Heap) (locs1 : List Loc), va_P G vwCl (ws1 u) H1 → va_D A (ws1 u) → va_S A s.heap H1 locs1 → W p l e R s m args below meth c H1 locs1 (cells + mc) (slots + ms) Q (F0 m (pc + 3) ls (.long (r u) :: rest))) : W p l e R s m args below meth c H locs cells slots Q (F0 m pc ls st0) := by
  subst hqC
  have hpre := mPre (av := .ref b :: As) hP hD hKc hC hn
  refine va_calll (va_runV CF hM cw ⟨hpre.1, va_recv hKs hP (ci := ci) (q0 := q0) hcl he, hpre.2⟩ rfl hlen hsize hstack hW hdg hroom) hS (fun q _ h => mFree hD hS hA hC q h) (mFree hD hS hA hC) (fun x u t H1 locs1 ht hvm hw hB hz1 hk1 hS1 => ?_)
  obtain ⟨hP1, -, -⟩ := hB
  rw [ht] at hP1
  obtain ⟨hP2, hD2⟩ := mPut isR N hP hD hC ((hfst u).trans hfc.symm) ((hf1 u).trans hf0.symm) (hC1 u) ((hR1 u).trans hR0.symm) hN hcov hk1 hP1
  rw [hw]
  exact kk u H1 locs1 hP2 hD2 hS1
theorem mCallV_v {w1 : S → va_W} (CF : CallFix p m c cc nL s args Ts own) (hM : Met l y wy rm (mPc G tyc (.ref b :: As) H.size wc) (mQv G tyc (va_A wc H.size) w1) mc ms (va_A wc H.size)) (cw : CallW R s args own C index y bytes maxL ret wy rm mc ms n) (hP : va_P G vwCl ws H) (hD : va_D A ws) (hS : va_S A s.heap H locs) (hA : ∀ q : Nat, s.heap.size ≤ q → A q) (hKc : va_K G vwCl tyc s)
    (isC : List Nat) (hC : isC.map (fun i => ws[i]?) = wc.map some) (hn : va_nd isC = true) (q0 ci : Nat) {qC : vw_C} {fs : List Value} (hcl : vwCl[ci]? = some qC) (he : ws[q0]? = some (b, .inr (ci, fs))) (hqC : qC.1 = C) (hKs : va_K G vwCl tys s) (adC : List Nat) (hfst : ∀ u, (w1 u).map Prod.fst = adC) (hfc : wc.map Prod.fst = adC) (ws1 : S → va_W) (ad : List Nat) (hf1 : ∀ u, (ws1 u).map Prod.fst = ad) (hf0 : ws.map Prod.fst = ad) (hC1 : ∀ u, isC.map (fun i => (ws1 u)[i]?) = (w1 u).map some) (isR : List Nat) (wr : va_W) (hR1 : ∀ u, isR.map (fun i => (ws1 u)[i]?) = wr.map some) (hR0 : isR.map (fun i => ws[i]?) = wr.map some) (N : Nat) (hN : ws.length = N) (hcov : (List.range N).all (fun i => isC.contains i || isR.contains i) = true)
    (hlen : As.length = n) (hsize : ls.size = nL) (hstack : st0 = As.reverse ++ .ref b :: rest) (hW : 2 * (F0 m pc ls st0).monitorRoom + (rest.map fun v => v.category).sum ≤ 8) (hdg : decode cc pc = .ok (.invokevirtual index, 3)) (hroom : cells + mc ≤ R.cells ∧ slots + ms ≤ R.slots)
    (kk : ∀ (u : S) (H1 : Heap) (locs1 : List Loc), va_P G vwCl (ws1 u) H1 → va_D A (ws1 u) → va_S A s.heap H1 locs1 → W p l e R s m args below meth c H1 locs1 (cells + mc) (slots + ms) Q (F0 m (pc + 3) ls rest)) : W p l e R s m args below meth c H locs cells slots Q (F0 m pc ls st0) := by
  subst hqC
  have hpre := mPre (av := .ref b :: As) hP hD hKc hC hn
  refine va_callv (va_runV CF hM cw ⟨hpre.1, va_recv hKs hP (ci := ci) (q0 := q0) hcl he, hpre.2⟩ rfl hlen hsize hstack hW hdg hroom) hS (fun q _ h => mFree hD hS hA hC q h) (mFree hD hS hA hC) (fun u t H1 locs1 ht hvm hw hB hz1 hk1 hS1 => ?_)
  obtain ⟨hP1, -, -⟩ := hB
  rw [ht] at hP1
  obtain ⟨hP2, hD2⟩ := mPut isR N hP hD hC ((hfst u).trans hfc.symm) ((hf1 u).trans hf0.symm) (hC1 u) ((hR1 u).trans hR0.symm) hN hcov hk1 hP1
  exact kk u H1 locs1 hP2 hD2 hS1
theorem mCallS_i {r : S → Int32} {w1 : S → va_W} (CF : CallFix p m c cc nL s args Ts own) (hM : Met l y wy rm (mPc G tyc As H.size wc) (mQi G tyc (va_A wc H.size) r w1) mc ms (va_A wc H.size)) (cw : CallB R s args own index y bytes maxL ret wy rm mc ms n ∧ (Cond.static y).before args s = true) (hP : va_P G vwCl ws H) (hD : va_D A ws) (hS : va_S A s.heap H locs) (hA : ∀ q : Nat, s.heap.size ≤ q → A q) (hKc : va_K G vwCl tyc s)
    (isC : List Nat) (hC : isC.map (fun i => ws[i]?) = wc.map some) (hn : va_nd isC = true) (adC : List Nat) (hfst : ∀ u, (w1 u).map Prod.fst = adC) (hfc : wc.map Prod.fst = adC) (ws1 : S → va_W) (ad : List Nat) (hf1 : ∀ u, (ws1 u).map Prod.fst = ad) (hf0 : ws.map Prod.fst = ad) (hC1 : ∀ u, isC.map (fun i => (ws1 u)[i]?) = (w1 u).map some) (isR : List Nat) (wr : va_W) (hR1 : ∀ u, isR.map (fun i => (ws1 u)[i]?) = wr.map some) (hR0 : isR.map (fun i => ws[i]?) = wr.map some) (N : Nat) (hN : ws.length = N) (hcov : (List.range N).all (fun i => isC.contains i || isR.contains i) = true)
    (hlen : As.length = n) (hsize : ls.size = nL) (hstack : st0 = As.reverse ++ rest) (hW : 2 * (F0 m pc ls st0).monitorRoom + (rest.map fun v => v.category).sum ≤ 8) (hdg : decode cc pc = .ok (.invokestatic index, 3)) (hroom : cells + mc ≤ R.cells ∧ slots + ms ≤ R.slots)
    (kk : ∀ (u : S) (H1 : Heap) (locs1 : List Loc), va_P G vwCl (ws1 u) H1 → va_D A (ws1 u) → va_S A s.heap H1 locs1 → W p l e R s m args below meth c H1 locs1 (cells + mc) (slots + ms) Q (F0 m (pc + 3) ls (.int (r u) :: rest))) : W p l e R s m args below meth c H locs cells slots Q (F0 m pc ls st0) := by
  have hpre := mPre (av := As) hP hD hKc hC hn
  refine va_calli (va_runS CF hM cw hpre rfl hlen hsize hstack hW hdg hroom) hS (fun q _ h => mFree hD hS hA hC q h) (mFree hD hS hA hC) (fun x u t H1 locs1 ht hvm hw hB hz1 hk1 hS1 => ?_)
  obtain ⟨hP1, -, -⟩ := hB
  rw [ht] at hP1
  obtain ⟨hP2, hD2⟩ := mPut isR N hP hD hC ((hfst u).trans hfc.symm) ((hf1 u).trans hf0.symm) (hC1 u) ((hR1 u).trans hR0.symm) hN hcov hk1 hP1
  rw [hw]
  exact kk u H1 locs1 hP2 hD2 hS1
theorem mCallS_l {r : S → Int64} {w1 : S → va_W} (CF : CallFix p m c cc nL s args Ts own) (hM : Met l y wy rm (mPc G tyc As H.size wc) (mQl G tyc (va_A wc H.size) r w1) mc ms (va_A wc H.size)) (cw : CallB R s args own index y bytes maxL ret wy rm mc ms n ∧ (Cond.static y).before args s = true) (hP : va_P G vwCl ws H) (hD : va_D A ws) (hS : va_S A s.heap H locs) (hA : ∀ q : Nat, s.heap.size ≤ q → A q) (hKc : va_K G vwCl tyc s)
    (isC : List Nat) (hC : isC.map (fun i => ws[i]?) = wc.map some) (hn : va_nd isC = true) (adC : List Nat) (hfst : ∀ u, (w1 u).map Prod.fst = adC) (hfc : wc.map Prod.fst = adC) (ws1 : S → va_W) (ad : List Nat) (hf1 : ∀ u, (ws1 u).map Prod.fst = ad) (hf0 : ws.map Prod.fst = ad) (hC1 : ∀ u, isC.map (fun i => (ws1 u)[i]?) = (w1 u).map some) (isR : List Nat) (wr : va_W) (hR1 : ∀ u, isR.map (fun i => (ws1 u)[i]?) = wr.map some) (hR0 : isR.map (fun i => ws[i]?) = wr.map some) (N : Nat) (hN : ws.length = N) (hcov : (List.range N).all (fun i => isC.contains i || isR.contains i) = true)
    (hlen : As.length = n) (hsize : ls.size = nL) (hstack : st0 = As.reverse ++ rest) (hW : 2 * (F0 m pc ls st0).monitorRoom + (rest.map fun v => v.category).sum ≤ 8) (hdg : decode cc pc = .ok (.invokestatic index, 3)) (hroom : cells + mc ≤ R.cells ∧ slots + ms ≤ R.slots)
    (kk : ∀ (u : S) (H1 : Heap) (locs1 : List Loc), va_P G vwCl (ws1 u) H1 → va_D A (ws1 u) → va_S A s.heap H1 locs1 → W p l e R s m args below meth c H1 locs1 (cells + mc) (slots + ms) Q (F0 m (pc + 3) ls (.long (r u) :: rest))) : W p l e R s m args below meth c H locs cells slots Q (F0 m pc ls st0) := by
  have hpre := mPre (av := As) hP hD hKc hC hn
  refine va_calll (va_runS CF hM cw hpre rfl hlen hsize hstack hW hdg hroom) hS (fun q _ h => mFree hD hS hA hC q h) (mFree hD hS hA hC) (fun x u t H1 locs1 ht hvm hw hB hz1 hk1 hS1 => ?_)
  obtain ⟨hP1, -, -⟩ := hB
  rw [ht] at hP1
  obtain ⟨hP2, hD2⟩ := mPut isR N hP hD hC ((hfst u).trans hfc.symm) ((hf1 u).trans hf0.symm) (hC1 u) ((hR1 u).trans hR0.symm) hN hcov hk1 hP1
  rw [hw]
  exact kk u H1 locs1 hP2 hD2 hS1
end MC

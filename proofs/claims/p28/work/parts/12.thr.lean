theorem nI_self {x : Int32} (h : ¬ x < 0) : nI x.toNatClampNeg = x := by
  obtain ⟨j, hj, rfl⟩ := nI_of h
  rw [nI_clamp hj]
theorem mJ0_charAtX (l : Launch) (sa sv : Nat → Nat) (G : va_G) (cI : ClassId) (sz : Nat) (i : Nat) (x : Int32) (hi : i < 5) (hx : ¬ (x < 0 ∨ litLen.getD i 0 ≤ x.toNatClampNeg)) : Met l yJ0_charAt_5068e wsJ0_charAt_5068e ({ frames := 3, cells := 0, slots := 0, locals := 64 }) (mPcX sa sv G [(cI, .int)] [.ref (sa i), .int x] sz []) (mQi G [(cI, .int)] (va_A [] sz) (fun _ : Unit => litCh i x.toNatClampNeg) (fun _ => [])) 0 0 (va_A [] sz) := by
  obtain ⟨j, hj, rfl⟩ := vp_in_of (x := x) hx (litLen_ok i hi)
  rw [nI_clamp (by have := litLen_ok i hi; omega)]
  exact mJ0_charAt_5068e l sa sv G cI sz i j hi hj
/-- what is thrown: its class by its number, the world as it is then -/
def mXC (G : va_G) (tys : List (ClassId × FieldType)) (A : Nat → Prop) (E0 : Nat) (w1 : va_W) : String → State → State → Prop := vx_X (S := Unit) (fun _ => True) (fun E _ t => E = exN E0 ∧ va_P G vwCl w1 t.heap ∧ va_K G vwCl tys t ∧ va_D A w1) A
def noQ : Array Value → State → Outcome → State → Prop := fun _ _ _ _ => False
def sx {α β γ : Type} (u : α ⊕ β) (f : α → γ) (g : β → γ) : γ := match u with
  | .inl a => f a
  | .inr b => g b
theorem pf_sl {α β γ : Type} {a : α} {f : α → γ} {g : β → γ} {r : γ} (h : sx (.inl a) f g = r) : f a = r := h
theorem pf_sr {α β γ : Type} {b : β} {f : α → γ} {g : β → γ} {r : γ} (h : sx (.inr b) f g = r) : g b = r := h
theorem pf_x {α β : Type} {a : α} {b : β} {P : Prop} (h : (some (.inl a) : Option (α ⊕ β)) = some (.inr b)) : P := by cases h
theorem pf_y {α β : Type} {a : α} {b : β} {P : Prop} (h : (some (.inr b) : Option (α ⊕ β)) = some (.inl a)) : P := by cases h
theorem pf_l1 {α β : Type} {a b : α} (h : (some (.inl a) : Option (α ⊕ β)) = some (.inl b)) : a = b := Sum.inl.inj (Option.some.inj h)
theorem pf_r1 {α β : Type} {a b : β} (h : (some (.inr a) : Option (α ⊕ β)) = some (.inr b)) : a = b := Sum.inr.inj (Option.some.inj h)
theorem mStartT {l : Launch} {y : MethodName} {wy ws' : List Cond} {rm : Room} {sa sv : Nat → Nat} {G : va_G} {tys : List (ClassId × FieldType)} {av : List Value} {sz : Nat} {ws : va_W} {XC : String → State → State → Prop} {mc ms : Nat} {cc : ByteArray} {maxL : Nat} {ret : Option FieldType}
    (hy : plainName y.cls = true) (hw : wy = Cond.code y cc maxL ret :: ws') (hav : (lg_sl av).length ≤ maxL)
    (body : ∀ (p : Program) (e : Env) (s : State) (m : MethodId) (below : List Frame) (meth : Method) (c : Code) (A : Nat → Prop) (ls : Array Slot), p.tables.exec = Jvm.exec → c.code = cc → c.maxLocals = maxL → meth.sig.returnType = ret → (∀ w ∈ wy, w.before av.toArray s = true) → s.vm.findClass y.cls = some m.cls → meth.locks = false → meth.name = y.name → (∀ q : Nat, s.heap.size ≤ q → A q) → s.heap.size = sz → va_A ws sz = A → va_P G vwCl ws s.heap → va_K G vwCl tys s → va_D A ws → EnvP sa sv A s s.heap → (∀ x ∈ c.exceptionTable.toList, False) → va_S A s.heap s.heap [] → lv_has ls maxL (lv_args 0 av) → W p l e rm s m av.toArray below meth c s.heap [] 0 0 (vx_MQ below noQ XC av.toArray s mc ms A) (F0 m 0 ls [])) :
    vx_Met l y wy rm (mPcX sa sv G tys av sz ws) noQ XC mc ms (va_A ws sz) := by
  refine vx_ofW (cc := cc) (maxL := maxL) (ret := ret) hy hw ?_
  intro p e s m args below meth c s₁ B hml hex hv
  obtain ⟨rfl, hsz, hP, hK, hD0, hE⟩ := hv
  have hl := lv_entry av (n := maxL) hav
  rw [lg_entry_eq]
  subst hsz
  exact body p e s m below meth c (va_A ws s.heap.size) _ B.exec B.bytes hml B.returns (atoms_spec (ws := wy) B.pre) (findClass_of_methodNamed B.named) B.notSynchronized (name_of_methodNamed B.named B.method).1 (fun q h => Or.inr h) rfl rfl hP hK hD0.self hE hex va_S.rf hl
section MT
variable {p : Program} {l : Launch} {e : Env} {R : Room} {s : State} {m : MethodId} {args : Array Value} {below : List Frame} {meth : Method} {c : Code} {H : Heap} {locs : List Loc} {cells slots : Nat} {Q : State → Prop}
variable {cc : ByteArray} {pc : Nat} {ls : Array Slot} {rest st0 : List Value} {G : va_G} {A : Nat → Prop} {tys tyc : List (ClassId × FieldType)} {ws wc : va_W} {mc ms : Nat} {S : Type}
variable {y : MethodName} {bytes : ByteArray} {maxL nL n index : Nat} {ret : Option FieldType} {wy : List Cond} {rm : Room} {Ts : List Cond} {own C : String} {b : Nat} {As : List Value}
variable {sa sv : Nat → Nat}
variable {sa sv : Nat → Nat}
/-- 'throw new E("text")' -/
theorem mThrow {own : String} {ik is ic k : Nat} {tx : String} {E0 : Nat} (h : EnvP sa sv A s s.heap) (hx : p.tables.exec = Jvm.exec) (hb : c.code = cc) (hst : l.stackTraces = false) (hts : ∀ w ∈ Ts, w.before args s = true) (hown : s.vm.findClass own = some m.cls) (hcls : Bundle.fit (exN E0) = true) (hk : (Cond.classLink own ik (exN E0)).before args s = true) (hini : (Cond.initialized (exN E0)).before args s = true) (hstr : strL[k]? = some (own, is, tx))
    (hin : ∀ w ∈ (vx_atS own ic (exN E0) xNs).filter goodWord, w ∈ Ts) (hbad : ∀ w ∈ (vx_atS own ic (exN E0) xNs).filter (fun w => !goodWord w), w ∈ badL) (hgood : ∀ w ∈ Cond.classLink own ik (exN E0) :: Cond.initialized (exN E0) :: vx_atS own ic (exN E0) xNs, vx_ot w = true) (hbo : ∀ w ∈ badL, w.onTables = true)
    (hP : va_P G vwCl ws H) (hK : va_K G vwCl tys s) (hD : va_D A ws) (hS : va_S A s.heap H locs) (hsize : ls.size = c.maxLocals) {w1 : va_W} (hw : ws = w1)
    (d0 : decode cc pc = .ok (.new ik, 3)) (d3 : decode cc (pc + 3) = .ok (.dup, 1)) (dd : (decode cc (pc + 4) = .ok (.ldc is, 2) ∧ decode cc (pc + 6) = .ok (.invokespecial ic, 3) ∧ decode cc (pc + 9) = .ok (.athrow, 1)) ∨ (decode cc (pc + 4) = .ok (.ldc_w is, 3) ∧ decode cc (pc + 7) = .ok (.invokespecial ic, 3) ∧ decode cc (pc + 10) = .ok (.athrow, 1)))
    (hex : ∀ x ∈ c.exceptionTable.toList, False) (hRf : 5 < R.frames) (hRl : (rest.map fun v => v.category).sum + 82 ≤ R.locals) (hRc : cells + 1 ≤ R.cells) (hRs : slots + 6 ≤ R.slots) (hlocks : meth.locks = false) (hc : cells + 1 ≤ mc) (hs : slots + 6 ≤ ms) :
    W p l e R s m args below meth c H locs cells slots (vx_MQ below noQ (mXC G tys A E0 w1) args s mc ms A) (F0 m pc ls rest) := by
  subst hw
  have hat : ∀ w ∈ vx_atS own ic (exN E0) xNs, w.before args s = true := vx_hat (fun w hw => hts w (hin w hw)) hbad (fun w hw => va_Nw.use (hbo w hw) (h.2.2.2.2.2.2.2.1 w hw))
  have hnames : ∀ n ∈ xNs, Bundle.fit n = true := by decide +kernel
  have hxx : ∀ t : State, s.vm.Alike t.vm → H.size ≤ t.heap.size → (∀ q : Nat, q < H.size → t.heap[q]? = H[q]?) → mXC G tys A E0 ws (exN E0) s t := fun t hal hz hq =>
    ⟨(), trivial, ⟨rfl, hP.kept (fun k q hk => hq q.1 (hP k q hk).lt), va_K.moved hal hK, hD⟩, ⟨Nat.le_trans hS.1 hz, fun q h1 h2 => by rw [hq q (Nat.lt_of_lt_of_le h1 hS.1)]; exact hS.2.1 q h1 h2⟩⟩
  rcases dd with ⟨d4, d6, d9⟩ | ⟨d4, d7, d10⟩
  · exact vx_throwS hx hb hst hown hcls hnames hk hini (h.2.1 k _ hstr) hat hgood h.2.2.2.2.2.1 h.2.2.2.2.2.2.1 hS hsize d0 d3 d4 d6 d9 (fun x hx => (hex x hx).elim) hRf hRl hRc hRs hlocks hxx hS.2.2 hc hs
  · exact vx_throwSW hx hb hst hown hcls hnames hk hini (h.2.1 k _ hstr) hat hgood h.2.2.2.2.2.1 h.2.2.2.2.2.2.1 hS hsize d0 d3 d4 d7 d10 (fun x hx => (hex x hx).elim) hRf hRl hRc hRs hlocks hxx hS.2.2 hc hs
theorem mCallXS_v {w1 : S → va_W} (hE : EnvP sa sv A s s.heap) (CF : CallFix p m c cc nL s args Ts own) (hM : Met l y wy rm (mPcX sa sv G tyc As H.size wc) (mQv G tyc (va_A wc H.size) w1) mc ms (va_A wc H.size)) (cw : CallB R s args own index y bytes maxL ret wy rm mc ms n ∧ (Cond.static y).before args s = true) (hP : va_P G vwCl ws H) (hD : va_D A ws) (hS : va_S A s.heap H locs) (hA : ∀ q : Nat, s.heap.size ≤ q → A q) (hKc : va_K G vwCl tyc s)
    (isC : List Nat) (hC : isC.map (fun i => ws[i]?) = wc.map some) (hn : va_nd isC = true) (adC : List Nat) (hfst : ∀ u, (w1 u).map Prod.fst = adC) (hfc : wc.map Prod.fst = adC) (ws1 : S → va_W) (ad : List Nat) (hf1 : ∀ u, (ws1 u).map Prod.fst = ad) (hf0 : ws.map Prod.fst = ad) (hC1 : ∀ u, isC.map (fun i => (ws1 u)[i]?) = (w1 u).map some) (isR : List Nat) (wr : va_W) (hR1 : ∀ u, isR.map (fun i => (ws1 u)[i]?) = wr.map some) (hR0 : isR.map (fun i => ws[i]?) = wr.map some) (N : Nat) (hN : ws.length = N) (hcov : (List.range N).all (fun i => isC.contains i || isR.contains i) = true)
    (hlen : As.length = n) (hsize : ls.size = nL) (hstack : st0 = As.reverse ++ rest) (hW : 2 * (F0 m pc ls st0).monitorRoom + (rest.map fun v => v.category).sum ≤ 8) (hdg : decode cc pc = .ok (.invokestatic index, 3)) (hroom : cells + mc ≤ R.cells ∧ slots + ms ≤ R.slots)
    (kk : ∀ (u : S) (H1 : Heap) (locs1 : List Loc), va_P G vwCl (ws1 u) H1 → va_D A (ws1 u) → va_S A s.heap H1 locs1 → W p l e R s m args below meth c H1 locs1 (cells + mc) (slots + ms) Q (F0 m (pc + 3) ls rest)) : W p l e R s m args below meth c H locs cells slots Q (F0 m pc ls st0) := by
  have hpre := mPreX (av := As) hE hS hA hP hD hKc hC hn
  refine va_callv (va_runS CF hM cw hpre rfl hlen hsize hstack hW hdg hroom) hS (fun q _ h => mFree hD hS hA hC q h) (mFree hD hS hA hC) (fun u t H1 locs1 ht hvm hw hB hz1 hk1 hS1 => ?_)
  obtain ⟨hP1, -, -⟩ := hB
  rw [ht] at hP1
  obtain ⟨hP2, hD2⟩ := mPut isR N hP hD hC ((hfst u).trans hfc.symm) ((hf1 u).trans hf0.symm) (hC1 u) ((hR1 u).trans hR0.symm) hN hcov hk1 hP1
  exact kk u H1 locs1 hP2 hD2 hS1
theorem bad_on : ∀ w ∈ badL, w.onTables = true := by decide +kernel
/-- a callee that throws: its exception goes on -/
theorem mThrV {E0 : Nat} {w1 : va_W} (hE : EnvP sa sv A s s.heap) (CF : CallFix p m c cc nL s args Ts own) (hM : vx_Met l y wy rm (mPcX sa sv G tyc (.ref b :: As) H.size wc) noQ (mXC G tyc (va_A wc H.size) E0 w1) mc ms (va_A wc H.size)) (cw : CallW R s args own C index y bytes maxL ret wy rm mc ms n) (hP : va_P G vwCl ws H) (hD : va_D A ws) (hS : va_S A s.heap H locs) (hA : ∀ q : Nat, s.heap.size ≤ q → A q) (hKc : va_K G vwCl tyc s)
    (isC : List Nat) (hC : isC.map (fun i => ws[i]?) = wc.map some) (hn : va_nd isC = true) (q0 ci : Nat) {qC : vw_C} {fs : List Value} (hcl : vwCl[ci]? = some qC) (he : ws[q0]? = some (b, .inr (ci, fs))) (hqC : qC.1 = C) (hKs : va_K G vwCl tys s) (adC : List Nat) (hfst : w1.map Prod.fst = adC) (hfc : wc.map Prod.fst = adC) (ws1 : va_W) (ad : List Nat) (hf1 : ws1.map Prod.fst = ad) (hf0 : ws.map Prod.fst = ad) (hC1 : isC.map (fun i => ws1[i]?) = w1.map some) (isR : List Nat) (wr : va_W) (hR1 : isR.map (fun i => ws1[i]?) = wr.map some) (hR0 : isR.map (fun i => ws[i]?) = wr.map some) (N : Nat) (hN : ws.length = N) (hcov : (List.range N).all (fun i => isC.contains i || isR.contains i) = true)
    (hlen : As.length = n) (hsize : ls.size = nL) (hstack : st0 = As.reverse ++ .ref b :: rest) (hW : 2 * (F0 m pc ls st0).monitorRoom + (rest.map fun v => v.category).sum ≤ 8) (hdg : decode cc pc = .ok (.invokevirtual index, 3)) (hroom : cells + mc ≤ R.cells ∧ slots + ms ≤ R.slots)
    (kx : ∀ (ce : Cell) (q9 : Addr) (H1 : Heap) (locs1 : List Loc), va_P G vwCl ws1 H1 → va_D A ws1 → va_S A s.heap H1 locs1 → H1[q9]? = some ce → ce.vm = .none → s.vm.findClass (exN E0) = some ce.cls → vx_W p l e R s m args below meth c H1 locs1 (cells + mc) (slots + ms) Q (F0 m pc ls rest) q9) : W p l e R s m args below meth c H locs cells slots Q (F0 m pc ls st0) := by
  subst hqC
  have hpre := mPreX (av := .ref b :: As) hE hS hA hP hD hKc hC hn
  intro T hT X
  rcases (vx_runV (g := F0 m pc ls st0) CF hM cw ⟨hpre.1, va_recv hKs hP (ci := ci) (q0 := q0) hcl he, hpre.2⟩ rfl hlen hsize hstack hW hdg hroom) T hT X with ⟨v, st₀, t, T', L, h0, X', hL, e1, e2, hq, st⟩ | ⟨q, st₀, t, T', L, E, ce, h0, X', hL, e1, e2, ⟨u, hp, ⟨rfl, hB1, hB2, hB3⟩, hF⟩, hce, hcv, hcl2, st⟩
  · exact hq.elim
  · obtain ⟨k1, k2, k3⟩ := vx_keep h0 e1 hS (fun q _ h => mFree hD hS hA hC q h) (mFree hD hS hA hC) hL hF
    obtain ⟨hP2, hD2⟩ := mPut isR N hP hD hC (hfst.trans hfc.symm) (hf1.trans hf0.symm) hC1 (hR1.trans hR0.symm) hN hcov k2 (by rw [e1]; exact hB1)
    obtain ⟨t2, a1, b1⟩ := kx ce q T'.heap (locs ++ L) hP2 hD2 k3 (by rw [e1]; exact hce) hcv hcl2 T' rfl X'
    exact ⟨t2, st.trans a1, b1⟩
theorem mThrOut {E0 : Nat} {w1 : va_W} {ce : Cell} {q9 : Addr} (hex : ∀ x ∈ c.exceptionTable.toList, False) (hlocks : meth.locks = false) (hP : va_P G vwCl ws H) (hK : va_K G vwCl tys s) (hD : va_D A ws) (hS : va_S A s.heap H locs) (hce : H[q9]? = some ce) (hcv : ce.vm = .none) (hcl : s.vm.findClass (exN E0) = some ce.cls) (hw : ws = w1) (hc : cells ≤ mc) (hs : slots ≤ ms) :
    vx_W p l e R s m args below meth c H locs cells slots (vx_MQ below noQ (mXC G tys A E0 w1) args s mc ms A) (F0 m pc ls rest) q9 := by
  subst hw
  exact vx_out (fun x hx => (hex x hx).elim) hlocks hce hcv hcl (fun t ht hal => ⟨(), trivial, ⟨rfl, by rw [ht]; exact hP, va_K.moved hal hK, hD⟩, hS.F ht⟩) hS.2.2 hc hs
theorem mThrS {E0 : Nat} {w1 : va_W} (hE : EnvP sa sv A s s.heap) (CF : CallFix p m c cc nL s args Ts own) (hM : vx_Met l y wy rm (mPcX sa sv G tyc As H.size wc) noQ (mXC G tyc (va_A wc H.size) E0 w1) mc ms (va_A wc H.size)) (cw : CallB R s args own index y bytes maxL ret wy rm mc ms n ∧ (Cond.static y).before args s = true) (hP : va_P G vwCl ws H) (hD : va_D A ws) (hS : va_S A s.heap H locs) (hA : ∀ q : Nat, s.heap.size ≤ q → A q) (hKc : va_K G vwCl tyc s)
    (isC : List Nat) (hC : isC.map (fun i => ws[i]?) = wc.map some) (hn : va_nd isC = true) (adC : List Nat) (hfst : w1.map Prod.fst = adC) (hfc : wc.map Prod.fst = adC) (ws1 : va_W) (ad : List Nat) (hf1 : ws1.map Prod.fst = ad) (hf0 : ws.map Prod.fst = ad) (hC1 : isC.map (fun i => ws1[i]?) = w1.map some) (isR : List Nat) (wr : va_W) (hR1 : isR.map (fun i => ws1[i]?) = wr.map some) (hR0 : isR.map (fun i => ws[i]?) = wr.map some) (N : Nat) (hN : ws.length = N) (hcov : (List.range N).all (fun i => isC.contains i || isR.contains i) = true)
    (hlen : As.length = n) (hsize : ls.size = nL) (hstack : st0 = As.reverse ++ rest) (hW : 2 * (F0 m pc ls st0).monitorRoom + (rest.map fun v => v.category).sum ≤ 8) (hdg : decode cc pc = .ok (.invokestatic index, 3)) (hroom : cells + mc ≤ R.cells ∧ slots + ms ≤ R.slots)
    (kx : ∀ (ce : Cell) (q9 : Addr) (H1 : Heap) (locs1 : List Loc), va_P G vwCl ws1 H1 → va_D A ws1 → va_S A s.heap H1 locs1 → H1[q9]? = some ce → ce.vm = .none → s.vm.findClass (exN E0) = some ce.cls → vx_W p l e R s m args below meth c H1 locs1 (cells + mc) (slots + ms) Q (F0 m pc ls rest) q9) : W p l e R s m args below meth c H locs cells slots Q (F0 m pc ls st0) := by
  have hpre := mPreX (av := As) hE hS hA hP hD hKc hC hn
  intro T hT X
  rcases (vx_runS (g := F0 m pc ls st0) CF hM cw hpre rfl hlen hsize hstack hW hdg hroom) T hT X with ⟨v, st₀, t, T', L, h0, X', hL, e1, e2, hq, st⟩ | ⟨q, st₀, t, T', L, E, ce, h0, X', hL, e1, e2, ⟨u, hp, ⟨rfl, hB1, hB2, hB3⟩, hF⟩, hce, hcv, hcl2, st⟩
  · exact hq.elim
  · obtain ⟨k1, k2, k3⟩ := vx_keep h0 e1 hS (fun q _ h => mFree hD hS hA hC q h) (mFree hD hS hA hC) hL hF
    obtain ⟨hP2, hD2⟩ := mPut isR N hP hD hC (hfst.trans hfc.symm) (hf1.trans hf0.symm) hC1 (hR1.trans hR0.symm) hN hcov k2 (by rw [e1]; exact hB1)
    obtain ⟨t2, a1, b1⟩ := kx ce q T'.heap (locs ++ L) hP2 hD2 k3 (by rw [e1]; exact hce) hcv hcl2 T' rfl X'
    exact ⟨t2, st.trans a1, b1⟩
end MT

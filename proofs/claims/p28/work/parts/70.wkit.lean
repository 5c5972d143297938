-- the law's wrappers: a call in a try, caught by this method's own table
/-- nothing goes out -/
def noX : String → State → State → Prop := fun _ _ _ => False
theorem mStartW {l : Launch} {y : MethodName} {wy ws' : List Cond} {rm : Room} {sa sv : Nat → Nat} {G : va_G} {tys : List (ClassId × FieldType)} {av : List Value} {sz : Nat} {ws : va_W} {Qc : Array Value → State → Outcome → State → Prop} {XC : String → State → State → Prop} {mc ms : Nat} {cc : ByteArray} {maxL : Nat} {ret : Option FieldType} {hh : List (Nat × Nat × Nat × Nat)}
    (hy : plainName y.cls = true) (hw : wy = Cond.codeWith y cc maxL ret hh :: ws') (hav : (lg_sl av).length ≤ maxL)
    (body : ∀ (p : Program) (e : Env) (s : State) (m : MethodId) (below : List Frame) (meth : Method) (c : Code) (A : Nat → Prop) (ls : Array Slot), p.tables.exec = Jvm.exec → c.code = cc → c.maxLocals = maxL → meth.sig.returnType = ret → (∀ w ∈ wy, w.before av.toArray s = true) → s.vm.findClass y.cls = some m.cls → meth.locks = false → (∀ q : Nat, s.heap.size ≤ q → A q) → s.heap.size = sz → va_A ws sz = A → va_P G vwCl ws s.heap → va_K G vwCl tys s → va_D A ws → EnvP sa sv A s s.heap → c.exceptionTable.toList = tableOf hh → va_S A s.heap s.heap [] → lv_has ls maxL (lv_args 0 av) → W p l e rm s m av.toArray below meth c s.heap [] 0 0 (vx_MQ below Qc XC av.toArray s mc ms A) (F0 m 0 ls [])) :
    vx_Met l y wy rm (mPcX sa sv G tys av sz ws) Qc XC mc ms (va_A ws sz) := by
  refine vx_ofWH (cc := cc) (maxL := maxL) (ret := ret) (hh := hh) hy hw ?_
  intro p e s m args below meth c s₁ B hml hv
  obtain ⟨rfl, hsz, hP, hK, hD0, hE⟩ := hv
  have hl := lv_entry av (n := maxL) hav
  rw [lg_entry_eq]
  have htab := vx_table (x := y) B (atoms_spec (ws := wy) B.pre _ (by rw [hw]; exact List.mem_cons_self))
  subst hsz
  exact body p e s m below meth c (va_A ws s.heap.size) _ B.exec B.bytes hml B.returns (atoms_spec (ws := wy) B.pre) (findClass_of_methodNamed B.named) B.notSynchronized (fun q h => Or.inr h) rfl rfl hP hK hD0.self hE htab va_S.rf hl
section MW
variable {p : Program} {l : Launch} {e : Env} {R : Room} {s : State} {m : MethodId} {args : Array Value} {below : List Frame} {meth : Method} {c : Code} {H : Heap} {locs : List Loc} {cells slots : Nat} {Q : State → Prop}
variable {cc : ByteArray} {pc : Nat} {ls : Array Slot} {rest st0 : List Value} {G : va_G} {A : Nat → Prop} {tys tyc : List (ClassId × FieldType)} {ws wc wr : va_W} {mc ms : Nat} {S : Type}
variable {y : MethodName} {bytes : ByteArray} {maxL nL n index : Nat} {ret : Option FieldType} {wy : List Cond} {rm : Room} {Ts : List Cond} {own C : String} {b : Nat} {As : List Value} {sa sv : Nat → Nat}
theorem mCallPXV_i {post : Int32 → S → Prop} {w1 : S → va_W} (hE : EnvP sa sv A s s.heap) (CF : CallFix p m c cc nL s args Ts own) (hM : Met l y wy rm (mPcX sa sv G tyc (.ref b :: As) H.size wc) (va_Qi (S := S) post (mB G tyc (va_A wc H.size) w1) (va_A wc H.size)) mc ms (va_A wc H.size)) (cw : CallW R s args own C index y bytes maxL ret wy rm mc ms n) (hP : va_P G vwCl ws H) (hD : va_D A ws) (hS : va_S A s.heap H locs) (hA : ∀ q : Nat, s.heap.size ≤ q → A q) (hKc : va_K G vwCl tyc s)
    (hp : ws.Perm (wc ++ wr)) (q0 ci : Nat) {qC : vw_C} {fs : List Value} (hcl : vwCl[ci]? = some qC) (he : wc[q0]? = some (b, .inr (ci, fs))) (hqC : qC.1 = C)
    (hlen : As.length = n) (hsize : ls.size = nL) (hstack : st0 = As.reverse ++ .ref b :: rest) (hW : 2 * (F0 m pc ls st0).monitorRoom + (rest.map fun v => v.category).sum ≤ 8) (hdg : decode cc pc = .ok (.invokevirtual index, 3)) (hroom : cells + mc ≤ R.cells ∧ slots + ms ≤ R.slots)
    (kk : ∀ (x : Int32) (u : S) (H1 : Heap) (locs1 : List Loc), post x u → va_P G vwCl (w1 u ++ wr) H1 → va_D A (w1 u ++ wr) → va_S A s.heap H1 locs1 → W p l e R s m args below meth c H1 locs1 (cells + mc) (slots + ms) Q (F0 m (pc + 3) ls (.int x :: rest))) : W p l e R s m args below meth c H locs cells slots Q (F0 m pc ls st0) := by
  subst hqC
  have hP := hP.perm hp
  have hD := hD.perm hp
  have hpre := mPreAX (av := .ref b :: As) hE hS hA hP hD hKc
  refine va_calli (va_runV CF hM cw ⟨hpre.1, va_recv hKc hP.left (ci := ci) (q0 := q0) hcl he, hpre.2⟩ rfl hlen hsize hstack hW hdg hroom) hS (fun q _ h => mFreeA (G := G) hD hS hA q h) (mFreeA (G := G) hD hS hA) (fun x u t H1 locs1 ht hvm hw hB hz1 hk1 hS1 => ?_)
  obtain ⟨hP1, -, hD1⟩ := hB
  rw [ht] at hP1
  obtain ⟨hP2, hD2⟩ := mPutA hP hD (mFreeA (G := G) hD hS hA) hk1 hP1 hD1
  exact kk x u H1 locs1 hw hP2 hD2 hS1
theorem mCallPV_i {post : Int32 → S → Prop} {w1 : S → va_W} (CF : CallFix p m c cc nL s args Ts own) (hM : Met l y wy rm (mPc G tyc (.ref b :: As) H.size wc) (va_Qi (S := S) post (mB G tyc (va_A wc H.size) w1) (va_A wc H.size)) mc ms (va_A wc H.size)) (cw : CallW R s args own C index y bytes maxL ret wy rm mc ms n) (hP : va_P G vwCl ws H) (hD : va_D A ws) (hS : va_S A s.heap H locs) (hA : ∀ q : Nat, s.heap.size ≤ q → A q) (hKc : va_K G vwCl tyc s)
    (hp : ws.Perm (wc ++ wr)) (q0 ci : Nat) {qC : vw_C} {fs : List Value} (hcl : vwCl[ci]? = some qC) (he : wc[q0]? = some (b, .inr (ci, fs))) (hqC : qC.1 = C)
    (hlen : As.length = n) (hsize : ls.size = nL) (hstack : st0 = As.reverse ++ .ref b :: rest) (hW : 2 * (F0 m pc ls st0).monitorRoom + (rest.map fun v => v.category).sum ≤ 8) (hdg : decode cc pc = .ok (.invokevirtual index, 3)) (hroom : cells + mc ≤ R.cells ∧ slots + ms ≤ R.slots)
    (kk : ∀ (x : Int32) (u : S) (H1 : Heap) (locs1 : List Loc), post x u → va_P G vwCl (w1 u ++ wr) H1 → va_D A (w1 u ++ wr) → va_S A s.heap H1 locs1 → W p l e R s m args below meth c H1 locs1 (cells + mc) (slots + ms) Q (F0 m (pc + 3) ls (.int x :: rest))) : W p l e R s m args below meth c H locs cells slots Q (F0 m pc ls st0) := by
  subst hqC
  have hP := hP.perm hp
  have hD := hD.perm hp
  have hpre := mPreA (av := .ref b :: As) hP hD hKc
  refine va_calli (va_runV CF hM cw ⟨hpre.1, va_recv hKc hP.left (ci := ci) (q0 := q0) hcl he, hpre.2⟩ rfl hlen hsize hstack hW hdg hroom) hS (fun q _ h => mFreeA (G := G) hD hS hA q h) (mFreeA (G := G) hD hS hA) (fun x u t H1 locs1 ht hvm hw hB hz1 hk1 hS1 => ?_)
  obtain ⟨hP1, -, hD1⟩ := hB
  rw [ht] at hP1
  obtain ⟨hP2, hD2⟩ := mPutA hP hD (mFreeA (G := G) hD hS hA) hk1 hP1 hD1
  exact kk x u H1 locs1 hw hP2 hD2 hS1
/-- the callee throws: q is over this frame -/
theorem mThrPV {E0 : Nat} {w1 : va_W} (hE : EnvP sa sv A s s.heap) (CF : CallFix p m c cc nL s args Ts own) (hM : vx_Met l y wy rm (mPcX sa sv G tyc (.ref b :: As) H.size wc) noQ (mXC G tyc (va_A wc H.size) E0 w1) mc ms (va_A wc H.size)) (cw : CallW R s args own C index y bytes maxL ret wy rm mc ms n) (hP : va_P G vwCl ws H) (hD : va_D A ws) (hS : va_S A s.heap H locs) (hA : ∀ q : Nat, s.heap.size ≤ q → A q) (hKc : va_K G vwCl tyc s)
    (hp : ws.Perm (wc ++ wr)) (q0 ci : Nat) {qC : vw_C} {fs : List Value} (hcl : vwCl[ci]? = some qC) (he : wc[q0]? = some (b, .inr (ci, fs))) (hqC : qC.1 = C)
    (hlen : As.length = n) (hsize : ls.size = nL) (hstack : st0 = As.reverse ++ .ref b :: rest) (hW : 2 * (F0 m pc ls st0).monitorRoom + (rest.map fun v => v.category).sum ≤ 8) (hdg : decode cc pc = .ok (.invokevirtual index, 3)) (hroom : cells + mc ≤ R.cells ∧ slots + ms ≤ R.slots)
    (kx : ∀ (ce : Cell) (q9 : Addr) (H1 : Heap) (locs1 : List Loc), va_P G vwCl (w1 ++ wr) H1 → va_D A (w1 ++ wr) → va_S A s.heap H1 locs1 → H1[q9]? = some ce → ce.vm = .none → s.vm.findClass (exN E0) = some ce.cls → vx_W p l e R s m args below meth c H1 locs1 (cells + mc) (slots + ms) Q (F0 m pc ls rest) q9) : W p l e R s m args below meth c H locs cells slots Q (F0 m pc ls st0) := by
  subst hqC
  have hP := hP.perm hp
  have hD := hD.perm hp
  have hpre := mPreAX (av := .ref b :: As) hE hS hA hP hD hKc
  intro T hT X
  rcases (vx_runV (g := F0 m pc ls st0) CF hM cw ⟨hpre.1, va_recv hKc hP.left (ci := ci) (q0 := q0) hcl he, hpre.2⟩ rfl hlen hsize hstack hW hdg hroom) T hT X with ⟨v, st₀, t, T', L, h0, X', hL, e1, e2, hq, st⟩ | ⟨q, st₀, t, T', L, E, ce, h0, X', hL, e1, e2, ⟨u, hpu, ⟨rfl, hB1, hB2, hB3⟩, hF⟩, hce, hcv, hcl2, st⟩
  · exact hq.elim
  · obtain ⟨k1, k2, k3⟩ := vx_keep h0 e1 hS (fun q _ h => mFreeA (G := G) hD hS hA q h) (mFreeA (G := G) hD hS hA) hL hF
    obtain ⟨hP2, hD2⟩ := mPutA hP hD (mFreeA (G := G) hD hS hA) k2 (by rw [e1]; exact hB1) hB3
    obtain ⟨t2, a1, b1⟩ := kx ce q T'.heap (locs ++ L) hP2 hD2 k3 (by rw [e1]; exact hce) hcv hcl2 T' rfl X'
    exact ⟨t2, st.trans a1, b1⟩
/-- a static call of a method with a table of its own, from which nothing goes out -/
theorem mCallWS_i {hh : List (Nat × Nat × Nat × Nat)} {post : Int32 → S → Prop} {w1 : S → va_W} (hE : EnvP sa sv A s s.heap) (CF : CallFix p m c cc nL s args Ts own) (hM : vx_Met l y wy rm (mPcX sa sv G tyc As H.size wc) (va_Qi (S := S) post (mB G tyc (va_A wc H.size) w1) (va_A wc H.size)) noX mc ms (va_A wc H.size)) (cw : vx_CSW R s args own index y bytes maxL ret hh wy rm mc ms n) (hP : va_P G vwCl ws H) (hD : va_D A ws) (hS : va_S A s.heap H locs) (hA : ∀ q : Nat, s.heap.size ≤ q → A q) (hKc : va_K G vwCl tyc s)
    (hp : ws.Perm (wc ++ wr))
    (hlen : As.length = n) (hsize : ls.size = nL) (hstack : st0 = As.reverse ++ rest) (hW : 2 * (F0 m pc ls st0).monitorRoom + (rest.map fun v => v.category).sum ≤ 8) (hdg : decode cc pc = .ok (.invokestatic index, 3)) (hroom : cells + mc ≤ R.cells ∧ slots + ms ≤ R.slots)
    (kk : ∀ (x : Int32) (u : S) (H1 : Heap) (locs1 : List Loc), post x u → va_P G vwCl (w1 u ++ wr) H1 → va_D A (w1 u ++ wr) → va_S A s.heap H1 locs1 → W p l e R s m args below meth c H1 locs1 (cells + mc) (slots + ms) Q (F0 m (pc + 3) ls (.int x :: rest))) : W p l e R s m args below meth c H locs cells slots Q (F0 m pc ls st0) := by
  have hP := hP.perm hp
  have hD := hD.perm hp
  have hpre := mPreAX (av := As) hE hS hA hP hD hKc
  have hr : vx_Run p l e R s m args below meth c H locs cells slots mc ms (F0 m pc ls st0) rest (va_Qi (S := S) post (mB G tyc (va_A wc H.size) w1) (va_A wc H.size) As.toArray) noX (va_A wc H.size) := vx_runSX (g := F0 m pc ls st0) CF hM cw hpre rfl hlen hsize hstack hW hdg hroom
  have hr2 : va_Run p l e R s m args below meth c H locs cells slots mc ms (F0 m pc ls st0) rest (va_Qi (S := S) post (mB G tyc (va_A wc H.size) w1) (va_A wc H.size) As.toArray) (va_A wc H.size) := by
    intro T hT X
    rcases hr T hT X with h | ⟨q, st₀, t, T', L, E, ce, h0, X', hL, e1, e2, hx, -⟩
    · exact h
    · exact hx.elim
  refine va_calli hr2 hS (fun q _ h => mFreeA (G := G) hD hS hA q h) (mFreeA (G := G) hD hS hA) (fun x u t H1 locs1 ht hvm hw hB hz1 hk1 hS1 => ?_)
  obtain ⟨hP1, -, hD1⟩ := hB
  rw [ht] at hP1
  obtain ⟨hP2, hD2⟩ := mPutA hP hD (mFreeA (G := G) hD hS hA) hk1 hP1 hD1
  exact kk x u H1 locs1 hw hP2 hD2 hS1
end MW
/-- 'castable to itself' of what is thrown -/
theorem EnvP.cast {sa sv : Nat → Nat} {A : Nat → Prop} {s : State} {H : Heap} {args : Array Value} (h : EnvP sa sv A s H) {E0 : Nat} (hE : E0 < 3) : (Cond.castable (exN E0) (exN E0)).before args s = true := by
  have hb : ∀ w ∈ badL, w.before args s = true := fun w hw => va_Nw.use (bad_on w hw) (h.2.2.2.2.2.2.2.1 w hw)
  match E0, hE with
  | 0, _ => exact hb _ (by decide +kernel)
  | 1, _ => exact hb _ (by decide +kernel)
  | 2, _ => exact hb _ (by decide +kernel)
theorem EnvP.nc10 {sa sv : Nat → Nat} {A : Nat → Prop} {s : State} {H : Heap} (h : EnvP sa sv A s H) : va_Nc (exN 1) (exN 0) s := h.2.2.2.2.2.2.2.2.1
theorem EnvP.nc21 {sa sv : Nat → Nat} {A : Nat → Prop} {s : State} {H : Heap} (h : EnvP sa sv A s H) : va_Nc (exN 2) (exN 1) s := h.2.2.2.2.2.2.2.2.2

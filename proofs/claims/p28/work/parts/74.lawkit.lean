-- the law of two chains: calls by what they leave
theorem lw_lcmp {p : Program} {l : Launch} {e : Env} {R : Room} {s : State} {m : MethodId} {args : Array Value} {below : List Frame} {meth : Method} {c : Code} {H : Heap} {locs : List Loc} {cells slots : Nat} {Q : State → Prop} {cc : ByteArray} {pc : Nat} {ls : Array Slot} {rest : List Value} (hexec : p.tables.exec = Jvm.exec) (hb : c.code = cc) {x : Int64} (hdg : decode cc pc = .ok (.lcmp, 1))
    (k : W p l e R s m args below meth c H locs cells slots Q (F0 m (pc + 1) ls (.int 0 :: rest))) : W p l e R s m args below meth c H locs cells slots Q (F0 m pc ls (.long x :: .long x :: rest)) := by
  intro T hT X
  obtain ⟨t, a, b⟩ := k T hT X
  refine ⟨t, ?_, b⟩
  have h1 : ¬ x > x := Int64.lt_irrefl
  have h2 : (x == x) = true := beq_self_eq_true x
  jvm_step X.here [X.here.top, hexec, hb, hdg, h1, h2]
  exact a
/-- with the script -/
def mPcS (b L : Nat) (xs : Nat → Int32) (P : Array Value → State → Prop) : Array Value → State → Prop := fun a U => P a U ∧ va_X b L xs U U.heap
theorem mBlindS {b L : Nat} {xs : Nat → Int32} {P : Array Value → State → Prop} (h : FrameBlind P) : FrameBlind (mPcS b L xs P) := fun a U g mk q => ⟨h a U g mk q.1, va_X.moved (u := U) (U := U.calling g mk a) (Vm.Alike.refl U.vm) q.2⟩
theorem mStartS {l : Launch} {y : MethodName} {wy ws' : List Cond} {rm : Room} {sa sv : Nat → Nat} {G : va_G} {tys : List (ClassId × FieldType)} {av : List Value} {sz : Nat} {ws : va_W} {Qc : Array Value → State → Outcome → State → Prop} {mc ms : Nat} {cc : ByteArray} {maxL : Nat} {ret : Option FieldType} {b L : Nat} {xs : Nat → Int32} (hbs : b < sz) (hbn : ¬ va_A ws sz b)
    (hy : plainName y.cls = true) (hw : wy = Cond.code y cc maxL ret :: ws') (hav : (lg_sl av).length ≤ maxL)
    (body : ∀ (p : Program) (e : Env) (s : State) (m : MethodId) (below : List Frame) (meth : Method) (c : Code) (A : Nat → Prop) (ls : Array Slot), p.tables.exec = Jvm.exec → c.code = cc → c.maxLocals = maxL → meth.sig.returnType = ret → (∀ w ∈ wy, w.before av.toArray s = true) → s.vm.findClass y.cls = some m.cls → meth.locks = false → (∀ q : Nat, s.heap.size ≤ q → A q) → s.heap.size = sz → va_A ws sz = A → va_P G vwCl ws s.heap → va_K G vwCl tys s → va_D A ws → EnvP sa sv A s s.heap → va_X b L xs s s.heap → b < s.heap.size → ¬ A b → va_S A s.heap s.heap [] → lv_has ls maxL (lv_args 0 av) → W p l e rm s m av.toArray below meth c s.heap [] 0 0 (MQ below Qc av.toArray s mc ms A) (F0 m 0 ls [])) :
    Met l y wy rm (mPcS b L xs (mPcX sa sv G tys av sz ws)) Qc mc ms (va_A ws sz) := by
  refine Met.ofW (cc := cc) (maxL := maxL) (ret := ret) hy hw ?_
  intro p e s m args below meth c s₁ B hml hv
  obtain ⟨⟨rfl, hsz, hP, hK, hD0, hE⟩, hX⟩ := hv
  have hl := lv_entry av (n := maxL) hav
  rw [lg_entry_eq]
  subst hsz
  exact body p e s m below meth c (va_A ws s.heap.size) _ B.exec B.bytes hml B.returns (atoms_spec (ws := wy) B.pre) (findClass_of_methodNamed B.named) B.notSynchronized (fun q h => Or.inr h) rfl rfl hP hK hD0.self hE hX hbs hbn va_S.rf hl
/-- a wrapper's call, at most c0 cells of s0 slots -/
def LwS (l : Launch) (sa sv : Nat → Nat) (G : va_G) (tys : List (ClassId × FieldType)) (y : MethodName) (wy : List Cond) (c0 s0 : Nat) (As : List Value) (ws : va_W) (Q : Int32 → va_W → Prop) : Prop :=
  ∃ (rm : Room) (mc ms : Nat) (wc wr : va_W) (S : Type) (post : Int32 → S → Prop) (w1 : S → va_W), rm.cells = mc ∧ rm.slots = ms ∧ mc ≤ c0 ∧ ms ≤ s0 ∧ rm.frames ≤ 8 ∧ rm.locals ≤ 220 ∧ ws.Perm (wc ++ wr) ∧ (∀ sz, vx_Met l y wy rm (mPcX sa sv G tys As sz wc) (va_Qi (S := S) post (mB G tys (va_A wc sz) w1) (va_A wc sz)) noX mc ms (va_A wc sz)) ∧ ∀ x u, post x u → Q x (w1 u ++ wr)
/-- a call of the class that throws nothing -/
def LwX (l : Launch) (sa sv : Nat → Nat) (G : va_G) (tyc : List (ClassId × FieldType)) (y : MethodName) (wy : List Cond) (rm : Room) (b : Nat) (As : List Value) (ws : va_W) (Q : Int32 → va_W → Prop) : Prop :=
  ∃ (wc wr : va_W) (S : Type) (post : Int32 → S → Prop) (w1 : S → va_W) (q0 : Nat) (fs : List Value), wc[q0]? = some (b, .inr (8, fs)) ∧ ws.Perm (wc ++ wr) ∧ (∀ sz, Met l y wy rm (mPcX sa sv G tyc (.ref b :: As) sz wc) (va_Qi (S := S) post (mB G tyc (va_A wc sz) w1) (va_A wc sz)) rm.cells rm.slots (va_A wc sz)) ∧ ∀ x u, post x u → Q x (w1 u ++ wr)
def LwXl (l : Launch) (sa sv : Nat → Nat) (G : va_G) (tyc : List (ClassId × FieldType)) (y : MethodName) (wy : List Cond) (rm : Room) (b : Nat) (As : List Value) (ws : va_W) (Q : Int64 → va_W → Prop) : Prop :=
  ∃ (wc wr : va_W) (S : Type) (post : Int64 → S → Prop) (w1 : S → va_W) (q0 : Nat) (fs : List Value), wc[q0]? = some (b, .inr (8, fs)) ∧ ws.Perm (wc ++ wr) ∧ (∀ sz, Met l y wy rm (mPcX sa sv G tyc (.ref b :: As) sz wc) (va_Ql (S := S) post (mB G tyc (va_A wc sz) w1) (va_A wc sz)) rm.cells rm.slots (va_A wc sz)) ∧ ∀ x u, post x u → Q x (w1 u ++ wr)
def LwXd (l : Launch) (sa sv : Nat → Nat) (G : va_G) (tyc : List (ClassId × FieldType)) (y : MethodName) (wy : List Cond) (rm : Room) (b : Nat) (As : List Value) (ws : va_W) (Q : UInt64 → va_W → Prop) : Prop :=
  ∃ (wc wr : va_W) (S : Type) (post : UInt64 → S → Prop) (w1 : S → va_W) (q0 : Nat) (fs : List Value), wc[q0]? = some (b, .inr (8, fs)) ∧ ws.Perm (wc ++ wr) ∧ (∀ sz, Met l y wy rm (mPcX sa sv G tyc (.ref b :: As) sz wc) (va_Qd (S := S) post (mB G tyc (va_A wc sz) w1) (va_A wc sz)) rm.cells rm.slots (va_A wc sz)) ∧ ∀ x u, post x u → Q x (w1 u ++ wr)
/-- a call of a method of the law's own: frames, words of locals, cells, slots at most F, Lo, c0, s0 -/
def LwP (l : Launch) (sa sv : Nat → Nat) (G : va_G) (tys : List (ClassId × FieldType)) (b L : Nat) (xs : Nat → Int32) (y : MethodName) (wy : List Cond) (F Lo c0 s0 : Nat) (As : List Value) (ws : va_W) (Q : Int32 → va_W → Prop) : Prop :=
  ∃ (rm : Room) (wc wr : va_W) (S : Type) (post : Int32 → S → Prop) (w1 : S → va_W), rm.cells ≤ c0 ∧ rm.slots ≤ s0 ∧ rm.frames ≤ F ∧ rm.locals ≤ Lo ∧ ws.Perm (wc ++ wr) ∧ (∀ sz, b < sz → ¬ va_A wc sz b → Met l y wy rm (mPcS b L xs (mPcX sa sv G tys As sz wc)) (va_Qi (S := S) post (mB G tys (va_A wc sz) w1) (va_A wc sz)) rm.cells rm.slots (va_A wc sz)) ∧ ∀ x u, post x u → Q x (w1 u ++ wr)
/-- what else stands there stays -/
theorem LwS.frame {l : Launch} {sa sv : Nat → Nat} {G : va_G} {tys : List (ClassId × FieldType)} {y : MethodName} {wy : List Cond} {c0 s0 : Nat} {As : List Value} {ws T : va_W} {Q Q' : Int32 → va_W → Prop} (h : LwS l sa sv G tys y wy c0 s0 As ws Q) (hQ : ∀ x w, Q x w → Q' x (w ++ T)) : LwS l sa sv G tys y wy c0 s0 As (ws ++ T) Q' := by
  obtain ⟨rm, mc, ms, wc, wr, S, post, w1, h1, h2, h3, h4, h5, h6, hp, hM, hq⟩ := h
  exact ⟨rm, mc, ms, wc, wr ++ T, S, post, w1, h1, h2, h3, h4, h5, h6, by rw [← List.append_assoc]; exact hp.append_right T, hM, fun x u hx => by rw [← List.append_assoc]; exact hQ x _ (hq x u hx)⟩
theorem LwS.mono {l : Launch} {sa sv : Nat → Nat} {G : va_G} {tys : List (ClassId × FieldType)} {y : MethodName} {wy : List Cond} {c0 s0 c1 s1 : Nat} {As : List Value} {ws : va_W} {Q Q' : Int32 → va_W → Prop} (hc : c0 ≤ c1) (hs : s0 ≤ s1) (h : LwS l sa sv G tys y wy c0 s0 As ws Q) (hQ : ∀ x w, Q x w → Q' x w) : LwS l sa sv G tys y wy c1 s1 As ws Q' := by
  obtain ⟨rm, mc, ms, wc, wr, S, post, w1, h1, h2, h3, h4, h5, h6, hp, hM, hq⟩ := h
  exact ⟨rm, mc, ms, wc, wr, S, post, w1, h1, h2, Nat.le_trans h3 hc, Nat.le_trans h4 hs, h5, h6, hp, hM, fun x u hx => hQ x _ (hq x u hx)⟩
theorem LwS.perm {l : Launch} {sa sv : Nat → Nat} {G : va_G} {tys : List (ClassId × FieldType)} {y : MethodName} {wy : List Cond} {c0 s0 : Nat} {As : List Value} {ws ws' : va_W} {Q : Int32 → va_W → Prop} (hp' : ws'.Perm ws) (h : LwS l sa sv G tys y wy c0 s0 As ws Q) : LwS l sa sv G tys y wy c0 s0 As ws' Q := by
  obtain ⟨rm, mc, ms, wc, wr, S, post, w1, h1, h2, h3, h4, h5, h6, hp, hM, hq⟩ := h
  exact ⟨rm, mc, ms, wc, wr, S, post, w1, h1, h2, h3, h4, h5, h6, hp'.trans hp, hM, hq⟩
theorem LwP.frame {l : Launch} {sa sv : Nat → Nat} {G : va_G} {tys : List (ClassId × FieldType)} {b L : Nat} {xs : Nat → Int32} {y : MethodName} {wy : List Cond} {F Lo c0 s0 : Nat} {As : List Value} {ws T : va_W} {Q Q' : Int32 → va_W → Prop} (h : LwP l sa sv G tys b L xs y wy F Lo c0 s0 As ws Q) (hQ : ∀ x w, Q x w → Q' x (w ++ T)) : LwP l sa sv G tys b L xs y wy F Lo c0 s0 As (ws ++ T) Q' := by
  obtain ⟨rm, wc, wr, S, post, w1, h1, h2, h3, h4, hp, hM, hq⟩ := h
  exact ⟨rm, wc, wr ++ T, S, post, w1, h1, h2, h3, h4, by rw [← List.append_assoc]; exact hp.append_right T, hM, fun x u hx => by rw [← List.append_assoc]; exact hQ x _ (hq x u hx)⟩
theorem LwP.perm {l : Launch} {sa sv : Nat → Nat} {G : va_G} {tys : List (ClassId × FieldType)} {b L : Nat} {xs : Nat → Int32} {y : MethodName} {wy : List Cond} {F Lo c0 s0 : Nat} {As : List Value} {ws ws' : va_W} {Q : Int32 → va_W → Prop} (hp' : ws'.Perm ws) (h : LwP l sa sv G tys b L xs y wy F Lo c0 s0 As ws Q) : LwP l sa sv G tys b L xs y wy F Lo c0 s0 As ws' Q := by
  obtain ⟨rm, wc, wr, S, post, w1, h1, h2, h3, h4, hp, hM, hq⟩ := h
  exact ⟨rm, wc, wr, S, post, w1, h1, h2, h3, h4, hp'.trans hp, hM, hq⟩
theorem LwX.frame {l : Launch} {sa sv : Nat → Nat} {G : va_G} {tyc : List (ClassId × FieldType)} {y : MethodName} {wy : List Cond} {rm : Room} {b : Nat} {As : List Value} {ws T : va_W} {Q Q' : Int32 → va_W → Prop} (h : LwX l sa sv G tyc y wy rm b As ws Q) (hQ : ∀ x w, Q x w → Q' x (w ++ T)) : LwX l sa sv G tyc y wy rm b As (ws ++ T) Q' := by
  obtain ⟨wc, wr, S, post, w1, q0, fs, he, hp, hM, hq⟩ := h
  exact ⟨wc, wr ++ T, S, post, w1, q0, fs, he, by rw [← List.append_assoc]; exact hp.append_right T, hM, fun x u hx => by rw [← List.append_assoc]; exact hQ x _ (hq x u hx)⟩
theorem LwX.perm {l : Launch} {sa sv : Nat → Nat} {G : va_G} {tyc : List (ClassId × FieldType)} {y : MethodName} {wy : List Cond} {rm : Room} {b : Nat} {As : List Value} {ws ws' : va_W} {Q : Int32 → va_W → Prop} (hp' : ws'.Perm ws) (h : LwX l sa sv G tyc y wy rm b As ws Q) : LwX l sa sv G tyc y wy rm b As ws' Q := by
  obtain ⟨wc, wr, S, post, w1, q0, fs, he, hp, hM, hq⟩ := h
  exact ⟨wc, wr, S, post, w1, q0, fs, he, hp'.trans hp, hM, hq⟩
theorem LwXl.frame {l : Launch} {sa sv : Nat → Nat} {G : va_G} {tyc : List (ClassId × FieldType)} {y : MethodName} {wy : List Cond} {rm : Room} {b : Nat} {As : List Value} {ws T : va_W} {Q Q' : Int64 → va_W → Prop} (h : LwXl l sa sv G tyc y wy rm b As ws Q) (hQ : ∀ x w, Q x w → Q' x (w ++ T)) : LwXl l sa sv G tyc y wy rm b As (ws ++ T) Q' := by
  obtain ⟨wc, wr, S, post, w1, q0, fs, he, hp, hM, hq⟩ := h
  exact ⟨wc, wr ++ T, S, post, w1, q0, fs, he, by rw [← List.append_assoc]; exact hp.append_right T, hM, fun x u hx => by rw [← List.append_assoc]; exact hQ x _ (hq x u hx)⟩
theorem LwXl.perm {l : Launch} {sa sv : Nat → Nat} {G : va_G} {tyc : List (ClassId × FieldType)} {y : MethodName} {wy : List Cond} {rm : Room} {b : Nat} {As : List Value} {ws ws' : va_W} {Q : Int64 → va_W → Prop} (hp' : ws'.Perm ws) (h : LwXl l sa sv G tyc y wy rm b As ws Q) : LwXl l sa sv G tyc y wy rm b As ws' Q := by
  obtain ⟨wc, wr, S, post, w1, q0, fs, he, hp, hM, hq⟩ := h
  exact ⟨wc, wr, S, post, w1, q0, fs, he, hp'.trans hp, hM, hq⟩
theorem LwXd.frame {l : Launch} {sa sv : Nat → Nat} {G : va_G} {tyc : List (ClassId × FieldType)} {y : MethodName} {wy : List Cond} {rm : Room} {b : Nat} {As : List Value} {ws T : va_W} {Q Q' : UInt64 → va_W → Prop} (h : LwXd l sa sv G tyc y wy rm b As ws Q) (hQ : ∀ x w, Q x w → Q' x (w ++ T)) : LwXd l sa sv G tyc y wy rm b As (ws ++ T) Q' := by
  obtain ⟨wc, wr, S, post, w1, q0, fs, he, hp, hM, hq⟩ := h
  exact ⟨wc, wr ++ T, S, post, w1, q0, fs, he, by rw [← List.append_assoc]; exact hp.append_right T, hM, fun x u hx => by rw [← List.append_assoc]; exact hQ x _ (hq x u hx)⟩
section LK
variable {p : Program} {l : Launch} {e : Env} {R : Room} {s : State} {m : MethodId} {args : Array Value} {below : List Frame} {meth : Method} {c : Code} {H : Heap} {locs : List Loc} {cells slots : Nat} {Q : State → Prop}
variable {cc : ByteArray} {pc : Nat} {ls : Array Slot} {rest st0 : List Value} {G : va_G} {A : Nat → Prop} {tys tyc : List (ClassId × FieldType)} {ws wc wr : va_W} {mc ms : Nat} {S : Type}
variable {y : MethodName} {bytes : ByteArray} {maxL nL n index : Nat} {ret : Option FieldType} {wy ws' : List Cond} {rm : Room} {Ts : List Cond} {own C : String} {b : Nat} {As : List Value} {sa sv : Nat → Nat}
theorem mPreAS {av : List Value} {b L : Nat} {xs : Nat → Int32} (hX : va_X b L xs s s.heap) (hbl : b < s.heap.size) (hbA : ¬ A b) (hE : EnvP sa sv A s s.heap) (hS : va_S A s.heap H locs) (hA : ∀ q : Nat, s.heap.size ≤ q → A q) (hP : va_P G vwCl (wc ++ wr) H) (hD : va_D A (wc ++ wr)) (hKc : va_K G vwCl tyc s) : PreS s H (mPcS b L xs (mPcX sa sv G tyc av H.size wc)) av := by
  have h0 := mPreAX (av := av) hE hS hA hP hD hKc
  refine ⟨mBlindS h0.1, fun U hU hW => ⟨h0.2 U hU hW, ?_⟩⟩
  rw [hU]
  exact va_X.moved hW.alike (hX.kept (hS.2.1 b hbl hbA))
/-- a static call of a method of the law's own -/
theorem mCallPSS_i {b L : Nat} {xs : Nat → Int32} {post : Int32 → S → Prop} {w1 : S → va_W} (hX : va_X b L xs s s.heap) (hbl : b < s.heap.size) (hbA : ¬ A b) (hE : EnvP sa sv A s s.heap) (CF : CallFix p m c cc nL s args Ts own) (hM : Met l y wy rm (mPcS b L xs (mPcX sa sv G tyc As H.size wc)) (va_Qi (S := S) post (mB G tyc (va_A wc H.size) w1) (va_A wc H.size)) mc ms (va_A wc H.size)) (cw : CallB R s args own index y bytes maxL ret wy rm mc ms n ∧ (Cond.static y).before args s = true) (hP : va_P G vwCl ws H) (hD : va_D A ws) (hS : va_S A s.heap H locs) (hA : ∀ q : Nat, s.heap.size ≤ q → A q) (hKc : va_K G vwCl tyc s)
    (hp : ws.Perm (wc ++ wr))
    (hlen : As.length = n) (hsize : ls.size = nL) (hstack : st0 = As.reverse ++ rest) (hW : 2 * (F0 m pc ls st0).monitorRoom + (rest.map fun v => v.category).sum ≤ 8) (hdg : decode cc pc = .ok (.invokestatic index, 3)) (hroom : cells + mc ≤ R.cells ∧ slots + ms ≤ R.slots)
    (kk : ∀ (x : Int32) (u : S) (H1 : Heap) (locs1 : List Loc), post x u → va_P G vwCl (w1 u ++ wr) H1 → va_D A (w1 u ++ wr) → va_S A s.heap H1 locs1 → W p l e R s m args below meth c H1 locs1 (cells + mc) (slots + ms) Q (F0 m (pc + 3) ls (.int x :: rest))) : W p l e R s m args below meth c H locs cells slots Q (F0 m pc ls st0) := by
  have hP := hP.perm hp
  have hD := hD.perm hp
  have hpre := mPreAS (av := As) hX hbl hbA hE hS hA hP hD hKc
  refine va_calli (va_runS CF hM cw hpre rfl hlen hsize hstack hW hdg hroom) hS (fun q _ h => mFreeA (G := G) hD hS hA q h) (mFreeA (G := G) hD hS hA) (fun x u t H1 locs1 ht hvm hw hB hz1 hk1 hS1 => ?_)
  obtain ⟨hP1, -, hD1⟩ := hB
  rw [ht] at hP1
  obtain ⟨hP2, hD2⟩ := mPutA hP hD (mFreeA (G := G) hD hS hA) hk1 hP1 hD1
  exact kk x u H1 locs1 hw hP2 hD2 hS1
theorem LwS.call {c0 s0 : Nat} {Q0 : Int32 → va_W → Prop} {hh : List (Nat × Nat × Nat × Nat)} (h : LwS l sa sv G tys y wy c0 s0 As ws Q0) (n : Nat) (hE : EnvP sa sv A s s.heap) (CF : CallFix p m c cc nL s args Ts own) (hT : GoodIn Ts (va_wsS own index y wy)) (hw : wy = Cond.codeWith y bytes maxL ret hh :: ws') (hmx : maxL ≤ 20) (hd : y.cls ≠ "java/lang/invoke/MethodHandle" ∧ y.cls ≠ "java/lang/invoke/VarHandle" ∧ (parseMethodDescriptor y.desc).map (fun d => d.parameters.length) = some n) (hR : 9 ≤ R.frames ∧ 260 ≤ R.locals)
    (hP : va_P G vwCl ws H) (hD : va_D A ws) (hS : va_S A s.heap H locs) (hA : ∀ q : Nat, s.heap.size ≤ q → A q) (hK : va_K G vwCl tys s)
    (hlen : As.length = n) (hsize : ls.size = nL) (hstack : st0 = As.reverse ++ rest) (hW : 2 * (F0 m pc ls st0).monitorRoom + (rest.map fun v => v.category).sum ≤ 8) (hdg : decode cc pc = .ok (.invokestatic index, 3)) (hroom : cells + c0 ≤ R.cells ∧ slots + s0 ≤ R.slots)
    (kk : ∀ (x : Int32) (ws1 : va_W) (H1 : Heap) (locs1 : List Loc), Q0 x ws1 → va_P G vwCl ws1 H1 → va_D A ws1 → va_S A s.heap H1 locs1 → W p l e R s m args below meth c H1 locs1 (cells + c0) (slots + s0) Q (F0 m (pc + 3) ls (.int x :: rest))) : W p l e R s m args below meth c H locs cells slots Q (F0 m pc ls st0) := by
  obtain ⟨rm, mc, ms, wc, wr, S, post, w1, h1, h2, hc0, hs0, hf, hlc, hp, hM, hQ⟩ := h
  have hts : ∀ w ∈ Ts, w.before args s = true := by
    obtain ⟨-, -, -, -, h9⟩ := CF
    exact h9
  exact mCallWS_i hE CF (hM H.size) (vx_cwSW n hts hT hw h1 h2 hd ⟨by omega, by omega⟩) hP hD hS hA hK hp hlen hsize hstack hW hdg ⟨by omega, by omega⟩ (fun x u H1 locs1 hpo hP1 hD1 hS1 => W.widen (by omega) (by omega) (kk x _ H1 locs1 (hQ x u hpo) hP1 hD1 hS1))
theorem LwP.call {F Lo c0 s0 : Nat} {b L : Nat} {xs : Nat → Int32} {Q0 : Int32 → va_W → Prop} (h : LwP l sa sv G tys b L xs y wy F Lo c0 s0 As ws Q0) (n : Nat) (hX : va_X b L xs s s.heap) (hbl : b < s.heap.size) (hbA : ¬ A b) (hE : EnvP sa sv A s s.heap) (CF : CallFix p m c cc nL s args Ts own) (hT : GoodIn Ts (va_wsS own index y wy)) (hw : wy = Cond.code y bytes maxL ret :: ws') (hmx : maxL ≤ 20) (hd : y.cls ≠ "java/lang/invoke/MethodHandle" ∧ y.cls ≠ "java/lang/invoke/VarHandle" ∧ (parseMethodDescriptor y.desc).map (fun d => d.parameters.length) = some n) (hR : F + 1 ≤ R.frames ∧ Lo + 40 ≤ R.locals)
    (hP : va_P G vwCl ws H) (hD : va_D A ws) (hS : va_S A s.heap H locs) (hA : ∀ q : Nat, s.heap.size ≤ q → A q) (hK : va_K G vwCl tys s)
    (hlen : As.length = n) (hsize : ls.size = nL) (hstack : st0 = As.reverse ++ rest) (hW : 2 * (F0 m pc ls st0).monitorRoom + (rest.map fun v => v.category).sum ≤ 8) (hdg : decode cc pc = .ok (.invokestatic index, 3)) (hroom : cells + c0 ≤ R.cells ∧ slots + s0 ≤ R.slots)
    (kk : ∀ (x : Int32) (ws1 : va_W) (H1 : Heap) (locs1 : List Loc), Q0 x ws1 → va_P G vwCl ws1 H1 → va_D A ws1 → va_S A s.heap H1 locs1 → W p l e R s m args below meth c H1 locs1 (cells + c0) (slots + s0) Q (F0 m (pc + 3) ls (.int x :: rest))) : W p l e R s m args below meth c H locs cells slots Q (F0 m pc ls st0) := by
  obtain ⟨rm, wc, wr, S, post, w1, hc0, hs0, hf, hlc, hp, hM, hQ⟩ := h
  have hts : ∀ w ∈ Ts, w.before args s = true := by
    obtain ⟨-, -, -, -, h9⟩ := CF
    exact h9
  have hbw : ¬ va_A wc H.size b := fun hb => hbA (mFreeA (G := G) (hD.perm hp) hS hA b hb)
  exact mCallPSS_i hX hbl hbA hE CF (hM H.size (Nat.lt_of_lt_of_le hbl hS.1) hbw) (va_cwS n hts hT hw rfl rfl hd ⟨by omega, by omega⟩) hP hD hS hA hK hp hlen hsize hstack hW hdg ⟨by omega, by omega⟩ (fun x u H1 locs1 hpo hP1 hD1 hS1 => W.widen (by omega) (by omega) (kk x _ H1 locs1 (hQ x u hpo) hP1 hD1 hS1))
theorem LwX.call {Q0 : Int32 → va_W → Prop} (h : LwX l sa sv G tyc y wy rm b As ws Q0) (hE : EnvP sa sv A s s.heap) (CF : CallFix p m c cc nL s args Ts own) (cw : CallW R s args own C index y bytes maxL ret wy rm rm.cells rm.slots n) (hC : RX8 = C)
    (hP : va_P G vwCl ws H) (hD : va_D A ws) (hS : va_S A s.heap H locs) (hA : ∀ q : Nat, s.heap.size ≤ q → A q) (hKc : va_K G vwCl tyc s)
    (hlen : As.length = n) (hsize : ls.size = nL) (hstack : st0 = As.reverse ++ .ref b :: rest) (hW : 2 * (F0 m pc ls st0).monitorRoom + (rest.map fun v => v.category).sum ≤ 8) (hdg : decode cc pc = .ok (.invokevirtual index, 3)) (hroom : cells + rm.cells ≤ R.cells ∧ slots + rm.slots ≤ R.slots)
    (kk : ∀ (x : Int32) (ws1 : va_W) (H1 : Heap) (locs1 : List Loc), Q0 x ws1 → va_P G vwCl ws1 H1 → va_D A ws1 → va_S A s.heap H1 locs1 → W p l e R s m args below meth c H1 locs1 (cells + rm.cells) (slots + rm.slots) Q (F0 m (pc + 3) ls (.int x :: rest))) : W p l e R s m args below meth c H locs cells slots Q (F0 m pc ls st0) := by
  obtain ⟨wc, wr, S, post, w1, q0, fs, he, hp, hM, hQ⟩ := h
  exact mCallPXV_i hE CF (hM H.size) cw hP hD hS hA hKc hp q0 8 rfl he hC hlen hsize hstack hW hdg hroom (fun x u H1 locs1 hpo hP1 hD1 hS1 => kk x _ H1 locs1 (hQ x u hpo) hP1 hD1 hS1)
theorem mCallPXV_l {post : Int64 → S → Prop} {w1 : S → va_W} (hE : EnvP sa sv A s s.heap) (CF : CallFix p m c cc nL s args Ts own) (hM : Met l y wy rm (mPcX sa sv G tyc (.ref b :: As) H.size wc) (va_Ql (S := S) post (mB G tyc (va_A wc H.size) w1) (va_A wc H.size)) mc ms (va_A wc H.size)) (cw : CallW R s args own C index y bytes maxL ret wy rm mc ms n) (hP : va_P G vwCl ws H) (hD : va_D A ws) (hS : va_S A s.heap H locs) (hA : ∀ q : Nat, s.heap.size ≤ q → A q) (hKc : va_K G vwCl tyc s)
    (hp : ws.Perm (wc ++ wr)) (q0 ci : Nat) {qC : vw_C} {fs : List Value} (hcl : vwCl[ci]? = some qC) (he : wc[q0]? = some (b, .inr (ci, fs))) (hqC : qC.1 = C)
    (hlen : As.length = n) (hsize : ls.size = nL) (hstack : st0 = As.reverse ++ .ref b :: rest) (hW : 2 * (F0 m pc ls st0).monitorRoom + (rest.map fun v => v.category).sum ≤ 8) (hdg : decode cc pc = .ok (.invokevirtual index, 3)) (hroom : cells + mc ≤ R.cells ∧ slots + ms ≤ R.slots)
    (kk : ∀ (x : Int64) (u : S) (H1 : Heap) (locs1 : List Loc), post x u → va_P G vwCl (w1 u ++ wr) H1 → va_D A (w1 u ++ wr) → va_S A s.heap H1 locs1 → W p l e R s m args below meth c H1 locs1 (cells + mc) (slots + ms) Q (F0 m (pc + 3) ls (.long x :: rest))) : W p l e R s m args below meth c H locs cells slots Q (F0 m pc ls st0) := by
  subst hqC
  have hP := hP.perm hp
  have hD := hD.perm hp
  have hpre := mPreAX (av := .ref b :: As) hE hS hA hP hD hKc
  refine va_calll (va_runV CF hM cw ⟨hpre.1, va_recv hKc hP.left (ci := ci) (q0 := q0) hcl he, hpre.2⟩ rfl hlen hsize hstack hW hdg hroom) hS (fun q _ h => mFreeA (G := G) hD hS hA q h) (mFreeA (G := G) hD hS hA) (fun x u t H1 locs1 ht hvm hw hB hz1 hk1 hS1 => ?_)
  obtain ⟨hP1, -, hD1⟩ := hB
  rw [ht] at hP1
  obtain ⟨hP2, hD2⟩ := mPutA hP hD (mFreeA (G := G) hD hS hA) hk1 hP1 hD1
  exact kk x u H1 locs1 hw hP2 hD2 hS1
theorem mCallPXV_d {post : UInt64 → S → Prop} {w1 : S → va_W} (hE : EnvP sa sv A s s.heap) (CF : CallFix p m c cc nL s args Ts own) (hM : Met l y wy rm (mPcX sa sv G tyc (.ref b :: As) H.size wc) (va_Qd (S := S) post (mB G tyc (va_A wc H.size) w1) (va_A wc H.size)) mc ms (va_A wc H.size)) (cw : CallW R s args own C index y bytes maxL ret wy rm mc ms n) (hP : va_P G vwCl ws H) (hD : va_D A ws) (hS : va_S A s.heap H locs) (hA : ∀ q : Nat, s.heap.size ≤ q → A q) (hKc : va_K G vwCl tyc s)
    (hp : ws.Perm (wc ++ wr)) (q0 ci : Nat) {qC : vw_C} {fs : List Value} (hcl : vwCl[ci]? = some qC) (he : wc[q0]? = some (b, .inr (ci, fs))) (hqC : qC.1 = C)
    (hlen : As.length = n) (hsize : ls.size = nL) (hstack : st0 = As.reverse ++ .ref b :: rest) (hW : 2 * (F0 m pc ls st0).monitorRoom + (rest.map fun v => v.category).sum ≤ 8) (hdg : decode cc pc = .ok (.invokevirtual index, 3)) (hroom : cells + mc ≤ R.cells ∧ slots + ms ≤ R.slots)
    (kk : ∀ (x : UInt64) (u : S) (H1 : Heap) (locs1 : List Loc), post x u → va_P G vwCl (w1 u ++ wr) H1 → va_D A (w1 u ++ wr) → va_S A s.heap H1 locs1 → W p l e R s m args below meth c H1 locs1 (cells + mc) (slots + ms) Q (F0 m (pc + 3) ls (.double x :: rest))) : W p l e R s m args below meth c H locs cells slots Q (F0 m pc ls st0) := by
  subst hqC
  have hP := hP.perm hp
  have hD := hD.perm hp
  have hpre := mPreAX (av := .ref b :: As) hE hS hA hP hD hKc
  refine va_calld (va_runV CF hM cw ⟨hpre.1, va_recv hKc hP.left (ci := ci) (q0 := q0) hcl he, hpre.2⟩ rfl hlen hsize hstack hW hdg hroom) hS (fun q _ h => mFreeA (G := G) hD hS hA q h) (mFreeA (G := G) hD hS hA) (fun x u t H1 locs1 ht hvm hw hB hz1 hk1 hS1 => ?_)
  obtain ⟨hP1, -, hD1⟩ := hB
  rw [ht] at hP1
  obtain ⟨hP2, hD2⟩ := mPutA hP hD (mFreeA (G := G) hD hS hA) hk1 hP1 hD1
  exact kk x u H1 locs1 hw hP2 hD2 hS1
theorem LwXl.call {Q0 : Int64 → va_W → Prop} (h : LwXl l sa sv G tyc y wy rm b As ws Q0) (hE : EnvP sa sv A s s.heap) (CF : CallFix p m c cc nL s args Ts own) (cw : CallW R s args own C index y bytes maxL ret wy rm rm.cells rm.slots n) (hC : RX8 = C)
    (hP : va_P G vwCl ws H) (hD : va_D A ws) (hS : va_S A s.heap H locs) (hA : ∀ q : Nat, s.heap.size ≤ q → A q) (hKc : va_K G vwCl tyc s)
    (hlen : As.length = n) (hsize : ls.size = nL) (hstack : st0 = As.reverse ++ .ref b :: rest) (hW : 2 * (F0 m pc ls st0).monitorRoom + (rest.map fun v => v.category).sum ≤ 8) (hdg : decode cc pc = .ok (.invokevirtual index, 3)) (hroom : cells + rm.cells ≤ R.cells ∧ slots + rm.slots ≤ R.slots)
    (kk : ∀ (x : Int64) (ws1 : va_W) (H1 : Heap) (locs1 : List Loc), Q0 x ws1 → va_P G vwCl ws1 H1 → va_D A ws1 → va_S A s.heap H1 locs1 → W p l e R s m args below meth c H1 locs1 (cells + rm.cells) (slots + rm.slots) Q (F0 m (pc + 3) ls (.long x :: rest))) : W p l e R s m args below meth c H locs cells slots Q (F0 m pc ls st0) := by
  obtain ⟨wc, wr, S, post, w1, q0, fs, he, hp, hM, hQ⟩ := h
  exact mCallPXV_l hE CF (hM H.size) cw hP hD hS hA hKc hp q0 8 rfl he hC hlen hsize hstack hW hdg hroom (fun x u H1 locs1 hpo hP1 hD1 hS1 => kk x _ H1 locs1 (hQ x u hpo) hP1 hD1 hS1)
theorem LwXd.call {Q0 : UInt64 → va_W → Prop} (h : LwXd l sa sv G tyc y wy rm b As ws Q0) (hE : EnvP sa sv A s s.heap) (CF : CallFix p m c cc nL s args Ts own) (cw : CallW R s args own C index y bytes maxL ret wy rm rm.cells rm.slots n) (hC : RX8 = C)
    (hP : va_P G vwCl ws H) (hD : va_D A ws) (hS : va_S A s.heap H locs) (hA : ∀ q : Nat, s.heap.size ≤ q → A q) (hKc : va_K G vwCl tyc s)
    (hlen : As.length = n) (hsize : ls.size = nL) (hstack : st0 = As.reverse ++ .ref b :: rest) (hW : 2 * (F0 m pc ls st0).monitorRoom + (rest.map fun v => v.category).sum ≤ 8) (hdg : decode cc pc = .ok (.invokevirtual index, 3)) (hroom : cells + rm.cells ≤ R.cells ∧ slots + rm.slots ≤ R.slots)
    (kk : ∀ (x : UInt64) (ws1 : va_W) (H1 : Heap) (locs1 : List Loc), Q0 x ws1 → va_P G vwCl ws1 H1 → va_D A ws1 → va_S A s.heap H1 locs1 → W p l e R s m args below meth c H1 locs1 (cells + rm.cells) (slots + rm.slots) Q (F0 m (pc + 3) ls (.double x :: rest))) : W p l e R s m args below meth c H locs cells slots Q (F0 m pc ls st0) := by
  obtain ⟨wc, wr, S, post, w1, q0, fs, he, hp, hM, hQ⟩ := h
  exact mCallPXV_d hE CF (hM H.size) cw hP hD hS hA hKc hp q0 8 rfl he hC hlen hsize hstack hW hdg hroom (fun x u H1 locs1 hpo hP1 hD1 hS1 => kk x _ H1 locs1 (hQ x u hpo) hP1 hD1 hS1)
end LK

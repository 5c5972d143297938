-- calls of the class and of the model that answer a long or a double
section MW3
variable {p : Program} {l : Launch} {e : Env} {R : Room} {s : State} {m : MethodId} {args : Array Value} {below : List Frame} {meth : Method} {c : Code} {H : Heap} {locs : List Loc} {cells slots : Nat} {Q : State → Prop}
variable {cc : ByteArray} {pc : Nat} {ls : Array Slot} {rest st0 : List Value} {G : va_G} {A : Nat → Prop} {tys tyc : List (ClassId × FieldType)} {ws wc wr : va_W} {mc ms : Nat} {S : Type}
variable {y : MethodName} {bytes : ByteArray} {maxL nL n index : Nat} {ret : Option FieldType} {wy : List Cond} {rm : Room} {Ts : List Cond} {own C : String} {b : Nat} {As : List Value} {sa sv : Nat → Nat}
theorem mCallPXV_l {post : Int64 → S → Prop} {w1 : S → va_W} (hE : EnvP sa sv A s s.heap) (CF : CallFix p m c cc nL s args Ts own) (hM : Met l y wy rm (mPcX sa sv G tyc (.ref b :: As) H.size wc) (va_Ql (S := S) post (mB G tyc (va_A wc H.size) w1) (va_A wc H.size)) mc ms (va_A wc H.size)) (cw : CallW R s args own C index y bytes maxL ret wy rm mc ms n) (hP : va_P G vwCl ws H) (hD : va_D A ws) (hS : va_S A s.heap H locs) (hA : ∀ q : Nat, s.heap.size ≤ q → A q) (hKc : va_K G vwCl tyc s)
    (hp : ws.Perm (wc ++ wr)) (q0 ci : Nat) {qC : vw_C} {fs : List Value} (hcl : vwCl[ci]? = some qC) (he : wc[q0]? = some (b, .inr (ci, fs))) (hqC : qC.1 = C)
    (hlen : As.length = n) (hsize : ls.size = nL) (hstack : st0 = As.reverse ++ .ref b :: rest) (hW : 2 * (F0 m pc ls st0).monitorRoom + (rest.map fun v => v.category).sum ≤ 8) (hdg : decode cc pc = .ok (.invokevirtual index, 3)) (hroom : cells + mc ≤ R.cells ∧ slots + ms ≤ R.slots)
    (kk : ∀ (x : Int64) (u : S) (H1 : Heap) (locs1 : List Loc), post x u → va_P G vwCl (w1 u ++ wr) H1 → va_D A (w1 u ++ wr) → va_S A s.heap H1 locs1 → W p l e R s m args below meth c H1 locs1 (cells + mc) (slots + ms) Q (F0 m (pc + 3) ls (.long x :: rest))) : W p l e R s m args below meth c H locs cells slots Q (F0 m pc ls st0) := by
  subst hqC
  have hP := hP.perm hp
  have hD := hD.perm hp
  have hpre := mPreAX (av := .ref b :: As) hE hS hA hP hD hKc
  refine va_calll (va_runV CF hM cw ⟨hpre.1, va_recv hKc hP.left (ci := ci) (q0 := q0) hcl he, hpre.2⟩ rfl hlen hsize hstack hW hdg hroom) hS (fun q _ h => mFreeA (G := G) hD hS hA q h) (mFreeA (G := G) hD hS hA) (fun x u t H1 locs1 ht hvm hw hB hz1 hk1 hS1 => ?_)
  obtain ⟨hP1, -, hD1⟩ := hB
  rw [ht] at hP1
  obtain ⟨hP2, hD2⟩ := mPutA hP hD (mFreeA (G := G) hD hS hA) hk1 hP1 hD1
  exact kk x u H1 locs1 hw hP2 hD2 hS1
theorem mCallPV_l {post : Int64 → S → Prop} {w1 : S → va_W} (CF : CallFix p m c cc nL s args Ts own) (hM : Met l y wy rm (mPc G tyc (.ref b :: As) H.size wc) (va_Ql (S := S) post (mB G tyc (va_A wc H.size) w1) (va_A wc H.size)) mc ms (va_A wc H.size)) (cw : CallW R s args own C index y bytes maxL ret wy rm mc ms n) (hP : va_P G vwCl ws H) (hD : va_D A ws) (hS : va_S A s.heap H locs) (hA : ∀ q : Nat, s.heap.size ≤ q → A q) (hKc : va_K G vwCl tyc s)
    (hp : ws.Perm (wc ++ wr)) (q0 ci : Nat) {qC : vw_C} {fs : List Value} (hcl : vwCl[ci]? = some qC) (he : wc[q0]? = some (b, .inr (ci, fs))) (hqC : qC.1 = C)
    (hlen : As.length = n) (hsize : ls.size = nL) (hstack : st0 = As.reverse ++ .ref b :: rest) (hW : 2 * (F0 m pc ls st0).monitorRoom + (rest.map fun v => v.category).sum ≤ 8) (hdg : decode cc pc = .ok (.invokevirtual index, 3)) (hroom : cells + mc ≤ R.cells ∧ slots + ms ≤ R.slots)
    (kk : ∀ (x : Int64) (u : S) (H1 : Heap) (locs1 : List Loc), post x u → va_P G vwCl (w1 u ++ wr) H1 → va_D A (w1 u ++ wr) → va_S A s.heap H1 locs1 → W p l e R s m args below meth c H1 locs1 (cells + mc) (slots + ms) Q (F0 m (pc + 3) ls (.long x :: rest))) : W p l e R s m args below meth c H locs cells slots Q (F0 m pc ls st0) := by
  subst hqC
  have hP := hP.perm hp
  have hD := hD.perm hp
  have hpre := mPreA (av := .ref b :: As) hP hD hKc
  refine va_calll (va_runV CF hM cw ⟨hpre.1, va_recv hKc hP.left (ci := ci) (q0 := q0) hcl he, hpre.2⟩ rfl hlen hsize hstack hW hdg hroom) hS (fun q _ h => mFreeA (G := G) hD hS hA q h) (mFreeA (G := G) hD hS hA) (fun x u t H1 locs1 ht hvm hw hB hz1 hk1 hS1 => ?_)
  obtain ⟨hP1, -, hD1⟩ := hB
  rw [ht] at hP1
  obtain ⟨hP2, hD2⟩ := mPutA hP hD (mFreeA (G := G) hD hS hA) hk1 hP1 hD1
  exact kk x u H1 locs1 hw hP2 hD2 hS1
theorem mCallPXV_d {post : UInt64 → S → Prop} {w1 : S → va_W} (hE : EnvP sa sv A s s.heap) (CF : CallFix p m c cc nL s args Ts own) (hM : Met l y wy rm (mPcX sa sv G tyc (.ref b :: As) H.size wc) (va_Qd (S := S) post (mB G tyc (va_A wc H.size) w1) (va_A wc H.size)) mc ms (va_A wc H.size)) (cw : CallW R s args own C index y bytes maxL ret wy rm mc ms n) (hP : va_P G vwCl ws H) (hD : va_D A ws) (hS : va_S A s.heap H locs) (hA : ∀ q : Nat, s.heap.size ≤ q → A q) (hKc : va_K G vwCl tyc s)
    (hp : ws.Perm (wc ++ wr)) (q0 ci : Nat) {qC : vw_C} {fs : List Value} (hcl : vwCl[ci]? = some qC) (he : wc[q0]? = some (b, .inr (ci, fs))) (hqC : qC.1 = C)
    (hlen : As.length = n) (hsize : ls.size = nL) (hstack : st0 = As.reverse ++ .ref b :: rest) (hW : 2 * (F0 m pc ls st0).monitorRoom + (rest.map fun v => v.category).sum ≤ 8) (hdg : decode cc pc = .ok (.invokevirtual index, 3)) (hroom : cells + mc ≤ R.cells ∧ slots + ms ≤ R.slots)
    (kk : ∀ (x : UInt64) (u : S) (H1 : Heap) (locs1 : List Loc), post x u → va_P G vwCl (w1 u ++ wr) H1 → va_D A (w1 u ++ wr) → va_S A s.heap H1 locs1 → W p l e R s m args below meth c H1 locs1 (cells + mc) (slots + ms) Q (F0 m (pc + 3) ls (.double x :: rest))) : W p l e R s m args below meth c H locs cells slots Q (F0 m pc ls st0) := by
  subst hqC
  have hP := hP.perm hp
  have hD := hD.perm hp
  have hpre := mPreAX (av := .ref b :: As) hE hS hA hP hD hKc
  refine va_calld (va_runV CF hM cw ⟨hpre.1, va_recv hKc hP.left (ci := ci) (q0 := q0) hcl he, hpre.2⟩ rfl hlen hsize hstack hW hdg hroom) hS (fun q _ h => mFreeA (G := G) hD hS hA q h) (mFreeA (G := G) hD hS hA) (fun x u t H1 locs1 ht hvm hw hB hz1 hk1 hS1 => ?_)
  obtain ⟨hP1, -, hD1⟩ := hB
  rw [ht] at hP1
  obtain ⟨hP2, hD2⟩ := mPutA hP hD (mFreeA (G := G) hD hS hA) hk1 hP1 hD1
  exact kk x u H1 locs1 hw hP2 hD2 hS1
theorem mCallPV_d {post : UInt64 → S → Prop} {w1 : S → va_W} (CF : CallFix p m c cc nL s args Ts own) (hM : Met l y wy rm (mPc G tyc (.ref b :: As) H.size wc) (va_Qd (S := S) post (mB G tyc (va_A wc H.size) w1) (va_A wc H.size)) mc ms (va_A wc H.size)) (cw : CallW R s args own C index y bytes maxL ret wy rm mc ms n) (hP : va_P G vwCl ws H) (hD : va_D A ws) (hS : va_S A s.heap H locs) (hA : ∀ q : Nat, s.heap.size ≤ q → A q) (hKc : va_K G vwCl tyc s)
    (hp : ws.Perm (wc ++ wr)) (q0 ci : Nat) {qC : vw_C} {fs : List Value} (hcl : vwCl[ci]? = some qC) (he : wc[q0]? = some (b, .inr (ci, fs))) (hqC : qC.1 = C)
    (hlen : As.length = n) (hsize : ls.size = nL) (hstack : st0 = As.reverse ++ .ref b :: rest) (hW : 2 * (F0 m pc ls st0).monitorRoom + (rest.map fun v => v.category).sum ≤ 8) (hdg : decode cc pc = .ok (.invokevirtual index, 3)) (hroom : cells + mc ≤ R.cells ∧ slots + ms ≤ R.slots)
    (kk : ∀ (x : UInt64) (u : S) (H1 : Heap) (locs1 : List Loc), post x u → va_P G vwCl (w1 u ++ wr) H1 → va_D A (w1 u ++ wr) → va_S A s.heap H1 locs1 → W p l e R s m args below meth c H1 locs1 (cells + mc) (slots + ms) Q (F0 m (pc + 3) ls (.double x :: rest))) : W p l e R s m args below meth c H locs cells slots Q (F0 m pc ls st0) := by
  subst hqC
  have hP := hP.perm hp
  have hD := hD.perm hp
  have hpre := mPreA (av := .ref b :: As) hP hD hKc
  refine va_calld (va_runV CF hM cw ⟨hpre.1, va_recv hKc hP.left (ci := ci) (q0 := q0) hcl he, hpre.2⟩ rfl hlen hsize hstack hW hdg hroom) hS (fun q _ h => mFreeA (G := G) hD hS hA q h) (mFreeA (G := G) hD hS hA) (fun x u t H1 locs1 ht hvm hw hB hz1 hk1 hS1 => ?_)
  obtain ⟨hP1, -, hD1⟩ := hB
  rw [ht] at hP1
  obtain ⟨hP2, hD2⟩ := mPutA hP hD (mFreeA (G := G) hD hS hA) hk1 hP1 hD1
  exact kk x u H1 locs1 hw hP2 hD2 hS1
end MW3
def LwVl (l : Launch) (G : va_G) (tyc : List (ClassId × FieldType)) (y : MethodName) (wy : List Cond) (rm : Room) (b : Nat) (As : List Value) (ws : va_W) (Q : Int64 → va_W → Prop) : Prop :=
  ∃ (wc wr : va_W) (S : Type) (post : Int64 → S → Prop) (w1 : S → va_W) (q0 : Nat) (fs : List Value), wc[q0]? = some (b, .inr (9, fs)) ∧ ws.Perm (wc ++ wr) ∧ (∀ sz, Met l y wy rm (mPc G tyc (.ref b :: As) sz wc) (va_Ql (S := S) post (mB G tyc (va_A wc sz) w1) (va_A wc sz)) 0 0 (va_A wc sz)) ∧ ∀ x u, post x u → Q x (w1 u ++ wr)
def LwXl (l : Launch) (sa sv : Nat → Nat) (G : va_G) (tyc : List (ClassId × FieldType)) (y : MethodName) (wy : List Cond) (rm : Room) (b : Nat) (As : List Value) (ws : va_W) (Q : Int64 → va_W → Prop) : Prop :=
  ∃ (wc wr : va_W) (S : Type) (post : Int64 → S → Prop) (w1 : S → va_W) (q0 : Nat) (fs : List Value), wc[q0]? = some (b, .inr (8, fs)) ∧ ws.Perm (wc ++ wr) ∧ (∀ sz, Met l y wy rm (mPcX sa sv G tyc (.ref b :: As) sz wc) (va_Ql (S := S) post (mB G tyc (va_A wc sz) w1) (va_A wc sz)) rm.cells rm.slots (va_A wc sz)) ∧ ∀ x u, post x u → Q x (w1 u ++ wr)
section LKl
variable {p : Program} {l : Launch} {e : Env} {s : State} {m : MethodId} {args : Array Value} {below : List Frame} {meth : Method} {c : Code} {H : Heap} {locs : List Loc} {cells slots : Nat} {Q : State → Prop}
variable {cc : ByteArray} {pc : Nat} {ls : Array Slot} {rest st0 : List Value} {G : va_G} {A : Nat → Prop} {tys tyc : List (ClassId × FieldType)} {ws : va_W} {mc ms : Nat}
variable {y : MethodName} {bytes : ByteArray} {maxL nL n index : Nat} {ret : Option FieldType} {wy ws' : List Cond} {rm : Room} {Ts : List Cond} {own C : String} {b : Nat} {As : List Value} {sa sv : Nat → Nat} {Q0 : Int64 → va_W → Prop}
theorem LwVl.call (h : LwVl l G tyc y wy rm b As ws Q0) (CF : CallFix p m c cc nL s args Ts own) (cw : CallW room_1 s args own C index y bytes maxL ret wy rm 0 0 n) (hC : RX9 = C)
    (hP : va_P G vwCl ws H) (hD : va_D A ws) (hS : va_S A s.heap H locs) (hA : ∀ q : Nat, s.heap.size ≤ q → A q) (hKc : va_K G vwCl tyc s)
    (hlen : As.length = n) (hsize : ls.size = nL) (hstack : st0 = As.reverse ++ .ref b :: rest) (hW : 2 * (F0 m pc ls st0).monitorRoom + (rest.map fun v => v.category).sum ≤ 8) (hdg : decode cc pc = .ok (.invokevirtual index, 3)) (hroom : cells ≤ 601024 ∧ slots ≤ 7293034)
    (kk : ∀ (x : Int64) (ws1 : va_W) (H1 : Heap) (locs1 : List Loc), Q0 x ws1 → va_P G vwCl ws1 H1 → va_D A ws1 → va_S A s.heap H1 locs1 → W p l e room_1 s m args below meth c H1 locs1 cells slots Q (F0 m (pc + 3) ls (.long x :: rest))) : W p l e room_1 s m args below meth c H locs cells slots Q (F0 m pc ls st0) := by
  obtain ⟨wc, wr, S, post, w1, q0, fs, he, hp, hM, hQ⟩ := h
  exact mCallPV_l CF (hM H.size) cw hP hD hS hA hKc hp q0 9 rfl he hC hlen hsize hstack hW hdg ⟨by show cells + 0 ≤ 601024; omega, by show slots + 0 ≤ 7293034; omega⟩ (fun x u H1 locs1 hpo hP1 hD1 hS1 => kk x _ H1 locs1 (hQ x u hpo) hP1 hD1 hS1)
theorem LwXl.call (h : LwXl l sa sv G tyc y wy rm b As ws Q0) (hE : EnvP sa sv A s s.heap) (CF : CallFix p m c cc nL s args Ts own) (cw : CallW room_1 s args own C index y bytes maxL ret wy rm rm.cells rm.slots n) (hC : RX8 = C) (h16 : rm.cells ≤ 16) (h480 : rm.slots ≤ 480)
    (hP : va_P G vwCl ws H) (hD : va_D A ws) (hS : va_S A s.heap H locs) (hA : ∀ q : Nat, s.heap.size ≤ q → A q) (hKc : va_K G vwCl tyc s)
    (hlen : As.length = n) (hsize : ls.size = nL) (hstack : st0 = As.reverse ++ .ref b :: rest) (hW : 2 * (F0 m pc ls st0).monitorRoom + (rest.map fun v => v.category).sum ≤ 8) (hdg : decode cc pc = .ok (.invokevirtual index, 3)) (hroom : cells + 16 ≤ 601024 ∧ slots + 480 ≤ 7293034)
    (kk : ∀ (x : Int64) (ws1 : va_W) (H1 : Heap) (locs1 : List Loc), Q0 x ws1 → va_P G vwCl ws1 H1 → va_D A ws1 → va_S A s.heap H1 locs1 → W p l e room_1 s m args below meth c H1 locs1 (cells + 16) (slots + 480) Q (F0 m (pc + 3) ls (.long x :: rest))) : W p l e room_1 s m args below meth c H locs cells slots Q (F0 m pc ls st0) := by
  obtain ⟨wc, wr, S, post, w1, q0, fs, he, hp, hM, hQ⟩ := h
  exact mCallPXV_l hE CF (hM H.size) cw hP hD hS hA hKc hp q0 8 rfl he hC hlen hsize hstack hW hdg ⟨by show cells + rm.cells ≤ 601024; omega, by show slots + rm.slots ≤ 7293034; omega⟩ (fun x u H1 locs1 hpo hP1 hD1 hS1 => W.widen (by omega) (by omega) (kk x _ H1 locs1 (hQ x u hpo) hP1 hD1 hS1))
end LKl
def LwVd (l : Launch) (G : va_G) (tyc : List (ClassId × FieldType)) (y : MethodName) (wy : List Cond) (rm : Room) (b : Nat) (As : List Value) (ws : va_W) (Q : UInt64 → va_W → Prop) : Prop :=
  ∃ (wc wr : va_W) (S : Type) (post : UInt64 → S → Prop) (w1 : S → va_W) (q0 : Nat) (fs : List Value), wc[q0]? = some (b, .inr (9, fs)) ∧ ws.Perm (wc ++ wr) ∧ (∀ sz, Met l y wy rm (mPc G tyc (.ref b :: As) sz wc) (va_Qd (S := S) post (mB G tyc (va_A wc sz) w1) (va_A wc sz)) 0 0 (va_A wc sz)) ∧ ∀ x u, post x u → Q x (w1 u ++ wr)
def LwXd (l : Launch) (sa sv : Nat → Nat) (G : va_G) (tyc : List (ClassId × FieldType)) (y : MethodName) (wy : List Cond) (rm : Room) (b : Nat) (As : List Value) (ws : va_W) (Q : UInt64 → va_W → Prop) : Prop :=
  ∃ (wc wr : va_W) (S : Type) (post : UInt64 → S → Prop) (w1 : S → va_W) (q0 : Nat) (fs : List Value), wc[q0]? = some (b, .inr (8, fs)) ∧ ws.Perm (wc ++ wr) ∧ (∀ sz, Met l y wy rm (mPcX sa sv G tyc (.ref b :: As) sz wc) (va_Qd (S := S) post (mB G tyc (va_A wc sz) w1) (va_A wc sz)) rm.cells rm.slots (va_A wc sz)) ∧ ∀ x u, post x u → Q x (w1 u ++ wr)
section LKd
variable {p : Program} {l : Launch} {e : Env} {s : State} {m : MethodId} {args : Array Value} {below : List Frame} {meth : Method} {c : Code} {H : Heap} {locs : List Loc} {cells slots : Nat} {Q : State → Prop}
variable {cc : ByteArray} {pc : Nat} {ls : Array Slot} {rest st0 : List Value} {G : va_G} {A : Nat → Prop} {tys tyc : List (ClassId × FieldType)} {ws : va_W} {mc ms : Nat}
variable {y : MethodName} {bytes : ByteArray} {maxL nL n index : Nat} {ret : Option FieldType} {wy ws' : List Cond} {rm : Room} {Ts : List Cond} {own C : String} {b : Nat} {As : List Value} {sa sv : Nat → Nat} {Q0 : UInt64 → va_W → Prop}
theorem LwVd.call (h : LwVd l G tyc y wy rm b As ws Q0) (CF : CallFix p m c cc nL s args Ts own) (cw : CallW room_1 s args own C index y bytes maxL ret wy rm 0 0 n) (hC : RX9 = C)
    (hP : va_P G vwCl ws H) (hD : va_D A ws) (hS : va_S A s.heap H locs) (hA : ∀ q : Nat, s.heap.size ≤ q → A q) (hKc : va_K G vwCl tyc s)
    (hlen : As.length = n) (hsize : ls.size = nL) (hstack : st0 = As.reverse ++ .ref b :: rest) (hW : 2 * (F0 m pc ls st0).monitorRoom + (rest.map fun v => v.category).sum ≤ 8) (hdg : decode cc pc = .ok (.invokevirtual index, 3)) (hroom : cells ≤ 601024 ∧ slots ≤ 7293034)
    (kk : ∀ (x : UInt64) (ws1 : va_W) (H1 : Heap) (locs1 : List Loc), Q0 x ws1 → va_P G vwCl ws1 H1 → va_D A ws1 → va_S A s.heap H1 locs1 → W p l e room_1 s m args below meth c H1 locs1 cells slots Q (F0 m (pc + 3) ls (.double x :: rest))) : W p l e room_1 s m args below meth c H locs cells slots Q (F0 m pc ls st0) := by
  obtain ⟨wc, wr, S, post, w1, q0, fs, he, hp, hM, hQ⟩ := h
  exact mCallPV_d CF (hM H.size) cw hP hD hS hA hKc hp q0 9 rfl he hC hlen hsize hstack hW hdg ⟨by show cells + 0 ≤ 601024; omega, by show slots + 0 ≤ 7293034; omega⟩ (fun x u H1 locs1 hpo hP1 hD1 hS1 => kk x _ H1 locs1 (hQ x u hpo) hP1 hD1 hS1)
theorem LwXd.call (h : LwXd l sa sv G tyc y wy rm b As ws Q0) (hE : EnvP sa sv A s s.heap) (CF : CallFix p m c cc nL s args Ts own) (cw : CallW room_1 s args own C index y bytes maxL ret wy rm rm.cells rm.slots n) (hC : RX8 = C) (h16 : rm.cells ≤ 16) (h480 : rm.slots ≤ 480)
    (hP : va_P G vwCl ws H) (hD : va_D A ws) (hS : va_S A s.heap H locs) (hA : ∀ q : Nat, s.heap.size ≤ q → A q) (hKc : va_K G vwCl tyc s)
    (hlen : As.length = n) (hsize : ls.size = nL) (hstack : st0 = As.reverse ++ .ref b :: rest) (hW : 2 * (F0 m pc ls st0).monitorRoom + (rest.map fun v => v.category).sum ≤ 8) (hdg : decode cc pc = .ok (.invokevirtual index, 3)) (hroom : cells + 16 ≤ 601024 ∧ slots + 480 ≤ 7293034)
    (kk : ∀ (x : UInt64) (ws1 : va_W) (H1 : Heap) (locs1 : List Loc), Q0 x ws1 → va_P G vwCl ws1 H1 → va_D A ws1 → va_S A s.heap H1 locs1 → W p l e room_1 s m args below meth c H1 locs1 (cells + 16) (slots + 480) Q (F0 m (pc + 3) ls (.double x :: rest))) : W p l e room_1 s m args below meth c H locs cells slots Q (F0 m pc ls st0) := by
  obtain ⟨wc, wr, S, post, w1, q0, fs, he, hp, hM, hQ⟩ := h
  exact mCallPXV_d hE CF (hM H.size) cw hP hD hS hA hKc hp q0 8 rfl he hC hlen hsize hstack hW hdg ⟨by show cells + rm.cells ≤ 601024; omega, by show slots + rm.slots ≤ 7293034; omega⟩ (fun x u H1 locs1 hpo hP1 hD1 hS1 => W.widen (by omega) (by omega) (kk x _ H1 locs1 (hQ x u hpo) hP1 hD1 hS1))
end LKd

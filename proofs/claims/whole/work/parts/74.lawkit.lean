-- the law: calls of wrappers and of the model in a world, by what they leave
theorem lw_lcmp {p : Program} {l : Launch} {e : Env} {R : Room} {s : State} {m : MethodId} {args : Array Value} {below : List Frame} {meth : Method} {c : Code} {H : Heap} {locs : List Loc} {cells slots : Nat} {Q : State → Prop} {cc : ByteArray} {pc : Nat} {ls : Array Slot} {rest : List Value} (hexec : p.tables.exec = Jvm.exec) (hb : c.code = cc) {x : Int64} (hdg : decode cc pc = .ok (.lcmp, 1))
    (k : W p l e R s m args below meth c H locs cells slots Q (F0 m (pc + 1) ls (.int 0 :: rest))) : W p l e R s m args below meth c H locs cells slots Q (F0 m pc ls (.long x :: .long x :: rest)) := by
  intro T hT X
  obtain ⟨t, a, b⟩ := k T hT X
  refine ⟨t, ?_, b⟩
  have h1 : ¬ x > x := Int64.lt_irrefl
  have h2 : (x == x) = true := beq_self_eq_true x
  jvm_step X.here [X.here.top, hexec, hb, hdg, h1, h2]
  exact a
/-- a wrapper's call -/
def LwS (l : Launch) (sa sv : Nat → Nat) (G : va_G) (tys : List (ClassId × FieldType)) (y : MethodName) (wy : List Cond) (As : List Value) (ws : va_W) (Q : Int32 → va_W → Prop) : Prop :=
  ∃ (rm : Room) (mc ms : Nat) (wc wr : va_W) (S : Type) (post : Int32 → S → Prop) (w1 : S → va_W), rm.cells = mc ∧ rm.slots = ms ∧ mc ≤ 16 ∧ ms ≤ 480 ∧ rm.frames ≤ 11 ∧ rm.locals ≤ 300 ∧ ws.Perm (wc ++ wr) ∧ (∀ sz, vx_Met l y wy rm (mPcX sa sv G tys As sz wc) (va_Qi (S := S) post (mB G tys (va_A wc sz) w1) (va_A wc sz)) noX mc ms (va_A wc sz)) ∧ ∀ x u, post x u → Q x (w1 u ++ wr)
/-- a call of the model -/
def LwV (l : Launch) (G : va_G) (tyc : List (ClassId × FieldType)) (y : MethodName) (wy : List Cond) (rm : Room) (b : Nat) (As : List Value) (ws : va_W) (Q : Int32 → va_W → Prop) : Prop :=
  ∃ (wc wr : va_W) (S : Type) (post : Int32 → S → Prop) (w1 : S → va_W) (q0 : Nat) (fs : List Value), wc[q0]? = some (b, .inr (9, fs)) ∧ ws.Perm (wc ++ wr) ∧ (∀ sz, Met l y wy rm (mPc G tyc (.ref b :: As) sz wc) (va_Qi (S := S) post (mB G tyc (va_A wc sz) w1) (va_A wc sz)) 0 0 (va_A wc sz)) ∧ ∀ x u, post x u → Q x (w1 u ++ wr)
/-- a call of the class that throws nothing -/
def LwX (l : Launch) (sa sv : Nat → Nat) (G : va_G) (tyc : List (ClassId × FieldType)) (y : MethodName) (wy : List Cond) (rm : Room) (b : Nat) (As : List Value) (ws : va_W) (Q : Int32 → va_W → Prop) : Prop :=
  ∃ (wc wr : va_W) (S : Type) (post : Int32 → S → Prop) (w1 : S → va_W) (q0 : Nat) (fs : List Value), wc[q0]? = some (b, .inr (8, fs)) ∧ ws.Perm (wc ++ wr) ∧ (∀ sz, Met l y wy rm (mPcX sa sv G tyc (.ref b :: As) sz wc) (va_Qi (S := S) post (mB G tyc (va_A wc sz) w1) (va_A wc sz)) rm.cells rm.slots (va_A wc sz)) ∧ ∀ x u, post x u → Q x (w1 u ++ wr)
section LK
variable {p : Program} {l : Launch} {e : Env} {s : State} {m : MethodId} {args : Array Value} {below : List Frame} {meth : Method} {c : Code} {H : Heap} {locs : List Loc} {cells slots : Nat} {Q : State → Prop}
variable {cc : ByteArray} {pc : Nat} {ls : Array Slot} {rest st0 : List Value} {G : va_G} {A : Nat → Prop} {tys tyc : List (ClassId × FieldType)} {ws : va_W} {mc ms : Nat}
variable {y : MethodName} {bytes : ByteArray} {maxL nL n index : Nat} {ret : Option FieldType} {wy ws' : List Cond} {rm : Room} {Ts : List Cond} {own C : String} {b : Nat} {As : List Value} {sa sv : Nat → Nat} {Q0 : Int32 → va_W → Prop}
theorem LwS.call {hh : List (Nat × Nat × Nat × Nat)} (h : LwS l sa sv G tys y wy As ws Q0) (n : Nat) (hE : EnvP sa sv A s s.heap) (CF : CallFix p m c cc nL s args Ts own) (hT : GoodIn Ts (va_wsS own index y wy)) (hw : wy = Cond.codeWith y bytes maxL ret hh :: ws') (hmx : maxL ≤ 20) (hd : y.cls ≠ "java/lang/invoke/MethodHandle" ∧ y.cls ≠ "java/lang/invoke/VarHandle" ∧ (parseMethodDescriptor y.desc).map (fun d => d.parameters.length) = some n)
    (hP : va_P G vwCl ws H) (hD : va_D A ws) (hS : va_S A s.heap H locs) (hA : ∀ q : Nat, s.heap.size ≤ q → A q) (hK : va_K G vwCl tys s)
    (hlen : As.length = n) (hsize : ls.size = nL) (hstack : st0 = As.reverse ++ rest) (hW : 2 * (F0 m pc ls st0).monitorRoom + (rest.map fun v => v.category).sum ≤ 8) (hdg : decode cc pc = .ok (.invokestatic index, 3)) (hroom : cells + 16 ≤ 601024 ∧ slots + 480 ≤ 7293034)
    (kk : ∀ (x : Int32) (ws1 : va_W) (H1 : Heap) (locs1 : List Loc), Q0 x ws1 → va_P G vwCl ws1 H1 → va_D A ws1 → va_S A s.heap H1 locs1 → W p l e room_1 s m args below meth c H1 locs1 (cells + 16) (slots + 480) Q (F0 m (pc + 3) ls (.int x :: rest))) : W p l e room_1 s m args below meth c H locs cells slots Q (F0 m pc ls st0) := by
  obtain ⟨rm, mc, ms, wc, wr, S, post, w1, h1, h2, h16, h480, hf, hlc, hp, hM, hQ⟩ := h
  have hts : ∀ w ∈ Ts, w.before args s = true := by
    obtain ⟨-, -, -, -, h9⟩ := CF
    exact h9
  exact mCallWS_i hE CF (hM H.size) (vx_cwSW n hts hT hw h1 h2 hd ⟨by show rm.frames + 1 ≤ 12; omega, by show 8 + (maxL + 11) + rm.locals ≤ 440; omega⟩) hP hD hS hA hK hp hlen hsize hstack hW hdg ⟨by show cells + mc ≤ 601024; omega, by show slots + ms ≤ 7293034; omega⟩ (fun x u H1 locs1 hpo hP1 hD1 hS1 => W.widen (by omega) (by omega) (kk x _ H1 locs1 (hQ x u hpo) hP1 hD1 hS1))
theorem LwV.call (h : LwV l G tyc y wy rm b As ws Q0) (CF : CallFix p m c cc nL s args Ts own) (cw : CallW room_1 s args own C index y bytes maxL ret wy rm 0 0 n) (hC : RX9 = C)
    (hP : va_P G vwCl ws H) (hD : va_D A ws) (hS : va_S A s.heap H locs) (hA : ∀ q : Nat, s.heap.size ≤ q → A q) (hKc : va_K G vwCl tyc s)
    (hlen : As.length = n) (hsize : ls.size = nL) (hstack : st0 = As.reverse ++ .ref b :: rest) (hW : 2 * (F0 m pc ls st0).monitorRoom + (rest.map fun v => v.category).sum ≤ 8) (hdg : decode cc pc = .ok (.invokevirtual index, 3)) (hroom : cells ≤ 601024 ∧ slots ≤ 7293034)
    (kk : ∀ (x : Int32) (ws1 : va_W) (H1 : Heap) (locs1 : List Loc), Q0 x ws1 → va_P G vwCl ws1 H1 → va_D A ws1 → va_S A s.heap H1 locs1 → W p l e room_1 s m args below meth c H1 locs1 cells slots Q (F0 m (pc + 3) ls (.int x :: rest))) : W p l e room_1 s m args below meth c H locs cells slots Q (F0 m pc ls st0) := by
  obtain ⟨wc, wr, S, post, w1, q0, fs, he, hp, hM, hQ⟩ := h
  exact mCallPV_i CF (hM H.size) cw hP hD hS hA hKc hp q0 9 rfl he hC hlen hsize hstack hW hdg ⟨by show cells + 0 ≤ 601024; omega, by show slots + 0 ≤ 7293034; omega⟩ (fun x u H1 locs1 hpo hP1 hD1 hS1 => kk x _ H1 locs1 (hQ x u hpo) hP1 hD1 hS1)
theorem LwX.call (h : LwX l sa sv G tyc y wy rm b As ws Q0) (hE : EnvP sa sv A s s.heap) (CF : CallFix p m c cc nL s args Ts own) (cw : CallW room_1 s args own C index y bytes maxL ret wy rm rm.cells rm.slots n) (hC : RX8 = C) (h16 : rm.cells ≤ 16) (h480 : rm.slots ≤ 480)
    (hP : va_P G vwCl ws H) (hD : va_D A ws) (hS : va_S A s.heap H locs) (hA : ∀ q : Nat, s.heap.size ≤ q → A q) (hKc : va_K G vwCl tyc s)
    (hlen : As.length = n) (hsize : ls.size = nL) (hstack : st0 = As.reverse ++ .ref b :: rest) (hW : 2 * (F0 m pc ls st0).monitorRoom + (rest.map fun v => v.category).sum ≤ 8) (hdg : decode cc pc = .ok (.invokevirtual index, 3)) (hroom : cells + 16 ≤ 601024 ∧ slots + 480 ≤ 7293034)
    (kk : ∀ (x : Int32) (ws1 : va_W) (H1 : Heap) (locs1 : List Loc), Q0 x ws1 → va_P G vwCl ws1 H1 → va_D A ws1 → va_S A s.heap H1 locs1 → W p l e room_1 s m args below meth c H1 locs1 (cells + 16) (slots + 480) Q (F0 m (pc + 3) ls (.int x :: rest))) : W p l e room_1 s m args below meth c H locs cells slots Q (F0 m pc ls st0) := by
  obtain ⟨wc, wr, S, post, w1, q0, fs, he, hp, hM, hQ⟩ := h
  exact mCallPXV_i hE CF (hM H.size) cw hP hD hS hA hKc hp q0 8 rfl he hC hlen hsize hstack hW hdg ⟨by show cells + rm.cells ≤ 601024; omega, by show slots + rm.slots ≤ 7293034; omega⟩ (fun x u H1 locs1 hpo hP1 hD1 hS1 => W.widen (by omega) (by omega) (kk x _ H1 locs1 (hQ x u hpo) hP1 hD1 hS1))
end LK
/-- what stands through the law -/
def LC (p : Program) (s : State) (m : MethodId) (c : Code) (A : Nat → Prop) (sa sv : Nat → Nat) (G : va_G) (cI cS cJ : ClassId) (b L : Nat) (xs : Nat → Int32) : Prop :=
  p.tables.exec = Jvm.exec ∧ c.code = cL_law ∧ c.maxLocals = 9 ∧ s.vm.findClass RL = some m.cls ∧ (∀ w ∈ wsL_law, w.before #[.ref b] s = true) ∧ va_X b L xs s s.heap ∧ b < s.heap.size ∧ ¬ A b ∧ va_K G vwCl (tyw cI cS cJ) s ∧ EnvP sa sv A s s.heap ∧ (∀ q, s.heap.size ≤ q → A q) ∧ L ≤ 2048
/-- an int of the script on the stack -/
theorem lw_ld {p : Program} {l : Launch} {e : Env} {s : State} {m : MethodId} {below : List Frame} {meth : Method} {c : Code} {H : Heap} {locs : List Loc} {cells slots : Nat} {Q : State → Prop} {pc : Nat} {ls : Array Slot} {rest : List Value} {G : va_G} {A : Nat → Prop} {sa sv : Nat → Nat} {cI cS cJ : ClassId} {b L : Nat} {xs : Nat → Int32} (C : LC p s m c A sa sv G cI cS cJ b L xs) {i : Nat} (g0 : ls[0]? = some (.val (.ref b))) (g4 : ls[4]? = some (.val (.int (nI i)))) (hS : va_S A s.heap H locs) (k : Nat) {kz : Int} (hk : Int32.ofInt kz = nI k) (hik : i + k < L)
    (d0 : decode cL_law pc = .ok (.aload_n 0, 1)) (d1 : decode cL_law (pc + 1) = .ok (.iload 4, 2)) (d3 : decode cL_law (pc + 3) = .ok (.iconst kz, 1)) (d4 : decode cL_law (pc + 4) = .ok (.iadd, 1)) (d5 : decode cL_law (pc + 5) = .ok (.iaload, 1))
    (kk : W p l e room_1 s m #[.ref b] below meth c H locs cells slots Q (F0 m (pc + 6) ls (.int (xs (i + k)) :: rest))) : W p l e room_1 s m #[.ref b] below meth c H locs cells slots Q (F0 m pc ls rest) := by
  obtain ⟨hx, hb, hml, hown, hts, hX, hbl, hbA, hK, hE, hA, hL⟩ := C
  refine lv_aload_n hx hb d0 rfl g0 ?_
  refine lv_iload hx hb d1 g4 ?_
  refine lv_iconst (v := nI k) hx hb d3 hk ?_
  refine lv_iadd hx hb d4 ?_
  rw [show nI i + nI k = nI (i + k) from nI_add _ _]
  have hin : vp_in (nI (i + k)) L := by
    refine vp_lit (decide_eq_false ?_)
    rw [nI_clamp (by omega), Int32.lt_iff_toInt_lt, nI_toInt (by omega), show (0 : Int32).toInt = 0 from rfl]
    omega
  refine va_sld hx hb hX hbl hbA hS hin d5 ?_
  rw [nI_clamp (by omega)]
  exact kk

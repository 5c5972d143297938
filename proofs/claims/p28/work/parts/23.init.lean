-- History.<init>, DeafChain.<init>
/-- with the class of rows of states -/
def mPcAO (P : Array Value → State → Prop) : Array Value → State → Prop := fun a U => P a U ∧ va_AO RX5 U
theorem mBlindAO {P : Array Value → State → Prop} (h : FrameBlind P) : FrameBlind (mPcAO P) := fun a U g mk q => ⟨h a U g mk q.1, va_AO.moved (u := U) (U := U.calling g mk a) (Vm.Alike.refl U.vm) q.2⟩
theorem mStartAO {l : Launch} {y : MethodName} {wy ws' : List Cond} {rm : Room} {G : va_G} {tys : List (ClassId × FieldType)} {av : List Value} {sz : Nat} {ws : va_W} {Qc : Array Value → State → Outcome → State → Prop} {mc ms : Nat} {cc : ByteArray} {maxL : Nat} {ret : Option FieldType}
    (hy : plainName y.cls = true) (hw : wy = Cond.code y cc maxL ret :: ws') (hav : (lg_sl av).length ≤ maxL)
    (body : ∀ (p : Program) (e : Env) (s : State) (m : MethodId) (below : List Frame) (meth : Method) (c : Code) (A : Nat → Prop) (ls : Array Slot), p.tables.exec = Jvm.exec → c.code = cc → c.maxLocals = maxL → meth.sig.returnType = ret → (∀ w ∈ wy, w.before av.toArray s = true) → s.vm.findClass y.cls = some m.cls → meth.locks = false → meth.name = y.name → (∀ q : Nat, s.heap.size ≤ q → A q) → s.heap.size = sz → va_A ws sz = A → va_P G vwCl ws s.heap → va_K G vwCl tys s → va_D A ws → va_AO RX5 s → va_S A s.heap s.heap [] → lv_has ls maxL (lv_args 0 av) → W p l e rm s m av.toArray below meth c s.heap [] 0 0 (MQ below Qc av.toArray s mc ms A) (F0 m 0 ls [])) :
    Met l y wy rm (mPcAO (mPc G tys av sz ws)) Qc mc ms (va_A ws sz) := by
  refine Met.ofW (cc := cc) (maxL := maxL) (ret := ret) hy hw ?_
  intro p e s m args below meth c s₁ B hml hv
  obtain ⟨⟨rfl, hsz, hP, hK, hD0⟩, hAO⟩ := hv
  have hl := lv_entry av (n := maxL) hav
  rw [lg_entry_eq]
  subst hsz
  exact body p e s m below meth c (va_A ws s.heap.size) _ B.exec B.bytes hml B.returns (atoms_spec (ws := wy) B.pre) (findClass_of_methodNamed B.named) B.notSynchronized (name_of_methodNamed B.named B.method).1 (fun q h => Or.inr h) rfl rfl hP hK hD0.self hAO va_S.rf hl
theorem mStartXAO {l : Launch} {y : MethodName} {wy ws' : List Cond} {rm : Room} {sa sv : Nat → Nat} {G : va_G} {tys : List (ClassId × FieldType)} {av : List Value} {sz : Nat} {ws : va_W} {Qc : Array Value → State → Outcome → State → Prop} {mc ms : Nat} {cc : ByteArray} {maxL : Nat} {ret : Option FieldType}
    (hy : plainName y.cls = true) (hw : wy = Cond.code y cc maxL ret :: ws') (hav : (lg_sl av).length ≤ maxL)
    (body : ∀ (p : Program) (e : Env) (s : State) (m : MethodId) (below : List Frame) (meth : Method) (c : Code) (A : Nat → Prop) (ls : Array Slot), p.tables.exec = Jvm.exec → c.code = cc → c.maxLocals = maxL → meth.sig.returnType = ret → (∀ w ∈ wy, w.before av.toArray s = true) → s.vm.findClass y.cls = some m.cls → meth.locks = false → meth.name = y.name → (∀ q : Nat, s.heap.size ≤ q → A q) → s.heap.size = sz → va_A ws sz = A → va_P G vwCl ws s.heap → va_K G vwCl tys s → va_D A ws → EnvP sa sv A s s.heap → va_AO RX5 s → va_S A s.heap s.heap [] → lv_has ls maxL (lv_args 0 av) → W p l e rm s m av.toArray below meth c s.heap [] 0 0 (MQ below Qc av.toArray s mc ms A) (F0 m 0 ls [])) :
    Met l y wy rm (mPcAO (mPcX sa sv G tys av sz ws)) Qc mc ms (va_A ws sz) := by
  refine Met.ofW (cc := cc) (maxL := maxL) (ret := ret) hy hw ?_
  intro p e s m args below meth c s₁ B hml hv
  obtain ⟨⟨rfl, hsz, hP, hK, hD0, hE⟩, hAO⟩ := hv
  have hl := lv_entry av (n := maxL) hav
  rw [lg_entry_eq]
  subst hsz
  exact body p e s m below meth c (va_A ws s.heap.size) _ B.exec B.bytes hml B.returns (atoms_spec (ws := wy) B.pre) (findClass_of_methodNamed B.named) B.notSynchronized (name_of_methodNamed B.named B.method).1 (fun q h => Or.inr h) rfl rfl hP hK hD0.self hE hAO va_S.rf hl
theorem mObjEq {G : va_G} {cI cS cA : ClassId} {s : State} (h : va_K G vwCl (tyH cI cS ++ [(cA, .object RX5)]) s) : cA = cS := by
  obtain ⟨-, -, -, -, -, h1⟩ := (h.2 1 (cS, .object RX5) rfl).2
  obtain ⟨-, -, -, -, -, h2⟩ := (h.2 2 (cA, .object RX5) rfl).2
  exact Option.some.inj (h2.symm.trans h1)
section MPO
variable {p : Program} {l : Launch} {e : Env} {R : Room} {s : State} {m : MethodId} {args : Array Value} {below : List Frame} {meth : Method} {c : Code} {H : Heap} {locs : List Loc} {cells slots : Nat} {Q : State → Prop}
variable {cc : ByteArray} {pc : Nat} {ls : Array Slot} {rest st0 : List Value} {G : va_G} {A : Nat → Prop} {tys tyc : List (ClassId × FieldType)} {ws wc wr : va_W} {mc ms : Nat} {S : Type}
variable {y : MethodName} {bytes : ByteArray} {maxL nL n index : Nat} {ret : Option FieldType} {wy : List Cond} {rm : Room} {Ts : List Cond} {own C : String} {b : Nat} {As : List Value} {sa sv : Nat → Nat}
theorem mCallPAN_v {host : String} {post : S → Prop} {w1 : S → va_W} (hAO : va_AO RX5 s) (CF : CallFix p m c cc nL s args Ts own) (hM : Met l y wy rm (mPcAO (mPc G tyc (.ref b :: As) H.size wc)) (va_Qv (S := S) post (mB G tyc (va_A wc H.size) w1) (va_A wc H.size)) mc ms (va_A wc H.size)) (cw : va_CN R s args own index y host bytes maxL none wy rm mc ms n ∧ y.name = "<init>" ∧ (Cond.instanceMethod y).before args s = true) (hP : va_P G vwCl ws H) (hD : va_D A ws) (hS : va_S A s.heap H locs) (hA : ∀ q : Nat, s.heap.size ≤ q → A q) (hKc : va_K G vwCl tyc s)
    (hp : ws.Perm (wc ++ wr))
    (hlen : As.length = n) (hsize : ls.size = nL) (hstack : st0 = As.reverse ++ .ref b :: rest) (hW : 2 * (F0 m pc ls st0).monitorRoom + (rest.map fun v => v.category).sum ≤ 8) (hdg : decode cc pc = .ok (.invokespecial index, 3)) (hroom : cells + mc ≤ R.cells ∧ slots + ms ≤ R.slots)
    (kk : ∀ (u : S) (H1 : Heap) (locs1 : List Loc), post u → va_P G vwCl (w1 u ++ wr) H1 → va_D A (w1 u ++ wr) → va_S A s.heap H1 locs1 → W p l e R s m args below meth c H1 locs1 (cells + mc) (slots + ms) Q (F0 m (pc + 3) ls rest)) : W p l e R s m args below meth c H locs cells slots Q (F0 m pc ls st0) := by
  have hP := hP.perm hp
  have hD := hD.perm hp
  have hpre0 := mPreA (av := .ref b :: As) hP hD hKc
  have hpre : PreS s H (mPcAO (mPc G tyc (.ref b :: As) H.size wc)) (.ref b :: As) := ⟨mBlindAO hpre0.1, fun U hU hW => ⟨hpre0.2 U hU hW, va_AO.moved hW.alike hAO⟩⟩
  refine va_callv (va_runIN CF hM cw hpre rfl hlen hsize hstack hW hdg hroom) hS (fun q _ h => mFreeA (G := G) hD hS hA q h) (mFreeA (G := G) hD hS hA) (fun u t H1 locs1 ht hvm hw hB hz1 hk1 hS1 => ?_)
  obtain ⟨hP1, -, hD1⟩ := hB
  rw [ht] at hP1
  obtain ⟨hP2, hD2⟩ := mPutA hP hD (mFreeA (G := G) hD hS hA) hk1 hP1 hD1
  exact kk u H1 locs1 hw hP2 hD2 hS1
theorem mCallPN_v {host : String} {post : S → Prop} {w1 : S → va_W} (CF : CallFix p m c cc nL s args Ts own) (hM : Met l y wy rm (mPc G tyc (.ref b :: As) H.size wc) (va_Qv (S := S) post (mB G tyc (va_A wc H.size) w1) (va_A wc H.size)) mc ms (va_A wc H.size)) (cw : va_CN R s args own index y host bytes maxL none wy rm mc ms n ∧ y.name = "<init>" ∧ (Cond.instanceMethod y).before args s = true) (hP : va_P G vwCl ws H) (hD : va_D A ws) (hS : va_S A s.heap H locs) (hA : ∀ q : Nat, s.heap.size ≤ q → A q) (hKc : va_K G vwCl tyc s)
    (hp : ws.Perm (wc ++ wr))
    (hlen : As.length = n) (hsize : ls.size = nL) (hstack : st0 = As.reverse ++ .ref b :: rest) (hW : 2 * (F0 m pc ls st0).monitorRoom + (rest.map fun v => v.category).sum ≤ 8) (hdg : decode cc pc = .ok (.invokespecial index, 3)) (hroom : cells + mc ≤ R.cells ∧ slots + ms ≤ R.slots)
    (kk : ∀ (u : S) (H1 : Heap) (locs1 : List Loc), post u → va_P G vwCl (w1 u ++ wr) H1 → va_D A (w1 u ++ wr) → va_S A s.heap H1 locs1 → W p l e R s m args below meth c H1 locs1 (cells + mc) (slots + ms) Q (F0 m (pc + 3) ls rest)) : W p l e R s m args below meth c H locs cells slots Q (F0 m pc ls st0) := by
  have hP := hP.perm hp
  have hD := hD.perm hp
  have hpre := mPreA (av := .ref b :: As) hP hD hKc
  refine va_callv (va_runIN CF hM cw hpre rfl hlen hsize hstack hW hdg hroom) hS (fun q _ h => mFreeA (G := G) hD hS hA q h) (mFreeA (G := G) hD hS hA) (fun u t H1 locs1 ht hvm hw hB hz1 hk1 hS1 => ?_)
  obtain ⟨hP1, -, hD1⟩ := hB
  rw [ht] at hP1
  obtain ⟨hP2, hD2⟩ := mPutA hP hD (mFreeA (G := G) hD hS hA) hk1 hP1 hD1
  exact kk u H1 locs1 hw hP2 hD2 hS1
end MPO
theorem iwX1_init_X1 : ∀ w ∈ u_ws RX1 TX1 2, w ∈ wsX1_init := by decide +kernel
set_option maxHeartbeats 4000000 in
set_option maxRecDepth 100000 in
theorem mX1_init (l : Launch) (G : va_G) (cI cS : ClassId) (sz ah : Nat) : Met l yX1_init wsX1_init ({ frames := 1, cells := 1, slots := 6, locals := 12 }) (mPcAO (mPc G (tyH cI cS) [.ref ah] sz [(ah, .inr (1, [.null, .int 0]))])) (va_Qv (S := Nat) (fun _ => True) (mB G (tyH cI cS) (va_A [(ah, .inr (1, [.null, .int 0]))] sz) (fun as => hsW cS ah as (nI 0) [])) (va_A [(ah, .inr (1, [.null, .int 0]))] sz)) 1 6 (va_A [(ah, .inr (1, [.null, .int 0]))] sz) := by
  refine mStartAO (cc := cX1_init) (maxL := 1) (ret := none) (by decide) rfl (Nat.le_of_ble_eq_true rfl) ?_
  intro p e s m below meth c A ls hx hb hml hr hts hown hlocks hnm hA hsz hAe hP hK hD hAO hS hl
  rw [hAe]
  have hl : lv_has ls 1 [(0, .ref ah)] := hl
  have k1 := hts (.methodLink RX1 3 objectInit) (by decide +kernel)
  have k2 := hts (.instanceMethod objectInit) (by decide +kernel)
  have k3 := hts (.code objectInit ⟨#[0xb1]⟩ 1 none) (by decide +kernel)
  have k4 := hts (.classLink RX1 9 RX5) (by decide +kernel)
  have k5 := hts (.fieldLink RX1 11 "DeafChain$History" "saved" "[LDeafChain$State;") (by decide +kernel)
  refine lv_aload_n hx hb dX1_init_0 rfl (lv_at hl 0 rfl) ?_
  refine W.objInit hx hb hown k1 k2 k3 rfl (by rw [hml]; exact hl.1) rfl dX1_init_1 (Nat.le_of_ble_eq_true rfl) (Nat.le_of_ble_eq_true rfl) ?_
  refine W.eq (g2 := F0 m 4 ls []) rfl ?_
  refine lv_aload_n hx hb dX1_init_4 rfl (lv_at hl 0 rfl) ?_
  refine lv_bipush (v := 6) hx hb dX1_init_5 (by decide) ?_
  refine va_newq hx hb hown k4 hAO hK hP hD hS hA (n := 6) (N' := 6) (by decide) (by decide +kernel) (Nat.le_of_ble_eq_true rfl) (Nat.le_of_ble_eq_true rfl) (Nat.le_of_ble_eq_true rfl) dX1_init_7 (fun as cA H hK9 hP hD hS => ?_)
  obtain rfl : cS = cA := (mObjEq hK9).symm
  refine va_putF (D := G) (ci := 1) (v := .ref as) (ty := .array (.object "DeafChain$State")) (C := RX1) (T := TX1) (N := 2) hx hb hts iwX1_init_X1 tyX1 tyX1_ok nmX1 hown hK hP hD hS 0 rfl rfl 0 (by decide) k5 (fun _ h9 => h9) rfl hnm rfl (by decide +kernel) rfl rfl (Nat.le_of_ble_eq_true rfl) dX1_init_10 (fun H locs hP hD hS => ?_)
  have e1 : (fun _ : Nat => (none : Option Nat)) = svOf [] := rfl
  have hP : va_P G vwCl (hsW cS ah as (nI 0) []) H := hP
  have hD : va_D A (hsW cS ah as (nI 0) []) := hD
  exact mEnd_v as hx hb hr hlocks hP hK hD hS rfl (Nat.le_of_ble_eq_true rfl) (Nat.le_of_ble_eq_true rfl) dX1_init_13
theorem iwX8_init_X8 : ∀ w ∈ u_ws RX8 TX8 6, w ∈ wsX8_init := by decide +kernel
theorem iwX8_init_X5 : ∀ w ∈ u_ws RX5 TX5 7, w ∈ wsX8_init := by decide +kernel
theorem iwX8_init_X1 : ∀ w ∈ u_ws RX1 TX1 2, w ∈ wsX8_init := by decide +kernel
theorem iwX8_init_X3 : ∀ w ∈ u_ws RX3 TX3 8, w ∈ wsX8_init := by decide +kernel
theorem iwX8_init_X4 : ∀ w ∈ u_ws RX4 TX4 3, w ∈ wsX8_init := by decide +kernel
theorem iwX8_init_X6 : ∀ w ∈ u_ws RX6 TX6 3, w ∈ wsX8_init := by decide +kernel
/-- the values of a new State -/
def iniV (r0 : R0T) : Nat → Nat → Int32 := fun k => match k with | 0 => fun _ => r0.1 | 1 => fun _ => r0.2.1 | 2 => fun _ => r0.2.2.1 | 3 => r0.2.2.2.1 | 4 => r0.2.2.2.2.1 | 5 => r0.2.2.2.2.2.1 | 6 => r0.2.2.2.2.2.2.1 | 7 => r0.2.2.2.2.2.2.2.1 | 8 => r0.2.2.2.2.2.2.2.2.1 | 9 => fun _ => r0.2.2.2.2.2.2.2.2.2.1 | 10 => r0.2.2.2.2.2.2.2.2.2.2.1 | 11 => r0.2.2.2.2.2.2.2.2.2.2.2.1 | 12 => r0.2.2.2.2.2.2.2.2.2.2.2.2.1 | 13 => fun _ => r0.2.2.2.2.2.2.2.2.2.2.2.2.2.1 | 14 => r0.2.2.2.2.2.2.2.2.2.2.2.2.2.2.1 | 15 => r0.2.2.2.2.2.2.2.2.2.2.2.2.2.2.2.1 | 16 => r0.2.2.2.2.2.2.2.2.2.2.2.2.2.2.2.2 | _ => fun _ => 0
/-- orders, sentence, trip of a new chain -/
abbrev orW (cI : ClassId) (a : Nat) (u : Nat → Nat) (r : Int32 × Int32 × Int32 × Int32 × Int32 × Int32 × (Nat → Int32) × Int32 × Int32 × (Nat → Int32)) : va_W := [(a, .inr (3, [.ref (u 0), .int r.1, .int r.2.1, .int r.2.2.1, .int r.2.2.2.1, .int r.2.2.2.2.1, .int r.2.2.2.2.2.1, .ref (u 1)]))] ++ [((u 0), .inl (cI, 60, .inl r.2.2.2.2.2.2.1)), ((u 1), .inr (4, [.ref (u 2), .int r.2.2.2.2.2.2.2.1, .int r.2.2.2.2.2.2.2.2.1])), ((u 2), .inl (cI, 12, .inl r.2.2.2.2.2.2.2.2.2))]
abbrev seW (cI : ClassId) (a : Nat) (u : Nat → Nat) (r : Int32 × Int32 × (Nat → Int32)) : va_W := [(a, .inr (4, [.ref (u 0), .int r.1, .int r.2.1]))] ++ [((u 0), .inl (cI, 12, .inl r.2.2))]
abbrev tpW (cI : ClassId) (a : Nat) (u : Nat → Nat) (r : (Nat → Int32) × (Nat → Int32) × (Nat → Int32)) : va_W := [(a, .inr (6, [.ref (u 0), .ref (u 1), .ref (u 2)]))] ++ [((u 0), .inl (cI, 84, .inl r.1)), ((u 1), .inl (cI, 7, .inl r.2.1)), ((u 2), .inl (cI, 12, .inl r.2.2))]
/-- the addresses of a new chain: its State's block; history, its row; orders with theirs; sentence; trip -/
abbrev NcA := Blk × (Nat × Nat) × (Nat × (Nat → Nat)) × (Nat × (Nat → Nat)) × (Nat × (Nat → Nat))
def ncW (cI cS : ClassId) (ad : Nat) (r3 : Int32 × Int32 × Int32 × Int32 × Int32 × Int32 × (Nat → Int32) × Int32 × Int32 × (Nat → Int32)) (r4 : Int32 × Int32 × (Nat → Int32)) (r6 : (Nat → Int32) × (Nat → Int32) × (Nat → Int32)) (u : NcA) : va_W :=
  tpW cI u.2.2.2.2.1 u.2.2.2.2.2 r6 ++ (seW cI u.2.2.2.1.1 u.2.2.2.1.2 r4 ++ (orW cI u.2.2.1.1 u.2.2.1.2 r3 ++ (hsW cS u.2.1.1 u.2.1.2 (nI 0) [] ++ (stW cI u.1 ++ [(ad, .inr (8, [.ref (u.1.1 0), .ref u.2.1.1, .ref u.2.2.1.1, .ref u.2.2.2.1.1, .ref u.2.2.2.2.1, .null]))]))))
set_option maxHeartbeats 8000000 in
set_option maxRecDepth 100000 in
theorem mX8_init (l : Launch) (sa sv : Nat → Nat) (G : va_G) (cI cS : ClassId) (sz ad : Nat) (r0 : R0T) (h0 : fX5_init = some r0) (r3 : (Int32 × Int32 × Int32 × Int32 × Int32 × Int32 × (Nat → Int32) × Int32 × Int32 × (Nat → Int32))) (h3 : fX3_init = some r3) (r4 : Int32 × Int32 × (Nat → Int32)) (h4 : fX4_init = some r4) (r6 : (Nat → Int32) × (Nat → Int32) × (Nat → Int32)) (h6 : fX6_init = some r6) : Met l yX8_init wsX8_init ({ frames := 3, cells := 28, slots := 692, locals := 60 }) (mPcAO (mPcX sa sv G (tyH cI cS) [.ref ad] sz [(ad, .inr (8, [.null, .null, .null, .null, .null, .null]))])) (va_Qv (S := NcA) (fun u => u.1.2 = iniV r0) (mB G (tyH cI cS) (va_A [(ad, .inr (8, [.null, .null, .null, .null, .null, .null]))] sz) (ncW cI cS ad r3 r4 r6)) (va_A [(ad, .inr (8, [.null, .null, .null, .null, .null, .null]))] sz)) 28 692 (va_A [(ad, .inr (8, [.null, .null, .null, .null, .null, .null]))] sz) := by
  refine mStartXAO (cc := cX8_init) (maxL := 1) (ret := none) (by decide) rfl (Nat.le_of_ble_eq_true rfl) ?_
  intro p e s m below meth c A ls hx hb hml hr hts hown hlocks hnm hA hsz hAe hP hK hD hE hAO hS hl
  rw [hAe]
  have hl : lv_has ls 1 [(0, .ref ad)] := hl
  have hKI := hK.sub (tys' := [(cI, .int)]) [0] rfl
  have k1 := hts (.methodLink RX8 1 objectInit) (by decide +kernel)
  have k2 := hts (.instanceMethod objectInit) (by decide +kernel)
  have k3 := hts (.code objectInit ⟨#[0xb1]⟩ 1 none) (by decide +kernel)
  refine lv_aload_n hx hb dX8_init_0 rfl (lv_at hl 0 rfl) ?_
  refine W.objInit hx hb hown k1 k2 k3 rfl (by rw [hml]; exact hl.1) rfl dX8_init_1 (Nat.le_of_ble_eq_true rfl) (Nat.le_of_ble_eq_true rfl) ?_
  refine W.eq (g2 := F0 m 4 ls []) rfl ?_
  refine lv_aload_n hx hb dX8_init_4 rfl (lv_at hl 0 rfl) ?_
  have j1 := hts (.classLink RX8 7 RX5) (by decide +kernel)
  have j2 := hts (.instantiable RX5 7) (by decide +kernel)
  have j3 := hts (.initialized RX5) (by decide +kernel)
  have j4 := hts (.instanceMethod yX5_init) (by decide +kernel)
  have j5 := hts (.fieldLink RX8 10 "DeafChain" "now" "LDeafChain$State;") (by decide +kernel)
  refine va_new (ci := 5) (fs := [.null, .null, .null, .null, .int 0, .int 0, .int 0]) (C := RX5) (T := TX5) (N := 7) hx hb hts iwX8_init_X5 tyX5 tyX5_ok hown j1 j2 j3 hK hP hD hS hA rfl (fun j hj => by rcases (show j = 0 ∨ j = 1 ∨ j = 2 ∨ j = 3 ∨ j = 4 ∨ j = 5 ∨ j = 6 by omega) with rfl | rfl | rfl | rfl | rfl | rfl | rfl <;> rfl) (Nat.le_of_ble_eq_true rfl) (Nat.le_of_ble_eq_true rfl) dX8_init_5 (fun q5 H hP hD hS => ?_)
  refine lv_dup hx hb dX8_init_8 rfl ?_
  refine mCallPXN_v (As := []) (rest := [.ref q5, .ref ad]) (wr := ([(ad, .inr (8, [.null, .null, .null, .null, .null, .null]))] : va_W)) hE ⟨hx, hb, hml, hown, hts⟩ (mX5_init l sa sv G cI q5 H.size r0 h0) ⟨va_cnB 0 hts gX8_init_X5_init_n9 rfl rfl rfl (hE.1 _ (List.mem_of_getElem? (i := 0) rfl)) j3 (by decide +kernel) ⟨Nat.le_of_ble_eq_true rfl, Nat.le_of_ble_eq_true rfl⟩, rfl, j4⟩ hP hD hS hA hKI List.perm_append_comm rfl hl.1 rfl (lv_room (Nat.le_of_ble_eq_true rfl)) dX8_init_9 ⟨Nat.le_of_ble_eq_true rfl, Nat.le_of_ble_eq_true rfl⟩ (fun u5 H locs _ hP hD hS => ?_)
  obtain ⟨b1, eb1⟩ : ∃ z : Blk, z = (((fun k => match k with | 0 => q5 | k + 1 => u5 k), iniV r0) : Blk) := ⟨_, rfl⟩
  have hP : va_P G vwCl (stW cI b1 ++ ([(ad, .inr (8, [.null, .null, .null, .null, .null, .null]))] : va_W)) H := by rw [eb1]; exact hP
  have hD : va_D A (stW cI b1 ++ ([(ad, .inr (8, [.null, .null, .null, .null, .null, .null]))] : va_W)) := by rw [eb1]; exact hD
  have eq0 : q5 = b1.1 0 := by rw [eb1]
  refine W.eq (g2 := F0 m 12 ls [.ref (b1.1 0), .ref ad]) (by rw [← eq0]) ?_
  refine va_putF (D := G) (ci := 8) (v := .ref (b1.1 0)) (ty := .object "DeafChain$State") (C := RX8) (T := TX8) (N := 6) hx hb hts iwX8_init_X8 tyX8 tyX8_ok nmX8 hown hK hP hD hS 16 rfl rfl 0 (by decide) j5 (fun _ h9 => h9) rfl hnm rfl (by decide +kernel) rfl rfl (Nat.le_of_ble_eq_true rfl) dX8_init_12 (fun H locs hP hD hS => ?_)
  have hP : va_P G vwCl (stW cI b1 ++ ([(ad, .inr (8, [.ref (b1.1 0), .null, .null, .null, .null, .null]))] : va_W)) H := hP
  have hD : va_D A (stW cI b1 ++ ([(ad, .inr (8, [.ref (b1.1 0), .null, .null, .null, .null, .null]))] : va_W)) := hD
  refine lv_aload_n hx hb dX8_init_15 rfl (lv_at hl 0 rfl) ?_
  have j1 := hts (.classLink RX8 16 RX1) (by decide +kernel)
  have j2 := hts (.instantiable RX1 2) (by decide +kernel)
  have j3 := hts (.initialized RX1) (by decide +kernel)
  have j4 := hts (.instanceMethod yX1_init) (by decide +kernel)
  have j5 := hts (.fieldLink RX8 19 "DeafChain" "history" "LDeafChain$History;") (by decide +kernel)
  refine va_new (ci := 1) (fs := [.null, .int 0]) (C := RX1) (T := TX1) (N := 2) hx hb hts iwX8_init_X1 tyX1 tyX1_ok hown j1 j2 j3 hK hP hD hS hA rfl (fun j hj => by rcases (show j = 0 ∨ j = 1 by omega) with rfl | rfl <;> rfl) (Nat.le_of_ble_eq_true rfl) (Nat.le_of_ble_eq_true rfl) dX8_init_16 (fun q1 H hP hD hS => ?_)
  refine lv_dup hx hb dX8_init_19 rfl ?_
  refine mCallPAN_v (As := []) (rest := [.ref q1, .ref ad]) (wr := (stW cI b1 ++ ([(ad, .inr (8, [.ref (b1.1 0), .null, .null, .null, .null, .null]))] : va_W))) hAO ⟨hx, hb, hml, hown, hts⟩ (mX1_init l G cI cS H.size q1) ⟨va_cnB 0 hts gX8_init_X1_init_n18 rfl rfl rfl (hE.1 _ (List.mem_of_getElem? (i := 1) rfl)) j3 (by decide +kernel) ⟨Nat.le_of_ble_eq_true rfl, Nat.le_of_ble_eq_true rfl⟩, rfl, j4⟩ hP hD hS hA hK List.perm_append_comm rfl hl.1 rfl (lv_room (Nat.le_of_ble_eq_true rfl)) dX8_init_20 ⟨Nat.le_of_ble_eq_true rfl, Nat.le_of_ble_eq_true rfl⟩ (fun u1 H locs _ hP hD hS => ?_)
  have hP : va_P G vwCl (hsW cS q1 u1 (nI 0) [] ++ (stW cI b1 ++ ([(ad, .inr (8, [.ref (b1.1 0), .null, .null, .null, .null, .null]))] : va_W))) H := hP
  have hD : va_D A (hsW cS q1 u1 (nI 0) [] ++ (stW cI b1 ++ ([(ad, .inr (8, [.ref (b1.1 0), .null, .null, .null, .null, .null]))] : va_W))) := hD
  refine va_putF (D := G) (ci := 8) (v := .ref q1) (ty := .object "DeafChain$History") (C := RX8) (T := TX8) (N := 6) hx hb hts iwX8_init_X8 tyX8 tyX8_ok nmX8 hown hK hP hD hS 18 rfl rfl 1 (by decide) j5 (fun _ h9 => h9) rfl hnm rfl (by decide +kernel) rfl rfl (Nat.le_of_ble_eq_true rfl) dX8_init_23 (fun H locs hP hD hS => ?_)
  have hP : va_P G vwCl (hsW cS q1 u1 (nI 0) [] ++ (stW cI b1 ++ ([(ad, .inr (8, [.ref (b1.1 0), .ref q1, .null, .null, .null, .null]))] : va_W))) H := hP
  have hD : va_D A (hsW cS q1 u1 (nI 0) [] ++ (stW cI b1 ++ ([(ad, .inr (8, [.ref (b1.1 0), .ref q1, .null, .null, .null, .null]))] : va_W))) := hD
  refine lv_aload_n hx hb dX8_init_26 rfl (lv_at hl 0 rfl) ?_
  have j1 := hts (.classLink RX8 23 RX3) (by decide +kernel)
  have j2 := hts (.instantiable RX3 8) (by decide +kernel)
  have j3 := hts (.initialized RX3) (by decide +kernel)
  have j4 := hts (.instanceMethod yX3_init) (by decide +kernel)
  have j5 := hts (.fieldLink RX8 26 "DeafChain" "orders" "LDeafChain$Orders;") (by decide +kernel)
  refine va_new (ci := 3) (fs := [.null, .int 0, .int 0, .int 0, .int 0, .int 0, .int 0, .null]) (C := RX3) (T := TX3) (N := 8) hx hb hts iwX8_init_X3 tyX3 tyX3_ok hown j1 j2 j3 hK hP hD hS hA rfl (fun j hj => by rcases (show j = 0 ∨ j = 1 ∨ j = 2 ∨ j = 3 ∨ j = 4 ∨ j = 5 ∨ j = 6 ∨ j = 7 by omega) with rfl | rfl | rfl | rfl | rfl | rfl | rfl | rfl <;> rfl) (Nat.le_of_ble_eq_true rfl) (Nat.le_of_ble_eq_true rfl) dX8_init_27 (fun q3 H hP hD hS => ?_)
  refine lv_dup hx hb dX8_init_30 rfl ?_
  refine mCallPXN_v (As := []) (rest := [.ref q3, .ref ad]) (wr := (hsW cS q1 u1 (nI 0) [] ++ (stW cI b1 ++ ([(ad, .inr (8, [.ref (b1.1 0), .ref q1, .null, .null, .null, .null]))] : va_W)))) hE ⟨hx, hb, hml, hown, hts⟩ (mX3_init l sa sv G cI q3 H.size r3 h3) ⟨va_cnB 0 hts gX8_init_X3_init_n25 rfl rfl rfl (hE.1 _ (List.mem_of_getElem? (i := 2) rfl)) j3 (by decide +kernel) ⟨Nat.le_of_ble_eq_true rfl, Nat.le_of_ble_eq_true rfl⟩, rfl, j4⟩ hP hD hS hA hKI List.perm_append_comm rfl hl.1 rfl (lv_room (Nat.le_of_ble_eq_true rfl)) dX8_init_31 ⟨Nat.le_of_ble_eq_true rfl, Nat.le_of_ble_eq_true rfl⟩ (fun u3 H locs _ hP hD hS => ?_)
  have hP : va_P G vwCl (orW cI q3 u3 r3 ++ (hsW cS q1 u1 (nI 0) [] ++ (stW cI b1 ++ ([(ad, .inr (8, [.ref (b1.1 0), .ref q1, .null, .null, .null, .null]))] : va_W)))) H := hP
  have hD : va_D A (orW cI q3 u3 r3 ++ (hsW cS q1 u1 (nI 0) [] ++ (stW cI b1 ++ ([(ad, .inr (8, [.ref (b1.1 0), .ref q1, .null, .null, .null, .null]))] : va_W)))) := hD
  refine va_putF (D := G) (ci := 8) (v := .ref q3) (ty := .object "DeafChain$Orders") (C := RX8) (T := TX8) (N := 6) hx hb hts iwX8_init_X8 tyX8 tyX8_ok nmX8 hown hK hP hD hS 22 rfl rfl 2 (by decide) j5 (fun _ h9 => h9) rfl hnm rfl (by decide +kernel) rfl rfl (Nat.le_of_ble_eq_true rfl) dX8_init_34 (fun H locs hP hD hS => ?_)
  have hP : va_P G vwCl (orW cI q3 u3 r3 ++ (hsW cS q1 u1 (nI 0) [] ++ (stW cI b1 ++ ([(ad, .inr (8, [.ref (b1.1 0), .ref q1, .ref q3, .null, .null, .null]))] : va_W)))) H := hP
  have hD : va_D A (orW cI q3 u3 r3 ++ (hsW cS q1 u1 (nI 0) [] ++ (stW cI b1 ++ ([(ad, .inr (8, [.ref (b1.1 0), .ref q1, .ref q3, .null, .null, .null]))] : va_W)))) := hD
  refine lv_aload_n hx hb dX8_init_37 rfl (lv_at hl 0 rfl) ?_
  have j1 := hts (.classLink RX8 30 RX4) (by decide +kernel)
  have j2 := hts (.instantiable RX4 3) (by decide +kernel)
  have j3 := hts (.initialized RX4) (by decide +kernel)
  have j4 := hts (.instanceMethod yX4_init) (by decide +kernel)
  have j5 := hts (.fieldLink RX8 33 "DeafChain" "sentence" "LDeafChain$Sentence;") (by decide +kernel)
  refine va_new (ci := 4) (fs := [.null, .int 0, .int 0]) (C := RX4) (T := TX4) (N := 3) hx hb hts iwX8_init_X4 tyX4 tyX4_ok hown j1 j2 j3 hK hP hD hS hA rfl (fun j hj => by rcases (show j = 0 ∨ j = 1 ∨ j = 2 by omega) with rfl | rfl | rfl <;> rfl) (Nat.le_of_ble_eq_true rfl) (Nat.le_of_ble_eq_true rfl) dX8_init_38 (fun q4 H hP hD hS => ?_)
  refine lv_dup hx hb dX8_init_41 rfl ?_
  refine mCallPN_v (As := []) (rest := [.ref q4, .ref ad]) (wr := (orW cI q3 u3 r3 ++ (hsW cS q1 u1 (nI 0) [] ++ (stW cI b1 ++ ([(ad, .inr (8, [.ref (b1.1 0), .ref q1, .ref q3, .null, .null, .null]))] : va_W))))) ⟨hx, hb, hml, hown, hts⟩ (mX4_init l G cI q4 H.size r4 h4) ⟨va_cnB 0 hts gX8_init_X4_init_n32 rfl rfl rfl (hE.1 _ (List.mem_of_getElem? (i := 3) rfl)) j3 (by decide +kernel) ⟨Nat.le_of_ble_eq_true rfl, Nat.le_of_ble_eq_true rfl⟩, rfl, j4⟩ hP hD hS hA hKI List.perm_append_comm rfl hl.1 rfl (lv_room (Nat.le_of_ble_eq_true rfl)) dX8_init_42 ⟨Nat.le_of_ble_eq_true rfl, Nat.le_of_ble_eq_true rfl⟩ (fun u4 H locs _ hP hD hS => ?_)
  have hP : va_P G vwCl (seW cI q4 u4 r4 ++ (orW cI q3 u3 r3 ++ (hsW cS q1 u1 (nI 0) [] ++ (stW cI b1 ++ ([(ad, .inr (8, [.ref (b1.1 0), .ref q1, .ref q3, .null, .null, .null]))] : va_W))))) H := hP
  have hD : va_D A (seW cI q4 u4 r4 ++ (orW cI q3 u3 r3 ++ (hsW cS q1 u1 (nI 0) [] ++ (stW cI b1 ++ ([(ad, .inr (8, [.ref (b1.1 0), .ref q1, .ref q3, .null, .null, .null]))] : va_W))))) := hD
  refine va_putF (D := G) (ci := 8) (v := .ref q4) (ty := .object "DeafChain$Sentence") (C := RX8) (T := TX8) (N := 6) hx hb hts iwX8_init_X8 tyX8 tyX8_ok nmX8 hown hK hP hD hS 24 rfl rfl 3 (by decide) j5 (fun _ h9 => h9) rfl hnm rfl (by decide +kernel) rfl rfl (Nat.le_of_ble_eq_true rfl) dX8_init_45 (fun H locs hP hD hS => ?_)
  have hP : va_P G vwCl (seW cI q4 u4 r4 ++ (orW cI q3 u3 r3 ++ (hsW cS q1 u1 (nI 0) [] ++ (stW cI b1 ++ ([(ad, .inr (8, [.ref (b1.1 0), .ref q1, .ref q3, .ref q4, .null, .null]))] : va_W))))) H := hP
  have hD : va_D A (seW cI q4 u4 r4 ++ (orW cI q3 u3 r3 ++ (hsW cS q1 u1 (nI 0) [] ++ (stW cI b1 ++ ([(ad, .inr (8, [.ref (b1.1 0), .ref q1, .ref q3, .ref q4, .null, .null]))] : va_W))))) := hD
  refine lv_aload_n hx hb dX8_init_48 rfl (lv_at hl 0 rfl) ?_
  have j1 := hts (.classLink RX8 37 RX6) (by decide +kernel)
  have j2 := hts (.instantiable RX6 3) (by decide +kernel)
  have j3 := hts (.initialized RX6) (by decide +kernel)
  have j4 := hts (.instanceMethod yX6_init) (by decide +kernel)
  have j5 := hts (.fieldLink RX8 40 "DeafChain" "trip" "LDeafChain$Trip;") (by decide +kernel)
  refine va_new (ci := 6) (fs := [.null, .null, .null]) (C := RX6) (T := TX6) (N := 3) hx hb hts iwX8_init_X6 tyX6 tyX6_ok hown j1 j2 j3 hK hP hD hS hA rfl (fun j hj => by rcases (show j = 0 ∨ j = 1 ∨ j = 2 by omega) with rfl | rfl | rfl <;> rfl) (Nat.le_of_ble_eq_true rfl) (Nat.le_of_ble_eq_true rfl) dX8_init_49 (fun q6 H hP hD hS => ?_)
  refine lv_dup hx hb dX8_init_52 rfl ?_
  refine mCallPN_v (As := []) (rest := [.ref q6, .ref ad]) (wr := (seW cI q4 u4 r4 ++ (orW cI q3 u3 r3 ++ (hsW cS q1 u1 (nI 0) [] ++ (stW cI b1 ++ ([(ad, .inr (8, [.ref (b1.1 0), .ref q1, .ref q3, .ref q4, .null, .null]))] : va_W)))))) ⟨hx, hb, hml, hown, hts⟩ (mX6_init l G cI q6 H.size r6 h6) ⟨va_cnB 0 hts gX8_init_X6_init_n39 rfl rfl rfl (hE.1 _ (List.mem_of_getElem? (i := 4) rfl)) j3 (by decide +kernel) ⟨Nat.le_of_ble_eq_true rfl, Nat.le_of_ble_eq_true rfl⟩, rfl, j4⟩ hP hD hS hA hKI List.perm_append_comm rfl hl.1 rfl (lv_room (Nat.le_of_ble_eq_true rfl)) dX8_init_53 ⟨Nat.le_of_ble_eq_true rfl, Nat.le_of_ble_eq_true rfl⟩ (fun u6 H locs _ hP hD hS => ?_)
  have hP : va_P G vwCl (tpW cI q6 u6 r6 ++ (seW cI q4 u4 r4 ++ (orW cI q3 u3 r3 ++ (hsW cS q1 u1 (nI 0) [] ++ (stW cI b1 ++ ([(ad, .inr (8, [.ref (b1.1 0), .ref q1, .ref q3, .ref q4, .null, .null]))] : va_W)))))) H := hP
  have hD : va_D A (tpW cI q6 u6 r6 ++ (seW cI q4 u4 r4 ++ (orW cI q3 u3 r3 ++ (hsW cS q1 u1 (nI 0) [] ++ (stW cI b1 ++ ([(ad, .inr (8, [.ref (b1.1 0), .ref q1, .ref q3, .ref q4, .null, .null]))] : va_W)))))) := hD
  refine va_putF (D := G) (ci := 8) (v := .ref q6) (ty := .object "DeafChain$Trip") (C := RX8) (T := TX8) (N := 6) hx hb hts iwX8_init_X8 tyX8 tyX8_ok nmX8 hown hK hP hD hS 28 rfl rfl 4 (by decide) j5 (fun _ h9 => h9) rfl hnm rfl (by decide +kernel) rfl rfl (Nat.le_of_ble_eq_true rfl) dX8_init_56 (fun H locs hP hD hS => ?_)
  have hP : va_P G vwCl (tpW cI q6 u6 r6 ++ (seW cI q4 u4 r4 ++ (orW cI q3 u3 r3 ++ (hsW cS q1 u1 (nI 0) [] ++ (stW cI b1 ++ ([(ad, .inr (8, [.ref (b1.1 0), .ref q1, .ref q3, .ref q4, .ref q6, .null]))] : va_W)))))) H := hP
  have hD : va_D A (tpW cI q6 u6 r6 ++ (seW cI q4 u4 r4 ++ (orW cI q3 u3 r3 ++ (hsW cS q1 u1 (nI 0) [] ++ (stW cI b1 ++ ([(ad, .inr (8, [.ref (b1.1 0), .ref q1, .ref q3, .ref q4, .ref q6, .null]))] : va_W)))))) := hD
  exact mEnd_vp (b1, (q1, u1), (q3, u3), (q4, u4), (q6, u6)) (by rw [eb1]) hx hb hr hlocks hP hK hD hS rfl (Nat.le_of_ble_eq_true rfl) (Nat.le_of_ble_eq_true rfl) dX8_init_59

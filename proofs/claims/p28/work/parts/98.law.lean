-- the law, from its entry
section MPI
variable {p : Program} {l : Launch} {e : Env} {R : Room} {s : State} {m : MethodId} {args : Array Value} {below : List Frame} {meth : Method} {c : Code} {H : Heap} {locs : List Loc} {cells slots : Nat} {Q : State → Prop}
variable {cc : ByteArray} {pc : Nat} {ls : Array Slot} {rest st0 : List Value} {G : va_G} {A : Nat → Prop} {tys tyc : List (ClassId × FieldType)} {ws wc wr : va_W} {mc ms : Nat} {S : Type}
variable {y : MethodName} {bytes : ByteArray} {maxL nL n index : Nat} {ret : Option FieldType} {wy : List Cond} {rm : Room} {Ts : List Cond} {own C : String} {b : Nat} {As : List Value} {sa sv : Nat → Nat}
theorem mCallPAI_v {post : S → Prop} {w1 : S → va_W} (hAO : va_AO RX5 s) (hE : EnvP sa sv A s s.heap) (CF : CallFix p m c cc nL s args Ts own) (hM : Met l y wy rm (mPcAO (mPcX sa sv G tyc (.ref b :: As) H.size wc)) (va_Qv (S := S) post (mB G tyc (va_A wc H.size) w1) (va_A wc H.size)) mc ms (va_A wc H.size)) (cw : CallB R s args own index y bytes maxL none wy rm mc ms n ∧ y.name = "<init>" ∧ (Cond.instanceMethod y).before args s = true) (hP : va_P G vwCl ws H) (hD : va_D A ws) (hS : va_S A s.heap H locs) (hA : ∀ q : Nat, s.heap.size ≤ q → A q) (hKc : va_K G vwCl tyc s)
    (hp : ws.Perm (wc ++ wr))
    (hlen : As.length = n) (hsize : ls.size = nL) (hstack : st0 = As.reverse ++ .ref b :: rest) (hW : 2 * (F0 m pc ls st0).monitorRoom + (rest.map fun v => v.category).sum ≤ 8) (hdg : decode cc pc = .ok (.invokespecial index, 3)) (hroom : cells + mc ≤ R.cells ∧ slots + ms ≤ R.slots)
    (kk : ∀ (u : S) (H1 : Heap) (locs1 : List Loc), post u → va_P G vwCl (w1 u ++ wr) H1 → va_D A (w1 u ++ wr) → va_S A s.heap H1 locs1 → W p l e R s m args below meth c H1 locs1 (cells + mc) (slots + ms) Q (F0 m (pc + 3) ls rest)) : W p l e R s m args below meth c H locs cells slots Q (F0 m pc ls st0) := by
  have hP := hP.perm hp
  have hD := hD.perm hp
  have hpre0 := mPreAX (av := .ref b :: As) hE hS hA hP hD hKc
  have hpre : PreS s H (mPcAO (mPcX sa sv G tyc (.ref b :: As) H.size wc)) (.ref b :: As) := ⟨mBlindAO hpre0.1, fun U hU hW => ⟨hpre0.2 U hU hW, va_AO.moved hW.alike hAO⟩⟩
  refine va_callv (va_runI CF hM cw hpre rfl hlen hsize hstack hW hdg hroom) hS (fun q _ h => mFreeA (G := G) hD hS hA q h) (mFreeA (G := G) hD hS hA) (fun u t H1 locs1 ht hvm hw hB hz1 hk1 hS1 => ?_)
  obtain ⟨hP1, -, hD1⟩ := hB
  rw [ht] at hP1
  obtain ⟨hP2, hD2⟩ := mPutA hP hD (mFreeA (G := G) hD hS hA) hk1 hP1 hD1
  exact kk u H1 locs1 hw hP2 hD2 hS1
theorem mCallPI_v {post : S → Prop} {w1 : S → va_W} (CF : CallFix p m c cc nL s args Ts own) (hM : Met l y wy rm (mPc G tyc (.ref b :: As) H.size wc) (va_Qv (S := S) post (mB G tyc (va_A wc H.size) w1) (va_A wc H.size)) mc ms (va_A wc H.size)) (cw : CallB R s args own index y bytes maxL none wy rm mc ms n ∧ y.name = "<init>" ∧ (Cond.instanceMethod y).before args s = true) (hP : va_P G vwCl ws H) (hD : va_D A ws) (hS : va_S A s.heap H locs) (hA : ∀ q : Nat, s.heap.size ≤ q → A q) (hKc : va_K G vwCl tyc s)
    (hp : ws.Perm (wc ++ wr))
    (hlen : As.length = n) (hsize : ls.size = nL) (hstack : st0 = As.reverse ++ .ref b :: rest) (hW : 2 * (F0 m pc ls st0).monitorRoom + (rest.map fun v => v.category).sum ≤ 8) (hdg : decode cc pc = .ok (.invokespecial index, 3)) (hroom : cells + mc ≤ R.cells ∧ slots + ms ≤ R.slots)
    (kk : ∀ (u : S) (H1 : Heap) (locs1 : List Loc), post u → va_P G vwCl (w1 u ++ wr) H1 → va_D A (w1 u ++ wr) → va_S A s.heap H1 locs1 → W p l e R s m args below meth c H1 locs1 (cells + mc) (slots + ms) Q (F0 m (pc + 3) ls rest)) : W p l e R s m args below meth c H locs cells slots Q (F0 m pc ls st0) := by
  have hP := hP.perm hp
  have hD := hD.perm hp
  have hpre := mPreA (av := .ref b :: As) hP hD hKc
  refine va_callv (va_runI CF hM cw hpre rfl hlen hsize hstack hW hdg hroom) hS (fun q _ h => mFreeA (G := G) hD hS hA q h) (mFreeA (G := G) hD hS hA) (fun u t H1 locs1 ht hvm hw hB hz1 hk1 hS1 => ?_)
  obtain ⟨hP1, -, hD1⟩ := hB
  rw [ht] at hP1
  obtain ⟨hP2, hD2⟩ := mPutA hP hD (mFreeA (G := G) hD hS hA) hk1 hP1 hD1
  exact kk u H1 locs1 hw hP2 hD2 hS1
end MPI
set_option maxHeartbeats 4000000 in
set_option maxRecDepth 100000 in
theorem st_perm (cI cS : ClassId) (ad uh us uo uS ut : Nat) (ua uf ug uk : Nat → Nat) (r0 : R0T) : (ncW cI cS ad ((0 : Int32), (0 : Int32), (0 : Int32), (0 : Int32), (0 : Int32), (0 : Int32), (fun _ => (0 : Int32)), (0 : Int32), (1 : Int32), (fun _ => (0 : Int32))) ((0 : Int32), (1 : Int32), (fun _ => (0 : Int32))) ((fun _ => (0 : Int32)), (fun _ => (0 : Int32)), (fun _ => (0 : Int32))) ((ua, iniV r0), (uh, us), (uo, uf), (uS, ug), (ut, uk)) : va_W).Perm (EW cI cS ad (fun k => match k with | 0 => ua 0 | 1 => ua 1 | 2 => ua 2 | 3 => ua 3 | 4 => ua 4 | 5 => ua 5 | 6 => ua 6 | 7 => ua 7 | 8 => ua 8 | 9 => ua 9 | 10 => ua 10 | 11 => ua 11 | 12 => ua 12 | 13 => ua 13 | 14 => ua 14 | 15 => ua 15 | 16 => uh | 17 => us | 18 => uo | 19 => uf 0 | 20 => uf 1 | 21 => uf 2 | 22 => uS | 23 => ug 0 | 24 => ut | 25 => uk 0 | 26 => uk 1 | _ => uk 2) ((iniV r0 0 0, iniV r0 1 0, iniV r0 2 0, iniV r0 9 0, iniV r0 13 0, (0 : Int32), (0 : Int32), (0 : Int32), (0 : Int32), (0 : Int32), (0 : Int32), (1 : Int32), (0 : Int32), (1 : Int32), iniV r0 3, iniV r0 4, iniV r0 5, iniV r0 6, iniV r0 7, iniV r0 8, iniV r0 10, iniV r0 11, iniV r0 12, iniV r0 14, iniV r0 15, iniV r0 16, (fun _ => (0 : Int32)), (fun _ => (0 : Int32)), (fun _ => (0 : Int32)), (fun _ => (0 : Int32)), (fun _ => (0 : Int32)), (fun _ => (0 : Int32)), 0, 0, [], []) : LV) ++ (tlW cI [] ++ tlW cI [])) :=
  pl_0 (E := ncW cI cS ad ((0 : Int32), (0 : Int32), (0 : Int32), (0 : Int32), (0 : Int32), (0 : Int32), (fun _ => (0 : Int32)), (0 : Int32), (1 : Int32), (fun _ => (0 : Int32))) ((0 : Int32), (1 : Int32), (fun _ => (0 : Int32))) ((fun _ => (0 : Int32)), (fun _ => (0 : Int32)), (fun _ => (0 : Int32))) ((ua, iniV r0), (uh, us), (uo, uf), (uS, ug), (ut, uk))) (wc := EW cI cS ad (fun k => match k with | 0 => ua 0 | 1 => ua 1 | 2 => ua 2 | 3 => ua 3 | 4 => ua 4 | 5 => ua 5 | 6 => ua 6 | 7 => ua 7 | 8 => ua 8 | 9 => ua 9 | 10 => ua 10 | 11 => ua 11 | 12 => ua 12 | 13 => ua 13 | 14 => ua 14 | 15 => ua 15 | 16 => uh | 17 => us | 18 => uo | 19 => uf 0 | 20 => uf 1 | 21 => uf 2 | 22 => uS | 23 => ug 0 | 24 => ut | 25 => uk 0 | 26 => uk 1 | _ => uk 2) ((iniV r0 0 0, iniV r0 1 0, iniV r0 2 0, iniV r0 9 0, iniV r0 13 0, (0 : Int32), (0 : Int32), (0 : Int32), (0 : Int32), (0 : Int32), (0 : Int32), (1 : Int32), (0 : Int32), (1 : Int32), iniV r0 3, iniV r0 4, iniV r0 5, iniV r0 6, iniV r0 7, iniV r0 8, iniV r0 10, iniV r0 11, iniV r0 12, iniV r0 14, iniV r0 15, iniV r0 16, (fun _ => (0 : Int32)), (fun _ => (0 : Int32)), (fun _ => (0 : Int32)), (fun _ => (0 : Int32)), (fun _ => (0 : Int32)), (fun _ => (0 : Int32)), 0, 0, [], []) : LV)) [28, 12, 13, 14, 15, 16, 17, 18, 19, 20, 21, 22, 23, 24, 25, 26, 27, 10, 11, 6, 7, 8, 9, 4, 5, 0, 1, 2, 3] [] (N := 29) rfl (by decide +kernel) rfl
def M0 (s0 : Nat → Int32) : MT := (nI 0, nI 0, nI 0, nI 0, nI 0, nI 0, nI 0, nI 0, nI 0, nI 0, nI 0, nI 0, nI 0, nI 0, s0, (fun _ => nI 0), (fun _ => nI 0), (fun _ => nI 0), (fun _ => nI 0), (fun _ => nI 0))
set_option maxHeartbeats 4000000 in
set_option maxRecDepth 100000 in
theorem st_jj (cI cS : ClassId) (ad uh us uo uS ut : Nat) (ua uf ug uk : Nat → Nat) {r0 : R0T} {s0 : Nat → Int32} (hC : CR s0 0 0 [] r0.1 r0.2.1 r0.2.2.1 r0.2.2.2.1 r0.2.2.2.2.1 r0.2.2.2.2.2.1 r0.2.2.2.2.2.2.1 r0.2.2.2.2.2.2.2.1 r0.2.2.2.2.2.2.2.2.1 r0.2.2.2.2.2.2.2.2.2.1 r0.2.2.2.2.2.2.2.2.2.2.1 r0.2.2.2.2.2.2.2.2.2.2.2.1 r0.2.2.2.2.2.2.2.2.2.2.2.2.1 r0.2.2.2.2.2.2.2.2.2.2.2.2.2.1 r0.2.2.2.2.2.2.2.2.2.2.2.2.2.2.1 r0.2.2.2.2.2.2.2.2.2.2.2.2.2.2.2.1 r0.2.2.2.2.2.2.2.2.2.2.2.2.2.2.2.2) : JJ cI cS ad (fun k => match k with | 0 => ua 0 | 1 => ua 1 | 2 => ua 2 | 3 => ua 3 | 4 => ua 4 | 5 => ua 5 | 6 => ua 6 | 7 => ua 7 | 8 => ua 8 | 9 => ua 9 | 10 => ua 10 | 11 => ua 11 | 12 => ua 12 | 13 => ua 13 | 14 => ua 14 | 15 => ua 15 | 16 => uh | 17 => us | 18 => uo | 19 => uf 0 | 20 => uf 1 | 21 => uf 2 | 22 => uS | 23 => ug 0 | 24 => ut | 25 => uk 0 | 26 => uk 1 | _ => uk 2) [] (M0 s0) 0 (ncW cI cS ad ((0 : Int32), (0 : Int32), (0 : Int32), (0 : Int32), (0 : Int32), (0 : Int32), (fun _ => (0 : Int32)), (0 : Int32), (1 : Int32), (fun _ => (0 : Int32))) ((0 : Int32), (1 : Int32), (fun _ => (0 : Int32))) ((fun _ => (0 : Int32)), (fun _ => (0 : Int32)), (fun _ => (0 : Int32))) ((ua, iniV r0), (uh, us), (uo, uf), (uS, ug), (ut, uk))) :=
  ⟨0, [], ((iniV r0 0 0, iniV r0 1 0, iniV r0 2 0, iniV r0 9 0, iniV r0 13 0, (0 : Int32), (0 : Int32), (0 : Int32), (0 : Int32), (0 : Int32), (0 : Int32), (1 : Int32), (0 : Int32), (1 : Int32), iniV r0 3, iniV r0 4, iniV r0 5, iniV r0 6, iniV r0 7, iniV r0 8, iniV r0 10, iniV r0 11, iniV r0 12, iniV r0 14, iniV r0 15, iniV r0 16, (fun _ => (0 : Int32)), (fun _ => (0 : Int32)), (fun _ => (0 : Int32)), (fun _ => (0 : Int32)), (fun _ => (0 : Int32)), (fun _ => (0 : Int32)), 0, 0, [], []) : LV), st_perm cI cS ad uh us uo uS ut ua uf ug uk r0, ⟨⟨rfl, BR_0 _ _⟩, hC, HR_0 _, Or.inl ⟨rfl, rfl⟩, rfl⟩⟩
theorem allC_0 {s : Nat → Int32} (h : s 304 = nI 0) : allC s = nI 0 := by
  unfold allC
  rw [h]
  rfl
set_option maxHeartbeats 16000000 in
set_option maxRecDepth 100000 in
theorem whole_start {p : Program} {e : Env} {s : State} {m : MethodId} {below : List Frame} {meth : Method} {c : Code} (l : Launch) (hflags : l.flags = flags0) {b L : Nat} {xs : Nat → Int32} (hL : L ≤ 260) (C0 : lw_At p s m meth c b L xs) : W p l e room_1 s m #[Value.ref b] below meth c s.heap [] 0 0 (lw_Z below #[Value.ref b] s) (entryFrame m ([Value.ref b] : List Value).toArray 8) := by
  obtain ⟨hx, hb, hr, hml, hown, htt, hX, hbl, hlocks, hgv⟩ := id C0
  have hst : l.stackTraces = false := by
    unfold Launch.stackTraces
    rw [hflags]
    decide +kernel
  have hown : s.vm.findClass RL = some m.cls := hown
  have hA : ∀ q : Nat, s.heap.size ≤ q → (fun q : Nat => s.heap.size ≤ q) q := fun _ h => h
  have hbA : ¬ (fun q : Nat => s.heap.size ≤ q) b := Nat.not_le.mpr hbl
  obtain ⟨sa, sv, hE⟩ := st_env htt hgv
  obtain ⟨G, cI, cS, hK⟩ := st_K htt
  have hAO : va_AO RX5 s := va_AO.of (htt (.arrayOver (.object RX5)) (by decide +kernel))
  have hts : ∀ w ∈ wsL_law, w.before #[Value.ref b] s = true := fun w hw => htt w (wsL_law_in w hw)
  have k1 := htt (.constant RL 156 (100000)) (by decide +kernel)
  have hRf : room_1.cells = 600130 ∧ room_1.slots = 7301080 := ⟨rfl, rfl⟩
  -- from the first chain and the second, once they stand
  have kmain : ∀ (ao aq : Nat) (alo alq : Nat → Nat) (s0 : Nat → Int32) (hs0 : stF s0) (hd0 : Dic s0) (ws : va_W) (H : Heap) (locs : List Loc) (ls : Array Slot) (hJ : Two (JJ cI cS ao alo [] ((M0 s0)) 0) (JJ cI cS aq alq [] ((M0 s0)) 0) ws) (hP : va_P G vwCl ws H) (hD : va_D (fun q : Nat => s.heap.size ≤ q) ws) (hS : va_S (fun q : Nat => s.heap.size ≤ q) s.heap H locs) (hl : lv_has ls 8 [(2, .ref aq), (1, .ref ao), (0, .ref b)]), W p l e room_1 s m #[Value.ref b] below meth c H locs (58) (1396) (lw_Z below #[Value.ref b] s) (F0 m 16 ls []) := by
    intro ao aq alo alq s0 hs0 hd0 ws H locs ls hJ hP hD hS hl
    have kend : ∀ (Bo Bq : List Nat) (M Mq : MT) (K : Nat) (pd cs : Int32) (hKK : K ≤ 512) (h304 : M.s 304 = nI 0) (hsum : paidN M.s + allC M.s = pd + cs) (ws : va_W) (H : Heap) (locs : List Loc) (ls : Array Slot) (hJ : Two (JJ cI cS ao alo Bo M K) (JJ cI cS aq alq Bq Mq K) ws) (hP : va_P G vwCl ws H) (hD : va_D (fun q : Nat => s.heap.size ≤ q) ws) (hS : va_S (fun q : Nat => s.heap.size ≤ q) s.heap H locs) (hl : lv_has ls 8 [(3, .int (nI 1)), (5, .int pd), (4, .int cs), (2, .ref aq), (1, .ref ao), (0, .ref b)]), W p l e room_1 s m #[Value.ref b] below meth c H locs (40000) (1200000) (lw_Z below #[Value.ref b] s) (F0 m 291 ls []) := by
      intro Bo Bq M Mq K pd cs hKK h304 hsum ws H locs ls hJ hP hD hS hl
      obtain ⟨npN, hnp⟩ : ∃ npN, M.np = nI npN := by obtain ⟨wo, wq, -, ho, -⟩ := hJ; exact jj_np ho
      refine lv_iload_n hx hb dL_law_291 rfl (lv_at hl 0 rfl) ?_
      refine lv_if_eq (tgt := 334) hx hb dL_law_292 (by decide) (fun q => absurd q (by decide)) (fun _ => ?_)
      refine lv_aload_n hx hb dL_law_295 rfl (lv_at hl 4 rfl) ?_
      refine lv_iconst (v := nI 4) hx hb dL_law_296 (by decide) ?_
      refine (LwS.fst hJ (fun wo ho => jj_count ho (k := 4) (by decide) hnp)).call 2 hE ⟨hx, hb, hml, hown, hts⟩ gL_law_L_count rfl (by decide) (by decide +kernel) ⟨Nat.le_of_ble_eq_true rfl, Nat.le_of_ble_eq_true rfl⟩ hP hD hS hA hK rfl hl.1 rfl (lv_room (Nat.le_of_ble_eq_true rfl)) dL_law_297 ⟨(by show _ ≤ 600130; first | omega | (dsimp only; omega)), (by show _ ≤ 7301080; first | omega | (dsimp only; omega))⟩ (fun x9 ws H locs h9 hP hD hS => ?_)
      obtain ⟨rfl, hJ⟩ := Two.l h9
      refine lv_iload hx hb dL_law_300 (lv_at hl 1 rfl) ?_
      refine lv_iload hx hb dL_law_302 (lv_at hl 2 rfl) ?_
      refine lv_iadd hx hb dL_law_304 ?_
      refine lv_icmp_ne (tgt := 334) hx hb dL_law_305 (by decide) (fun q => absurd (by show paidN M.s = pd + cs; rw [← hsum, allC_0 h304]; exact (Int32.add_zero _).symm) q) (fun _ => ?_)
      refine lv_aload_n hx hb dL_law_308 rfl (lv_at hl 4 rfl) ?_
      refine lv_iconst (v := nI 0) hx hb dL_law_309 (by decide) ?_
      refine (LwS.fst hJ (fun wo ho => jj_count ho (k := 0) (by decide) hnp)).call 2 hE ⟨hx, hb, hml, hown, hts⟩ gL_law_L_count rfl (by decide) (by decide +kernel) ⟨Nat.le_of_ble_eq_true rfl, Nat.le_of_ble_eq_true rfl⟩ hP hD hS hA hK rfl hl.1 rfl (lv_room (Nat.le_of_ble_eq_true rfl)) dL_law_310 ⟨(by show _ ≤ 600130; first | omega | (dsimp only; omega)), (by show _ ≤ 7301080; first | omega | (dsimp only; omega))⟩ (fun x9 ws H locs h9 hP hD hS => ?_)
      obtain ⟨rfl, hJ⟩ := Two.l h9
      refine lv_if_ne (tgt := 334) hx hb dL_law_313 (by decide) (fun q => absurd (by show M.s 304 = nI 0; exact h304) q) (fun _ => ?_)
      refine lv_aload_n hx hb dL_law_316 rfl (lv_at hl 4 rfl) ?_
      refine (LwP.fst hJ (fun wo ho => jp_hangs ho hKK)).call 1 hX hbl hbA hE ⟨hx, hb, hml, hown, hts⟩ gL_law_L_hangs rfl (by decide) (by decide +kernel) ⟨Nat.le_of_ble_eq_true rfl, Nat.le_of_ble_eq_true rfl⟩ hP hD hS hA hK rfl hl.1 rfl (lv_room (Nat.le_of_ble_eq_true rfl)) dL_law_317 ⟨(by show _ ≤ 600130; first | omega | (dsimp only; omega)), (by show _ ≤ 7301080; first | omega | (dsimp only; omega))⟩ (fun x9 ws H locs h9 hP hD hS => ?_)
      obtain ⟨rfl, hJ⟩ := Two.l h9
      refine lv_if_eq (tgt := 334) hx hb dL_law_320 (by decide) (fun q => absurd q (by decide)) (fun _ => ?_)
      refine lv_aload_n hx hb dL_law_323 rfl (lv_at hl 3 rfl) ?_
      refine (LwP.snd hJ (fun wq hq => jp_hangs hq hKK)).call 1 hX hbl hbA hE ⟨hx, hb, hml, hown, hts⟩ gL_law_L_hangs rfl (by decide) (by decide +kernel) ⟨Nat.le_of_ble_eq_true rfl, Nat.le_of_ble_eq_true rfl⟩ hP hD hS hA hK rfl hl.1 rfl (lv_room (Nat.le_of_ble_eq_true rfl)) dL_law_324 ⟨(by show _ ≤ 600130; first | omega | (dsimp only; omega)), (by show _ ≤ 7301080; first | omega | (dsimp only; omega))⟩ (fun x9 ws H locs h9 hP hD hS => ?_)
      obtain ⟨rfl, hJ⟩ := Two.r h9
      refine lv_if_eq (tgt := 334) hx hb dL_law_327 (by decide) (fun q => absurd q (by decide)) (fun _ => ?_)
      refine lv_iconst (v := 1) hx hb dL_law_330 (by decide) ?_
      refine lv_goto (tgt := 335) hx hb dL_law_331 (by decide) ?_
      refine va_forget (fun q hq => hS.2.2 q hq) ?_
      exact W.widen (by first | omega | (dsimp only; omega)) (by first | omega | (dsimp only; omega)) (W.base (lw_ret (Drawn.sameBut.refl s.drawn lw_cs) hx hb hr hlocks dL_law_335))
    have kgo : ∀ (mn K : Nat) (pd cs : Int32) (hm8 : mn ≤ 8) (hKK : K ≤ 512) (n k : Nat) (hkn : k + n = mn) (Bo Bq : List Nat) (M Mq : MT) (h304 : M.s 304 = nI n) (hsum : paidN M.s + allC M.s = pd + cs) (ws : va_W) (H : Heap) (locs : List Loc) (ls : Array Slot) (hJ : Two (JJ cI cS ao alo Bo M K) (JJ cI cS aq alq Bq Mq K) ws) (hP : va_P G vwCl ws H) (hD : va_D (fun q : Nat => s.heap.size ≤ q) ws) (hS : va_S (fun q : Nat => s.heap.size ≤ q) s.heap H locs) (hl : lv_has ls 8 [(7, .int (nI k)), (6, .int (nI mn)), (5, .int pd), (4, .int cs), (3, .int (nI 1)), (2, .ref aq), (1, .ref ao), (0, .ref b)]), W p l e room_1 s m #[Value.ref b] below meth c H locs (39000 + 100 * k) (1190000 + 1000 * k) (lw_Z below #[Value.ref b] s) (F0 m 254 ls []) := by
      intro mn K pd cs hm8 hKK n
      induction n with
      | zero =>
        intro k hkn Bo Bq M Mq h304 hsum ws H locs ls hJ hP hD hS hl
        refine lv_iload hx hb dL_law_254 (lv_at hl 0 rfl) ?_
        refine lv_iload hx hb dL_law_256 (lv_at hl 1 rfl) ?_
        refine lv_icmp_ge (tgt := 291) hx hb dL_law_258 (by decide) (fun _ => ?_) (fun q => absurd (by rw [z_le (by omega) (by omega)]; omega) q)
        exact W.widen (by first | omega | (dsimp only; omega)) (by first | omega | (dsimp only; omega)) (kend Bo Bq M Mq K pd cs hKK h304 hsum ws H locs ls hJ hP hD hS (lv_sub hl [4, 2, 3, 5, 6, 7] rfl))
      | succ n ih =>
        intro k hkn Bo Bq M Mq h304 hsum ws H locs ls hJ hP hD hS hl
        refine lv_iload hx hb dL_law_254 (lv_at hl 0 rfl) ?_
        refine lv_iload hx hb dL_law_256 (lv_at hl 1 rfl) ?_
        refine lv_icmp_ge (tgt := 291) hx hb dL_law_258 (by decide) (fun q => absurd q (by rw [z_le (by omega) (by omega)]; omega)) (fun _ => ?_)
        refine lv_iload hx hb dL_law_261 (lv_at hl 0 rfl) ?_
        refine lv_bipush (v := nI 8) hx hb dL_law_263 (by decide) ?_
        refine lv_icmp_ge (tgt := 291) hx hb dL_law_265 (by decide) (fun q => absurd q (by rw [z_le (by omega) (by omega)]; omega)) (fun _ => ?_)
        refine lv_iload_n hx hb dL_law_268 rfl (lv_at hl 4 rfl) ?_
        refine lv_if_eq (tgt := 291) hx hb dL_law_269 (by decide) (fun q => absurd q (by decide)) (fun _ => ?_)
        obtain ⟨z, M', hf, hz12, h1, h2⟩ : ∃ z M', fL_go M = some (nI z, M') ∧ z ≤ 12 ∧ M'.s 304 = nI n ∧ paidN M'.s + allC M'.s = paidN M.s + allC M.s := by obtain ⟨wo, wq, -, ho, -⟩ := hJ; exact jj_go (l := l) (sa := sa) (sv := sv) (G := G) hst ho (by omega) h304
        refine lv_aload_n hx hb dL_law_272 rfl (lv_at hl 6 rfl) ?_
        refine (LwS.fst hJ (fun wo ho => jj_go_c hst hf ho)).call 1 hE ⟨hx, hb, hml, hown, hts⟩ gL_law_L_go rfl (by decide) (by decide +kernel) ⟨Nat.le_of_ble_eq_true rfl, Nat.le_of_ble_eq_true rfl⟩ hP hD hS hA hK rfl hl.1 rfl (lv_room (Nat.le_of_ble_eq_true rfl)) dL_law_273 ⟨(by show _ ≤ 600130; first | omega | (dsimp only; omega)), (by show _ ≤ 7301080; first | omega | (dsimp only; omega))⟩ (fun x9 ws H locs h9 hP hD hS => ?_)
        obtain ⟨rfl, hJ⟩ := Two.l h9
        refine lv_if_lt (tgt := 283) hx hb dL_law_276 (by decide) (fun q => absurd q (nI_nneg _ (by omega))) (fun _ => ?_)
        refine lv_iconst (v := nI 1) hx hb dL_law_279 (by decide) ?_
        refine lv_goto (tgt := 284) hx hb dL_law_280 (by decide) ?_
        refine lv_istore_n (lv' := [(3, .int (nI 1)), (7, .int (nI k)), (6, .int (nI mn)), (5, .int pd), (4, .int cs), (2, .ref aq), (1, .ref ao), (0, .ref b)]) hx hb dL_law_284 rfl hl (by decide) rfl (fun ls hl => ?_)
        refine lv_iinc (v := nI (k + 1)) (lv' := [(7, .int (nI (k + 1))), (3, .int (nI 1)), (6, .int (nI mn)), (5, .int pd), (4, .int cs), (2, .ref aq), (1, .ref ao), (0, .ref b)]) hx hb dL_law_285 hl (k := 1) rfl (nI_add _ 1) (by decide) rfl (fun ls hl => ?_)
        refine lv_goto (tgt := 254) hx hb dL_law_288 (by decide) ?_
        exact W.widen (by first | omega | (dsimp only; omega)) (by first | omega | (dsimp only; omega)) (ih (k + 1) (by omega) Bo Bq M' Mq h1 (h2.trans hsum) ws H locs ls hJ hP hD hS (lv_sub hl [0, 2, 3, 4, 1, 5, 6, 7] rfl))
    have kfin : ∀ (K : Nat) (hKK : K ≤ 512) (Bo Bq : List Nat) (M Mq : MT) (ws : va_W) (H : Heap) (locs : List Loc) (ls : Array Slot) (hJ : Two (JJ cI cS ao alo Bo M K) (JJ cI cS aq alq Bq Mq K) ws) (hP : va_P G vwCl ws H) (hD : va_D (fun q : Nat => s.heap.size ≤ q) ws) (hS : va_S (fun q : Nat => s.heap.size ≤ q) s.heap H locs) (hl : lv_has ls 8 [(3, .int (nI 1)), (2, .ref aq), (1, .ref ao), (0, .ref b)]), W p l e room_1 s m #[Value.ref b] below meth c H locs (38000) (1180000) (lw_Z below #[Value.ref b] s) (F0 m 231 ls []) := by
      intro K hKK Bo Bq M Mq ws H locs ls hJ hP hD hS hl
      obtain ⟨npN, hnp⟩ : ∃ npN, M.np = nI npN := by obtain ⟨wo, wq, -, ho, -⟩ := hJ; exact jj_np ho
      obtain ⟨nw, nw8, h304⟩ : ∃ n, n ≤ 8 ∧ M.s 304 = nI n := by obtain ⟨wo, wq, -, ho, -⟩ := hJ; exact jj_304 ho
      refine lv_aload_n hx hb dL_law_231 rfl (lv_at hl 2 rfl) ?_
      refine (LwX.fst hJ (fun wo ho => jj_costs ho)).call hE ⟨hx, hb, hml, hown, hts⟩ (cwV 0 hts gL_law_X8_costs rfl rfl rfl (by decide +kernel) ⟨Nat.le_of_ble_eq_true rfl, Nat.le_of_ble_eq_true rfl⟩) rfl hP hD hS hA (hK.sub [0] rfl) rfl hl.1 rfl (lv_room (Nat.le_of_ble_eq_true rfl)) dL_law_232 ⟨(by show _ ≤ 600130; first | omega | (dsimp only; omega)), (by show _ ≤ 7301080; first | omega | (dsimp only; omega))⟩ (fun x9 ws H locs h9 hP hD hS => ?_)
      obtain ⟨rfl, hJ⟩ := Two.l h9
      refine lv_istore (lv' := [(4, .int (allC M.s)), (3, .int (nI 1)), (2, .ref aq), (1, .ref ao), (0, .ref b)]) hx hb dL_law_235 hl (by decide) rfl (fun ls hl => ?_)
      refine lv_aload_n hx hb dL_law_237 rfl (lv_at hl 3 rfl) ?_
      refine lv_iconst (v := nI 4) hx hb dL_law_238 (by decide) ?_
      refine (LwS.fst hJ (fun wo ho => jj_count ho (k := 4) (by decide) hnp)).call 2 hE ⟨hx, hb, hml, hown, hts⟩ gL_law_L_count rfl (by decide) (by decide +kernel) ⟨Nat.le_of_ble_eq_true rfl, Nat.le_of_ble_eq_true rfl⟩ hP hD hS hA hK rfl hl.1 rfl (lv_room (Nat.le_of_ble_eq_true rfl)) dL_law_239 ⟨(by show _ ≤ 600130; first | omega | (dsimp only; omega)), (by show _ ≤ 7301080; first | omega | (dsimp only; omega))⟩ (fun x9 ws H locs h9 hP hD hS => ?_)
      obtain ⟨rfl, hJ⟩ := Two.l h9
      refine lv_istore (lv' := [(5, .int (vCount M.s npN 4)), (4, .int (allC M.s)), (3, .int (nI 1)), (2, .ref aq), (1, .ref ao), (0, .ref b)]) hx hb dL_law_242 hl (by decide) rfl (fun ls hl => ?_)
      refine lv_aload_n hx hb dL_law_244 rfl (lv_at hl 4 rfl) ?_
      refine lv_iconst (v := nI 0) hx hb dL_law_245 (by decide) ?_
      refine (LwS.fst hJ (fun wo ho => jj_count ho (k := 0) (by decide) hnp)).call 2 hE ⟨hx, hb, hml, hown, hts⟩ gL_law_L_count rfl (by decide) (by decide +kernel) ⟨Nat.le_of_ble_eq_true rfl, Nat.le_of_ble_eq_true rfl⟩ hP hD hS hA hK rfl hl.1 rfl (lv_room (Nat.le_of_ble_eq_true rfl)) dL_law_246 ⟨(by show _ ≤ 600130; first | omega | (dsimp only; omega)), (by show _ ≤ 7301080; first | omega | (dsimp only; omega))⟩ (fun x9 ws H locs h9 hP hD hS => ?_)
      obtain ⟨rfl, hJ⟩ := Two.l h9
      have hv0 : vCount M.s npN 0 = nI nw := h304
      rw [hv0]
      refine lv_istore (lv' := [(6, .int (nI nw)), (5, .int (vCount M.s npN 4)), (4, .int (allC M.s)), (3, .int (nI 1)), (2, .ref aq), (1, .ref ao), (0, .ref b)]) hx hb dL_law_249 hl (by decide) rfl (fun ls hl => ?_)
      refine lv_iconst (v := nI 0) hx hb dL_law_251 (by decide) ?_
      refine lv_istore (lv' := [(7, .int (nI 0)), (6, .int (nI nw)), (5, .int (vCount M.s npN 4)), (4, .int (allC M.s)), (3, .int (nI 1)), (2, .ref aq), (1, .ref ao), (0, .ref b)]) hx hb dL_law_252 hl (by decide) rfl (fun ls hl => ?_)
      exact W.widen (by first | omega | (dsimp only; omega)) (by first | omega | (dsimp only; omega)) (kgo nw K (vCount M.s npN 4) (allC M.s) nw8 hKK nw 0 (by omega) Bo Bq M Mq h304 rfl ws H locs ls hJ hP hD hS (lv_sub hl [0, 1, 2, 3, 4, 5, 6, 7] rfl))
    have kloop : ∀ (d k : Nat), k + d = 36 → ∀ (Bo Bq : List Nat) (M : MT) (ws : va_W) (H : Heap) (locs : List Loc) (ls : Array Slot) (hJ : Two (JJ cI cS ao alo Bo M (8 * k)) (JJ cI cS aq alq Bq M (8 * k)) ws) (hP : va_P G vwCl ws H) (hD : va_D (fun q : Nat => s.heap.size ≤ q) ws) (hS : va_S (fun q : Nat => s.heap.size ≤ q) s.heap H locs) (hl : lv_has ls 8 [(4, .int (nI k)), (3, .int (nI 1)), (2, .ref aq), (1, .ref ao), (0, .ref b)]), W p l e room_1 s m #[Value.ref b] below meth c H locs (1000 * k + 100) (30000 * k + 5000) (lw_Z below #[Value.ref b] s) (F0 m 85 ls []) := by
      intro d
      induction d with
      | zero =>
        intro k hk Bo Bq M ws H locs ls hJ hP hD hS hl
        refine lv_iload hx hb dL_law_85 (lv_at hl 0 rfl) ?_
        refine lv_bipush (v := nI 36) hx hb dL_law_87 (by decide) ?_
        refine lv_icmp_ge (tgt := 231) hx hb dL_law_89 (by decide) (fun _ => ?_) (fun q => absurd (by rw [z_le (by omega) (by omega)]; omega) q)
        exact W.widen (by first | omega | (dsimp only; omega)) (by first | omega | (dsimp only; omega)) (kfin (8 * k) (by omega) Bo Bq M M ws H locs ls hJ hP hD hS (lv_sub hl [1, 2, 3, 4] rfl))
      | succ d ih =>
        intro k hk Bo0 Bq0 M ws0 H0 locs0 ls0 hJ0 hP0 hD0 hS0 hl0
        have k219 : ∀ (Bo Bq : List Nat) (M' : MT) (ws : va_W) (H : Heap) (locs : List Loc) (ls : Array Slot) (hJ : Two (JJ cI cS ao alo Bo M' (8 * k + 8)) (JJ cI cS aq alq Bq M' (8 * k + 8)) ws) (hP : va_P G vwCl ws H) (hD : va_D (fun q : Nat => s.heap.size ≤ q) ws) (hS : va_S (fun q : Nat => s.heap.size ≤ q) s.heap H locs) (hl : lv_has ls 8 [(4, .int (nI k)), (3, .int (nI 1)), (2, .ref aq), (1, .ref ao), (0, .ref b)]), W p l e room_1 s m #[Value.ref b] below meth c H locs (1000 * k + 1100) (30000 * k + 35000) (lw_Z below #[Value.ref b] s) (F0 m 219 ls []) := by
          intro Bo Bq M' ws H locs ls hJ hP hD hS hl
          refine lv_iconst (v := nI 1) hx hb dL_law_219 (by decide) ?_
          refine lv_goto (tgt := 224) hx hb dL_law_220 (by decide) ?_
          refine lv_istore_n (lv' := [(3, .int (nI 1)), (4, .int (nI k)), (2, .ref aq), (1, .ref ao), (0, .ref b)]) hx hb dL_law_224 rfl hl (by decide) rfl (fun ls hl => ?_)
          refine lv_iinc (v := nI (k + 1)) (lv' := [(4, .int (nI (k + 1))), (3, .int (nI 1)), (2, .ref aq), (1, .ref ao), (0, .ref b)]) hx hb dL_law_225 hl (k := 1) rfl (nI_add _ 1) (by decide) rfl (fun ls hl => ?_)
          refine lv_goto (tgt := 85) hx hb dL_law_228 (by decide) ?_
          exact W.widen (by first | omega | (dsimp only; omega)) (by first | omega | (dsimp only; omega)) (ih (k + 1) (by omega) Bo Bq M' ws H locs ls (by rw [show 8 * (k + 1) = 8 * k + 8 by omega]; exact hJ) hP hD hS (lv_sub hl [0, 1, 2, 3, 4] rfl))
        have k193 : ∀ (Bo Bq : List Nat) (M' : MT) (ws : va_W) (H : Heap) (locs : List Loc) (ls : Array Slot) (hJ : Two (JJ cI cS ao alo Bo M' (8 * k + 8)) (JJ cI cS aq alq Bq M' (8 * k + 8)) ws) (hP : va_P G vwCl ws H) (hD : va_D (fun q : Nat => s.heap.size ≤ q) ws) (hS : va_S (fun q : Nat => s.heap.size ≤ q) s.heap H locs) (hl : lv_has ls 8 [(4, .int (nI k)), (3, .int (nI 1)), (2, .ref aq), (1, .ref ao), (0, .ref b)]), W p l e room_1 s m #[Value.ref b] below meth c H locs (1000 * k + 1050) (30000 * k + 33000) (lw_Z below #[Value.ref b] s) (F0 m 193 ls []) := by
          intro Bo Bq M' ws H locs ls hJ hP hD hS hl
          refine lv_iload hx hb dL_law_193 (lv_at hl 0 rfl) ?_
          refine lv_iconst (v := nI 4) hx hb dL_law_195 (by decide) ?_
          refine lv_irem hx hb dL_law_196 (by decide) ?_
          refine lv_topi (fun y9 e9 => ?_)
          obtain rfl : y9 = nI (k % 4) := e9.trans (pk_rem (by omega) (by omega) (by omega))
          by_cases h4 : k % 4 = 0
          · have h4b := h4
            refine lv_if_gt (tgt := 219) hx hb dL_law_197 (by decide) (fun q => absurd q (by rw [h4]; decide)) (fun _ => ?_)
            refine lv_iload hx hb dL_law_200 (lv_at hl 0 rfl) ?_
            refine lv_bipush (v := nI 8) hx hb dL_law_202 (by decide) ?_
            refine lv_irem hx hb dL_law_204 (by decide) ?_
            refine lv_topi (fun y9 e9 => ?_)
            obtain rfl : y9 = nI (k % 8) := e9.trans (pk_rem (by omega) (by omega) (by omega))
            by_cases h8 : k % 8 = 0
            · have h8b := h8
              refine lv_if_ne (tgt := 212) hx hb dL_law_205 (by decide) (fun q => absurd (by rw [h8]; rfl) q) (fun _ => ?_)
              refine lv_aload_n hx hb dL_law_208 rfl (lv_at hl 3 rfl) ?_
              refine lv_goto (tgt := 213) hx hb dL_law_209 (by decide) ?_
              refine (LwP.fst hJ (fun wo ho => jp_hangs ho (by omega))).call 1 hX hbl hbA hE ⟨hx, hb, hml, hown, hts⟩ gL_law_L_hangs rfl (by decide) (by decide +kernel) ⟨Nat.le_of_ble_eq_true rfl, Nat.le_of_ble_eq_true rfl⟩ hP hD hS hA hK rfl hl.1 rfl (lv_room (Nat.le_of_ble_eq_true rfl)) dL_law_213 ⟨(by show _ ≤ 600130; first | omega | (dsimp only; omega)), (by show _ ≤ 7301080; first | omega | (dsimp only; omega))⟩ (fun x9 ws H locs h9 hP hD hS => ?_)
              obtain ⟨rfl, hJ⟩ := Two.l h9
              refine lv_if_eq (tgt := 223) hx hb dL_law_216 (by decide) (fun q => absurd q (by decide)) (fun _ => ?_)
              exact W.widen (by first | omega | (dsimp only; omega)) (by first | omega | (dsimp only; omega)) (k219 Bo Bq M' ws H locs ls hJ hP hD hS (lv_sub hl [0, 1, 2, 3, 4] rfl))
            · have h8b := h8
              refine lv_if_ne (tgt := 212) hx hb dL_law_205 (by decide) (fun _ => ?_) (fun q => absurd q (fun h => h8 ((nI_eq (b := 0) (by omega) (by omega)).mp h)))
              refine lv_aload_n hx hb dL_law_212 rfl (lv_at hl 2 rfl) ?_
              refine (LwP.snd hJ (fun wq hq => jp_hangs hq (by omega))).call 1 hX hbl hbA hE ⟨hx, hb, hml, hown, hts⟩ gL_law_L_hangs rfl (by decide) (by decide +kernel) ⟨Nat.le_of_ble_eq_true rfl, Nat.le_of_ble_eq_true rfl⟩ hP hD hS hA hK rfl hl.1 rfl (lv_room (Nat.le_of_ble_eq_true rfl)) dL_law_213 ⟨(by show _ ≤ 600130; first | omega | (dsimp only; omega)), (by show _ ≤ 7301080; first | omega | (dsimp only; omega))⟩ (fun x9 ws H locs h9 hP hD hS => ?_)
              obtain ⟨rfl, hJ⟩ := Two.r h9
              refine lv_if_eq (tgt := 223) hx hb dL_law_216 (by decide) (fun q => absurd q (by decide)) (fun _ => ?_)
              exact W.widen (by first | omega | (dsimp only; omega)) (by first | omega | (dsimp only; omega)) (k219 Bo Bq M' ws H locs ls hJ hP hD hS (lv_sub hl [0, 1, 2, 3, 4] rfl))
          · have h4b := h4
            refine lv_if_gt (tgt := 219) hx hb dL_law_197 (by decide) (fun _ => ?_) (fun q => absurd (by rw [show (0 : Int32) = nI 0 from rfl, z_lt (by omega) (by omega)]; omega) q)
            exact W.widen (by first | omega | (dsimp only; omega)) (by first | omega | (dsimp only; omega)) (k219 Bo Bq M' ws H locs ls hJ hP hD hS (lv_sub hl [0, 1, 2, 3, 4] rfl))
        have k132 : ∀ (Bo Bq : List Nat) (M' : MT) (told : Int32) (hact : actsR L xs k M = some (told, M')) (ws : va_W) (H : Heap) (locs : List Loc) (ls : Array Slot) (hJ : Two (JJ cI cS ao alo Bo M' (8 * k + 8)) (JJ cI cS aq alq Bq M (8 * k)) ws) (hP : va_P G vwCl ws H) (hD : va_D (fun q : Nat => s.heap.size ≤ q) ws) (hS : va_S (fun q : Nat => s.heap.size ≤ q) s.heap H locs) (hl : lv_has ls 8 [(6, .int told), (5, .int (nI (cellN L xs k))), (4, .int (nI k)), (3, .int (nI 1)), (2, .ref aq), (1, .ref ao), (0, .ref b)]), W p l e room_1 s m #[Value.ref b] below meth c H locs (1000 * k + 1000) (30000 * k + 30000) (lw_Z below #[Value.ref b] s) (F0 m 132 ls []) := by
          intro Bo Bq M' told hact ws H locs ls hJ hP hD hS hl
          refine lv_aload_n hx hb dL_law_132 rfl (lv_at hl 4 rfl) ?_
          refine lv_aload_n hx hb dL_law_133 rfl (lv_at hl 6 rfl) ?_
          refine lv_iload hx hb dL_law_134 (lv_at hl 2 rfl) ?_
          refine (LwP.snd hJ (fun wq hq => jp_acts hst hq (k := k) (by omega) hL)).call 3 hX hbl hbA hE ⟨hx, hb, hml, hown, hts⟩ gL_law_L_acts rfl (by decide) (by decide +kernel) ⟨Nat.le_of_ble_eq_true rfl, Nat.le_of_ble_eq_true rfl⟩ hP hD hS hA hK rfl hl.1 rfl (lv_room (Nat.le_of_ble_eq_true rfl)) dL_law_136 ⟨(by show _ ≤ 600130; first | omega | (dsimp only; omega)), (by show _ ≤ 7301080; first | omega | (dsimp only; omega))⟩ (fun x9 ws H locs h9 hP hD hS => ?_)
          obtain ⟨wo, wq, hp9, ho, B2, M2, hact2, hq⟩ := h9
          obtain ⟨e1, e2⟩ := actsR_inj hact hact2
          rw [e2] at hq
          rw [e1]
          have hlo : Bo.length ≤ 60 := jj_len ho
          have hlq : B2.length ≤ 60 := jj_len hq
          have hJ : Two (JJ cI cS ao alo Bo M' (8 * k + 8)) (JJ cI cS aq alq B2 M' (8 * k + 8)) ws := ⟨wo, wq, hp9, ho, hq⟩
          refine lv_iload hx hb dL_law_139 (lv_at hl 0 rfl) ?_
          refine lv_icmp_ne (tgt := 223) hx hb dL_law_141 (by decide) (fun q => absurd (rfl) q) (fun _ => ?_)
          refine lv_aload_n hx hb dL_law_144 rfl (lv_at hl 5 rfl) ?_
          refine lv_bipush (v := nI 6) hx hb dL_law_145 (by decide) ?_
          refine (LwS.fst hJ (fun wo ho => jj_count6 ho)).call 2 hE ⟨hx, hb, hml, hown, hts⟩ gL_law_L_count rfl (by decide) (by decide +kernel) ⟨Nat.le_of_ble_eq_true rfl, Nat.le_of_ble_eq_true rfl⟩ hP hD hS hA hK rfl hl.1 rfl (lv_room (Nat.le_of_ble_eq_true rfl)) dL_law_147 ⟨(by show _ ≤ 600130; first | omega | (dsimp only; omega)), (by show _ ≤ 7301080; first | omega | (dsimp only; omega))⟩ (fun x9 ws H locs h9 hP hD hS => ?_)
          obtain ⟨rfl, hJ⟩ := Two.l h9
          refine lv_aload_n hx hb dL_law_150 rfl (lv_at hl 4 rfl) ?_
          refine lv_bipush (v := nI 6) hx hb dL_law_151 (by decide) ?_
          refine (LwS.snd hJ (fun wq hq => jj_count6 hq)).call 2 hE ⟨hx, hb, hml, hown, hts⟩ gL_law_L_count rfl (by decide) (by decide +kernel) ⟨Nat.le_of_ble_eq_true rfl, Nat.le_of_ble_eq_true rfl⟩ hP hD hS hA hK rfl hl.1 rfl (lv_room (Nat.le_of_ble_eq_true rfl)) dL_law_153 ⟨(by show _ ≤ 600130; first | omega | (dsimp only; omega)), (by show _ ≤ 7301080; first | omega | (dsimp only; omega))⟩ (fun x9 ws H locs h9 hP hD hS => ?_)
          obtain ⟨rfl, hJ⟩ := Two.r h9
          refine lv_icmp_ne (tgt := 223) hx hb dL_law_156 (by decide) (fun q => absurd (rfl) q) (fun _ => ?_)
          refine lv_iload hx hb dL_law_159 (lv_at hl 2 rfl) ?_
          refine lv_bipush (v := nI 6) hx hb dL_law_161 (by decide) ?_
          refine lv_irem hx hb dL_law_163 (by decide) ?_
          refine lv_topi (fun y9 e9 => ?_)
          obtain rfl : y9 = nI (k % 6) := e9.trans (pk_rem (by omega) (by omega) (by omega))
          by_cases h6 : k % 6 = 0
          · have h6b := h6
            refine lv_if_gt (tgt := 193) hx hb dL_law_164 (by decide) (fun q => absurd q (by rw [h6]; decide)) (fun _ => ?_)
            refine lv_aload_n hx hb dL_law_167 rfl (lv_at hl 5 rfl) ?_
            refine (LwX.fst hJ (fun wo ho => jo_clearBuffer ho)).call hE ⟨hx, hb, hml, hown, hts⟩ (cwV 0 hts gL_law_X8_clearBuffer rfl rfl rfl (by decide +kernel) ⟨Nat.le_of_ble_eq_true rfl, Nat.le_of_ble_eq_true rfl⟩) rfl hP hD hS hA (hK.sub [0] rfl) rfl hl.1 rfl (lv_room (Nat.le_of_ble_eq_true rfl)) dL_law_168 ⟨(by show _ ≤ 600130; first | omega | (dsimp only; omega)), (by show _ ≤ 7301080; first | omega | (dsimp only; omega))⟩ (fun x9 ws H locs h9 hP hD hS => ?_)
            obtain ⟨rfl, hJ⟩ := Two.l h9
            refine lv_if_lt (tgt := 223) hx hb dL_law_171 (by decide) (fun q => absurd q (nI_nneg _ (by omega))) (fun _ => ?_)
            refine lv_aload_n hx hb dL_law_174 rfl (lv_at hl 4 rfl) ?_
            refine (LwX.snd hJ (fun wq hq => jo_clearBuffer hq)).call hE ⟨hx, hb, hml, hown, hts⟩ (cwV 0 hts gL_law_X8_clearBuffer rfl rfl rfl (by decide +kernel) ⟨Nat.le_of_ble_eq_true rfl, Nat.le_of_ble_eq_true rfl⟩) rfl hP hD hS hA (hK.sub [0] rfl) rfl hl.1 rfl (lv_room (Nat.le_of_ble_eq_true rfl)) dL_law_175 ⟨(by show _ ≤ 600130; first | omega | (dsimp only; omega)), (by show _ ≤ 7301080; first | omega | (dsimp only; omega))⟩ (fun x9 ws H locs h9 hP hD hS => ?_)
            obtain ⟨rfl, hJ⟩ := Two.r h9
            refine lv_if_lt (tgt := 223) hx hb dL_law_178 (by decide) (fun q => absurd q (nI_nneg _ (by omega))) (fun _ => ?_)
            refine lv_aload_n hx hb dL_law_181 rfl (lv_at hl 5 rfl) ?_
            refine (LwXl.fst hJ (fun wo ho => jj_digest ho (by omega))).call hE ⟨hx, hb, hml, hown, hts⟩ (cwV 0 hts gL_law_X8_digest rfl rfl rfl (by decide +kernel) ⟨Nat.le_of_ble_eq_true rfl, Nat.le_of_ble_eq_true rfl⟩) rfl hP hD hS hA (hK.sub [0] rfl) rfl hl.1 rfl (lv_room (Nat.le_of_ble_eq_true rfl)) dL_law_182 ⟨(by show _ ≤ 600130; first | omega | (dsimp only; omega)), (by show _ ≤ 7301080; first | omega | (dsimp only; omega))⟩ (fun r1 ws H locs h9 hP hD hS => ?_)
            obtain ⟨hr1, hJ⟩ := Two.l h9
            refine lv_aload_n hx hb dL_law_185 rfl (lv_at hl 4 rfl) ?_
            refine (LwXl.snd hJ (fun wq hq => jj_digest hq (by omega))).call hE ⟨hx, hb, hml, hown, hts⟩ (cwV 0 hts gL_law_X8_digest rfl rfl rfl (by decide +kernel) ⟨Nat.le_of_ble_eq_true rfl, Nat.le_of_ble_eq_true rfl⟩) rfl hP hD hS hA (hK.sub [0] rfl) rfl hl.1 rfl (lv_room (Nat.le_of_ble_eq_true rfl)) dL_law_186 ⟨(by show _ ≤ 600130; first | omega | (dsimp only; omega)), (by show _ ≤ 7301080; first | omega | (dsimp only; omega))⟩ (fun r2 ws H locs h9 hP hD hS => ?_)
            obtain ⟨hr2, hJ⟩ := Two.r h9
            have e9 : r2 = r1 := Option.some.inj (hr2.symm.trans hr1)
            rw [e9]
            refine lw_lcmp hx hb dL_law_189 ?_
            refine lv_if_ne (tgt := 223) hx hb dL_law_190 (by decide) (fun q => absurd (rfl) q) (fun _ => ?_)
            exact W.widen (by first | omega | (dsimp only; omega)) (by first | omega | (dsimp only; omega)) (k193 [] [] M' ws H locs ls hJ hP hD hS (lv_sub hl [2, 3, 4, 5, 6] rfl))
          · have h6b := h6
            refine lv_if_gt (tgt := 193) hx hb dL_law_164 (by decide) (fun _ => ?_) (fun q => absurd (by rw [show (0 : Int32) = nI 0 from rfl, z_lt (by omega) (by omega)]; omega) q)
            exact W.widen (by first | omega | (dsimp only; omega)) (by first | omega | (dsimp only; omega)) (k193 Bo B2 M' ws H locs ls hJ hP hD hS (lv_sub hl [2, 3, 4, 5, 6] rfl))
        obtain ⟨Bo, hBo⟩ : ∃ z, z = Bo0 := ⟨_, rfl⟩
        obtain ⟨Bq, hBq⟩ : ∃ z, z = Bq0 := ⟨_, rfl⟩
        obtain ⟨ws, hws⟩ : ∃ z, z = ws0 := ⟨_, rfl⟩
        obtain ⟨H, hH⟩ : ∃ z, z = H0 := ⟨_, rfl⟩
        obtain ⟨locs, hlc⟩ : ∃ z, z = locs0 := ⟨_, rfl⟩
        obtain ⟨ls, hls⟩ : ∃ z, z = ls0 := ⟨_, rfl⟩
        rw [← hBo, ← hBq, ← hws] at hJ0
        rw [← hws, ← hH] at hP0
        rw [← hws] at hD0
        rw [← hH, ← hlc] at hS0
        rw [← hls] at hl0
        rw [← hH, ← hlc, ← hls]
        have hJ := hJ0
        have hP := hP0
        have hD := hD0
        have hS := hS0
        have hl := hl0
        have hclt := cellN_lt L xs k
        refine lv_iload hx hb dL_law_85 (lv_at hl 0 rfl) ?_
        refine lv_bipush (v := nI 36) hx hb dL_law_87 (by decide) ?_
        refine lv_icmp_ge (tgt := 231) hx hb dL_law_89 (by decide) (fun q => absurd q (by rw [z_le (by omega) (by omega)]; omega)) (fun _ => ?_)
        refine lv_iload_n hx hb dL_law_92 rfl (lv_at hl 1 rfl) ?_
        refine lv_if_eq (tgt := 231) hx hb dL_law_93 (by decide) (fun q => absurd q (by decide)) (fun _ => ?_)
        refine lv_aload_n hx hb dL_law_96 rfl (lv_at hl 4 rfl) ?_
        refine lv_iload hx hb dL_law_97 (lv_at hl 0 rfl) ?_
        refine (jp_cell (k := k) (by omega) hL ws).call 2 hX hbl hbA hE ⟨hx, hb, hml, hown, hts⟩ gL_law_L_cell rfl (by decide) (by decide +kernel) ⟨Nat.le_of_ble_eq_true rfl, Nat.le_of_ble_eq_true rfl⟩ hP hD hS hA hK rfl hl.1 rfl (lv_room (Nat.le_of_ble_eq_true rfl)) dL_law_99 ⟨(by show _ ≤ 600130; first | omega | (dsimp only; omega)), (by show _ ≤ 7301080; first | omega | (dsimp only; omega))⟩ (fun x9 ws H locs h9 hP hD hS => ?_)
        obtain ⟨rfl, e9⟩ := h9; rw [← e9] at hJ
        refine lv_istore (lv' := [(5, .int (nI (cellN L xs k))), (4, .int (nI k)), (3, .int (nI 1)), (2, .ref aq), (1, .ref ao), (0, .ref b)]) hx hb dL_law_102 hl (by decide) rfl (fun ls hl => ?_)
        refine lv_aload_n hx hb dL_law_104 rfl (lv_at hl 4 rfl) ?_
        refine lv_aload_n hx hb dL_law_105 rfl (lv_at hl 5 rfl) ?_
        refine lv_iload hx hb dL_law_106 (lv_at hl 1 rfl) ?_
        refine (LwP.fst hJ (fun wo ho => jp_acts hst ho (k := k) (by omega) hL)).call 3 hX hbl hbA hE ⟨hx, hb, hml, hown, hts⟩ gL_law_L_acts rfl (by decide) (by decide +kernel) ⟨Nat.le_of_ble_eq_true rfl, Nat.le_of_ble_eq_true rfl⟩ hP hD hS hA hK rfl hl.1 rfl (lv_room (Nat.le_of_ble_eq_true rfl)) dL_law_108 ⟨(by show _ ≤ 600130; first | omega | (dsimp only; omega)), (by show _ ≤ 7301080; first | omega | (dsimp only; omega))⟩ (fun told ws H locs h9 hP hD hS => ?_)
        obtain ⟨wo, wq, hp9, ⟨B1, M1, hact, ho⟩, hq⟩ := h9
        have hJ : Two (JJ cI cS ao alo B1 M1 (8 * k + 8)) (JJ cI cS aq alq Bq M (8 * k)) ws := ⟨wo, wq, hp9, ho, hq⟩
        refine lv_istore (lv' := [(6, .int told), (5, .int (nI (cellN L xs k))), (4, .int (nI k)), (3, .int (nI 1)), (2, .ref aq), (1, .ref ao), (0, .ref b)]) hx hb dL_law_111 hl (by decide) rfl (fun ls hl => ?_)
        refine lv_iload hx hb dL_law_113 (lv_at hl 2 rfl) ?_
        refine lv_iconst (v := nI 3) hx hb dL_law_115 (by decide) ?_
        refine lv_irem hx hb dL_law_116 (by decide) ?_
        refine lv_topi (fun y9 e9 => ?_)
        obtain rfl : y9 = nI (k % 3) := e9.trans (pk_rem (by omega) (by omega) (by omega))
        by_cases h3 : k % 3 = 0
        · have h3b := h3
          refine lv_if_gt (tgt := 132) hx hb dL_law_117 (by decide) (fun q => absurd q (by rw [h3]; decide)) (fun _ => ?_)
          refine lv_aload_n hx hb dL_law_120 rfl (lv_at hl 4 rfl) ?_
          refine lv_iload hx hb dL_law_121 (lv_at hl 1 rfl) ?_
          refine lv_ldc hx hb hown k1 dL_law_123 ?_
          refine lv_irem hx hb dL_law_125 (by decide) ?_
          refine lv_topi (fun y9 e9 => ?_)
          obtain rfl : y9 = nI (cellN L xs k % 100000) := e9.trans (pk_rem (a := cellN L xs k) (d := 100000) (by omega) (by omega) (by omega))
          refine (LwP.snd hJ (fun wq hq => jp_refuses hst hq (c := cellN L xs k % 100000) (Nat.mod_lt _ (by decide)))).call 2 hX hbl hbA hE ⟨hx, hb, hml, hown, hts⟩ gL_law_L_refuses rfl (by decide) (by decide +kernel) ⟨Nat.le_of_ble_eq_true rfl, Nat.le_of_ble_eq_true rfl⟩ hP hD hS hA hK rfl hl.1 rfl (lv_room (Nat.le_of_ble_eq_true rfl)) dL_law_126 ⟨(by show _ ≤ 600130; first | omega | (dsimp only; omega)), (by show _ ≤ 7301080; first | omega | (dsimp only; omega))⟩ (fun x9 ws H locs h9 hP hD hS => ?_)
          obtain ⟨rfl, hJ⟩ := Two.r h9
          refine lv_if_eq (tgt := 223) hx hb dL_law_129 (by decide) (fun q => absurd q (by decide)) (fun _ => ?_)
          exact W.widen (by first | omega | (dsimp only; omega)) (by first | omega | (dsimp only; omega)) (k132 B1 [] M1 told hact ws H locs ls hJ hP hD hS (lv_sub hl [0, 1, 2, 3, 4, 5, 6] rfl))
        · have h3b := h3
          refine lv_if_gt (tgt := 132) hx hb dL_law_117 (by decide) (fun _ => ?_) (fun q => absurd (by rw [show (0 : Int32) = nI 0 from rfl, z_lt (by omega) (by omega)]; omega) q)
          exact W.widen (by first | omega | (dsimp only; omega)) (by first | omega | (dsimp only; omega)) (k132 B1 Bq M1 told hact ws H locs ls hJ hP hD hS (lv_sub hl [0, 1, 2, 3, 4, 5, 6] rfl))
    have hw0 : (whF (txB []) ([] : List Nat).length 60 0).1 = 0 := Nat.le_zero.mp (whF_le (n := 0) (BR_0 (fun _ => nI 0) (txB [])) 60 0 (Nat.zero_le _))
    have h305 : (M0 s0).s 305 = nI 0 := stF_at hs0 (by decide)
    have h458 : (M0 s0).s 458 = nI 0 := stF_at hs0 (by decide)
    have hloss : lossN (M0 s0).s 6 0 29 = 6 := stF_loss hd0 hs0 (by decide) 6 0 rfl
    refine lv_aload_n hx hb dL_law_16 rfl (lv_at hl 1 rfl) ?_
    refine (LwS.fst hJ (fun wo ho => jt_undo_0 hst rfl ho)).call 1 hE ⟨hx, hb, hml, hown, hts⟩ gL_law_L_undo rfl (by decide) (by decide +kernel) ⟨Nat.le_of_ble_eq_true rfl, Nat.le_of_ble_eq_true rfl⟩ hP hD hS hA hK rfl hl.1 rfl (lv_room (Nat.le_of_ble_eq_true rfl)) dL_law_17 ⟨(by show _ ≤ 600130; first | omega | (dsimp only; omega)), (by show _ ≤ 7301080; first | omega | (dsimp only; omega))⟩ (fun x9 ws H locs h9 hP hD hS => ?_)
    obtain ⟨rfl, hJ⟩ := Two.l h9
    refine lv_bipush (v := (-2)) hx hb dL_law_20 (by decide) ?_
    refine lv_icmp_ne (tgt := 80) hx hb dL_law_22 (by decide) (fun q => absurd (rfl) q) (fun _ => ?_)
    refine lv_aload_n hx hb dL_law_25 rfl (lv_at hl 1 rfl) ?_
    refine (LwS.fst hJ (fun wo ho => jt_restore_0 hst rfl ho)).call 1 hE ⟨hx, hb, hml, hown, hts⟩ gL_law_L_restore rfl (by decide) (by decide +kernel) ⟨Nat.le_of_ble_eq_true rfl, Nat.le_of_ble_eq_true rfl⟩ hP hD hS hA hK rfl hl.1 rfl (lv_room (Nat.le_of_ble_eq_true rfl)) dL_law_26 ⟨(by show _ ≤ 600130; first | omega | (dsimp only; omega)), (by show _ ≤ 7301080; first | omega | (dsimp only; omega))⟩ (fun x9 ws H locs h9 hP hD hS => ?_)
    obtain ⟨rfl, hJ⟩ := Two.l h9
    refine lv_bipush (v := (-2)) hx hb dL_law_29 (by decide) ?_
    refine lv_icmp_ne (tgt := 80) hx hb dL_law_31 (by decide) (fun q => absurd (rfl) q) (fun _ => ?_)
    refine lv_aload_n hx hb dL_law_34 rfl (lv_at hl 1 rfl) ?_
    refine (LwX.fst hJ (fun wo ho => jo_firstError ho)).call hE ⟨hx, hb, hml, hown, hts⟩ (cwV 0 hts gL_law_X8_firstError rfl rfl rfl (by decide +kernel) ⟨Nat.le_of_ble_eq_true rfl, Nat.le_of_ble_eq_true rfl⟩) rfl hP hD hS hA (hK.sub [0] rfl) rfl hl.1 rfl (lv_room (Nat.le_of_ble_eq_true rfl)) dL_law_35 ⟨(by show _ ≤ 600130; first | omega | (dsimp only; omega)), (by show _ ≤ 7301080; first | omega | (dsimp only; omega))⟩ (fun x9 ws H locs h9 hP hD hS => ?_)
    obtain ⟨rfl, hJ⟩ := Two.l h9
    refine lv_if_ne (tgt := 80) hx hb dL_law_38 (by decide) (fun q => absurd (by rw [hw0]; rfl) q) (fun _ => ?_)
    refine lv_aload_n hx hb dL_law_41 rfl (lv_at hl 1 rfl) ?_
    refine lv_iconst (v := nI 0) hx hb dL_law_42 (by decide) ?_
    refine (LwS.fst hJ (fun wo ho => jj_stopped ho (k := 0) (by decide))).call 2 hE ⟨hx, hb, hml, hown, hts⟩ gL_law_L_stopped rfl (by decide) (by decide +kernel) ⟨Nat.le_of_ble_eq_true rfl, Nat.le_of_ble_eq_true rfl⟩ hP hD hS hA hK rfl hl.1 rfl (lv_room (Nat.le_of_ble_eq_true rfl)) dL_law_43 ⟨(by show _ ≤ 600130; first | omega | (dsimp only; omega)), (by show _ ≤ 7301080; first | omega | (dsimp only; omega))⟩ (fun x9 ws H locs h9 hP hD hS => ?_)
    obtain ⟨rfl, hJ⟩ := Two.l h9
    refine lv_iconst (v := (-1)) hx hb dL_law_46 (by decide) ?_
    refine lv_icmp_ne (tgt := 80) hx hb dL_law_47 (by decide) (fun q => absurd (if_pos h458) q) (fun _ => ?_)
    refine lv_aload_n hx hb dL_law_50 rfl (lv_at hl 1 rfl) ?_
    refine (LwXd.fst hJ (fun wo ho => jj_throughShare ho (by decide))).call hE ⟨hx, hb, hml, hown, hts⟩ (cwV 0 hts gL_law_X8_throughShare rfl rfl rfl (by decide +kernel) ⟨Nat.le_of_ble_eq_true rfl, Nat.le_of_ble_eq_true rfl⟩) rfl hP hD hS hA (hK.sub [0] rfl) rfl hl.1 rfl (lv_room (Nat.le_of_ble_eq_true rfl)) dL_law_51 ⟨(by show _ ≤ 600130; first | omega | (dsimp only; omega)), (by show _ ≤ 7301080; first | omega | (dsimp only; omega))⟩ (fun x9 ws H locs h9 hP hD hS => ?_)
    obtain ⟨rfl, hJ⟩ := Two.l h9
    refine lv_dconst1 hx hb dL_law_54 ?_
    refine lv_dcmp hx hb dL_law_55 ?_
    refine lv_if_ne (tgt := 80) hx hb dL_law_56 (by decide) (fun q => absurd (by rw [show shareN (M0 s0).s = FP.dconst1 from if_pos h305]; exact one_ok.2) q) (fun _ => ?_)
    refine lv_aload_n hx hb dL_law_59 rfl (lv_at hl 1 rfl) ?_
    refine lv_bipush (v := nI 29) hx hb dL_law_60 (by decide) ?_
    refine (LwS.fst hJ (fun wo ho => jj_lostAt ho (w := 29) (by decide))).call 2 hE ⟨hx, hb, hml, hown, hts⟩ gL_law_L_lostAt rfl (by decide) (by decide +kernel) ⟨Nat.le_of_ble_eq_true rfl, Nat.le_of_ble_eq_true rfl⟩ hP hD hS hA hK rfl hl.1 rfl (lv_room (Nat.le_of_ble_eq_true rfl)) dL_law_62 ⟨(by show _ ≤ 600130; first | omega | (dsimp only; omega)), (by show _ ≤ 7301080; first | omega | (dsimp only; omega))⟩ (fun x9 ws H locs h9 hP hD hS => ?_)
    obtain ⟨rfl, hJ⟩ := Two.l h9
    refine lv_iconst (v := (-1)) hx hb dL_law_65 (by decide) ?_
    refine lv_icmp_ne (tgt := 80) hx hb dL_law_66 (by decide) (fun q => absurd (by rw [hloss]; rfl) q) (fun _ => ?_)
    refine lv_aload_n hx hb dL_law_69 rfl (lv_at hl 1 rfl) ?_
    refine (LwP.fst hJ (fun wo ho => jp_hangs ho (by decide))).call 1 hX hbl hbA hE ⟨hx, hb, hml, hown, hts⟩ gL_law_L_hangs rfl (by decide) (by decide +kernel) ⟨Nat.le_of_ble_eq_true rfl, Nat.le_of_ble_eq_true rfl⟩ hP hD hS hA hK rfl hl.1 rfl (lv_room (Nat.le_of_ble_eq_true rfl)) dL_law_70 ⟨(by show _ ≤ 600130; first | omega | (dsimp only; omega)), (by show _ ≤ 7301080; first | omega | (dsimp only; omega))⟩ (fun x9 ws H locs h9 hP hD hS => ?_)
    obtain ⟨rfl, hJ⟩ := Two.l h9
    refine lv_if_eq (tgt := 80) hx hb dL_law_73 (by decide) (fun q => absurd q (by decide)) (fun _ => ?_)
    refine lv_iconst (v := nI 1) hx hb dL_law_76 (by decide) ?_
    refine lv_goto (tgt := 81) hx hb dL_law_77 (by decide) ?_
    refine lv_istore_n (lv' := [(3, .int (nI 1)), (2, .ref aq), (1, .ref ao), (0, .ref b)]) hx hb dL_law_81 rfl hl (by decide) rfl (fun ls hl => ?_)
    refine lv_iconst (v := nI 0) hx hb dL_law_82 (by decide) ?_
    refine lv_istore (lv' := [(4, .int (nI 0)), (3, .int (nI 1)), (2, .ref aq), (1, .ref ao), (0, .ref b)]) hx hb dL_law_83 hl (by decide) rfl (fun ls hl => ?_)
    exact W.widen (by first | omega | (dsimp only; omega)) (by first | omega | (dsimp only; omega)) (kloop 36 0 rfl [] [] (M0 s0) ws H locs ls hJ hP hD hS (lv_sub hl [0, 1, 2, 3, 4] rfl))
  obtain ⟨r0, h0, hCR⟩ := ini_X5
  obtain ⟨s0, hs0⟩ := stF_ex
  have hC := hCR s0 hs0
  have hd0 : Dic s0 := hC.1.2
  have hS : va_S (fun q : Nat => s.heap.size ≤ q) s.heap s.heap [] := va_S.rf
  have hP : va_P G vwCl [] s.heap := fun k q h => by simp at h
  have hD : va_D (fun q : Nat => s.heap.size ≤ q) [] := ⟨fun i j p q h => by simp at h, fun k q h => by simp at h⟩
  have hl := lv_entry ([.ref b]) (n := 8) (Nat.le_of_ble_eq_true rfl)
  rw [lg_entry_eq]
  generalize (lg_sl ([.ref b]) ++ List.replicate (8 - (lg_sl ([.ref b])).length) Slot.unset).toArray = ls at hl ⊢
  have hl : lv_has ls 8 [(0, .ref b)] := hl
  refine va_new (ci := 8) (fs := [.null, .null, .null, .null, .null, .null]) (C := RX8) (T := TX8) (N := 6) hx hb htt uX8 tyX8 tyX8_ok hown (htt (.classLink RL 10 RX8) (by decide +kernel)) (htt (.instantiable RX8 6) (by decide +kernel)) (htt (.initialized RX8) (by decide +kernel)) hK hP hD hS hA rfl (fun j hj => by rcases (show j = 0 ∨ j = 1 ∨ j = 2 ∨ j = 3 ∨ j = 4 ∨ j = 5 by omega) with rfl | rfl | rfl | rfl | rfl | rfl <;> rfl) (Nat.le_of_ble_eq_true rfl) (Nat.le_of_ble_eq_true rfl) dL_law_0 (fun ao H hP hD hS => ?_)
  refine lv_dup hx hb dL_law_3 rfl ?_
  refine mCallPAI_v (As := []) (wr := []) hAO hE ⟨hx, hb, hml, hown, hts⟩ (mX8_init l sa sv G cI cS H.size ao r0 h0 ((0 : Int32), (0 : Int32), (0 : Int32), (0 : Int32), (0 : Int32), (0 : Int32), (fun _ => (0 : Int32)), (0 : Int32), (1 : Int32), (fun _ => (0 : Int32))) rfl ((0 : Int32), (1 : Int32), (fun _ => (0 : Int32))) rfl ((fun _ => (0 : Int32)), (fun _ => (0 : Int32)), (fun _ => (0 : Int32))) rfl) (cwI 0 hts gL_law_X8_init rfl rfl rfl (htt (.initialized RX8) (by decide +kernel)) (htt (.methodLink RL 147 yX8_init) (by decide +kernel)) (htt (.instanceMethod yX8_init) (by decide +kernel)) rfl (by decide +kernel) ⟨Nat.le_of_ble_eq_true rfl, Nat.le_of_ble_eq_true rfl⟩) hP hD hS hA (hK.sub [0, 1] rfl) (List.Perm.refl _) rfl hl.1 rfl (lv_room (Nat.le_of_ble_eq_true rfl)) dL_law_4 ⟨Nat.le_of_ble_eq_true rfl, Nat.le_of_ble_eq_true rfl⟩ (fun u H locs hu hP hD hS => ?_)
  obtain ⟨⟨va, vv⟩, ⟨vh, vs⟩, ⟨vo, vf⟩, ⟨vS, vg⟩, ⟨vt, vk⟩⟩ := u
  have hu : vv = iniV r0 := hu
  subst hu
  refine lv_astore_n (lv' := [(1, .ref ao), (0, .ref b)]) hx hb dL_law_7 rfl hl (by decide) rfl (fun ls hl => ?_)
  refine va_new (ci := 8) (fs := [.null, .null, .null, .null, .null, .null]) (C := RX8) (T := TX8) (N := 6) hx hb htt uX8 tyX8 tyX8_ok hown (htt (.classLink RL 10 RX8) (by decide +kernel)) (htt (.instantiable RX8 6) (by decide +kernel)) (htt (.initialized RX8) (by decide +kernel)) hK hP hD hS hA rfl (fun j hj => by rcases (show j = 0 ∨ j = 1 ∨ j = 2 ∨ j = 3 ∨ j = 4 ∨ j = 5 by omega) with rfl | rfl | rfl | rfl | rfl | rfl <;> rfl) (Nat.le_of_ble_eq_true rfl) (Nat.le_of_ble_eq_true rfl) dL_law_8 (fun aq H hP hD hS => ?_)
  refine lv_dup hx hb dL_law_11 rfl ?_
  refine mCallPAI_v (As := []) hAO hE ⟨hx, hb, hml, hown, hts⟩ (mX8_init l sa sv G cI cS H.size aq r0 h0 ((0 : Int32), (0 : Int32), (0 : Int32), (0 : Int32), (0 : Int32), (0 : Int32), (fun _ => (0 : Int32)), (0 : Int32), (1 : Int32), (fun _ => (0 : Int32))) rfl ((0 : Int32), (1 : Int32), (fun _ => (0 : Int32))) rfl ((fun _ => (0 : Int32)), (fun _ => (0 : Int32)), (fun _ => (0 : Int32))) rfl) (cwI 0 hts gL_law_X8_init rfl rfl rfl (htt (.initialized RX8) (by decide +kernel)) (htt (.methodLink RL 147 yX8_init) (by decide +kernel)) (htt (.instanceMethod yX8_init) (by decide +kernel)) rfl (by decide +kernel) ⟨Nat.le_of_ble_eq_true rfl, Nat.le_of_ble_eq_true rfl⟩) hP hD hS hA (hK.sub [0, 1] rfl) List.perm_append_comm rfl hl.1 rfl (lv_room (Nat.le_of_ble_eq_true rfl)) dL_law_12 ⟨Nat.le_of_ble_eq_true rfl, Nat.le_of_ble_eq_true rfl⟩ (fun u H locs hu hP hD hS => ?_)
  obtain ⟨⟨ua, uv⟩, ⟨uh, us⟩, ⟨uo, uf⟩, ⟨uS, ug⟩, ⟨ut, uk⟩⟩ := u
  have hu : uv = iniV r0 := hu
  subst hu
  refine lv_astore_n (lv' := [(2, .ref aq), (1, .ref ao), (0, .ref b)]) hx hb dL_law_15 rfl hl (by decide) rfl (fun ls hl => ?_)
  exact kmain ao aq _ _ s0 hs0 hd0 _ H locs ls ⟨_, _, by rw [List.append_nil]; exact List.perm_append_comm, st_jj cI cS ao vh vs vo vS vt va vf vg vk hC, st_jj cI cS aq uh us uo uS ut ua uf ug uk hC⟩ hP hD hS hl

-- cell and said
theorem LwP.mk {l : Launch} {sa sv : Nat → Nat} {G : va_G} {tys : List (ClassId × FieldType)} {b L : Nat} {xs : Nat → Int32} {y : MethodName} {wy : List Cond} {F Lo c0 s0 : Nat} {As : List Value} {ws : va_W} {Q : Int32 → va_W → Prop} (rm : Room) (h1 : rm.cells ≤ c0) (h2 : rm.slots ≤ s0) (h3 : rm.frames ≤ F) (h4 : rm.locals ≤ Lo) (hM : ∀ sz, b < sz → ¬ va_A ws sz b → Met l y wy rm (mPcS b L xs (mPcX sa sv G tys As sz ws)) (va_Qi (S := va_W) Q (mB G tys (va_A ws sz) (fun w => w)) (va_A ws sz)) rm.cells rm.slots (va_A ws sz)) : LwP l sa sv G tys b L xs y wy F Lo c0 s0 As ws Q :=
  ⟨rm, ws, [], va_W, Q, fun w => w, h1, h2, h3, h4, List.Perm.of_eq (List.append_nil ws).symm, hM, fun x u h => by rw [List.append_nil]; exact h⟩
theorem and_top (z : Int32) : ∃ n, n < 2147483648 ∧ z &&& nI 2147483647 = nI n := by
  refine ⟨(z &&& nI 2147483647).toNatClampNeg, ?_, ?_⟩
  · exact Int32.toNatClampNeg_lt _
  · have h : ¬ (z &&& nI 2147483647) < 0 := by
      rw [Int32.lt_iff_toInt_lt, show (0 : Int32).toInt = 0 from rfl]
      have h1 : (z &&& nI 2147483647).toBitVec.toNat < 2147483648 := by
        rw [Int32.toBitVec_and, BitVec.toNat_and]
        exact Nat.lt_of_le_of_lt Nat.and_le_right (by decide)
      have h2 : (z &&& nI 2147483647).toInt = (z &&& nI 2147483647).toBitVec.toInt := rfl
      rw [h2, BitVec.toInt_eq_toNat_of_lt (by omega)]
      omega
    exact (nI_self h).symm
/-- the script's k-th cell, or what stands for it -/
def cellN (L : Nat) (xs : Nat → Int32) (k : Nat) : Nat := ((if k < L then xs k else nI 51437 * (nI k + nI 47) + nI 83) &&& nI 2147483647).toNatClampNeg
theorem cellN_lt (L : Nat) (xs : Nat → Int32) (k : Nat) : cellN L xs k < 2147483648 := Int32.toNatClampNeg_lt _
theorem cellN_eq (L : Nat) (xs : Nat → Int32) (k : Nat) : ((if k < L then xs k else nI 51437 * (nI k + nI 47) + nI 83) &&& nI 2147483647) = nI (cellN L xs k) := by
  obtain ⟨n, h1, h2⟩ := and_top (if k < L then xs k else nI 51437 * (nI k + nI 47) + nI 83)
  unfold cellN
  rw [h2, z_cl h1]
set_option maxHeartbeats 4000000 in
theorem mL_cell {l : Launch} {sa sv : Nat → Nat} {G : va_G} {cI cS : ClassId} {b L : Nat} {xs : Nat → Int32} {k : Nat} (hk : k < 1000000) (hL : L ≤ 260) (ws : va_W) : ∀ sz, b < sz → ¬ va_A ws sz b → Met l yL_cell wsL_cell ({ frames := 0, cells := 0, slots := 0, locals := 0 } : Room) (mPcS b L xs (mPcX sa sv G (tyH cI cS) [.ref b, .int (nI k)] sz ws)) (va_Qi (S := va_W) (fun x w => nI (cellN L xs k) = x ∧ w = ws) (mB G (tyH cI cS) (va_A ws sz) (fun w => w)) (va_A ws sz)) ({ frames := 0, cells := 0, slots := 0, locals := 0 } : Room).cells ({ frames := 0, cells := 0, slots := 0, locals := 0 } : Room).slots (va_A ws sz) := by
  intro sz hbs hbn
  refine mStartS (cc := cL_cell) (maxL := 2) (ret := (some .int)) hbs hbn (by decide) rfl (Nat.le_of_ble_eq_true rfl) ?_
  intro p e s m below meth c A ls hx hb hml hr hts hown hlocks hA hsz2 hAe hP hK hD hE hX hbl hbA hS hl
  rw [hAe]
  have hl : lv_has ls 2 [(0, .ref b), (1, .int (nI k))] := hl
  obtain ⟨H, hH⟩ : ∃ H : Heap, H = s.heap := ⟨_, rfl⟩
  obtain ⟨locs, hlc⟩ : ∃ z : List Loc, z = [] := ⟨_, rfl⟩
  rw [← hlc, ← hH]
  have hP : va_P G vwCl ws H := by rw [hH]; exact hP
  have hS : va_S A s.heap H locs := by rw [hlc, hH]; exact hS
  refine lv_iload_n hx hb dL_cell_0 rfl (lv_at hl 1 rfl) ?_
  refine lv_aload_n hx hb dL_cell_1 rfl (lv_at hl 0 rfl) ?_
  refine va_slen hx hb hX hbl hbA hS dL_cell_2 ?_
  have hc := cellN_eq L xs k
  refine lv_icmp_ge (tgt := 12) hx hb dL_cell_3 (by decide) (fun q => ?_) (fun q => ?_)
  · have q2 : ¬ k < L := fun h => absurd q (by rw [show Int32.ofNat L = nI L from rfl, z_le (by omega) (by omega)]; omega)
    rw [if_neg q2] at hc
    refine lv_ldc hx hb hown (v := nI 51437) (hts (.constant RL 7 (51437)) (by decide +kernel)) dL_cell_12 ?_
    refine lv_iload_n hx hb dL_cell_14 rfl (lv_at hl 1 rfl) ?_
    refine lv_bipush (v := nI 47) hx hb dL_cell_15 (by decide) ?_
    refine lv_iadd hx hb dL_cell_17 ?_
    refine lv_imul hx hb dL_cell_18 ?_
    refine lv_bipush (v := nI 83) hx hb dL_cell_19 (by decide) ?_
    refine lv_iadd hx hb dL_cell_21 ?_
    refine lv_ldc hx hb hown (v := nI 2147483647) (hts (.constant RL 8 (2147483647)) (by decide +kernel)) dL_cell_22 ?_
    refine lv_iand hx hb dL_cell_24 ?_
    exact mEndQ_i (S := va_W) ws hx hb hr hlocks hP hK hD hS ⟨hc.symm, rfl⟩ rfl (Nat.le_of_ble_eq_true rfl) (Nat.le_of_ble_eq_true rfl) dL_cell_25
  · have q2 : k < L := Nat.lt_of_not_le (fun h => q (by rw [show Int32.ofNat L = nI L from rfl, z_le (by omega) (by omega)]; exact h))
    rw [if_pos q2] at hc
    have hin : vp_in (nI k) L := vp_lit (decide_eq_false (by rw [z_cl (by omega), Int32.lt_iff_toInt_lt, nI_toInt (by omega), show (0 : Int32).toInt = 0 from rfl]; omega))
    refine lv_aload_n hx hb dL_cell_6 rfl (lv_at hl 0 rfl) ?_
    refine lv_iload_n hx hb dL_cell_7 rfl (lv_at hl 1 rfl) ?_
    refine va_sld hx hb hX hbl hbA hS hin dL_cell_8 ?_
    rw [z_cl (by omega)]
    refine lv_goto (tgt := 22) hx hb dL_cell_9 (by decide) ?_
    refine lv_ldc hx hb hown (v := nI 2147483647) (hts (.constant RL 8 (2147483647)) (by decide +kernel)) dL_cell_22 ?_
    refine lv_iand hx hb dL_cell_24 ?_
    exact mEndQ_i (S := va_W) ws hx hb hr hlocks hP hK hD hS ⟨hc.symm, rfl⟩ rfl (Nat.le_of_ble_eq_true rfl) (Nat.le_of_ble_eq_true rfl) dL_cell_25
theorem jp_cell {l : Launch} {sa sv : Nat → Nat} {G : va_G} {cI cS : ClassId} {b L : Nat} {xs : Nat → Int32} {k : Nat} (hk : k < 1000000) (hL : L ≤ 260) (ws : va_W) : LwP l sa sv G (tyH cI cS) b L xs yL_cell wsL_cell 0 0 0 0 [.ref b, .int (nI k)] ws (fun x w => nI (cellN L xs k) = x ∧ w = ws) := LwP.mk ({ frames := 0, cells := 0, slots := 0, locals := 0 } : Room) (Nat.le_refl _) (Nat.le_refl _) (Nat.le_refl _) (Nat.le_refl _) (mL_cell hk hL ws)
theorem and31 (x : Int64) : ∃ n, n ≤ 31 ∧ (x &&& 31).toInt32 = nI n := by
  have h1 : (x &&& 31).toBitVec.toNat ≤ 31 := by
    rw [Int64.toBitVec_and, BitVec.toNat_and]
    exact Nat.and_le_right
  refine ⟨(x &&& 31).toBitVec.toNat, h1, ?_⟩
  have h2 : (x &&& 31) = Int64.ofNat (x &&& 31).toBitVec.toNat := by
    apply Int64.toBitVec_inj.mp
    apply BitVec.eq_of_toNat_eq
    show _ = (BitVec.ofNat 64 (x &&& 31).toBitVec.toNat).toNat
    rw [BitVec.toNat_ofNat, Nat.mod_eq_of_lt (by omega)]
  generalize (x &&& 31).toBitVec.toNat = n at h1 h2
  rw [h2]
  exact (by decide +kernel : ∀ i : Fin 32, (Int64.ofNat i.val).toInt32 = nI i.val) ⟨n, by omega⟩
/-- the k-th word of a row of five bits each -/
def wat (W : Int64) (k : Nat) : Nat := ((W >>> ((nI (5 * k)).toInt64 &&& 63)) &&& 31).toInt32.toNatClampNeg
theorem wat_eq (W : Int64) (k : Nat) : ((W >>> ((nI (5 * k)).toInt64 &&& 63)) &&& 31).toInt32 = nI (wat W k) ∧ wat W k ≤ 31 := by
  obtain ⟨n, h1, h2⟩ := and31 (W >>> ((nI (5 * k)).toInt64 &&& 63))
  unfold wat
  rw [h2, z_cl (by omega)]
  exact ⟨rfl, h1⟩
/-- what is typed for a sentence -/
def sayW (W : Int64) : Nat → List Nat
  | 0 => [115, 97, 121]
  | k + 1 => ((sayW W k ++ (if 0 < k then [44] else [])) ++ (if 9 < wat W k then [48 + wat W k / 10] else [])) ++ [48 + wat W k % 10]
def sayT (W : Int64) (n u : Nat) : List Nat := (sayW W n ++ (if 1 < u then [35] else [])) ++ (if 1 < u then [48 + u] else [])
theorem sayW_len (W : Int64) : ∀ k, (sayW W k).length ≤ 3 + 3 * k ∧ 3 ≤ (sayW W k).length := by
  intro k
  induction k with
  | zero => exact ⟨Nat.le_refl 3, Nat.le_refl 3⟩
  | succ k ih =>
    rw [sayW, List.length_append, List.length_append, List.length_append, List.length_singleton]
    have h1 : (if 0 < k then [44] else []).length ≤ 1 := by split <;> simp
    have h2 : (if 9 < wat W k then [48 + wat W k / 10] else []).length ≤ 1 := by split <;> simp
    omega
theorem sayW_59 (W : Int64) : ∀ k c, c ∈ sayW W k → c ≠ 59 := by
  intro k
  induction k with
  | zero => intro c hc; simp [sayW] at hc; omega
  | succ k ih =>
    intro c hc
    have h31 := (wat_eq W k).2
    rw [sayW] at hc
    rcases List.mem_append.mp hc with hc | hc
    · rcases List.mem_append.mp hc with hc | hc
      · rcases List.mem_append.mp hc with hc | hc
        · exact ih c hc
        · split at hc
          · rw [List.mem_singleton.mp hc]; decide
          · exact absurd hc List.not_mem_nil
      · split at hc
        · rw [List.mem_singleton.mp hc]; omega
        · exact absurd hc List.not_mem_nil
    · rw [List.mem_singleton.mp hc]; omega
theorem sayT_59 (W : Int64) (n : Nat) {u : Nat} (hu : u ≤ 9) : ∀ c, c ∈ sayT W n u → c ≠ 59 := by
  intro c hc
  unfold sayT at hc
  rcases List.mem_append.mp hc with hc | hc
  · rcases List.mem_append.mp hc with hc | hc
    · exact sayW_59 W n c hc
    · split at hc
      · rw [List.mem_singleton.mp hc]; decide
      · exact absurd hc List.not_mem_nil
  · split at hc
    · rw [List.mem_singleton.mp hc]; omega
    · exact absurd hc List.not_mem_nil
theorem sayW_lt (W : Int64) : ∀ k c, c ∈ sayW W k → c < 1000 := by
  intro k
  induction k with
  | zero => intro c hc; simp [sayW] at hc; omega
  | succ k ih =>
    intro c hc
    have h31 := (wat_eq W k).2
    rw [sayW] at hc
    rcases List.mem_append.mp hc with hc | hc
    · rcases List.mem_append.mp hc with hc | hc
      · rcases List.mem_append.mp hc with hc | hc
        · exact ih c hc
        · split at hc
          · rw [List.mem_singleton.mp hc]; decide
          · exact absurd hc List.not_mem_nil
      · split at hc
        · rw [List.mem_singleton.mp hc]; omega
        · exact absurd hc List.not_mem_nil
    · rw [List.mem_singleton.mp hc]; omega
theorem sayT_lt (W : Int64) (n : Nat) {u : Nat} (hu : u ≤ 9) : ∀ c, c ∈ sayT W n u → c < 1000 := by
  intro c hc
  unfold sayT at hc
  rcases List.mem_append.mp hc with hc | hc
  · rcases List.mem_append.mp hc with hc | hc
    · exact sayW_lt W n c hc
    · split at hc
      · rw [List.mem_singleton.mp hc]; decide
      · exact absurd hc List.not_mem_nil
  · split at hc
    · rw [List.mem_singleton.mp hc]; omega
    · exact absurd hc List.not_mem_nil
theorem sayT_len (W : Int64) {n u : Nat} (hn : n ≤ 12) : (sayT W n u).length ≤ 50 := by
  have := sayW_len W n
  unfold sayT
  rw [List.length_append, List.length_append]
  have h1 : (if 1 < u then [35] else []).length ≤ 1 := by split <;> simp
  have h2 : (if 1 < u then [48 + u] else []).length ≤ 1 := by split <;> simp
  omega
set_option maxHeartbeats 8000000 in
set_option maxRecDepth 100000 in
theorem mL_said {l : Launch} {sa sv : Nat → Nat} {G : va_G} {cI cS : ClassId} {ad : Nat} {al : Nat → Nat} {b L : Nat} {xs : Nat → Int32} {M : MT} {K : Nat} {ws : va_W} (hJ : JJ cI cS ad al [] M K ws) (wd : Int64) {n u : Nat} (hn : n ≤ 12) (hu : u ≤ 9) : ∀ sz, b < sz → ¬ va_A ws sz b → Met l yL_said wsL_said ({ frames := 9, cells := 0, slots := 0, locals := 260 } : Room) (mPcS b L xs (mPcX sa sv G (tyH cI cS) [.ref ad, .long wd, .int (nI n), .int (nI u)] sz ws)) (va_Qi (S := va_W) (fun x w => nI (sayT wd n u).length = x ∧ JJ cI cS ad al (sayT wd n u) M K w) (mB G (tyH cI cS) (va_A ws sz) (fun w => w)) (va_A ws sz)) ({ frames := 9, cells := 0, slots := 0, locals := 260 } : Room).cells ({ frames := 9, cells := 0, slots := 0, locals := 260 } : Room).slots (va_A ws sz) := by
  intro sz hbs hbn
  refine mStartS (cc := cL_said) (maxL := 8) (ret := (some .int)) hbs hbn (by decide) rfl (Nat.le_of_ble_eq_true rfl) ?_
  intro p e s m below meth c A ls hx hb hml hr hts hown hlocks hA hsz2 hAe hP hK hD hE hX hbl hbA hS hl
  rw [hAe]
  have hl : lv_has ls 8 [(0, .ref ad), (1, .long wd), (3, .int (nI n)), (4, .int (nI u))] := hl
  have kend : ∀ (ws : va_W) (H : Heap) (locs : List Loc) (ls : Array Slot) (hJ : JJ cI cS ad al (sayW wd n) M K ws) (hP : va_P G vwCl ws H) (hD : va_D A ws) (hS : va_S A s.heap H locs) (hl : lv_has ls 8 [(6, .int (nI n)), (5, .int (nI (sayW wd n).length)), (0, .ref ad), (1, .long wd), (3, .int (nI n)), (4, .int (nI u))]), W p l e ({ frames := 9, cells := 0, slots := 0, locals := 260 } : Room) s m ([.ref ad, .long wd, .int (nI n), .int (nI u)] : List Value).toArray below meth c H locs 0 0 (MQ below (va_Qi (S := va_W) (fun x w => nI (sayT wd n u).length = x ∧ JJ cI cS ad al (sayT wd n u) M K w) (mB G (tyH cI cS) A (fun w => w)) A) ([.ref ad, .long wd, .int (nI n), .int (nI u)] : List Value).toArray s 0 0 A) (F0 m 110 ls []) := by
    intro ws H locs ls hJ hP hD hS hl
    have hlen := sayW_len wd n
    by_cases hu1 : 1 < u
    · have hT : sayT wd n u = (sayW wd n ++ [35]) ++ [48 + u] := by unfold sayT; rw [if_pos hu1, if_pos hu1]
      refine lv_iload hx hb dL_said_110 (lv_at hl 5 rfl) ?_
      refine lv_iconst (v := nI 1) hx hb dL_said_112 (by decide) ?_
      refine lv_icmp_le (tgt := 125) hx hb dL_said_113 (by decide) (fun q => absurd q (by rw [z_le (by omega) (by omega)]; omega)) (fun _ => ?_)
      refine lv_aload_n hx hb dL_said_116 rfl (lv_at hl 2 rfl) ?_
      refine lv_bipush (v := nI 35) hx hb dL_said_117 (by decide) ?_
      refine (jo_append (B := (sayW wd n)) hJ (c := 35) (by omega) (by omega) (by omega)).call 2 hE ⟨hx, hb, hml, hown, hts⟩ gL_said_L_append rfl (by decide) (by decide +kernel) ⟨Nat.le_of_ble_eq_true rfl, Nat.le_of_ble_eq_true rfl⟩ hP hD hS hA hK rfl hl.1 rfl (lv_room (Nat.le_of_ble_eq_true rfl)) dL_said_119 ⟨Nat.le_of_ble_eq_true rfl, Nat.le_of_ble_eq_true rfl⟩ (fun x9 ws H locs h9 hP hD hS => ?_)
      obtain ⟨rfl, hJ⟩ := h9
      refine lv_goto (tgt := 127) hx hb dL_said_122 (by decide) ?_
      refine lv_istore (lv' := [(5, .int (nI ((sayW wd n).length + 1))), (6, .int (nI n)), (0, .ref ad), (1, .long wd), (3, .int (nI n)), (4, .int (nI u))]) hx hb dL_said_127 hl (by decide) rfl (fun ls hl => ?_)
      refine lv_iload hx hb dL_said_129 (lv_at hl 5 rfl) ?_
      refine lv_iconst (v := nI 1) hx hb dL_said_131 (by decide) ?_
      refine lv_icmp_le (tgt := 147) hx hb dL_said_132 (by decide) (fun q => absurd q (by rw [z_le (by omega) (by omega)]; omega)) (fun _ => ?_)
      refine lv_aload_n hx hb dL_said_135 rfl (lv_at hl 2 rfl) ?_
      refine lv_bipush (v := nI 48) hx hb dL_said_136 (by decide) ?_
      refine lv_iload hx hb dL_said_138 (lv_at hl 5 rfl) ?_
      refine lv_iadd hx hb dL_said_140 ?_
      refine lv_topi (fun y9 e9 => ?_)
      obtain rfl : y9 = nI (48 + u) := e9.trans (nI_add _ _)
      refine (jo_append (B := (sayW wd n ++ [35])) hJ (c := 48 + u) (by omega) (by omega) (by rw [List.length_append, List.length_singleton]; omega)).call 2 hE ⟨hx, hb, hml, hown, hts⟩ gL_said_L_append rfl (by decide) (by decide +kernel) ⟨Nat.le_of_ble_eq_true rfl, Nat.le_of_ble_eq_true rfl⟩ hP hD hS hA hK rfl hl.1 rfl (lv_room (Nat.le_of_ble_eq_true rfl)) dL_said_141 ⟨Nat.le_of_ble_eq_true rfl, Nat.le_of_ble_eq_true rfl⟩ (fun x9 ws H locs h9 hP hD hS => ?_)
      obtain ⟨rfl, hJ⟩ := h9
      refine lv_goto (tgt := 149) hx hb dL_said_144 (by decide) ?_
      exact mEndQ_i (S := va_W) ws hx hb hr hlocks hP hK hD hS ⟨by rw [hT, List.length_append (as := sayW wd n ++ [35])]; rfl, by rw [hT]; exact hJ⟩ rfl (Nat.le_of_ble_eq_true rfl) (Nat.le_of_ble_eq_true rfl) dL_said_149
    · have hT : sayT wd n u = sayW wd n := by unfold sayT; rw [if_neg hu1, if_neg hu1, List.append_nil, List.append_nil]
      refine lv_iload hx hb dL_said_110 (lv_at hl 5 rfl) ?_
      refine lv_iconst (v := nI 1) hx hb dL_said_112 (by decide) ?_
      refine lv_icmp_le (tgt := 125) hx hb dL_said_113 (by decide) (fun _ => ?_) (fun q => absurd (by rw [z_le (by omega) (by omega)]; omega) q)
      refine lv_iload hx hb dL_said_125 (lv_at hl 1 rfl) ?_
      refine lv_istore (lv' := [(5, .int (nI (sayW wd n).length)), (6, .int (nI n)), (0, .ref ad), (1, .long wd), (3, .int (nI n)), (4, .int (nI u))]) hx hb dL_said_127 hl (by decide) rfl (fun ls hl => ?_)
      refine lv_iload hx hb dL_said_129 (lv_at hl 5 rfl) ?_
      refine lv_iconst (v := nI 1) hx hb dL_said_131 (by decide) ?_
      refine lv_icmp_le (tgt := 147) hx hb dL_said_132 (by decide) (fun _ => ?_) (fun q => absurd (by rw [z_le (by omega) (by omega)]; omega) q)
      refine lv_iload hx hb dL_said_147 (lv_at hl 0 rfl) ?_
      exact mEndQ_i (S := va_W) ws hx hb hr hlocks hP hK hD hS ⟨by rw [hT], by rw [hT]; exact hJ⟩ rfl (Nat.le_of_ble_eq_true rfl) (Nat.le_of_ble_eq_true rfl) dL_said_149
  have key : ∀ (d k : Nat), k + d = n → ∀ (ws : va_W) (H : Heap) (locs : List Loc) (ls : Array Slot) (hJ : JJ cI cS ad al (sayW wd k) M K ws) (hP : va_P G vwCl ws H) (hD : va_D A ws) (hS : va_S A s.heap H locs) (hl : lv_has ls 8 [(6, .int (nI k)), (5, .int (nI (sayW wd k).length)), (0, .ref ad), (1, .long wd), (3, .int (nI n)), (4, .int (nI u))]), W p l e ({ frames := 9, cells := 0, slots := 0, locals := 260 } : Room) s m ([.ref ad, .long wd, .int (nI n), .int (nI u)] : List Value).toArray below meth c H locs 0 0 (MQ below (va_Qi (S := va_W) (fun x w => nI (sayT wd n u).length = x ∧ JJ cI cS ad al (sayT wd n u) M K w) (mB G (tyH cI cS) A (fun w => w)) A) ([.ref ad, .long wd, .int (nI n), .int (nI u)] : List Value).toArray s 0 0 A) (F0 m 27 ls []) := by
    intro d
    induction d with
    | zero =>
      intro k hk ws H locs ls hJ hP hD hS hl
      obtain rfl : k = n := by omega
      refine lv_iload hx hb dL_said_27 (lv_at hl 0 rfl) ?_
      refine lv_iload_n hx hb dL_said_29 rfl (lv_at hl 4 rfl) ?_
      refine lv_icmp_ge (tgt := 110) hx hb dL_said_30 (by decide) (fun _ => ?_) (fun q => absurd (by rw [z_le (by omega) (by omega)]; omega) q)
      exact kend ws H locs ls hJ hP hD hS hl
    | succ d ih =>
      intro k hk ws H locs ls hJ hP hD hS hl
      have hlen := sayW_len wd k
      have hw := wat_eq wd k
      have hw31 := hw.2
      refine lv_iload hx hb dL_said_27 (lv_at hl 0 rfl) ?_
      refine lv_iload_n hx hb dL_said_29 rfl (lv_at hl 4 rfl) ?_
      refine lv_icmp_ge (tgt := 110) hx hb dL_said_30 (by decide) (fun q => absurd q (by rw [z_le (by omega) (by omega)]; omega)) (fun _ => ?_)
      refine lv_lload_n hx hb dL_said_33 rfl (lv_at hl 3 rfl) ?_
      refine lv_iconst (v := nI 5) hx hb dL_said_34 (by decide) ?_
      refine lv_iload hx hb dL_said_35 (lv_at hl 0 rfl) ?_
      refine lv_imul hx hb dL_said_37 ?_
      refine lv_topi (fun y9 e9 => ?_)
      obtain rfl : y9 = nI (5 * k) := e9.trans (pk_mul 5 k)
      refine lv_lshr (v := wd >>> ((nI (5 * k)).toInt64 &&& 63)) hx hb dL_said_38 rfl ?_
      refine lv_ldc2 (v := 31) hx hb hown (hts (.constantLong RL 71 (31)) (by decide +kernel)) dL_said_39 ?_
      refine lv_land hx hb dL_said_42 ?_
      refine lv_l2i (v := ((wd >>> ((nI (5 * k)).toInt64 &&& 63)) &&& ((31 : Int64))).toInt32) hx hb dL_said_43 rfl ?_
      refine lv_topi (fun y9 e9 => ?_)
      obtain rfl : y9 = nI (wat wd k) := e9.trans (hw.1)
      refine lv_istore (lv' := [(7, .int (nI (wat wd k))), (6, .int (nI k)), (5, .int (nI (sayW wd k).length)), (0, .ref ad), (1, .long wd), (3, .int (nI n)), (4, .int (nI u))]) hx hb dL_said_44 hl (by decide) rfl (fun ls hl => ?_)
      have k88 : ∀ (Bx : List Nat) (hxl : Bx.length < 50) (hxe : Bx ++ [48 + wat wd k % 10] = sayW wd (k + 1)) (z5 : Int32) (ws : va_W) (H : Heap) (locs : List Loc) (ls : Array Slot) (hJ : JJ cI cS ad al Bx M K ws) (hP : va_P G vwCl ws H) (hD : va_D A ws) (hS : va_S A s.heap H locs) (hl : lv_has ls 8 [(7, .int (nI (wat wd k))), (6, .int (nI k)), (5, .int z5), (0, .ref ad), (1, .long wd), (3, .int (nI n)), (4, .int (nI u))]), W p l e ({ frames := 9, cells := 0, slots := 0, locals := 260 } : Room) s m ([.ref ad, .long wd, .int (nI n), .int (nI u)] : List Value).toArray below meth c H locs 0 0 (MQ below (va_Qi (S := va_W) (fun x w => nI (sayT wd n u).length = x ∧ JJ cI cS ad al (sayT wd n u) M K w) (mB G (tyH cI cS) A (fun w => w)) A) ([.ref ad, .long wd, .int (nI n), .int (nI u)] : List Value).toArray s 0 0 A) (F0 m 88 ls [.int (nI Bx.length)]) := by
        intro Bx hxl hxe z5 ws H locs ls hJ hP hD hS hl
        refine lv_istore (lv' := [(5, .int (nI Bx.length)), (7, .int (nI (wat wd k))), (6, .int (nI k)), (0, .ref ad), (1, .long wd), (3, .int (nI n)), (4, .int (nI u))]) hx hb dL_said_88 hl (by decide) rfl (fun ls hl => ?_)
        refine lv_aload_n hx hb dL_said_90 rfl (lv_at hl 3 rfl) ?_
        refine lv_bipush (v := nI 48) hx hb dL_said_91 (by decide) ?_
        refine lv_iload hx hb dL_said_93 (lv_at hl 1 rfl) ?_
        refine lv_bipush (v := nI 10) hx hb dL_said_95 (by decide) ?_
        refine lv_irem hx hb dL_said_97 (by decide) ?_
        refine lv_topi (fun y9 e9 => ?_)
        obtain rfl : y9 = nI (wat wd k % 10) := e9.trans (pk_rem (by omega) (by omega) (by omega))
        refine lv_iadd hx hb dL_said_98 ?_
        refine lv_topi (fun y9 e9 => ?_)
        obtain rfl : y9 = nI (48 + wat wd k % 10) := e9.trans (nI_add _ _)
        refine (jo_append (B := Bx) hJ (c := 48 + wat wd k % 10) (by omega) (by omega) (by omega)).call 2 hE ⟨hx, hb, hml, hown, hts⟩ gL_said_L_append rfl (by decide) (by decide +kernel) ⟨Nat.le_of_ble_eq_true rfl, Nat.le_of_ble_eq_true rfl⟩ hP hD hS hA hK rfl hl.1 rfl (lv_room (Nat.le_of_ble_eq_true rfl)) dL_said_99 ⟨Nat.le_of_ble_eq_true rfl, Nat.le_of_ble_eq_true rfl⟩ (fun x9 ws H locs h9 hP hD hS => ?_)
        obtain ⟨rfl, hJ⟩ := h9
        refine lv_istore (lv' := [(5, .int (nI (Bx.length + 1))), (7, .int (nI (wat wd k))), (6, .int (nI k)), (0, .ref ad), (1, .long wd), (3, .int (nI n)), (4, .int (nI u))]) hx hb dL_said_102 hl (by decide) rfl (fun ls hl => ?_)
        have he : nI (Bx.length + 1) = nI (sayW wd (k + 1)).length := by rw [← hxe, List.length_append, List.length_singleton]
        rw [hxe] at hJ
        rw [he] at hl
        refine lv_iinc (v := nI (k + 1)) (lv' := [(6, .int (nI (k + 1))), (5, .int (nI (sayW wd (k + 1)).length)), (7, .int (nI (wat wd k))), (0, .ref ad), (1, .long wd), (3, .int (nI n)), (4, .int (nI u))]) hx hb dL_said_104 hl (k := 2) rfl (nI_add _ 1) (by decide) rfl (fun ls hl => ?_)
        refine lv_goto (tgt := 27) hx hb dL_said_107 (by decide) ?_
        exact ih (k + 1) (by omega) ws H locs ls hJ hP hD hS (lv_sub hl [0, 1, 3, 4, 5, 6] rfl)
      have k62 : ∀ (Bx : List Nat) (hxl : Bx.length < 49) (hxe : (Bx ++ (if 9 < wat wd k then [48 + wat wd k / 10] else [])) ++ [48 + wat wd k % 10] = sayW wd (k + 1)) (ws : va_W) (H : Heap) (locs : List Loc) (ls : Array Slot) (hJ : JJ cI cS ad al Bx M K ws) (hP : va_P G vwCl ws H) (hD : va_D A ws) (hS : va_S A s.heap H locs) (hl : lv_has ls 8 [(7, .int (nI (wat wd k))), (6, .int (nI k)), (5, .int (nI (sayW wd k).length)), (0, .ref ad), (1, .long wd), (3, .int (nI n)), (4, .int (nI u))]), W p l e ({ frames := 9, cells := 0, slots := 0, locals := 260 } : Room) s m ([.ref ad, .long wd, .int (nI n), .int (nI u)] : List Value).toArray below meth c H locs 0 0 (MQ below (va_Qi (S := va_W) (fun x w => nI (sayT wd n u).length = x ∧ JJ cI cS ad al (sayT wd n u) M K w) (mB G (tyH cI cS) A (fun w => w)) A) ([.ref ad, .long wd, .int (nI n), .int (nI u)] : List Value).toArray s 0 0 A) (F0 m 62 ls [.int (nI Bx.length)]) := by
        intro Bx hxl hxe ws H locs ls hJ hP hD hS hl
        refine lv_istore (lv' := [(5, .int (nI Bx.length)), (7, .int (nI (wat wd k))), (6, .int (nI k)), (0, .ref ad), (1, .long wd), (3, .int (nI n)), (4, .int (nI u))]) hx hb dL_said_62 hl (by decide) rfl (fun ls hl => ?_)
        refine lv_iload hx hb dL_said_64 (lv_at hl 1 rfl) ?_
        refine lv_bipush (v := nI 9) hx hb dL_said_66 (by decide) ?_
        by_cases h9 : 9 < wat wd k
        · rw [if_pos h9] at hxe
          refine lv_icmp_le (tgt := 86) hx hb dL_said_68 (by decide) (fun q => absurd q (by rw [z_le (by omega) (by omega)]; omega)) (fun _ => ?_)
          refine lv_aload_n hx hb dL_said_71 rfl (lv_at hl 3 rfl) ?_
          refine lv_bipush (v := nI 48) hx hb dL_said_72 (by decide) ?_
          refine lv_iload hx hb dL_said_74 (lv_at hl 1 rfl) ?_
          refine lv_bipush (v := nI 10) hx hb dL_said_76 (by decide) ?_
          refine lv_idiv hx hb dL_said_78 (by decide) ?_
          refine lv_topi (fun y9 e9 => ?_)
          obtain rfl : y9 = nI (wat wd k / 10) := e9.trans (pk_div (by omega) (by omega) (by omega))
          refine lv_iadd hx hb dL_said_79 ?_
          refine lv_topi (fun y9 e9 => ?_)
          obtain rfl : y9 = nI (48 + wat wd k / 10) := e9.trans (nI_add _ _)
          refine (jo_append (B := Bx) hJ (c := 48 + wat wd k / 10) (by omega) (by omega) (by omega)).call 2 hE ⟨hx, hb, hml, hown, hts⟩ gL_said_L_append rfl (by decide) (by decide +kernel) ⟨Nat.le_of_ble_eq_true rfl, Nat.le_of_ble_eq_true rfl⟩ hP hD hS hA hK rfl hl.1 rfl (lv_room (Nat.le_of_ble_eq_true rfl)) dL_said_80 ⟨Nat.le_of_ble_eq_true rfl, Nat.le_of_ble_eq_true rfl⟩ (fun x9 ws H locs h9 hP hD hS => ?_)
          obtain ⟨rfl, hJ⟩ := h9
          refine lv_goto (tgt := 88) hx hb dL_said_83 (by decide) ?_
          have he : nI (Bx.length + 1) = nI (Bx ++ [48 + wat wd k / 10]).length := by rw [List.length_append, List.length_singleton]
          rw [he]
          exact k88 _ (by rw [List.length_append, List.length_singleton]; omega) hxe _ ws H locs ls hJ hP hD hS (lv_sub hl [1, 2, 0, 3, 4, 5, 6] rfl)
        · rw [if_neg h9, List.append_nil] at hxe
          refine lv_icmp_le (tgt := 86) hx hb dL_said_68 (by decide) (fun _ => ?_) (fun q => absurd (by rw [z_le (by omega) (by omega)]; omega) q)
          refine lv_iload hx hb dL_said_86 (lv_at hl 0 rfl) ?_
          exact k88 Bx (by omega) hxe _ ws H locs ls hJ hP hD hS (lv_sub hl [1, 2, 0, 3, 4, 5, 6] rfl)
      refine lv_iload hx hb dL_said_46 (lv_at hl 1 rfl) ?_
      by_cases h0 : 0 < k
      · have hxe : ((sayW wd k ++ [44]) ++ (if 9 < wat wd k then [48 + wat wd k / 10] else [])) ++ [48 + wat wd k % 10] = sayW wd (k + 1) := by rw [sayW, if_pos h0]
        refine lv_if_le (tgt := 60) hx hb dL_said_48 (by decide) (fun q => absurd q (fun h => absurd h (by rw [show (0 : Int32) = nI 0 from rfl, z_le (by omega) (by omega)]; omega))) (fun _ => ?_)
        refine lv_aload_n hx hb dL_said_51 rfl (lv_at hl 3 rfl) ?_
        refine lv_bipush (v := nI 44) hx hb dL_said_52 (by decide) ?_
        refine (jo_append (B := (sayW wd k)) hJ (c := 44) (by omega) (by omega) (by omega)).call 2 hE ⟨hx, hb, hml, hown, hts⟩ gL_said_L_append rfl (by decide) (by decide +kernel) ⟨Nat.le_of_ble_eq_true rfl, Nat.le_of_ble_eq_true rfl⟩ hP hD hS hA hK rfl hl.1 rfl (lv_room (Nat.le_of_ble_eq_true rfl)) dL_said_54 ⟨Nat.le_of_ble_eq_true rfl, Nat.le_of_ble_eq_true rfl⟩ (fun x9 ws H locs h9 hP hD hS => ?_)
        obtain ⟨rfl, hJ⟩ := h9
        refine lv_goto (tgt := 62) hx hb dL_said_57 (by decide) ?_
        have he : nI ((sayW wd k).length + 1) = nI (sayW wd k ++ [44]).length := by rw [List.length_append, List.length_singleton]
        rw [he]
        exact k62 _ (by rw [List.length_append, List.length_singleton]; omega) hxe ws H locs ls hJ hP hD hS hl
      · have hxe : (sayW wd k ++ (if 9 < wat wd k then [48 + wat wd k / 10] else [])) ++ [48 + wat wd k % 10] = sayW wd (k + 1) := by rw [sayW, if_neg h0, List.append_nil]
        refine lv_if_le (tgt := 60) hx hb dL_said_48 (by decide) (fun _ => ?_) (fun q => absurd (by rw [show (0 : Int32) = nI 0 from rfl, z_le (by omega) (by omega)]; omega) q)
        refine lv_iload hx hb dL_said_60 (lv_at hl 2 rfl) ?_
        exact k62 _ (by omega) hxe ws H locs ls hJ hP hD hS hl
  obtain ⟨H, hH⟩ : ∃ H : Heap, H = s.heap := ⟨_, rfl⟩
  obtain ⟨locs, hlc⟩ : ∃ z : List Loc, z = [] := ⟨_, rfl⟩
  rw [← hlc, ← hH]
  have hP : va_P G vwCl ws H := by rw [hH]; exact hP
  have hS : va_S A s.heap H locs := by rw [hlc, hH]; exact hS
  refine lv_aload_n hx hb dL_said_0 rfl (lv_at hl 0 rfl) ?_
  refine lv_bipush (v := nI 115) hx hb dL_said_1 (by decide) ?_
  refine (jo_append (B := []) hJ (c := 115) (by omega) (by omega) (by decide)).call 2 hE ⟨hx, hb, hml, hown, hts⟩ gL_said_L_append rfl (by decide) (by decide +kernel) ⟨Nat.le_of_ble_eq_true rfl, Nat.le_of_ble_eq_true rfl⟩ hP hD hS hA hK rfl hl.1 rfl (lv_room (Nat.le_of_ble_eq_true rfl)) dL_said_3 ⟨Nat.le_of_ble_eq_true rfl, Nat.le_of_ble_eq_true rfl⟩ (fun x9 ws H locs h9 hP hD hS => ?_)
  obtain ⟨rfl, hJ⟩ := h9
  refine lv_istore (lv' := [(5, .int (nI (([]).length + 1))), (0, .ref ad), (1, .long wd), (3, .int (nI n)), (4, .int (nI u))]) hx hb dL_said_6 hl (by decide) rfl (fun ls hl => ?_)
  refine lv_aload_n hx hb dL_said_8 rfl (lv_at hl 1 rfl) ?_
  refine lv_bipush (v := nI 97) hx hb dL_said_9 (by decide) ?_
  refine (jo_append (B := ([] ++ [115])) hJ (c := 97) (by omega) (by omega) (by decide)).call 2 hE ⟨hx, hb, hml, hown, hts⟩ gL_said_L_append rfl (by decide) (by decide +kernel) ⟨Nat.le_of_ble_eq_true rfl, Nat.le_of_ble_eq_true rfl⟩ hP hD hS hA hK rfl hl.1 rfl (lv_room (Nat.le_of_ble_eq_true rfl)) dL_said_11 ⟨Nat.le_of_ble_eq_true rfl, Nat.le_of_ble_eq_true rfl⟩ (fun x9 ws H locs h9 hP hD hS => ?_)
  obtain ⟨rfl, hJ⟩ := h9
  refine lv_istore (lv' := [(5, .int (nI (([] ++ [115]).length + 1))), (0, .ref ad), (1, .long wd), (3, .int (nI n)), (4, .int (nI u))]) hx hb dL_said_14 hl (by decide) rfl (fun ls hl => ?_)
  refine lv_aload_n hx hb dL_said_16 rfl (lv_at hl 1 rfl) ?_
  refine lv_bipush (v := nI 121) hx hb dL_said_17 (by decide) ?_
  refine (jo_append (B := ([] ++ [115] ++ [97])) hJ (c := 121) (by omega) (by omega) (by decide)).call 2 hE ⟨hx, hb, hml, hown, hts⟩ gL_said_L_append rfl (by decide) (by decide +kernel) ⟨Nat.le_of_ble_eq_true rfl, Nat.le_of_ble_eq_true rfl⟩ hP hD hS hA hK rfl hl.1 rfl (lv_room (Nat.le_of_ble_eq_true rfl)) dL_said_19 ⟨Nat.le_of_ble_eq_true rfl, Nat.le_of_ble_eq_true rfl⟩ (fun x9 ws H locs h9 hP hD hS => ?_)
  obtain ⟨rfl, hJ⟩ := h9
  refine lv_istore (lv' := [(5, .int (nI (([] ++ [115] ++ [97]).length + 1))), (0, .ref ad), (1, .long wd), (3, .int (nI n)), (4, .int (nI u))]) hx hb dL_said_22 hl (by decide) rfl (fun ls hl => ?_)
  refine lv_iconst (v := nI 0) hx hb dL_said_24 (by decide) ?_
  refine lv_istore (lv' := [(6, .int (nI 0)), (5, .int (nI (([] ++ [115] ++ [97]).length + 1))), (0, .ref ad), (1, .long wd), (3, .int (nI n)), (4, .int (nI u))]) hx hb dL_said_25 hl (by decide) rfl (fun ls hl => ?_)
  exact key n 0 (by omega) ws H locs ls hJ hP hD hS (lv_sub hl [0, 1, 2, 3, 4, 5] rfl)
theorem jp_said {l : Launch} {sa sv : Nat → Nat} {G : va_G} {cI cS : ClassId} {ad : Nat} {al : Nat → Nat} {b L : Nat} {xs : Nat → Int32} {M : MT} {K : Nat} {ws : va_W} (hJ : JJ cI cS ad al [] M K ws) (wd : Int64) {n u : Nat} (hn : n ≤ 12) (hu : u ≤ 9) : LwP l sa sv G (tyH cI cS) b L xs yL_said wsL_said 9 260 0 0 [.ref ad, .long wd, .int (nI n), .int (nI u)] ws (fun x w => nI (sayT wd n u).length = x ∧ JJ cI cS ad al (sayT wd n u) M K w) := LwP.mk ({ frames := 9, cells := 0, slots := 0, locals := 260 } : Room) (Nat.le_refl _) (Nat.le_refl _) (Nat.le_refl _) (Nat.le_refl _) (mL_said hJ wd hn hu)

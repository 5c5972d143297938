-- acts
theorem whF_le {n : Nat} {cs tx : Nat → Int32} (h : BR n cs tx) : ∀ (k p : Nat), p ≤ n → (whF tx n k p).1 ≤ n := by
  intro k
  induction k with
  | zero => intro p hp; exact hp
  | succ k ih =>
    intro p hp
    rw [whF]
    have hx := ptX h hp (nI 0) (nI 0) (nI 0) (nI 0) (nI 0) (nI 0) (fun _ => nI 0)
    cases ht : ptO tx n p with
    | mk q o =>
      cases o with
      | none => exact (hx.1 q ht).1
      | some o =>
        dsimp only
        have hq := (hx.2 q o ht).2.1
        by_cases e : q = n
        · rw [if_pos e]; exact hq
        · rw [if_neg e]
          by_cases e3 : chrN tx n q = 59
          · rw [if_pos e3]
            have hl := chr_lt (by omega) e3
            exact ih (q + 1) (by omega)
          · rw [if_neg e3]; exact hq
theorem jj_wh {cI cS : ClassId} {ad : Nat} {al : Nat → Nat} {B : List Nat} {M : MT} {K : Nat} {ws : va_W} (h : JJ cI cS ad al B M K ws) : (whF (txB B) B.length 60 0).1 ≤ B.length := by
  obtain ⟨nw, P, v, hp, hB, -⟩ := h
  exact whF_le hB.2 60 0 (Nat.zero_le _)
theorem nI_nonneg (n : Nat) (h : n < 2147483648) : nI 0 ≤ nI n := by rw [z_le (by omega) (by omega)]; omega
theorem nI_nneg (n : Nat) (h : n < 2147483648) : ¬ nI n < (0 : Int32) := by rw [show (0 : Int32) = nI 0 from rfl, z_lt (by omega) (by omega)]; omega
theorem jj_len {cI cS : ClassId} {ad : Nat} {al : Nat → Nat} {B : List Nat} {M : MT} {K : Nat} {ws : va_W} (h : JJ cI cS ad al B M K ws) : B.length ≤ 60 := by
  obtain ⟨nw, P, v, hp, hB, -⟩ := h
  exact hB.2.1
theorem JJ.mono {cI cS : ClassId} {ad : Nat} {al : Nat → Nat} {B : List Nat} {M : MT} {K K' : Nat} {ws : va_W} (hK : K ≤ K') (h : JJ cI cS ad al B M K ws) : JJ cI cS ad al B M K' ws := by
  obtain ⟨nw, P, v, hp, hB, hC, hH, hs, hn⟩ := h
  exact ⟨nw, P, v, hp, hB, CR.cong (fun _ _ => rfl) hK hC, HR.mono hK hH, SNR.mono hK hs, hn⟩
/-- semicolons in the buffer -/
theorem sc_count (T : List Nat) (h : ∀ c, c ∈ T → c < 1000) : scN (txB T) T.length 0 = T.countP (fun c => c == 59) := by
  unfold scN
  rw [cntP_range]
  have hT : T = (List.range' 0 T.length).map (fun j => T.getD j 0) := by
    refine List.ext_getElem (by rw [List.length_map, List.length_range']) (fun i h1 h2 => ?_)
    rw [List.getElem_map, List.getElem_range', List.getD_eq_getElem?_getD, show 0 + 1 * i = i by omega, List.getElem?_eq_getElem h1]
    rfl
  have h2 : (List.range' 0 T.length).countP (fun j => decide (0 ≤ j) && (chrN (txB T) T.length j == 59)) = (List.range' 0 T.length).countP ((fun c => c == 59) ∘ fun j => T.getD j 0) := by
    refine List.countP_congr (fun j hj => ?_)
    have hj2 : j < T.length := by have := List.mem_range'.mp hj; omega
    have hc : chrN (txB T) T.length j = T.getD j 0 := by
      unfold chrN txB
      rw [if_pos hj2]
      have hm : T.getD j 0 < 1000 := by
        rw [List.getD_eq_getElem?_getD, List.getElem?_eq_getElem hj2]
        exact h _ (List.getElem_mem hj2)
      exact z_cl (by omega)
    rw [hc]
    simp
  rw [h2, ← List.countP_map, ← hT]
/-- what is typed for going and a new ear or fee -/
def earT (y : Nat) : List Nat := ([103, 111, 59] ++ (if y % 2 = 0 then [101, 97, 114] else [102, 101, 101])) ++ [48 + y / 2 % 6, 61, 48 + y / 16 % 10]
theorem earT_len (y : Nat) : (earT y).length = 9 := by
  unfold earT
  by_cases e : y % 2 = 0
  · rw [if_pos e]; rfl
  · rw [if_neg e]; rfl
theorem earT_sc (y : Nat) : scN (txB (earT y)) (earT y).length 0 ≤ 1 := by
  have h1 : y / 2 % 6 < 6 := Nat.mod_lt _ (by decide)
  have h2 : y / 16 % 10 < 10 := Nat.mod_lt _ (by decide)
  have n1 : ((48 + y / 2 % 6) == 59) = false := beq_eq_false_iff_ne.mpr (by omega)
  have n2 : ((48 + y / 16 % 10) == 59) = false := beq_eq_false_iff_ne.mpr (by omega)
  have hc : ∀ c, c ∈ earT y → c < 1000 := by
    intro c hc
    unfold earT at hc
    by_cases e : y % 2 = 0
    · rw [if_pos e] at hc
      simp only [List.cons_append, List.nil_append, List.mem_cons, List.not_mem_nil, or_false] at hc
      omega
    · rw [if_neg e] at hc
      simp only [List.cons_append, List.nil_append, List.mem_cons, List.not_mem_nil, or_false] at hc
      omega
  rw [sc_count _ hc]
  unfold earT
  by_cases e : y % 2 = 0
  · rw [if_pos e]
    simp only [List.cons_append, List.nil_append, List.countP_cons, List.countP_nil, n1, n2]
    decide
  · rw [if_neg e]
    simp only [List.cons_append, List.nil_append, List.countP_cons, List.countP_nil, n1, n2]
    decide
theorem sayT_sc (W : Int64) (n : Nat) {u : Nat} (hu : u ≤ 9) : scN (txB (sayT W n u)) (sayT W n u).length 0 = 0 := by
  have hlt : ∀ c, c ∈ sayT W n u → c < 1000 := sayT_lt W n hu
  rw [sc_count _ hlt, List.countP_eq_zero]
  intro c hc h
  exact sayT_59 W n hu c hc (beq_iff_eq.mp h)
/-- orders that are typed are obeyed where they have no error -/
def obT (T : List Nat) (M : MT) : Option (Int32 × MT) := if (whF (txB T) T.length 60 0).1 = T.length then (fL_obey T M).map (fun r => (r.1, r.2.2)) else some ((-9), M)
def wsF (L : Nat) (xs : Nat → Int32) (k : Nat) : Nat → Int64
  | 0 => 0
  | j + 1 => wsF L xs k j ||| ((nI (cellN L xs (k + 1 + j) / 11 % 30)).toInt64 <<< ((nI (5 * j)).toInt64 &&& 63))
/-- one act, on what a chain stands for -/
def actsR (L : Nat) (xs : Nat → Int32) (k : Nat) (M : MT) : Option (Int32 × MT) :=
  if cellN L xs k % 32 < 3 then fL_ear (nI (cellN L xs k / 32 % 6)) (nI (cellN L xs k / 32 / 6 % 10)) M
  else if cellN L xs k % 32 < 4 then fL_fee (nI (cellN L xs k / 32 % 6)) (nI (cellN L xs k / 32 / 6 % 10)) M
  else if cellN L xs k % 32 < 8 then fL_teach (nI (cellN L xs k / 32 % 6)) (nI (cellN L xs k / 32 / 6 % 30)) (nI (cellN L xs k / 32 / 256 % 31) - nI 1) M
  else if cellN L xs k % 32 < 13 then fL_go M
  else if cellN L xs k % 32 < 15 then fL_undo M
  else if cellN L xs k % 32 < 16 then fL_keep M
  else if cellN L xs k % 32 < 17 then fL_restore M
  else if cellN L xs k % 32 < 19 then obT (earT (cellN L xs k / 32)) M
  else obT (sayT (wsF L xs k (1 + cellN L xs k / 32 % 12)) (1 + cellN L xs k / 32 % 12) (1 + cellN L xs k / 32 / 12 % 9)) M
set_option maxHeartbeats 16000000 in
set_option maxRecDepth 100000 in
theorem mL_acts {l : Launch} {sa sv : Nat → Nat} {G : va_G} {cI cS : ClassId} {ad : Nat} {al : Nat → Nat} {b L : Nat} {xs : Nat → Int32} (hst : l.stackTraces = false) {B : List Nat} {M : MT} {K : Nat} {ws : va_W} (hJ : JJ cI cS ad al B M K ws) {k : Nat} (hk : k < 100000) (hL : L ≤ 260) : ∀ sz, b < sz → ¬ va_A ws sz b → Met l yL_acts wsL_acts ({ frames := 10, cells := 16, slots := 480, locals := 300 } : Room) (mPcS b L xs (mPcX sa sv G (tyH cI cS) [.ref ad, .ref b, .int (nI k)] sz ws)) (va_Qi (S := va_W) (fun x w => ∃ B' M', actsR L xs k M = some (x, M') ∧ JJ cI cS ad al B' M' (K + 8) w) (mB G (tyH cI cS) (va_A ws sz) (fun w => w)) (va_A ws sz)) ({ frames := 10, cells := 16, slots := 480, locals := 300 } : Room).cells ({ frames := 10, cells := 16, slots := 480, locals := 300 } : Room).slots (va_A ws sz) := by
  intro sz hbs hbn
  refine mStartS (cc := cL_acts) (maxL := 10) (ret := (some .int)) hbs hbn (by decide) rfl (Nat.le_of_ble_eq_true rfl) ?_
  intro p e s m below meth c A ls hx hb hml hr hts hown hlocks hA hsz2 hAe hP hK hD hE hX hbl hbA hS hl
  rw [hAe]
  have hl : lv_has ls 10 [(0, .ref ad), (1, .ref b), (2, .int (nI k))] := hl
  have hclt := cellN_lt L xs k
  have hcell : ∀ w : va_W, LwP l sa sv G (tyH cI cS) b L xs yL_cell wsL_cell 0 0 0 0 [.ref b, .int (nI k)] w (fun x w2 => nI (cellN L xs k) = x ∧ w2 = w) := fun w => jp_cell (by omega) hL w
  have hact : actsR L xs k M = actsR L xs k M := rfl
  conv at hact => rhs; unfold actsR
  obtain ⟨cc, hcc⟩ : ∃ z, cellN L xs k = z := ⟨_, rfl⟩
  rw [hcc] at hact hclt
  rw [hcc] at hcell
  obtain ⟨y, hy⟩ : ∃ z, cc / 32 = z := ⟨_, rfl⟩
  rw [hy] at hact
  have hyl : y < 67108864 := by omega
  have k_ear : cc % 32 < 3 → ∀ (ws : va_W) (H : Heap) (locs : List Loc) (ls : Array Slot) (hJ : JJ cI cS ad al B M K ws) (hP : va_P G vwCl ws H) (hD : va_D A ws) (hS : va_S A s.heap H locs) (hl : lv_has ls 10 [(4, .int (nI y)), (0, .ref ad), (1, .ref b), (2, .int (nI k))]), W p l e ({ frames := 10, cells := 16, slots := 480, locals := 300 } : Room) s m ([.ref ad, .ref b, .int (nI k)] : List Value).toArray below meth c H locs 0 0 (MQ below (va_Qi (S := va_W) (fun x w => ∃ B' M', actsR L xs k M = some (x, M') ∧ JJ cI cS ad al B' M' (K + 8) w) (mB G (tyH cI cS) A (fun w => w)) A) ([.ref ad, .ref b, .int (nI k)] : List Value).toArray s 16 480 A) (F0 m 108 ls []) := by
    intro hcn ws H locs ls hJ hP hD hS hl
    rw [if_pos (show cc % 32 < 3 by omega)] at hact
    obtain ⟨r, M', hf, hc⟩ := jo_ear hst hJ (nI (y % 6)) (nI (y / 6 % 10))
    refine lv_aload_n hx hb dL_acts_108 rfl (lv_at hl 1 rfl) ?_
    refine lv_iload hx hb dL_acts_109 (lv_at hl 0 rfl) ?_
    refine lv_bipush (v := nI 6) hx hb dL_acts_111 (by decide) ?_
    refine lv_irem hx hb dL_acts_113 (by decide) ?_
    refine lv_topi (fun y9 e9 => ?_)
    obtain rfl : y9 = nI (y % 6) := e9.trans (pk_rem (by omega) (by omega) (by omega))
    refine lv_iload hx hb dL_acts_114 (lv_at hl 0 rfl) ?_
    refine lv_bipush (v := nI 6) hx hb dL_acts_116 (by decide) ?_
    refine lv_idiv hx hb dL_acts_118 (by decide) ?_
    refine lv_topi (fun y9 e9 => ?_)
    obtain rfl : y9 = nI (y / 6) := e9.trans (pk_div (by omega) (by omega) (by omega))
    refine lv_bipush (v := nI 10) hx hb dL_acts_119 (by decide) ?_
    refine lv_irem hx hb dL_acts_121 (by decide) ?_
    refine lv_topi (fun y9 e9 => ?_)
    obtain rfl : y9 = nI (y / 6 % 10) := e9.trans (pk_rem (by omega) (by omega) (by omega))
    refine (hc).call 3 hE ⟨hx, hb, hml, hown, hts⟩ gL_acts_L_ear rfl (by decide) (by decide +kernel) ⟨Nat.le_of_ble_eq_true rfl, Nat.le_of_ble_eq_true rfl⟩ hP hD hS hA hK rfl hl.1 rfl (lv_room (Nat.le_of_ble_eq_true rfl)) dL_acts_122 ⟨Nat.le_of_ble_eq_true rfl, Nat.le_of_ble_eq_true rfl⟩ (fun x9 ws H locs h9 hP hD hS => ?_)
    obtain ⟨rfl, hJ⟩ := h9
    exact mEndQ_i (S := va_W) ws hx hb hr hlocks hP hK hD hS ⟨B, M', hact.trans hf, hJ.mono (by omega)⟩ rfl (Nat.le_of_ble_eq_true rfl) (Nat.le_of_ble_eq_true rfl) dL_acts_125
  have k_fee : ¬ cc % 32 < 3 ∧ cc % 32 < 4 → ∀ (ws : va_W) (H : Heap) (locs : List Loc) (ls : Array Slot) (hJ : JJ cI cS ad al B M K ws) (hP : va_P G vwCl ws H) (hD : va_D A ws) (hS : va_S A s.heap H locs) (hl : lv_has ls 10 [(4, .int (nI y)), (0, .ref ad), (1, .ref b), (2, .int (nI k))]), W p l e ({ frames := 10, cells := 16, slots := 480, locals := 300 } : Room) s m ([.ref ad, .ref b, .int (nI k)] : List Value).toArray below meth c H locs 0 0 (MQ below (va_Qi (S := va_W) (fun x w => ∃ B' M', actsR L xs k M = some (x, M') ∧ JJ cI cS ad al B' M' (K + 8) w) (mB G (tyH cI cS) A (fun w => w)) A) ([.ref ad, .ref b, .int (nI k)] : List Value).toArray s 16 480 A) (F0 m 126 ls []) := by
    intro hcn ws H locs ls hJ hP hD hS hl
    rw [if_neg (show ¬ cc % 32 < 3 by omega), if_pos (show cc % 32 < 4 by omega)] at hact
    obtain ⟨r, M', hf, hc⟩ := jo_fee hst hJ (nI (y % 6)) (nI (y / 6 % 10))
    refine lv_aload_n hx hb dL_acts_126 rfl (lv_at hl 1 rfl) ?_
    refine lv_iload hx hb dL_acts_127 (lv_at hl 0 rfl) ?_
    refine lv_bipush (v := nI 6) hx hb dL_acts_129 (by decide) ?_
    refine lv_irem hx hb dL_acts_131 (by decide) ?_
    refine lv_topi (fun y9 e9 => ?_)
    obtain rfl : y9 = nI (y % 6) := e9.trans (pk_rem (by omega) (by omega) (by omega))
    refine lv_iload hx hb dL_acts_132 (lv_at hl 0 rfl) ?_
    refine lv_bipush (v := nI 6) hx hb dL_acts_134 (by decide) ?_
    refine lv_idiv hx hb dL_acts_136 (by decide) ?_
    refine lv_topi (fun y9 e9 => ?_)
    obtain rfl : y9 = nI (y / 6) := e9.trans (pk_div (by omega) (by omega) (by omega))
    refine lv_bipush (v := nI 10) hx hb dL_acts_137 (by decide) ?_
    refine lv_irem hx hb dL_acts_139 (by decide) ?_
    refine lv_topi (fun y9 e9 => ?_)
    obtain rfl : y9 = nI (y / 6 % 10) := e9.trans (pk_rem (by omega) (by omega) (by omega))
    refine (hc).call 3 hE ⟨hx, hb, hml, hown, hts⟩ gL_acts_L_fee rfl (by decide) (by decide +kernel) ⟨Nat.le_of_ble_eq_true rfl, Nat.le_of_ble_eq_true rfl⟩ hP hD hS hA hK rfl hl.1 rfl (lv_room (Nat.le_of_ble_eq_true rfl)) dL_acts_140 ⟨Nat.le_of_ble_eq_true rfl, Nat.le_of_ble_eq_true rfl⟩ (fun x9 ws H locs h9 hP hD hS => ?_)
    obtain ⟨rfl, hJ⟩ := h9
    exact mEndQ_i (S := va_W) ws hx hb hr hlocks hP hK hD hS ⟨B, M', hact.trans hf, hJ.mono (by omega)⟩ rfl (Nat.le_of_ble_eq_true rfl) (Nat.le_of_ble_eq_true rfl) dL_acts_143
  have k_teach : ¬ cc % 32 < 4 ∧ cc % 32 < 8 → ∀ (ws : va_W) (H : Heap) (locs : List Loc) (ls : Array Slot) (hJ : JJ cI cS ad al B M K ws) (hP : va_P G vwCl ws H) (hD : va_D A ws) (hS : va_S A s.heap H locs) (hl : lv_has ls 10 [(4, .int (nI y)), (0, .ref ad), (1, .ref b), (2, .int (nI k))]), W p l e ({ frames := 10, cells := 16, slots := 480, locals := 300 } : Room) s m ([.ref ad, .ref b, .int (nI k)] : List Value).toArray below meth c H locs 0 0 (MQ below (va_Qi (S := va_W) (fun x w => ∃ B' M', actsR L xs k M = some (x, M') ∧ JJ cI cS ad al B' M' (K + 8) w) (mB G (tyH cI cS) A (fun w => w)) A) ([.ref ad, .ref b, .int (nI k)] : List Value).toArray s 16 480 A) (F0 m 144 ls []) := by
    intro hcn ws H locs ls hJ hP hD hS hl
    rw [if_neg (show ¬ cc % 32 < 3 by omega), if_neg (show ¬ cc % 32 < 4 by omega), if_pos (show cc % 32 < 8 by omega)] at hact
    obtain ⟨r, M', hf, hc⟩ := jo_teach hst hJ (nI (y % 6)) (nI (y / 6 % 30)) (nI (y / 256 % 31) - nI 1)
    refine lv_aload_n hx hb dL_acts_144 rfl (lv_at hl 1 rfl) ?_
    refine lv_iload hx hb dL_acts_145 (lv_at hl 0 rfl) ?_
    refine lv_bipush (v := nI 6) hx hb dL_acts_147 (by decide) ?_
    refine lv_irem hx hb dL_acts_149 (by decide) ?_
    refine lv_topi (fun y9 e9 => ?_)
    obtain rfl : y9 = nI (y % 6) := e9.trans (pk_rem (by omega) (by omega) (by omega))
    refine lv_iload hx hb dL_acts_150 (lv_at hl 0 rfl) ?_
    refine lv_bipush (v := nI 6) hx hb dL_acts_152 (by decide) ?_
    refine lv_idiv hx hb dL_acts_154 (by decide) ?_
    refine lv_topi (fun y9 e9 => ?_)
    obtain rfl : y9 = nI (y / 6) := e9.trans (pk_div (by omega) (by omega) (by omega))
    refine lv_bipush (v := nI 30) hx hb dL_acts_155 (by decide) ?_
    refine lv_irem hx hb dL_acts_157 (by decide) ?_
    refine lv_topi (fun y9 e9 => ?_)
    obtain rfl : y9 = nI (y / 6 % 30) := e9.trans (pk_rem (by omega) (by omega) (by omega))
    refine lv_iload hx hb dL_acts_158 (lv_at hl 0 rfl) ?_
    refine lv_sipush (v := nI 256) hx hb dL_acts_160 (by decide) ?_
    refine lv_idiv hx hb dL_acts_163 (by decide) ?_
    refine lv_topi (fun y9 e9 => ?_)
    obtain rfl : y9 = nI (y / 256) := e9.trans (pk_div (by omega) (by omega) (by omega))
    refine lv_bipush (v := nI 31) hx hb dL_acts_164 (by decide) ?_
    refine lv_irem hx hb dL_acts_166 (by decide) ?_
    refine lv_topi (fun y9 e9 => ?_)
    obtain rfl : y9 = nI (y / 256 % 31) := e9.trans (pk_rem (by omega) (by omega) (by omega))
    refine lv_iconst (v := nI 1) hx hb dL_acts_167 (by decide) ?_
    refine lv_isub hx hb dL_acts_168 ?_
    refine (hc).call 4 hE ⟨hx, hb, hml, hown, hts⟩ gL_acts_L_teach rfl (by decide) (by decide +kernel) ⟨Nat.le_of_ble_eq_true rfl, Nat.le_of_ble_eq_true rfl⟩ hP hD hS hA hK rfl hl.1 rfl (lv_room (Nat.le_of_ble_eq_true rfl)) dL_acts_169 ⟨Nat.le_of_ble_eq_true rfl, Nat.le_of_ble_eq_true rfl⟩ (fun x9 ws H locs h9 hP hD hS => ?_)
    obtain ⟨rfl, hJ⟩ := h9
    exact mEndQ_i (S := va_W) ws hx hb hr hlocks hP hK hD hS ⟨B, M', hact.trans hf, hJ.mono (by omega)⟩ rfl (Nat.le_of_ble_eq_true rfl) (Nat.le_of_ble_eq_true rfl) dL_acts_172
  have k_go : ¬ cc % 32 < 8 ∧ cc % 32 < 13 → ∀ (ws : va_W) (H : Heap) (locs : List Loc) (ls : Array Slot) (hJ : JJ cI cS ad al B M K ws) (hP : va_P G vwCl ws H) (hD : va_D A ws) (hS : va_S A s.heap H locs) (hl : lv_has ls 10 [(4, .int (nI y)), (0, .ref ad), (1, .ref b), (2, .int (nI k))]), W p l e ({ frames := 10, cells := 16, slots := 480, locals := 300 } : Room) s m ([.ref ad, .ref b, .int (nI k)] : List Value).toArray below meth c H locs 0 0 (MQ below (va_Qi (S := va_W) (fun x w => ∃ B' M', actsR L xs k M = some (x, M') ∧ JJ cI cS ad al B' M' (K + 8) w) (mB G (tyH cI cS) A (fun w => w)) A) ([.ref ad, .ref b, .int (nI k)] : List Value).toArray s 16 480 A) (F0 m 173 ls []) := by
    intro hcn ws H locs ls hJ hP hD hS hl
    rw [if_neg (show ¬ cc % 32 < 3 by omega), if_neg (show ¬ cc % 32 < 4 by omega), if_neg (show ¬ cc % 32 < 8 by omega), if_pos (show cc % 32 < 13 by omega)] at hact
    obtain ⟨r, M', hf, hc⟩ := jo_go hst hJ
    refine lv_aload_n hx hb dL_acts_173 rfl (lv_at hl 1 rfl) ?_
    refine (hc).call 1 hE ⟨hx, hb, hml, hown, hts⟩ gL_acts_L_go rfl (by decide) (by decide +kernel) ⟨Nat.le_of_ble_eq_true rfl, Nat.le_of_ble_eq_true rfl⟩ hP hD hS hA hK rfl hl.1 rfl (lv_room (Nat.le_of_ble_eq_true rfl)) dL_acts_174 ⟨Nat.le_of_ble_eq_true rfl, Nat.le_of_ble_eq_true rfl⟩ (fun x9 ws H locs h9 hP hD hS => ?_)
    obtain ⟨rfl, hJ⟩ := h9
    exact mEndQ_i (S := va_W) ws hx hb hr hlocks hP hK hD hS ⟨B, M', hact.trans hf, hJ.mono (by omega)⟩ rfl (Nat.le_of_ble_eq_true rfl) (Nat.le_of_ble_eq_true rfl) dL_acts_177
  have k_undo : ¬ cc % 32 < 13 ∧ cc % 32 < 15 → ∀ (ws : va_W) (H : Heap) (locs : List Loc) (ls : Array Slot) (hJ : JJ cI cS ad al B M K ws) (hP : va_P G vwCl ws H) (hD : va_D A ws) (hS : va_S A s.heap H locs) (hl : lv_has ls 10 [(4, .int (nI y)), (0, .ref ad), (1, .ref b), (2, .int (nI k))]), W p l e ({ frames := 10, cells := 16, slots := 480, locals := 300 } : Room) s m ([.ref ad, .ref b, .int (nI k)] : List Value).toArray below meth c H locs 0 0 (MQ below (va_Qi (S := va_W) (fun x w => ∃ B' M', actsR L xs k M = some (x, M') ∧ JJ cI cS ad al B' M' (K + 8) w) (mB G (tyH cI cS) A (fun w => w)) A) ([.ref ad, .ref b, .int (nI k)] : List Value).toArray s 16 480 A) (F0 m 178 ls []) := by
    intro hcn ws H locs ls hJ hP hD hS hl
    rw [if_neg (show ¬ cc % 32 < 3 by omega), if_neg (show ¬ cc % 32 < 4 by omega), if_neg (show ¬ cc % 32 < 8 by omega), if_neg (show ¬ cc % 32 < 13 by omega), if_pos (show cc % 32 < 15 by omega)] at hact
    obtain ⟨r, M', hf, hc⟩ := jo_undo hst hJ
    refine lv_aload_n hx hb dL_acts_178 rfl (lv_at hl 1 rfl) ?_
    refine (hc).call 1 hE ⟨hx, hb, hml, hown, hts⟩ gL_acts_L_undo rfl (by decide) (by decide +kernel) ⟨Nat.le_of_ble_eq_true rfl, Nat.le_of_ble_eq_true rfl⟩ hP hD hS hA hK rfl hl.1 rfl (lv_room (Nat.le_of_ble_eq_true rfl)) dL_acts_179 ⟨Nat.le_of_ble_eq_true rfl, Nat.le_of_ble_eq_true rfl⟩ (fun x9 ws H locs h9 hP hD hS => ?_)
    obtain ⟨rfl, hJ⟩ := h9
    exact mEndQ_i (S := va_W) ws hx hb hr hlocks hP hK hD hS ⟨B, M', hact.trans hf, hJ.mono (by omega)⟩ rfl (Nat.le_of_ble_eq_true rfl) (Nat.le_of_ble_eq_true rfl) dL_acts_182
  have k_keep : ¬ cc % 32 < 15 ∧ cc % 32 < 16 → ∀ (ws : va_W) (H : Heap) (locs : List Loc) (ls : Array Slot) (hJ : JJ cI cS ad al B M K ws) (hP : va_P G vwCl ws H) (hD : va_D A ws) (hS : va_S A s.heap H locs) (hl : lv_has ls 10 [(4, .int (nI y)), (0, .ref ad), (1, .ref b), (2, .int (nI k))]), W p l e ({ frames := 10, cells := 16, slots := 480, locals := 300 } : Room) s m ([.ref ad, .ref b, .int (nI k)] : List Value).toArray below meth c H locs 0 0 (MQ below (va_Qi (S := va_W) (fun x w => ∃ B' M', actsR L xs k M = some (x, M') ∧ JJ cI cS ad al B' M' (K + 8) w) (mB G (tyH cI cS) A (fun w => w)) A) ([.ref ad, .ref b, .int (nI k)] : List Value).toArray s 16 480 A) (F0 m 183 ls []) := by
    intro hcn ws H locs ls hJ hP hD hS hl
    rw [if_neg (show ¬ cc % 32 < 3 by omega), if_neg (show ¬ cc % 32 < 4 by omega), if_neg (show ¬ cc % 32 < 8 by omega), if_neg (show ¬ cc % 32 < 13 by omega), if_neg (show ¬ cc % 32 < 15 by omega), if_pos (show cc % 32 < 16 by omega)] at hact
    obtain ⟨r, M', hf, hc⟩ := jo_keep hJ
    refine lv_aload_n hx hb dL_acts_183 rfl (lv_at hl 1 rfl) ?_
    refine (hc).call hE ⟨hx, hb, hml, hown, hts⟩ (cwV 0 hts gL_acts_X8_keep rfl rfl rfl (by decide +kernel) ⟨Nat.le_of_ble_eq_true rfl, Nat.le_of_ble_eq_true rfl⟩) rfl hP hD hS hA (hK.sub [0] rfl) rfl hl.1 rfl (lv_room (Nat.le_of_ble_eq_true rfl)) dL_acts_184 ⟨Nat.le_of_ble_eq_true rfl, Nat.le_of_ble_eq_true rfl⟩ (fun x9 ws H locs h9 hP hD hS => ?_)
    obtain ⟨rfl, hJ⟩ := h9
    exact mEndQ_i (S := va_W) ws hx hb hr hlocks hP hK hD hS ⟨B, M', hact.trans hf, hJ.mono (by omega)⟩ rfl (Nat.le_of_ble_eq_true rfl) (Nat.le_of_ble_eq_true rfl) dL_acts_187
  have k_restore : ¬ cc % 32 < 16 ∧ cc % 32 < 17 → ∀ (ws : va_W) (H : Heap) (locs : List Loc) (ls : Array Slot) (hJ : JJ cI cS ad al B M K ws) (hP : va_P G vwCl ws H) (hD : va_D A ws) (hS : va_S A s.heap H locs) (hl : lv_has ls 10 [(4, .int (nI y)), (0, .ref ad), (1, .ref b), (2, .int (nI k))]), W p l e ({ frames := 10, cells := 16, slots := 480, locals := 300 } : Room) s m ([.ref ad, .ref b, .int (nI k)] : List Value).toArray below meth c H locs 0 0 (MQ below (va_Qi (S := va_W) (fun x w => ∃ B' M', actsR L xs k M = some (x, M') ∧ JJ cI cS ad al B' M' (K + 8) w) (mB G (tyH cI cS) A (fun w => w)) A) ([.ref ad, .ref b, .int (nI k)] : List Value).toArray s 16 480 A) (F0 m 188 ls []) := by
    intro hcn ws H locs ls hJ hP hD hS hl
    rw [if_neg (show ¬ cc % 32 < 3 by omega), if_neg (show ¬ cc % 32 < 4 by omega), if_neg (show ¬ cc % 32 < 8 by omega), if_neg (show ¬ cc % 32 < 13 by omega), if_neg (show ¬ cc % 32 < 15 by omega), if_neg (show ¬ cc % 32 < 16 by omega), if_pos (show cc % 32 < 17 by omega)] at hact
    obtain ⟨r, M', hf, hc⟩ := jo_restore hst hJ
    refine lv_aload_n hx hb dL_acts_188 rfl (lv_at hl 1 rfl) ?_
    refine (hc).call 1 hE ⟨hx, hb, hml, hown, hts⟩ gL_acts_L_restore rfl (by decide) (by decide +kernel) ⟨Nat.le_of_ble_eq_true rfl, Nat.le_of_ble_eq_true rfl⟩ hP hD hS hA hK rfl hl.1 rfl (lv_room (Nat.le_of_ble_eq_true rfl)) dL_acts_189 ⟨Nat.le_of_ble_eq_true rfl, Nat.le_of_ble_eq_true rfl⟩ (fun x9 ws H locs h9 hP hD hS => ?_)
    obtain ⟨rfl, hJ⟩ := h9
    exact mEndQ_i (S := va_W) ws hx hb hr hlocks hP hK hD hS ⟨B, M', hact.trans hf, hJ.mono (by omega)⟩ rfl (Nat.le_of_ble_eq_true rfl) (Nat.le_of_ble_eq_true rfl) dL_acts_192
  have k_earT : ¬ cc % 32 < 17 ∧ cc % 32 < 19 → ∀ (ws : va_W) (H : Heap) (locs : List Loc) (ls : Array Slot) (hJ : JJ cI cS ad al B M K ws) (hP : va_P G vwCl ws H) (hD : va_D A ws) (hS : va_S A s.heap H locs) (hl : lv_has ls 10 [(4, .int (nI y)), (0, .ref ad), (1, .ref b), (2, .int (nI k))]), W p l e ({ frames := 10, cells := 16, slots := 480, locals := 300 } : Room) s m ([.ref ad, .ref b, .int (nI k)] : List Value).toArray below meth c H locs 0 0 (MQ below (va_Qi (S := va_W) (fun x w => ∃ B' M', actsR L xs k M = some (x, M') ∧ JJ cI cS ad al B' M' (K + 8) w) (mB G (tyH cI cS) A (fun w => w)) A) ([.ref ad, .ref b, .int (nI k)] : List Value).toArray s 16 480 A) (F0 m 193 ls []) := by
    intro hcn ws H locs ls hJ hP hD hS hl
    rw [if_neg (show ¬ cc % 32 < 3 by omega), if_neg (show ¬ cc % 32 < 4 by omega), if_neg (show ¬ cc % 32 < 8 by omega), if_neg (show ¬ cc % 32 < 13 by omega), if_neg (show ¬ cc % 32 < 15 by omega), if_neg (show ¬ cc % 32 < 16 by omega), if_neg (show ¬ cc % 32 < 17 by omega), if_pos (show cc % 32 < 19 by omega)] at hact
    have hsc := earT_sc y
    have hTl := earT_len y
    refine lv_aload_n hx hb dL_acts_193 rfl (lv_at hl 1 rfl) ?_
    refine (jo_clearBuffer hJ).call hE ⟨hx, hb, hml, hown, hts⟩ (cwV 0 hts gL_acts_X8_clearBuffer rfl rfl rfl (by decide +kernel) ⟨Nat.le_of_ble_eq_true rfl, Nat.le_of_ble_eq_true rfl⟩) rfl hP hD hS hA (hK.sub [0] rfl) rfl hl.1 rfl (lv_room (Nat.le_of_ble_eq_true rfl)) dL_acts_194 ⟨Nat.le_of_ble_eq_true rfl, Nat.le_of_ble_eq_true rfl⟩ (fun x9 ws H locs h9 hP hD hS => ?_)
    obtain ⟨rfl, hJ⟩ := h9
    refine lv_istore (lv' := [(5, .int (nI B.length)), (4, .int (nI y)), (0, .ref ad), (1, .ref b), (2, .int (nI k))]) hx hb dL_acts_197 hl (by decide) rfl (fun ls hl => ?_)
    by_cases hp2 : y % 2 = 0
    · have hpx : y % 2 = 0 := hp2
      refine lv_aload_n hx hb dL_acts_199 rfl (lv_at hl 2 rfl) ?_
      refine lv_bipush (v := nI 103) hx hb dL_acts_200 (by decide) ?_
      refine (jo_append (B := ([] : List Nat)) hJ (c := 103) (by omega) (by omega) (Nat.le_of_ble_eq_true rfl)).call 2 hE ⟨hx, hb, hml, hown, hts⟩ gL_acts_L_append rfl (by decide) (by decide +kernel) ⟨Nat.le_of_ble_eq_true rfl, Nat.le_of_ble_eq_true rfl⟩ hP hD hS hA hK rfl hl.1 rfl (lv_room (Nat.le_of_ble_eq_true rfl)) dL_acts_202 ⟨Nat.le_of_ble_eq_true rfl, Nat.le_of_ble_eq_true rfl⟩ (fun x9 ws H locs h9 hP hD hS => ?_)
      obtain ⟨rfl, hJ⟩ := h9
      refine lv_istore (lv' := [(5, .int (nI (([] : List Nat).length + 1))), (4, .int (nI y)), (0, .ref ad), (1, .ref b), (2, .int (nI k))]) hx hb dL_acts_205 hl (by decide) rfl (fun ls hl => ?_)
      refine lv_aload_n hx hb dL_acts_207 rfl (lv_at hl 2 rfl) ?_
      refine lv_bipush (v := nI 111) hx hb dL_acts_208 (by decide) ?_
      refine (jo_append (B := (([] : List Nat) ++ [103])) hJ (c := 111) (by omega) (by omega) (Nat.le_of_ble_eq_true rfl)).call 2 hE ⟨hx, hb, hml, hown, hts⟩ gL_acts_L_append rfl (by decide) (by decide +kernel) ⟨Nat.le_of_ble_eq_true rfl, Nat.le_of_ble_eq_true rfl⟩ hP hD hS hA hK rfl hl.1 rfl (lv_room (Nat.le_of_ble_eq_true rfl)) dL_acts_210 ⟨Nat.le_of_ble_eq_true rfl, Nat.le_of_ble_eq_true rfl⟩ (fun x9 ws H locs h9 hP hD hS => ?_)
      obtain ⟨rfl, hJ⟩ := h9
      refine lv_istore (lv' := [(5, .int (nI ((([] : List Nat) ++ [103]).length + 1))), (4, .int (nI y)), (0, .ref ad), (1, .ref b), (2, .int (nI k))]) hx hb dL_acts_213 hl (by decide) rfl (fun ls hl => ?_)
      refine lv_aload_n hx hb dL_acts_215 rfl (lv_at hl 2 rfl) ?_
      refine lv_bipush (v := nI 59) hx hb dL_acts_216 (by decide) ?_
      refine (jo_append (B := ((([] : List Nat) ++ [103]) ++ [111])) hJ (c := 59) (by omega) (by omega) (Nat.le_of_ble_eq_true rfl)).call 2 hE ⟨hx, hb, hml, hown, hts⟩ gL_acts_L_append rfl (by decide) (by decide +kernel) ⟨Nat.le_of_ble_eq_true rfl, Nat.le_of_ble_eq_true rfl⟩ hP hD hS hA hK rfl hl.1 rfl (lv_room (Nat.le_of_ble_eq_true rfl)) dL_acts_218 ⟨Nat.le_of_ble_eq_true rfl, Nat.le_of_ble_eq_true rfl⟩ (fun x9 ws H locs h9 hP hD hS => ?_)
      obtain ⟨rfl, hJ⟩ := h9
      refine lv_istore (lv' := [(5, .int (nI (((([] : List Nat) ++ [103]) ++ [111]).length + 1))), (4, .int (nI y)), (0, .ref ad), (1, .ref b), (2, .int (nI k))]) hx hb dL_acts_221 hl (by decide) rfl (fun ls hl => ?_)
      refine lv_aload_n hx hb dL_acts_223 rfl (lv_at hl 2 rfl) ?_
      refine lv_iload hx hb dL_acts_224 (lv_at hl 1 rfl) ?_
      refine lv_iconst (v := nI 2) hx hb dL_acts_226 (by decide) ?_
      refine lv_irem hx hb dL_acts_227 (by decide) ?_
      refine lv_topi (fun y9 e9 => ?_)
      obtain rfl : y9 = nI (y % 2) := e9.trans (pk_rem (by omega) (by omega) (by omega))
      refine lv_if_ne (tgt := 236) hx hb dL_acts_228 (by decide) (fun q => absurd (by rw [hp2]; rfl) q) (fun _ => ?_)
      refine lv_bipush (v := nI 101) hx hb dL_acts_231 (by decide) ?_
      refine lv_goto (tgt := 238) hx hb dL_acts_233 (by decide) ?_
      refine (jo_append (B := (((([] : List Nat) ++ [103]) ++ [111]) ++ [59])) hJ (c := 101) (by omega) (by omega) (Nat.le_of_ble_eq_true rfl)).call 2 hE ⟨hx, hb, hml, hown, hts⟩ gL_acts_L_append rfl (by decide) (by decide +kernel) ⟨Nat.le_of_ble_eq_true rfl, Nat.le_of_ble_eq_true rfl⟩ hP hD hS hA hK rfl hl.1 rfl (lv_room (Nat.le_of_ble_eq_true rfl)) dL_acts_238 ⟨Nat.le_of_ble_eq_true rfl, Nat.le_of_ble_eq_true rfl⟩ (fun x9 ws H locs h9 hP hD hS => ?_)
      obtain ⟨rfl, hJ⟩ := h9
      refine lv_istore (lv' := [(5, .int (nI ((((([] : List Nat) ++ [103]) ++ [111]) ++ [59]).length + 1))), (4, .int (nI y)), (0, .ref ad), (1, .ref b), (2, .int (nI k))]) hx hb dL_acts_241 hl (by decide) rfl (fun ls hl => ?_)
      refine lv_aload_n hx hb dL_acts_243 rfl (lv_at hl 2 rfl) ?_
      refine lv_iload hx hb dL_acts_244 (lv_at hl 1 rfl) ?_
      refine lv_iconst (v := nI 2) hx hb dL_acts_246 (by decide) ?_
      refine lv_irem hx hb dL_acts_247 (by decide) ?_
      refine lv_topi (fun y9 e9 => ?_)
      obtain rfl : y9 = nI (y % 2) := e9.trans (pk_rem (by omega) (by omega) (by omega))
      refine lv_if_ne (tgt := 256) hx hb dL_acts_248 (by decide) (fun q => absurd (by rw [hp2]; rfl) q) (fun _ => ?_)
      refine lv_bipush (v := nI 97) hx hb dL_acts_251 (by decide) ?_
      refine lv_goto (tgt := 258) hx hb dL_acts_253 (by decide) ?_
      refine (jo_append (B := ((((([] : List Nat) ++ [103]) ++ [111]) ++ [59]) ++ [101])) hJ (c := 97) (by omega) (by omega) (Nat.le_of_ble_eq_true rfl)).call 2 hE ⟨hx, hb, hml, hown, hts⟩ gL_acts_L_append rfl (by decide) (by decide +kernel) ⟨Nat.le_of_ble_eq_true rfl, Nat.le_of_ble_eq_true rfl⟩ hP hD hS hA hK rfl hl.1 rfl (lv_room (Nat.le_of_ble_eq_true rfl)) dL_acts_258 ⟨Nat.le_of_ble_eq_true rfl, Nat.le_of_ble_eq_true rfl⟩ (fun x9 ws H locs h9 hP hD hS => ?_)
      obtain ⟨rfl, hJ⟩ := h9
      refine lv_istore (lv' := [(5, .int (nI (((((([] : List Nat) ++ [103]) ++ [111]) ++ [59]) ++ [101]).length + 1))), (4, .int (nI y)), (0, .ref ad), (1, .ref b), (2, .int (nI k))]) hx hb dL_acts_261 hl (by decide) rfl (fun ls hl => ?_)
      refine lv_aload_n hx hb dL_acts_263 rfl (lv_at hl 2 rfl) ?_
      refine lv_iload hx hb dL_acts_264 (lv_at hl 1 rfl) ?_
      refine lv_iconst (v := nI 2) hx hb dL_acts_266 (by decide) ?_
      refine lv_irem hx hb dL_acts_267 (by decide) ?_
      refine lv_topi (fun y9 e9 => ?_)
      obtain rfl : y9 = nI (y % 2) := e9.trans (pk_rem (by omega) (by omega) (by omega))
      refine lv_if_ne (tgt := 276) hx hb dL_acts_268 (by decide) (fun q => absurd (by rw [hp2]; rfl) q) (fun _ => ?_)
      refine lv_bipush (v := nI 114) hx hb dL_acts_271 (by decide) ?_
      refine lv_goto (tgt := 278) hx hb dL_acts_273 (by decide) ?_
      refine (jo_append (B := (((((([] : List Nat) ++ [103]) ++ [111]) ++ [59]) ++ [101]) ++ [97])) hJ (c := 114) (by omega) (by omega) (Nat.le_of_ble_eq_true rfl)).call 2 hE ⟨hx, hb, hml, hown, hts⟩ gL_acts_L_append rfl (by decide) (by decide +kernel) ⟨Nat.le_of_ble_eq_true rfl, Nat.le_of_ble_eq_true rfl⟩ hP hD hS hA hK rfl hl.1 rfl (lv_room (Nat.le_of_ble_eq_true rfl)) dL_acts_278 ⟨Nat.le_of_ble_eq_true rfl, Nat.le_of_ble_eq_true rfl⟩ (fun x9 ws H locs h9 hP hD hS => ?_)
      obtain ⟨rfl, hJ⟩ := h9
      refine lv_istore (lv' := [(5, .int (nI ((((((([] : List Nat) ++ [103]) ++ [111]) ++ [59]) ++ [101]) ++ [97]).length + 1))), (4, .int (nI y)), (0, .ref ad), (1, .ref b), (2, .int (nI k))]) hx hb dL_acts_281 hl (by decide) rfl (fun ls hl => ?_)
      refine lv_aload_n hx hb dL_acts_283 rfl (lv_at hl 2 rfl) ?_
      refine lv_bipush (v := nI 48) hx hb dL_acts_284 (by decide) ?_
      refine lv_iload hx hb dL_acts_286 (lv_at hl 1 rfl) ?_
      refine lv_iconst (v := nI 2) hx hb dL_acts_288 (by decide) ?_
      refine lv_idiv hx hb dL_acts_289 (by decide) ?_
      refine lv_topi (fun y9 e9 => ?_)
      obtain rfl : y9 = nI (y / 2) := e9.trans (pk_div (by omega) (by omega) (by omega))
      refine lv_bipush (v := nI 6) hx hb dL_acts_290 (by decide) ?_
      refine lv_irem hx hb dL_acts_292 (by decide) ?_
      refine lv_topi (fun y9 e9 => ?_)
      obtain rfl : y9 = nI (y / 2 % 6) := e9.trans (pk_rem (by omega) (by omega) (by omega))
      refine lv_iadd hx hb dL_acts_293 ?_
      refine lv_topi (fun y9 e9 => ?_)
      obtain rfl : y9 = nI (48 + y / 2 % 6) := e9.trans (nI_add _ _)
      refine (jo_append (B := ((((((([] : List Nat) ++ [103]) ++ [111]) ++ [59]) ++ [101]) ++ [97]) ++ [114])) hJ (c := 48 + y / 2 % 6) (by omega) (by omega) (Nat.le_of_ble_eq_true rfl)).call 2 hE ⟨hx, hb, hml, hown, hts⟩ gL_acts_L_append rfl (by decide) (by decide +kernel) ⟨Nat.le_of_ble_eq_true rfl, Nat.le_of_ble_eq_true rfl⟩ hP hD hS hA hK rfl hl.1 rfl (lv_room (Nat.le_of_ble_eq_true rfl)) dL_acts_294 ⟨Nat.le_of_ble_eq_true rfl, Nat.le_of_ble_eq_true rfl⟩ (fun x9 ws H locs h9 hP hD hS => ?_)
      obtain ⟨rfl, hJ⟩ := h9
      refine lv_istore (lv' := [(5, .int (nI (((((((([] : List Nat) ++ [103]) ++ [111]) ++ [59]) ++ [101]) ++ [97]) ++ [114]).length + 1))), (4, .int (nI y)), (0, .ref ad), (1, .ref b), (2, .int (nI k))]) hx hb dL_acts_297 hl (by decide) rfl (fun ls hl => ?_)
      refine lv_aload_n hx hb dL_acts_299 rfl (lv_at hl 2 rfl) ?_
      refine lv_bipush (v := nI 61) hx hb dL_acts_300 (by decide) ?_
      refine (jo_append (B := (((((((([] : List Nat) ++ [103]) ++ [111]) ++ [59]) ++ [101]) ++ [97]) ++ [114]) ++ [48 + y / 2 % 6])) hJ (c := 61) (by omega) (by omega) (Nat.le_of_ble_eq_true rfl)).call 2 hE ⟨hx, hb, hml, hown, hts⟩ gL_acts_L_append rfl (by decide) (by decide +kernel) ⟨Nat.le_of_ble_eq_true rfl, Nat.le_of_ble_eq_true rfl⟩ hP hD hS hA hK rfl hl.1 rfl (lv_room (Nat.le_of_ble_eq_true rfl)) dL_acts_302 ⟨Nat.le_of_ble_eq_true rfl, Nat.le_of_ble_eq_true rfl⟩ (fun x9 ws H locs h9 hP hD hS => ?_)
      obtain ⟨rfl, hJ⟩ := h9
      refine lv_istore (lv' := [(5, .int (nI ((((((((([] : List Nat) ++ [103]) ++ [111]) ++ [59]) ++ [101]) ++ [97]) ++ [114]) ++ [48 + y / 2 % 6]).length + 1))), (4, .int (nI y)), (0, .ref ad), (1, .ref b), (2, .int (nI k))]) hx hb dL_acts_305 hl (by decide) rfl (fun ls hl => ?_)
      refine lv_aload_n hx hb dL_acts_307 rfl (lv_at hl 2 rfl) ?_
      refine lv_bipush (v := nI 48) hx hb dL_acts_308 (by decide) ?_
      refine lv_iload hx hb dL_acts_310 (lv_at hl 1 rfl) ?_
      refine lv_bipush (v := nI 16) hx hb dL_acts_312 (by decide) ?_
      refine lv_idiv hx hb dL_acts_314 (by decide) ?_
      refine lv_topi (fun y9 e9 => ?_)
      obtain rfl : y9 = nI (y / 16) := e9.trans (pk_div (by omega) (by omega) (by omega))
      refine lv_bipush (v := nI 10) hx hb dL_acts_315 (by decide) ?_
      refine lv_irem hx hb dL_acts_317 (by decide) ?_
      refine lv_topi (fun y9 e9 => ?_)
      obtain rfl : y9 = nI (y / 16 % 10) := e9.trans (pk_rem (by omega) (by omega) (by omega))
      refine lv_iadd hx hb dL_acts_318 ?_
      refine lv_topi (fun y9 e9 => ?_)
      obtain rfl : y9 = nI (48 + y / 16 % 10) := e9.trans (nI_add _ _)
      refine (jo_append (B := ((((((((([] : List Nat) ++ [103]) ++ [111]) ++ [59]) ++ [101]) ++ [97]) ++ [114]) ++ [48 + y / 2 % 6]) ++ [61])) hJ (c := 48 + y / 16 % 10) (by omega) (by omega) (Nat.le_of_ble_eq_true rfl)).call 2 hE ⟨hx, hb, hml, hown, hts⟩ gL_acts_L_append rfl (by decide) (by decide +kernel) ⟨Nat.le_of_ble_eq_true rfl, Nat.le_of_ble_eq_true rfl⟩ hP hD hS hA hK rfl hl.1 rfl (lv_room (Nat.le_of_ble_eq_true rfl)) dL_acts_319 ⟨Nat.le_of_ble_eq_true rfl, Nat.le_of_ble_eq_true rfl⟩ (fun x9 ws H locs h9 hP hD hS => ?_)
      obtain ⟨rfl, hJ⟩ := h9
      have hT : earT y = (((((((((([] : List Nat) ++ [103]) ++ [111]) ++ [59]) ++ [101]) ++ [97]) ++ [114]) ++ [48 + y / 2 % 6]) ++ [61]) ++ [48 + y / 16 % 10]) := by unfold earT; rw [if_pos hp2]; rfl
      rw [← hT] at hJ
      refine lv_istore (lv' := [(5, .int (nI (((((((((([] : List Nat) ++ [103]) ++ [111]) ++ [59]) ++ [101]) ++ [97]) ++ [114]) ++ [48 + y / 2 % 6]) ++ [61]).length + 1))), (4, .int (nI y)), (0, .ref ad), (1, .ref b), (2, .int (nI k))]) hx hb dL_acts_322 hl (by decide) rfl (fun ls hl => ?_)
      refine lv_iload hx hb dL_acts_324 (lv_at hl 0 rfl) ?_
      refine lv_bipush (v := nI 9) hx hb dL_acts_326 (by decide) ?_
      refine lv_icmp_ne (tgt := 347) hx hb dL_acts_328 (by decide) (fun q => absurd (rfl) q) (fun _ => ?_)
      refine lv_aload_n hx hb dL_acts_331 rfl (lv_at hl 2 rfl) ?_
      refine (jo_firstError hJ).call hE ⟨hx, hb, hml, hown, hts⟩ (cwV 0 hts gL_acts_X8_firstError rfl rfl rfl (by decide +kernel) ⟨Nat.le_of_ble_eq_true rfl, Nat.le_of_ble_eq_true rfl⟩) rfl hP hD hS hA (hK.sub [0] rfl) rfl hl.1 rfl (lv_room (Nat.le_of_ble_eq_true rfl)) dL_acts_332 ⟨Nat.le_of_ble_eq_true rfl, Nat.le_of_ble_eq_true rfl⟩ (fun x9 ws H locs h9 hP hD hS => ?_)
      obtain ⟨rfl, hJ⟩ := h9
      refine lv_bipush (v := nI 9) hx hb dL_acts_335 (by decide) ?_
      have hact2 := hact
      unfold obT at hact2
      rw [hTl] at hact2
      have hw60 := jj_wh hJ
      by_cases he : (whF (txB (earT y)) 9 60 0).1 = 9
      · rw [if_pos he] at hact2
        obtain ⟨r, B', M', hf, hc⟩ := jo_obey hst hJ
        rw [hf] at hact2
        refine lv_icmp_ne (tgt := 347) hx hb dL_acts_337 (by decide) (fun q => absurd (by rw [hTl, he]) q) (fun _ => ?_)
        refine lv_aload_n hx hb dL_acts_340 rfl (lv_at hl 2 rfl) ?_
        refine (hc).call 1 hE ⟨hx, hb, hml, hown, hts⟩ gL_acts_L_obey rfl (by decide) (by decide +kernel) ⟨Nat.le_of_ble_eq_true rfl, Nat.le_of_ble_eq_true rfl⟩ hP hD hS hA hK rfl hl.1 rfl (lv_room (Nat.le_of_ble_eq_true rfl)) dL_acts_341 ⟨Nat.le_of_ble_eq_true rfl, Nat.le_of_ble_eq_true rfl⟩ (fun x9 ws H locs h9 hP hD hS => ?_)
        obtain ⟨rfl, hJ⟩ := h9
        refine lv_goto (tgt := 349) hx hb dL_acts_344 (by decide) ?_
        exact mEndQ_i (S := va_W) ws hx hb hr hlocks hP hK hD hS ⟨B', M', hact2, hJ.mono (by omega)⟩ rfl (Nat.le_of_ble_eq_true rfl) (Nat.le_of_ble_eq_true rfl) dL_acts_349
      · rw [if_neg he] at hact2
        refine lv_icmp_ne (tgt := 347) hx hb dL_acts_337 (by decide) (fun _ => ?_) (fun q => absurd q (fun h => he (by rw [hTl] at h; exact (nI_eq (by rw [hTl] at hw60; omega) (by omega)).mp h)))
        refine lv_bipush (v := (-9)) hx hb dL_acts_347 (by decide) ?_
        exact mEndQ_i (S := va_W) ws hx hb hr hlocks hP hK hD hS ⟨earT y, M, hact2, hJ.mono (by omega)⟩ rfl (Nat.le_of_ble_eq_true rfl) (Nat.le_of_ble_eq_true rfl) dL_acts_349
    · have hpx : ¬ y % 2 = 0 := hp2
      refine lv_aload_n hx hb dL_acts_199 rfl (lv_at hl 2 rfl) ?_
      refine lv_bipush (v := nI 103) hx hb dL_acts_200 (by decide) ?_
      refine (jo_append (B := ([] : List Nat)) hJ (c := 103) (by omega) (by omega) (Nat.le_of_ble_eq_true rfl)).call 2 hE ⟨hx, hb, hml, hown, hts⟩ gL_acts_L_append rfl (by decide) (by decide +kernel) ⟨Nat.le_of_ble_eq_true rfl, Nat.le_of_ble_eq_true rfl⟩ hP hD hS hA hK rfl hl.1 rfl (lv_room (Nat.le_of_ble_eq_true rfl)) dL_acts_202 ⟨Nat.le_of_ble_eq_true rfl, Nat.le_of_ble_eq_true rfl⟩ (fun x9 ws H locs h9 hP hD hS => ?_)
      obtain ⟨rfl, hJ⟩ := h9
      refine lv_istore (lv' := [(5, .int (nI (([] : List Nat).length + 1))), (4, .int (nI y)), (0, .ref ad), (1, .ref b), (2, .int (nI k))]) hx hb dL_acts_205 hl (by decide) rfl (fun ls hl => ?_)
      refine lv_aload_n hx hb dL_acts_207 rfl (lv_at hl 2 rfl) ?_
      refine lv_bipush (v := nI 111) hx hb dL_acts_208 (by decide) ?_
      refine (jo_append (B := (([] : List Nat) ++ [103])) hJ (c := 111) (by omega) (by omega) (Nat.le_of_ble_eq_true rfl)).call 2 hE ⟨hx, hb, hml, hown, hts⟩ gL_acts_L_append rfl (by decide) (by decide +kernel) ⟨Nat.le_of_ble_eq_true rfl, Nat.le_of_ble_eq_true rfl⟩ hP hD hS hA hK rfl hl.1 rfl (lv_room (Nat.le_of_ble_eq_true rfl)) dL_acts_210 ⟨Nat.le_of_ble_eq_true rfl, Nat.le_of_ble_eq_true rfl⟩ (fun x9 ws H locs h9 hP hD hS => ?_)
      obtain ⟨rfl, hJ⟩ := h9
      refine lv_istore (lv' := [(5, .int (nI ((([] : List Nat) ++ [103]).length + 1))), (4, .int (nI y)), (0, .ref ad), (1, .ref b), (2, .int (nI k))]) hx hb dL_acts_213 hl (by decide) rfl (fun ls hl => ?_)
      refine lv_aload_n hx hb dL_acts_215 rfl (lv_at hl 2 rfl) ?_
      refine lv_bipush (v := nI 59) hx hb dL_acts_216 (by decide) ?_
      refine (jo_append (B := ((([] : List Nat) ++ [103]) ++ [111])) hJ (c := 59) (by omega) (by omega) (Nat.le_of_ble_eq_true rfl)).call 2 hE ⟨hx, hb, hml, hown, hts⟩ gL_acts_L_append rfl (by decide) (by decide +kernel) ⟨Nat.le_of_ble_eq_true rfl, Nat.le_of_ble_eq_true rfl⟩ hP hD hS hA hK rfl hl.1 rfl (lv_room (Nat.le_of_ble_eq_true rfl)) dL_acts_218 ⟨Nat.le_of_ble_eq_true rfl, Nat.le_of_ble_eq_true rfl⟩ (fun x9 ws H locs h9 hP hD hS => ?_)
      obtain ⟨rfl, hJ⟩ := h9
      refine lv_istore (lv' := [(5, .int (nI (((([] : List Nat) ++ [103]) ++ [111]).length + 1))), (4, .int (nI y)), (0, .ref ad), (1, .ref b), (2, .int (nI k))]) hx hb dL_acts_221 hl (by decide) rfl (fun ls hl => ?_)
      refine lv_aload_n hx hb dL_acts_223 rfl (lv_at hl 2 rfl) ?_
      refine lv_iload hx hb dL_acts_224 (lv_at hl 1 rfl) ?_
      refine lv_iconst (v := nI 2) hx hb dL_acts_226 (by decide) ?_
      refine lv_irem hx hb dL_acts_227 (by decide) ?_
      refine lv_topi (fun y9 e9 => ?_)
      obtain rfl : y9 = nI (y % 2) := e9.trans (pk_rem (by omega) (by omega) (by omega))
      refine lv_if_ne (tgt := 236) hx hb dL_acts_228 (by decide) (fun _ => ?_) (fun q => absurd q (fun h => hp2 ((nI_eq (b := 0) (by omega) (by omega)).mp h)))
      refine lv_bipush (v := nI 102) hx hb dL_acts_236 (by decide) ?_
      refine (jo_append (B := (((([] : List Nat) ++ [103]) ++ [111]) ++ [59])) hJ (c := 102) (by omega) (by omega) (Nat.le_of_ble_eq_true rfl)).call 2 hE ⟨hx, hb, hml, hown, hts⟩ gL_acts_L_append rfl (by decide) (by decide +kernel) ⟨Nat.le_of_ble_eq_true rfl, Nat.le_of_ble_eq_true rfl⟩ hP hD hS hA hK rfl hl.1 rfl (lv_room (Nat.le_of_ble_eq_true rfl)) dL_acts_238 ⟨Nat.le_of_ble_eq_true rfl, Nat.le_of_ble_eq_true rfl⟩ (fun x9 ws H locs h9 hP hD hS => ?_)
      obtain ⟨rfl, hJ⟩ := h9
      refine lv_istore (lv' := [(5, .int (nI ((((([] : List Nat) ++ [103]) ++ [111]) ++ [59]).length + 1))), (4, .int (nI y)), (0, .ref ad), (1, .ref b), (2, .int (nI k))]) hx hb dL_acts_241 hl (by decide) rfl (fun ls hl => ?_)
      refine lv_aload_n hx hb dL_acts_243 rfl (lv_at hl 2 rfl) ?_
      refine lv_iload hx hb dL_acts_244 (lv_at hl 1 rfl) ?_
      refine lv_iconst (v := nI 2) hx hb dL_acts_246 (by decide) ?_
      refine lv_irem hx hb dL_acts_247 (by decide) ?_
      refine lv_topi (fun y9 e9 => ?_)
      obtain rfl : y9 = nI (y % 2) := e9.trans (pk_rem (by omega) (by omega) (by omega))
      refine lv_if_ne (tgt := 256) hx hb dL_acts_248 (by decide) (fun _ => ?_) (fun q => absurd q (fun h => hp2 ((nI_eq (b := 0) (by omega) (by omega)).mp h)))
      refine lv_bipush (v := nI 101) hx hb dL_acts_256 (by decide) ?_
      refine (jo_append (B := ((((([] : List Nat) ++ [103]) ++ [111]) ++ [59]) ++ [102])) hJ (c := 101) (by omega) (by omega) (Nat.le_of_ble_eq_true rfl)).call 2 hE ⟨hx, hb, hml, hown, hts⟩ gL_acts_L_append rfl (by decide) (by decide +kernel) ⟨Nat.le_of_ble_eq_true rfl, Nat.le_of_ble_eq_true rfl⟩ hP hD hS hA hK rfl hl.1 rfl (lv_room (Nat.le_of_ble_eq_true rfl)) dL_acts_258 ⟨Nat.le_of_ble_eq_true rfl, Nat.le_of_ble_eq_true rfl⟩ (fun x9 ws H locs h9 hP hD hS => ?_)
      obtain ⟨rfl, hJ⟩ := h9
      refine lv_istore (lv' := [(5, .int (nI (((((([] : List Nat) ++ [103]) ++ [111]) ++ [59]) ++ [102]).length + 1))), (4, .int (nI y)), (0, .ref ad), (1, .ref b), (2, .int (nI k))]) hx hb dL_acts_261 hl (by decide) rfl (fun ls hl => ?_)
      refine lv_aload_n hx hb dL_acts_263 rfl (lv_at hl 2 rfl) ?_
      refine lv_iload hx hb dL_acts_264 (lv_at hl 1 rfl) ?_
      refine lv_iconst (v := nI 2) hx hb dL_acts_266 (by decide) ?_
      refine lv_irem hx hb dL_acts_267 (by decide) ?_
      refine lv_topi (fun y9 e9 => ?_)
      obtain rfl : y9 = nI (y % 2) := e9.trans (pk_rem (by omega) (by omega) (by omega))
      refine lv_if_ne (tgt := 276) hx hb dL_acts_268 (by decide) (fun _ => ?_) (fun q => absurd q (fun h => hp2 ((nI_eq (b := 0) (by omega) (by omega)).mp h)))
      refine lv_bipush (v := nI 101) hx hb dL_acts_276 (by decide) ?_
      refine (jo_append (B := (((((([] : List Nat) ++ [103]) ++ [111]) ++ [59]) ++ [102]) ++ [101])) hJ (c := 101) (by omega) (by omega) (Nat.le_of_ble_eq_true rfl)).call 2 hE ⟨hx, hb, hml, hown, hts⟩ gL_acts_L_append rfl (by decide) (by decide +kernel) ⟨Nat.le_of_ble_eq_true rfl, Nat.le_of_ble_eq_true rfl⟩ hP hD hS hA hK rfl hl.1 rfl (lv_room (Nat.le_of_ble_eq_true rfl)) dL_acts_278 ⟨Nat.le_of_ble_eq_true rfl, Nat.le_of_ble_eq_true rfl⟩ (fun x9 ws H locs h9 hP hD hS => ?_)
      obtain ⟨rfl, hJ⟩ := h9
      refine lv_istore (lv' := [(5, .int (nI ((((((([] : List Nat) ++ [103]) ++ [111]) ++ [59]) ++ [102]) ++ [101]).length + 1))), (4, .int (nI y)), (0, .ref ad), (1, .ref b), (2, .int (nI k))]) hx hb dL_acts_281 hl (by decide) rfl (fun ls hl => ?_)
      refine lv_aload_n hx hb dL_acts_283 rfl (lv_at hl 2 rfl) ?_
      refine lv_bipush (v := nI 48) hx hb dL_acts_284 (by decide) ?_
      refine lv_iload hx hb dL_acts_286 (lv_at hl 1 rfl) ?_
      refine lv_iconst (v := nI 2) hx hb dL_acts_288 (by decide) ?_
      refine lv_idiv hx hb dL_acts_289 (by decide) ?_
      refine lv_topi (fun y9 e9 => ?_)
      obtain rfl : y9 = nI (y / 2) := e9.trans (pk_div (by omega) (by omega) (by omega))
      refine lv_bipush (v := nI 6) hx hb dL_acts_290 (by decide) ?_
      refine lv_irem hx hb dL_acts_292 (by decide) ?_
      refine lv_topi (fun y9 e9 => ?_)
      obtain rfl : y9 = nI (y / 2 % 6) := e9.trans (pk_rem (by omega) (by omega) (by omega))
      refine lv_iadd hx hb dL_acts_293 ?_
      refine lv_topi (fun y9 e9 => ?_)
      obtain rfl : y9 = nI (48 + y / 2 % 6) := e9.trans (nI_add _ _)
      refine (jo_append (B := ((((((([] : List Nat) ++ [103]) ++ [111]) ++ [59]) ++ [102]) ++ [101]) ++ [101])) hJ (c := 48 + y / 2 % 6) (by omega) (by omega) (Nat.le_of_ble_eq_true rfl)).call 2 hE ⟨hx, hb, hml, hown, hts⟩ gL_acts_L_append rfl (by decide) (by decide +kernel) ⟨Nat.le_of_ble_eq_true rfl, Nat.le_of_ble_eq_true rfl⟩ hP hD hS hA hK rfl hl.1 rfl (lv_room (Nat.le_of_ble_eq_true rfl)) dL_acts_294 ⟨Nat.le_of_ble_eq_true rfl, Nat.le_of_ble_eq_true rfl⟩ (fun x9 ws H locs h9 hP hD hS => ?_)
      obtain ⟨rfl, hJ⟩ := h9
      refine lv_istore (lv' := [(5, .int (nI (((((((([] : List Nat) ++ [103]) ++ [111]) ++ [59]) ++ [102]) ++ [101]) ++ [101]).length + 1))), (4, .int (nI y)), (0, .ref ad), (1, .ref b), (2, .int (nI k))]) hx hb dL_acts_297 hl (by decide) rfl (fun ls hl => ?_)
      refine lv_aload_n hx hb dL_acts_299 rfl (lv_at hl 2 rfl) ?_
      refine lv_bipush (v := nI 61) hx hb dL_acts_300 (by decide) ?_
      refine (jo_append (B := (((((((([] : List Nat) ++ [103]) ++ [111]) ++ [59]) ++ [102]) ++ [101]) ++ [101]) ++ [48 + y / 2 % 6])) hJ (c := 61) (by omega) (by omega) (Nat.le_of_ble_eq_true rfl)).call 2 hE ⟨hx, hb, hml, hown, hts⟩ gL_acts_L_append rfl (by decide) (by decide +kernel) ⟨Nat.le_of_ble_eq_true rfl, Nat.le_of_ble_eq_true rfl⟩ hP hD hS hA hK rfl hl.1 rfl (lv_room (Nat.le_of_ble_eq_true rfl)) dL_acts_302 ⟨Nat.le_of_ble_eq_true rfl, Nat.le_of_ble_eq_true rfl⟩ (fun x9 ws H locs h9 hP hD hS => ?_)
      obtain ⟨rfl, hJ⟩ := h9
      refine lv_istore (lv' := [(5, .int (nI ((((((((([] : List Nat) ++ [103]) ++ [111]) ++ [59]) ++ [102]) ++ [101]) ++ [101]) ++ [48 + y / 2 % 6]).length + 1))), (4, .int (nI y)), (0, .ref ad), (1, .ref b), (2, .int (nI k))]) hx hb dL_acts_305 hl (by decide) rfl (fun ls hl => ?_)
      refine lv_aload_n hx hb dL_acts_307 rfl (lv_at hl 2 rfl) ?_
      refine lv_bipush (v := nI 48) hx hb dL_acts_308 (by decide) ?_
      refine lv_iload hx hb dL_acts_310 (lv_at hl 1 rfl) ?_
      refine lv_bipush (v := nI 16) hx hb dL_acts_312 (by decide) ?_
      refine lv_idiv hx hb dL_acts_314 (by decide) ?_
      refine lv_topi (fun y9 e9 => ?_)
      obtain rfl : y9 = nI (y / 16) := e9.trans (pk_div (by omega) (by omega) (by omega))
      refine lv_bipush (v := nI 10) hx hb dL_acts_315 (by decide) ?_
      refine lv_irem hx hb dL_acts_317 (by decide) ?_
      refine lv_topi (fun y9 e9 => ?_)
      obtain rfl : y9 = nI (y / 16 % 10) := e9.trans (pk_rem (by omega) (by omega) (by omega))
      refine lv_iadd hx hb dL_acts_318 ?_
      refine lv_topi (fun y9 e9 => ?_)
      obtain rfl : y9 = nI (48 + y / 16 % 10) := e9.trans (nI_add _ _)
      refine (jo_append (B := ((((((((([] : List Nat) ++ [103]) ++ [111]) ++ [59]) ++ [102]) ++ [101]) ++ [101]) ++ [48 + y / 2 % 6]) ++ [61])) hJ (c := 48 + y / 16 % 10) (by omega) (by omega) (Nat.le_of_ble_eq_true rfl)).call 2 hE ⟨hx, hb, hml, hown, hts⟩ gL_acts_L_append rfl (by decide) (by decide +kernel) ⟨Nat.le_of_ble_eq_true rfl, Nat.le_of_ble_eq_true rfl⟩ hP hD hS hA hK rfl hl.1 rfl (lv_room (Nat.le_of_ble_eq_true rfl)) dL_acts_319 ⟨Nat.le_of_ble_eq_true rfl, Nat.le_of_ble_eq_true rfl⟩ (fun x9 ws H locs h9 hP hD hS => ?_)
      obtain ⟨rfl, hJ⟩ := h9
      have hT : earT y = (((((((((([] : List Nat) ++ [103]) ++ [111]) ++ [59]) ++ [102]) ++ [101]) ++ [101]) ++ [48 + y / 2 % 6]) ++ [61]) ++ [48 + y / 16 % 10]) := by unfold earT; rw [if_neg hp2]; rfl
      rw [← hT] at hJ
      refine lv_istore (lv' := [(5, .int (nI (((((((((([] : List Nat) ++ [103]) ++ [111]) ++ [59]) ++ [102]) ++ [101]) ++ [101]) ++ [48 + y / 2 % 6]) ++ [61]).length + 1))), (4, .int (nI y)), (0, .ref ad), (1, .ref b), (2, .int (nI k))]) hx hb dL_acts_322 hl (by decide) rfl (fun ls hl => ?_)
      refine lv_iload hx hb dL_acts_324 (lv_at hl 0 rfl) ?_
      refine lv_bipush (v := nI 9) hx hb dL_acts_326 (by decide) ?_
      refine lv_icmp_ne (tgt := 347) hx hb dL_acts_328 (by decide) (fun q => absurd (rfl) q) (fun _ => ?_)
      refine lv_aload_n hx hb dL_acts_331 rfl (lv_at hl 2 rfl) ?_
      refine (jo_firstError hJ).call hE ⟨hx, hb, hml, hown, hts⟩ (cwV 0 hts gL_acts_X8_firstError rfl rfl rfl (by decide +kernel) ⟨Nat.le_of_ble_eq_true rfl, Nat.le_of_ble_eq_true rfl⟩) rfl hP hD hS hA (hK.sub [0] rfl) rfl hl.1 rfl (lv_room (Nat.le_of_ble_eq_true rfl)) dL_acts_332 ⟨Nat.le_of_ble_eq_true rfl, Nat.le_of_ble_eq_true rfl⟩ (fun x9 ws H locs h9 hP hD hS => ?_)
      obtain ⟨rfl, hJ⟩ := h9
      refine lv_bipush (v := nI 9) hx hb dL_acts_335 (by decide) ?_
      have hact2 := hact
      unfold obT at hact2
      rw [hTl] at hact2
      have hw60 := jj_wh hJ
      by_cases he : (whF (txB (earT y)) 9 60 0).1 = 9
      · rw [if_pos he] at hact2
        obtain ⟨r, B', M', hf, hc⟩ := jo_obey hst hJ
        rw [hf] at hact2
        refine lv_icmp_ne (tgt := 347) hx hb dL_acts_337 (by decide) (fun q => absurd (by rw [hTl, he]) q) (fun _ => ?_)
        refine lv_aload_n hx hb dL_acts_340 rfl (lv_at hl 2 rfl) ?_
        refine (hc).call 1 hE ⟨hx, hb, hml, hown, hts⟩ gL_acts_L_obey rfl (by decide) (by decide +kernel) ⟨Nat.le_of_ble_eq_true rfl, Nat.le_of_ble_eq_true rfl⟩ hP hD hS hA hK rfl hl.1 rfl (lv_room (Nat.le_of_ble_eq_true rfl)) dL_acts_341 ⟨Nat.le_of_ble_eq_true rfl, Nat.le_of_ble_eq_true rfl⟩ (fun x9 ws H locs h9 hP hD hS => ?_)
        obtain ⟨rfl, hJ⟩ := h9
        refine lv_goto (tgt := 349) hx hb dL_acts_344 (by decide) ?_
        exact mEndQ_i (S := va_W) ws hx hb hr hlocks hP hK hD hS ⟨B', M', hact2, hJ.mono (by omega)⟩ rfl (Nat.le_of_ble_eq_true rfl) (Nat.le_of_ble_eq_true rfl) dL_acts_349
      · rw [if_neg he] at hact2
        refine lv_icmp_ne (tgt := 347) hx hb dL_acts_337 (by decide) (fun _ => ?_) (fun q => absurd q (fun h => he (by rw [hTl] at h; exact (nI_eq (by rw [hTl] at hw60; omega) (by omega)).mp h)))
        refine lv_bipush (v := (-9)) hx hb dL_acts_347 (by decide) ?_
        exact mEndQ_i (S := va_W) ws hx hb hr hlocks hP hK hD hS ⟨earT y, M, hact2, hJ.mono (by omega)⟩ rfl (Nat.le_of_ble_eq_true rfl) (Nat.le_of_ble_eq_true rfl) dL_acts_349
  have k_say : ¬ cc % 32 < 19 → ∀ (ws : va_W) (H : Heap) (locs : List Loc) (ls : Array Slot) (hJ : JJ cI cS ad al B M K ws) (hP : va_P G vwCl ws H) (hD : va_D A ws) (hS : va_S A s.heap H locs) (hl : lv_has ls 10 [(4, .int (nI y)), (0, .ref ad), (1, .ref b), (2, .int (nI k))]), W p l e ({ frames := 10, cells := 16, slots := 480, locals := 300 } : Room) s m ([.ref ad, .ref b, .int (nI k)] : List Value).toArray below meth c H locs 0 0 (MQ below (va_Qi (S := va_W) (fun x w => ∃ B' M', actsR L xs k M = some (x, M') ∧ JJ cI cS ad al B' M' (K + 8) w) (mB G (tyH cI cS) A (fun w => w)) A) ([.ref ad, .ref b, .int (nI k)] : List Value).toArray s 16 480 A) (F0 m 350 ls []) := by
    intro hcn ws H locs ls hJ hP hD hS hl
    rw [if_neg (show ¬ cc % 32 < 3 by omega), if_neg (show ¬ cc % 32 < 4 by omega), if_neg (show ¬ cc % 32 < 8 by omega), if_neg (show ¬ cc % 32 < 13 by omega), if_neg (show ¬ cc % 32 < 15 by omega), if_neg (show ¬ cc % 32 < 16 by omega), if_neg (show ¬ cc % 32 < 17 by omega), if_neg (show ¬ cc % 32 < 19 by omega)] at hact
    have hlen : ∀ W : Int64, (sayT W (1 + y % 12) (1 + y / 12 % 9)).length ≤ 50 := fun W => sayT_len W (by omega)
    refine lv_lconst (v := 0) hx hb dL_acts_350 (by decide) ?_
    refine lv_lstore (lv' := [(6, .long ((0 : Int64))), (4, .int (nI y)), (0, .ref ad), (1, .ref b), (2, .int (nI k))]) hx hb dL_acts_351 hl (by decide) rfl (fun ls hl => ?_)
    refine lv_iconst (v := nI 1) hx hb dL_acts_353 (by decide) ?_
    refine lv_iload hx hb dL_acts_354 (lv_at hl 1 rfl) ?_
    refine lv_bipush (v := nI 12) hx hb dL_acts_356 (by decide) ?_
    refine lv_irem hx hb dL_acts_358 (by decide) ?_
    refine lv_topi (fun y9 e9 => ?_)
    obtain rfl : y9 = nI (y % 12) := e9.trans (pk_rem (by omega) (by omega) (by omega))
    refine lv_iadd hx hb dL_acts_359 ?_
    refine lv_topi (fun y9 e9 => ?_)
    obtain rfl : y9 = nI (1 + y % 12) := e9.trans (nI_add _ _)
    refine lv_istore (lv' := [(8, .int (nI (1 + y % 12))), (6, .long ((0 : Int64))), (4, .int (nI y)), (0, .ref ad), (1, .ref b), (2, .int (nI k))]) hx hb dL_acts_360 hl (by decide) rfl (fun ls hl => ?_)
    refine lv_iconst (v := nI 0) hx hb dL_acts_362 (by decide) ?_
    refine lv_istore (lv' := [(9, .int (nI 0)), (8, .int (nI (1 + y % 12))), (6, .long ((0 : Int64))), (4, .int (nI y)), (0, .ref ad), (1, .ref b), (2, .int (nI k))]) hx hb dL_acts_363 hl (by decide) rfl (fun ls hl => ?_)
    have kend : ∀ (ws : va_W) (H : Heap) (locs : List Loc) (ls : Array Slot) (hJ : JJ cI cS ad al B M K ws) (hP : va_P G vwCl ws H) (hD : va_D A ws) (hS : va_S A s.heap H locs) (hl : lv_has ls 10 [(9, .int (nI (1 + y % 12))), (8, .int (nI (1 + y % 12))), (6, .long (wsF L xs k (1 + y % 12))), (4, .int (nI y)), (0, .ref ad), (1, .ref b), (2, .int (nI k))]), W p l e ({ frames := 10, cells := 16, slots := 480, locals := 300 } : Room) s m ([.ref ad, .ref b, .int (nI k)] : List Value).toArray below meth c H locs 0 0 (MQ below (va_Qi (S := va_W) (fun x w => ∃ B' M', actsR L xs k M = some (x, M') ∧ JJ cI cS ad al B' M' (K + 8) w) (mB G (tyH cI cS) A (fun w => w)) A) ([.ref ad, .ref b, .int (nI k)] : List Value).toArray s 16 480 A) (F0 m 405 ls []) := by
      intro ws H locs ls hJ hP hD hS hl
      refine lv_aload_n hx hb dL_acts_405 rfl (lv_at hl 4 rfl) ?_
      have hJ0 := hJ
      refine (jo_clearBuffer hJ).call hE ⟨hx, hb, hml, hown, hts⟩ (cwV 0 hts gL_acts_X8_clearBuffer rfl rfl rfl (by decide +kernel) ⟨Nat.le_of_ble_eq_true rfl, Nat.le_of_ble_eq_true rfl⟩) rfl hP hD hS hA (hK.sub [0] rfl) rfl hl.1 rfl (lv_room (Nat.le_of_ble_eq_true rfl)) dL_acts_406 ⟨Nat.le_of_ble_eq_true rfl, Nat.le_of_ble_eq_true rfl⟩ (fun x9 ws H locs h9 hP hD hS => ?_)
      obtain ⟨rfl, hJ⟩ := h9
      refine lv_if_ge (tgt := 417) hx hb dL_acts_409 (by decide) (fun _ => ?_) (fun q => absurd (by rw [show (0 : Int32) = nI 0 from rfl]; exact nI_nonneg B.length (by have := jj_len hJ0; omega)) q)
      refine lv_aload_n hx hb dL_acts_417 rfl (lv_at hl 4 rfl) ?_
      refine lv_lload hx hb dL_acts_418 (lv_at hl 2 rfl) ?_
      refine lv_iload hx hb dL_acts_420 (lv_at hl 1 rfl) ?_
      refine lv_iconst (v := nI 1) hx hb dL_acts_422 (by decide) ?_
      refine lv_iload hx hb dL_acts_423 (lv_at hl 3 rfl) ?_
      refine lv_bipush (v := nI 12) hx hb dL_acts_425 (by decide) ?_
      refine lv_idiv hx hb dL_acts_427 (by decide) ?_
      refine lv_topi (fun y9 e9 => ?_)
      obtain rfl : y9 = nI (y / 12) := e9.trans (pk_div (by omega) (by omega) (by omega))
      refine lv_bipush (v := nI 9) hx hb dL_acts_428 (by decide) ?_
      refine lv_irem hx hb dL_acts_430 (by decide) ?_
      refine lv_topi (fun y9 e9 => ?_)
      obtain rfl : y9 = nI (y / 12 % 9) := e9.trans (pk_rem (by omega) (by omega) (by omega))
      refine lv_iadd hx hb dL_acts_431 ?_
      refine lv_topi (fun y9 e9 => ?_)
      obtain rfl : y9 = nI (1 + y / 12 % 9) := e9.trans (nI_add _ _)
      refine (jp_said hJ (wsF L xs k (1 + y % 12)) (n := 1 + y % 12) (u := 1 + y / 12 % 9) (by omega) (by omega)).call 4 hX hbl hbA hE ⟨hx, hb, hml, hown, hts⟩ gL_acts_L_said rfl (by decide) (by decide +kernel) ⟨Nat.le_of_ble_eq_true rfl, Nat.le_of_ble_eq_true rfl⟩ hP hD hS hA hK rfl hl.1 rfl (lv_room (Nat.le_of_ble_eq_true rfl)) dL_acts_432 ⟨Nat.le_of_ble_eq_true rfl, Nat.le_of_ble_eq_true rfl⟩ (fun x9 ws H locs h9 hP hD hS => ?_)
      obtain ⟨rfl, hJ⟩ := h9
      have hsc := sayT_sc (wsF L xs k (1 + y % 12)) (1 + y % 12) (u := 1 + y / 12 % 9) (by omega)
      have hln := hlen (wsF L xs k (1 + y % 12))
      unfold obT at hact
      refine lv_istore (lv' := [(9, .int (nI (sayT (wsF L xs k (1 + y % 12)) (1 + y % 12) (1 + y / 12 % 9)).length)), (8, .int (nI (1 + y % 12))), (6, .long (wsF L xs k (1 + y % 12))), (4, .int (nI y)), (0, .ref ad), (1, .ref b), (2, .int (nI k))]) hx hb dL_acts_435 hl (by decide) rfl (fun ls hl => ?_)
      refine lv_iload hx hb dL_acts_437 (lv_at hl 0 rfl) ?_
      refine lv_if_lt (tgt := 451) hx hb dL_acts_439 (by decide) (fun q => absurd q (fun h => absurd h (nI_nneg _ (by omega)))) (fun _ => ?_)
      refine lv_aload_n hx hb dL_acts_442 rfl (lv_at hl 4 rfl) ?_
      refine (jo_firstError hJ).call hE ⟨hx, hb, hml, hown, hts⟩ (cwV 0 hts gL_acts_X8_firstError rfl rfl rfl (by decide +kernel) ⟨Nat.le_of_ble_eq_true rfl, Nat.le_of_ble_eq_true rfl⟩) rfl hP hD hS hA (hK.sub [0] rfl) rfl hl.1 rfl (lv_room (Nat.le_of_ble_eq_true rfl)) dL_acts_443 ⟨Nat.le_of_ble_eq_true rfl, Nat.le_of_ble_eq_true rfl⟩ (fun x9 ws H locs h9 hP hD hS => ?_)
      obtain ⟨rfl, hJ⟩ := h9
      refine lv_iload hx hb dL_acts_446 (lv_at hl 0 rfl) ?_
      have hw60 := jj_wh hJ
      by_cases he : (whF (txB (sayT (wsF L xs k (1 + y % 12)) (1 + y % 12) (1 + y / 12 % 9))) (sayT (wsF L xs k (1 + y % 12)) (1 + y % 12) (1 + y / 12 % 9)).length 60 0).1 = (sayT (wsF L xs k (1 + y % 12)) (1 + y % 12) (1 + y / 12 % 9)).length
      · rw [if_pos he] at hact
        obtain ⟨r, B', M', hf, hc⟩ := jo_obey hst hJ
        rw [hf] at hact
        refine lv_icmp_eq (tgt := 456) hx hb dL_acts_448 (by decide) (fun _ => ?_) (fun q => absurd (by rw [he]) q)
        refine lv_aload_n hx hb dL_acts_456 rfl (lv_at hl 4 rfl) ?_
        refine (hc).call 1 hE ⟨hx, hb, hml, hown, hts⟩ gL_acts_L_obey rfl (by decide) (by decide +kernel) ⟨Nat.le_of_ble_eq_true rfl, Nat.le_of_ble_eq_true rfl⟩ hP hD hS hA hK rfl hl.1 rfl (lv_room (Nat.le_of_ble_eq_true rfl)) dL_acts_457 ⟨Nat.le_of_ble_eq_true rfl, Nat.le_of_ble_eq_true rfl⟩ (fun x9 ws H locs h9 hP hD hS => ?_)
        obtain ⟨rfl, hJ⟩ := h9
        exact mEndQ_i (S := va_W) ws hx hb hr hlocks hP hK hD hS ⟨B', M', hact, hJ.mono (by omega)⟩ rfl (Nat.le_of_ble_eq_true rfl) (Nat.le_of_ble_eq_true rfl) dL_acts_460
      · rw [if_neg he] at hact
        refine lv_icmp_eq (tgt := 456) hx hb dL_acts_448 (by decide) (fun q => absurd q (fun h => he ((nI_eq (by omega) (by omega)).mp h))) (fun _ => ?_)
        refine lv_bipush (v := (-9)) hx hb dL_acts_451 (by decide) ?_
        refine lv_goto (tgt := 460) hx hb dL_acts_453 (by decide) ?_
        exact mEndQ_i (S := va_W) ws hx hb hr hlocks hP hK hD hS ⟨(sayT (wsF L xs k (1 + y % 12)) (1 + y % 12) (1 + y / 12 % 9)), M, hact, hJ.mono (by omega)⟩ rfl (Nat.le_of_ble_eq_true rfl) (Nat.le_of_ble_eq_true rfl) dL_acts_460
    have key : ∀ (d j : Nat), j + d = 1 + y % 12 → ∀ (ws : va_W) (H : Heap) (locs : List Loc) (ls : Array Slot) (hJ : JJ cI cS ad al B M K ws) (hP : va_P G vwCl ws H) (hD : va_D A ws) (hS : va_S A s.heap H locs) (hl : lv_has ls 10 [(9, .int (nI j)), (8, .int (nI (1 + y % 12))), (6, .long (wsF L xs k j)), (4, .int (nI y)), (0, .ref ad), (1, .ref b), (2, .int (nI k))]), W p l e ({ frames := 10, cells := 16, slots := 480, locals := 300 } : Room) s m ([.ref ad, .ref b, .int (nI k)] : List Value).toArray below meth c H locs 0 0 (MQ below (va_Qi (S := va_W) (fun x w => ∃ B' M', actsR L xs k M = some (x, M') ∧ JJ cI cS ad al B' M' (K + 8) w) (mB G (tyH cI cS) A (fun w => w)) A) ([.ref ad, .ref b, .int (nI k)] : List Value).toArray s 16 480 A) (F0 m 365 ls []) := by
      intro d
      induction d with
      | zero =>
        intro j hj ws H locs ls hJ hP hD hS hl
        obtain rfl : j = 1 + y % 12 := by omega
        refine lv_iload hx hb dL_acts_365 (lv_at hl 0 rfl) ?_
        refine lv_iload hx hb dL_acts_367 (lv_at hl 1 rfl) ?_
        refine lv_icmp_ge (tgt := 405) hx hb dL_acts_369 (by decide) (fun _ => ?_) (fun q => absurd (by rw [z_le (by omega) (by omega)]; omega) q)
        exact kend ws H locs ls hJ hP hD hS hl
      | succ d ih =>
        intro j hj ws H locs ls hJ hP hD hS hl
        refine lv_iload hx hb dL_acts_365 (lv_at hl 0 rfl) ?_
        refine lv_iload hx hb dL_acts_367 (lv_at hl 1 rfl) ?_
        refine lv_icmp_ge (tgt := 405) hx hb dL_acts_369 (by decide) (fun q => absurd q (by rw [z_le (by omega) (by omega)]; omega)) (fun _ => ?_)
        refine lv_lload hx hb dL_acts_372 (lv_at hl 2 rfl) ?_
        refine lv_aload_n hx hb dL_acts_374 rfl (lv_at hl 5 rfl) ?_
        refine lv_iload_n hx hb dL_acts_375 rfl (lv_at hl 6 rfl) ?_
        refine lv_iconst (v := nI 1) hx hb dL_acts_376 (by decide) ?_
        refine lv_iadd hx hb dL_acts_377 ?_
        refine lv_topi (fun y9 e9 => ?_)
        obtain rfl : y9 = nI (k + 1) := e9.trans (nI_add _ _)
        refine lv_iload hx hb dL_acts_378 (lv_at hl 0 rfl) ?_
        refine lv_iadd hx hb dL_acts_380 ?_
        refine lv_topi (fun y9 e9 => ?_)
        obtain rfl : y9 = nI (k + 1 + j) := e9.trans (nI_add _ _)
        have hcl := cellN_lt L xs (k + 1 + j)
        refine (jp_cell (k := k + 1 + j) (by omega) hL ws).call 2 hX hbl hbA hE ⟨hx, hb, hml, hown, hts⟩ gL_acts_L_cell rfl (by decide) (by decide +kernel) ⟨Nat.le_of_ble_eq_true rfl, Nat.le_of_ble_eq_true rfl⟩ hP hD hS hA hK rfl hl.1 rfl (lv_room (Nat.le_of_ble_eq_true rfl)) dL_acts_381 ⟨Nat.le_of_ble_eq_true rfl, Nat.le_of_ble_eq_true rfl⟩ (fun x9 ws H locs h9 hP hD hS => ?_)
        obtain ⟨rfl, e9⟩ := h9; rw [← e9] at hJ
        refine lv_bipush (v := nI 11) hx hb dL_acts_384 (by decide) ?_
        refine lv_idiv hx hb dL_acts_386 (by decide) ?_
        refine lv_topi (fun y9 e9 => ?_)
        obtain rfl : y9 = nI (cellN L xs (k + 1 + j) / 11) := e9.trans (pk_div (by omega) (by omega) (by omega))
        refine lv_bipush (v := nI 30) hx hb dL_acts_387 (by decide) ?_
        refine lv_irem hx hb dL_acts_389 (by decide) ?_
        refine lv_topi (fun y9 e9 => ?_)
        obtain rfl : y9 = nI (cellN L xs (k + 1 + j) / 11 % 30) := e9.trans (pk_rem (by omega) (by omega) (by omega))
        refine lv_i2l (v := (nI (cellN L xs (k + 1 + j) / 11 % 30)).toInt64) hx hb dL_acts_390 rfl ?_
        refine lv_iconst (v := nI 5) hx hb dL_acts_391 (by decide) ?_
        refine lv_iload hx hb dL_acts_392 (lv_at hl 0 rfl) ?_
        refine lv_imul hx hb dL_acts_394 ?_
        refine lv_topi (fun y9 e9 => ?_)
        obtain rfl : y9 = nI (5 * j) := e9.trans (pk_mul 5 j)
        refine lv_lshl (v := ((nI (cellN L xs (k + 1 + j) / 11 % 30)).toInt64) <<< ((nI (5 * j)).toInt64 &&& 63)) hx hb dL_acts_395 rfl ?_
        refine lv_lor hx hb dL_acts_396 ?_
        rw [show wsF L xs k j ||| ((nI (cellN L xs (k + 1 + j) / 11 % 30)).toInt64 <<< ((nI (5 * j)).toInt64 &&& 63)) = wsF L xs k (j + 1) from rfl]
        refine lv_lstore (lv' := [(6, .long (wsF L xs k (j + 1))), (9, .int (nI j)), (8, .int (nI (1 + y % 12))), (4, .int (nI y)), (0, .ref ad), (1, .ref b), (2, .int (nI k))]) hx hb dL_acts_397 hl (by decide) rfl (fun ls hl => ?_)
        refine lv_iinc (v := nI (j + 1)) (lv' := [(9, .int (nI (j + 1))), (6, .long (wsF L xs k (j + 1))), (8, .int (nI (1 + y % 12))), (4, .int (nI y)), (0, .ref ad), (1, .ref b), (2, .int (nI k))]) hx hb dL_acts_399 hl (k := 1) rfl (nI_add _ 1) (by decide) rfl (fun ls hl => ?_)
        refine lv_goto (tgt := 365) hx hb dL_acts_402 (by decide) ?_
        exact ih (j + 1) (by omega) ws H locs ls hJ hP hD hS (lv_sub hl [0, 2, 1, 3, 4, 5, 6] rfl)
    exact key (1 + y % 12) 0 (by omega) ws H locs ls hJ hP hD hS (lv_sub hl [0, 1, 2, 3, 4, 5, 6] rfl)
  obtain ⟨H, hH⟩ : ∃ H : Heap, H = s.heap := ⟨_, rfl⟩
  obtain ⟨locs, hlc⟩ : ∃ z : List Loc, z = [] := ⟨_, rfl⟩
  rw [← hlc, ← hH]
  have hP : va_P G vwCl ws H := by rw [hH]; exact hP
  have hS : va_S A s.heap H locs := by rw [hlc, hH]; exact hS
  refine lv_aload_n hx hb dL_acts_0 rfl (lv_at hl 1 rfl) ?_
  refine lv_iload_n hx hb dL_acts_1 rfl (lv_at hl 2 rfl) ?_
  refine (hcell ws).call 2 hX hbl hbA hE ⟨hx, hb, hml, hown, hts⟩ gL_acts_L_cell rfl (by decide) (by decide +kernel) ⟨Nat.le_of_ble_eq_true rfl, Nat.le_of_ble_eq_true rfl⟩ hP hD hS hA hK rfl hl.1 rfl (lv_room (Nat.le_of_ble_eq_true rfl)) dL_acts_2 ⟨Nat.le_of_ble_eq_true rfl, Nat.le_of_ble_eq_true rfl⟩ (fun x9 ws H locs h9 hP hD hS => ?_)
  obtain ⟨rfl, e9⟩ := h9; rw [← e9] at hJ
  refine lv_istore_n (lv' := [(3, .int (nI cc)), (0, .ref ad), (1, .ref b), (2, .int (nI k))]) hx hb dL_acts_5 rfl hl (by decide) rfl (fun ls hl => ?_)
  refine lv_iload_n hx hb dL_acts_6 rfl (lv_at hl 0 rfl) ?_
  refine lv_bipush (v := nI 32) hx hb dL_acts_7 (by decide) ?_
  refine lv_idiv hx hb dL_acts_9 (by decide) ?_
  refine lv_topi (fun y9 e9 => ?_)
  obtain rfl : y9 = nI y := e9.trans ((pk_div (by omega) (by omega) (by omega)).trans (by rw [hy]))
  refine lv_istore (lv' := [(4, .int (nI y)), (3, .int (nI cc)), (0, .ref ad), (1, .ref b), (2, .int (nI k))]) hx hb dL_acts_10 hl (by decide) rfl (fun ls hl => ?_)
  refine lv_iload_n hx hb dL_acts_12 rfl (lv_at hl 1 rfl) ?_
  refine lv_bipush (v := nI 32) hx hb dL_acts_13 (by decide) ?_
  refine lv_irem hx hb dL_acts_15 (by decide) ?_
  refine lv_topi (fun y9 e9 => ?_)
  obtain rfl : y9 = nI (cc % 32) := e9.trans (pk_rem (by omega) (by omega) (by omega))
  by_cases e0 : cc % 32 = 0
  · refine lv_tableIn (off := 92) (tgt := 108) hx hb dL_acts_16 (by rw [e0]; decide) (by rw [e0]; decide) (by rw [e0]; rfl) (by decide) ?_
    exact k_ear (by omega) ws H locs ls hJ hP hD hS (lv_sub hl [0, 2, 3, 4] rfl)
  by_cases e1 : cc % 32 = 1
  · refine lv_tableIn (off := 92) (tgt := 108) hx hb dL_acts_16 (by rw [e1]; decide) (by rw [e1]; decide) (by rw [e1]; rfl) (by decide) ?_
    exact k_ear (by omega) ws H locs ls hJ hP hD hS (lv_sub hl [0, 2, 3, 4] rfl)
  by_cases e2 : cc % 32 = 2
  · refine lv_tableIn (off := 92) (tgt := 108) hx hb dL_acts_16 (by rw [e2]; decide) (by rw [e2]; decide) (by rw [e2]; rfl) (by decide) ?_
    exact k_ear (by omega) ws H locs ls hJ hP hD hS (lv_sub hl [0, 2, 3, 4] rfl)
  by_cases e3 : cc % 32 = 3
  · refine lv_tableIn (off := 110) (tgt := 126) hx hb dL_acts_16 (by rw [e3]; decide) (by rw [e3]; decide) (by rw [e3]; rfl) (by decide) ?_
    exact k_fee (by omega) ws H locs ls hJ hP hD hS (lv_sub hl [0, 2, 3, 4] rfl)
  by_cases e4 : cc % 32 = 4
  · refine lv_tableIn (off := 128) (tgt := 144) hx hb dL_acts_16 (by rw [e4]; decide) (by rw [e4]; decide) (by rw [e4]; rfl) (by decide) ?_
    exact k_teach (by omega) ws H locs ls hJ hP hD hS (lv_sub hl [0, 2, 3, 4] rfl)
  by_cases e5 : cc % 32 = 5
  · refine lv_tableIn (off := 128) (tgt := 144) hx hb dL_acts_16 (by rw [e5]; decide) (by rw [e5]; decide) (by rw [e5]; rfl) (by decide) ?_
    exact k_teach (by omega) ws H locs ls hJ hP hD hS (lv_sub hl [0, 2, 3, 4] rfl)
  by_cases e6 : cc % 32 = 6
  · refine lv_tableIn (off := 128) (tgt := 144) hx hb dL_acts_16 (by rw [e6]; decide) (by rw [e6]; decide) (by rw [e6]; rfl) (by decide) ?_
    exact k_teach (by omega) ws H locs ls hJ hP hD hS (lv_sub hl [0, 2, 3, 4] rfl)
  by_cases e7 : cc % 32 = 7
  · refine lv_tableIn (off := 128) (tgt := 144) hx hb dL_acts_16 (by rw [e7]; decide) (by rw [e7]; decide) (by rw [e7]; rfl) (by decide) ?_
    exact k_teach (by omega) ws H locs ls hJ hP hD hS (lv_sub hl [0, 2, 3, 4] rfl)
  by_cases e8 : cc % 32 = 8
  · refine lv_tableIn (off := 157) (tgt := 173) hx hb dL_acts_16 (by rw [e8]; decide) (by rw [e8]; decide) (by rw [e8]; rfl) (by decide) ?_
    exact k_go (by omega) ws H locs ls hJ hP hD hS (lv_sub hl [0, 2, 3, 4] rfl)
  by_cases e9 : cc % 32 = 9
  · refine lv_tableIn (off := 157) (tgt := 173) hx hb dL_acts_16 (by rw [e9]; decide) (by rw [e9]; decide) (by rw [e9]; rfl) (by decide) ?_
    exact k_go (by omega) ws H locs ls hJ hP hD hS (lv_sub hl [0, 2, 3, 4] rfl)
  by_cases e10 : cc % 32 = 10
  · refine lv_tableIn (off := 157) (tgt := 173) hx hb dL_acts_16 (by rw [e10]; decide) (by rw [e10]; decide) (by rw [e10]; rfl) (by decide) ?_
    exact k_go (by omega) ws H locs ls hJ hP hD hS (lv_sub hl [0, 2, 3, 4] rfl)
  by_cases e11 : cc % 32 = 11
  · refine lv_tableIn (off := 157) (tgt := 173) hx hb dL_acts_16 (by rw [e11]; decide) (by rw [e11]; decide) (by rw [e11]; rfl) (by decide) ?_
    exact k_go (by omega) ws H locs ls hJ hP hD hS (lv_sub hl [0, 2, 3, 4] rfl)
  by_cases e12 : cc % 32 = 12
  · refine lv_tableIn (off := 157) (tgt := 173) hx hb dL_acts_16 (by rw [e12]; decide) (by rw [e12]; decide) (by rw [e12]; rfl) (by decide) ?_
    exact k_go (by omega) ws H locs ls hJ hP hD hS (lv_sub hl [0, 2, 3, 4] rfl)
  by_cases e13 : cc % 32 = 13
  · refine lv_tableIn (off := 162) (tgt := 178) hx hb dL_acts_16 (by rw [e13]; decide) (by rw [e13]; decide) (by rw [e13]; rfl) (by decide) ?_
    exact k_undo (by omega) ws H locs ls hJ hP hD hS (lv_sub hl [0, 2, 3, 4] rfl)
  by_cases e14 : cc % 32 = 14
  · refine lv_tableIn (off := 162) (tgt := 178) hx hb dL_acts_16 (by rw [e14]; decide) (by rw [e14]; decide) (by rw [e14]; rfl) (by decide) ?_
    exact k_undo (by omega) ws H locs ls hJ hP hD hS (lv_sub hl [0, 2, 3, 4] rfl)
  by_cases e15 : cc % 32 = 15
  · refine lv_tableIn (off := 167) (tgt := 183) hx hb dL_acts_16 (by rw [e15]; decide) (by rw [e15]; decide) (by rw [e15]; rfl) (by decide) ?_
    exact k_keep (by omega) ws H locs ls hJ hP hD hS (lv_sub hl [0, 2, 3, 4] rfl)
  by_cases e16 : cc % 32 = 16
  · refine lv_tableIn (off := 172) (tgt := 188) hx hb dL_acts_16 (by rw [e16]; decide) (by rw [e16]; decide) (by rw [e16]; rfl) (by decide) ?_
    exact k_restore (by omega) ws H locs ls hJ hP hD hS (lv_sub hl [0, 2, 3, 4] rfl)
  by_cases e17 : cc % 32 = 17
  · refine lv_tableIn (off := 177) (tgt := 193) hx hb dL_acts_16 (by rw [e17]; decide) (by rw [e17]; decide) (by rw [e17]; rfl) (by decide) ?_
    exact k_earT (by omega) ws H locs ls hJ hP hD hS (lv_sub hl [0, 2, 3, 4] rfl)
  by_cases e18 : cc % 32 = 18
  · refine lv_tableIn (off := 177) (tgt := 193) hx hb dL_acts_16 (by rw [e18]; decide) (by rw [e18]; decide) (by rw [e18]; rfl) (by decide) ?_
    exact k_earT (by omega) ws H locs ls hJ hP hD hS (lv_sub hl [0, 2, 3, 4] rfl)
  refine lv_tableOut (tgt := 350) hx hb dL_acts_16 (by rw [nI_toInt (by omega)]; omega) (by decide) ?_
  exact k_say (by omega) ws H locs ls hJ hP hD hS (lv_sub hl [0, 2, 3, 4] rfl)
theorem jp_acts {l : Launch} {sa sv : Nat → Nat} {G : va_G} {cI cS : ClassId} {ad : Nat} {al : Nat → Nat} {b L : Nat} {xs : Nat → Int32} (hst : l.stackTraces = false) {B : List Nat} {M : MT} {K : Nat} {ws : va_W} (hJ : JJ cI cS ad al B M K ws) {k : Nat} (hk : k < 100000) (hL : L ≤ 260) : LwP l sa sv G (tyH cI cS) b L xs yL_acts wsL_acts 10 300 16 480 [.ref ad, .ref b, .int (nI k)] ws (fun x w => ∃ B' M', actsR L xs k M = some (x, M') ∧ JJ cI cS ad al B' M' (K + 8) w) := LwP.mk ({ frames := 10, cells := 16, slots := 480, locals := 300 } : Room) (Nat.le_refl _) (Nat.le_refl _) (Nat.le_refl _) (Nat.le_refl _) (mL_acts hst hJ hk hL)

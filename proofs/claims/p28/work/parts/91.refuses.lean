-- refuses
theorem msub_lt {a c d : Nat} (ha : a < 1000) (hc : c < 1000000) (hd : d < 1000) (h : a < d + c ∧ 0 < d) : nI a - nI c < nI d := by
  rw [Int32.lt_iff_toInt_lt, pk_sub_toInt (by omega) (by omega), nI_toInt (by omega)]
  omega
theorem m1_sub {c : Nat} (hc : c < 1000000) : (-1 : Int32) - nI c < nI 0 := by
  have e : (-1 : Int32) - nI c = nI 0 - nI (c + 1) := by
    rw [← nI_add c 1, show (-1 : Int32) = nI 0 - nI 1 from rfl]
    simp only [Int32.sub_eq_add_neg, Int32.neg_add]
    rw [Int32.add_assoc]
    exact congrArg (fun z => nI 0 + z) (Int32.add_comm _ _)
  rw [e, Int32.lt_iff_toInt_lt, pk_sub_toInt (by omega) (by omega), nI_toInt (by omega)]
  omega
theorem m2_sub {c : Nat} (hc : c < 1000000) : (-2 : Int32) - nI c < mI := by
  have e : (-2 : Int32) - nI c = nI 0 - nI (c + 2) := by
    rw [← nI_add c 2, show (-2 : Int32) = nI 0 - nI 2 from rfl]
    simp only [Int32.sub_eq_add_neg, Int32.neg_add]
    rw [Int32.add_assoc]
    exact congrArg (fun z => nI 0 + z) (Int32.add_comm _ _)
  rw [e, Int32.lt_iff_toInt_lt, pk_sub_toInt (by omega) (by omega), z_mint]
  omega
theorem big_gt {a d : Nat} (h : d < a) (ha : a < 2147483648) : nI d < nI a := by rw [z_lt (by omega) (by omega)]; exact h
set_option maxHeartbeats 16000000 in
set_option maxRecDepth 100000 in
theorem mL_refuses {l : Launch} {sa sv : Nat → Nat} {G : va_G} {cI cS : ClassId} {ad : Nat} {al : Nat → Nat} {b L : Nat} {xs : Nat → Int32} (hst : l.stackTraces = false) {B : List Nat} {M : MT} {K : Nat} {ws : va_W} (hJ : JJ cI cS ad al B M K ws) {c : Nat} (hc : c < 100000) : ∀ sz, b < sz → ¬ va_A ws sz b → Met l yL_refuses wsL_refuses ({ frames := 9, cells := 800, slots := 20000, locals := 300 } : Room) (mPcS b L xs (mPcX sa sv G (tyH cI cS) [.ref ad, .int (nI c)] sz ws)) (va_Qi (S := va_W) (fun x w => 1 = x ∧ JJ cI cS ad al [] M K w) (mB G (tyH cI cS) (va_A ws sz) (fun w => w)) (va_A ws sz)) ({ frames := 9, cells := 800, slots := 20000, locals := 300 } : Room).cells ({ frames := 9, cells := 800, slots := 20000, locals := 300 } : Room).slots (va_A ws sz) := by
  intro sz hbs hbn
  refine mStartS (cc := cL_refuses) (maxL := 6) (ret := (some .boolean)) hbs hbn (by decide) rfl (Nat.le_of_ble_eq_true rfl) ?_
  intro p e s m below meth c0 A ls hx hb hml hr hts hown hlocks hA hsz2 hAe hP hK hD hE hX hbl hbA hS hl
  rw [hAe]
  have hl : lv_has ls 6 [(0, .ref ad), (1, .int (nI c))] := hl
  have kmain : ∀ (no of : Int32) (hno : no < nI 0 ∨ nI 6 ≤ no) (hn5 : no < nI 0 ∨ nI 5 < no) (hof : of < nI 0 ∨ nI 29 < of) (ws : va_W) (H : Heap) (locs : List Loc) (ls : Array Slot) (hJ : JJ cI cS ad al B M K ws) (hP : va_P G vwCl ws H) (hD : va_D A ws) (hS : va_S A s.heap H locs) (hl : lv_has ls 6 [(3, .int of), (2, .int no), (0, .ref ad), (1, .int (nI c))]), W p l e ({ frames := 9, cells := 800, slots := 20000, locals := 300 } : Room) s m ([.ref ad, .int (nI c)] : List Value).toArray below meth c0 H locs 0 0 (MQ below (va_Qi (S := va_W) (fun x w => 1 = x ∧ JJ cI cS ad al [] M K w) (mB G (tyH cI cS) A (fun w => w)) A) ([.ref ad, .int (nI c)] : List Value).toArray s 800 20000 A) (F0 m 34 ls []) := by
    intro no of hno hn5 hof ws H locs ls hJ hP hD hS hl
    refine lv_aload_n hx hb dL_refuses_34 rfl (lv_at hl 2 rfl) ?_
    refine lv_iload_n hx hb dL_refuses_35 rfl (lv_at hl 1 rfl) ?_
    refine lv_iconst (v := nI 0) hx hb dL_refuses_36 (by decide) ?_
    refine lv_bipush (v := nI 99) hx hb dL_refuses_37 (by decide) ?_
    refine (jt_teach_1 hst hJ hno).call 4 hE ⟨hx, hb, hml, hown, hts⟩ gL_refuses_L_teach rfl (by decide) (by decide +kernel) ⟨Nat.le_of_ble_eq_true rfl, Nat.le_of_ble_eq_true rfl⟩ hP hD hS hA hK rfl hl.1 rfl (lv_room (Nat.le_of_ble_eq_true rfl)) dL_refuses_39 ⟨Nat.le_of_ble_eq_true rfl, Nat.le_of_ble_eq_true rfl⟩ (fun x9 ws H locs h9 hP hD hS => ?_)
    obtain ⟨rfl, hJ⟩ := h9
    refine lv_bipush (v := (-3)) hx hb dL_refuses_42 (by decide) ?_
    refine lv_icmp_ne (tgt := 407) hx hb dL_refuses_44 (by decide) (fun q => absurd (rfl) q) (fun _ => ?_)
    refine lv_aload_n hx hb dL_refuses_47 rfl (lv_at hl 2 rfl) ?_
    refine lv_iconst (v := nI 0) hx hb dL_refuses_48 (by decide) ?_
    refine lv_iload_n hx hb dL_refuses_49 rfl (lv_at hl 0 rfl) ?_
    refine lv_iconst (v := nI 0) hx hb dL_refuses_50 (by decide) ?_
    refine (jt_teach_2 hst hJ (i := 0) (by decide) hof).call 4 hE ⟨hx, hb, hml, hown, hts⟩ gL_refuses_L_teach rfl (by decide) (by decide +kernel) ⟨Nat.le_of_ble_eq_true rfl, Nat.le_of_ble_eq_true rfl⟩ hP hD hS hA hK rfl hl.1 rfl (lv_room (Nat.le_of_ble_eq_true rfl)) dL_refuses_51 ⟨Nat.le_of_ble_eq_true rfl, Nat.le_of_ble_eq_true rfl⟩ (fun x9 ws H locs h9 hP hD hS => ?_)
    obtain ⟨rfl, hJ⟩ := h9
    refine lv_bipush (v := (-2)) hx hb dL_refuses_54 (by decide) ?_
    refine lv_icmp_ne (tgt := 407) hx hb dL_refuses_56 (by decide) (fun q => absurd (rfl) q) (fun _ => ?_)
    refine lv_aload_n hx hb dL_refuses_59 rfl (lv_at hl 2 rfl) ?_
    refine lv_iconst (v := nI 0) hx hb dL_refuses_60 (by decide) ?_
    refine lv_iconst (v := nI 0) hx hb dL_refuses_61 (by decide) ?_
    refine lv_bipush (v := nI 30) hx hb dL_refuses_62 (by decide) ?_
    refine lv_iload_n hx hb dL_refuses_64 rfl (lv_at hl 3 rfl) ?_
    refine lv_iadd hx hb dL_refuses_65 ?_
    refine lv_topi (fun y9 e9 => ?_)
    obtain rfl : y9 = nI (30 + c) := e9.trans (nI_add _ _)
    refine (jt_teach_3 hst hJ (i := 0) (w := 0) (by decide) (by decide) (Or.inr (big_gt (show 29 < 30 + c by omega) (by omega)))).call 4 hE ⟨hx, hb, hml, hown, hts⟩ gL_refuses_L_teach rfl (by decide) (by decide +kernel) ⟨Nat.le_of_ble_eq_true rfl, Nat.le_of_ble_eq_true rfl⟩ hP hD hS hA hK rfl hl.1 rfl (lv_room (Nat.le_of_ble_eq_true rfl)) dL_refuses_66 ⟨Nat.le_of_ble_eq_true rfl, Nat.le_of_ble_eq_true rfl⟩ (fun x9 ws H locs h9 hP hD hS => ?_)
    obtain ⟨rfl, hJ⟩ := h9
    refine lv_bipush (v := (-2)) hx hb dL_refuses_69 (by decide) ?_
    refine lv_icmp_ne (tgt := 407) hx hb dL_refuses_71 (by decide) (fun q => absurd (rfl) q) (fun _ => ?_)
    refine lv_aload_n hx hb dL_refuses_74 rfl (lv_at hl 2 rfl) ?_
    refine lv_iconst (v := nI 0) hx hb dL_refuses_75 (by decide) ?_
    refine lv_iconst (v := nI 0) hx hb dL_refuses_76 (by decide) ?_
    refine lv_bipush (v := (-2)) hx hb dL_refuses_77 (by decide) ?_
    refine lv_iload_n hx hb dL_refuses_79 rfl (lv_at hl 3 rfl) ?_
    refine lv_isub hx hb dL_refuses_80 ?_
    refine (jt_teach_3 hst hJ (i := 0) (w := 0) (by decide) (by decide) (Or.inl (m2_sub (by omega)))).call 4 hE ⟨hx, hb, hml, hown, hts⟩ gL_refuses_L_teach rfl (by decide) (by decide +kernel) ⟨Nat.le_of_ble_eq_true rfl, Nat.le_of_ble_eq_true rfl⟩ hP hD hS hA hK rfl hl.1 rfl (lv_room (Nat.le_of_ble_eq_true rfl)) dL_refuses_81 ⟨Nat.le_of_ble_eq_true rfl, Nat.le_of_ble_eq_true rfl⟩ (fun x9 ws H locs h9 hP hD hS => ?_)
    obtain ⟨rfl, hJ⟩ := h9
    refine lv_bipush (v := (-2)) hx hb dL_refuses_84 (by decide) ?_
    refine lv_icmp_ne (tgt := 407) hx hb dL_refuses_86 (by decide) (fun q => absurd (rfl) q) (fun _ => ?_)
    refine lv_aload_n hx hb dL_refuses_89 rfl (lv_at hl 2 rfl) ?_
    refine lv_iload_n hx hb dL_refuses_90 rfl (lv_at hl 1 rfl) ?_
    refine lv_iconst (v := nI 0) hx hb dL_refuses_91 (by decide) ?_
    refine (jt_ear_1 hst hJ hno).call 3 hE ⟨hx, hb, hml, hown, hts⟩ gL_refuses_L_ear rfl (by decide) (by decide +kernel) ⟨Nat.le_of_ble_eq_true rfl, Nat.le_of_ble_eq_true rfl⟩ hP hD hS hA hK rfl hl.1 rfl (lv_room (Nat.le_of_ble_eq_true rfl)) dL_refuses_92 ⟨Nat.le_of_ble_eq_true rfl, Nat.le_of_ble_eq_true rfl⟩ (fun x9 ws H locs h9 hP hD hS => ?_)
    obtain ⟨rfl, hJ⟩ := h9
    refine lv_bipush (v := (-3)) hx hb dL_refuses_95 (by decide) ?_
    refine lv_icmp_ne (tgt := 407) hx hb dL_refuses_97 (by decide) (fun q => absurd (rfl) q) (fun _ => ?_)
    refine lv_aload_n hx hb dL_refuses_100 rfl (lv_at hl 2 rfl) ?_
    refine lv_iconst (v := nI 0) hx hb dL_refuses_101 (by decide) ?_
    refine lv_bipush (v := nI 10) hx hb dL_refuses_102 (by decide) ?_
    refine lv_iload_n hx hb dL_refuses_104 rfl (lv_at hl 3 rfl) ?_
    refine lv_iadd hx hb dL_refuses_105 ?_
    refine lv_topi (fun y9 e9 => ?_)
    obtain rfl : y9 = nI (10 + c) := e9.trans (nI_add _ _)
    refine (jt_ear_2 hst hJ (i := 0) (by decide) (Or.inr (big_gt (show 9 < 10 + c by omega) (by omega)))).call 3 hE ⟨hx, hb, hml, hown, hts⟩ gL_refuses_L_ear rfl (by decide) (by decide +kernel) ⟨Nat.le_of_ble_eq_true rfl, Nat.le_of_ble_eq_true rfl⟩ hP hD hS hA hK rfl hl.1 rfl (lv_room (Nat.le_of_ble_eq_true rfl)) dL_refuses_106 ⟨Nat.le_of_ble_eq_true rfl, Nat.le_of_ble_eq_true rfl⟩ (fun x9 ws H locs h9 hP hD hS => ?_)
    obtain ⟨rfl, hJ⟩ := h9
    refine lv_bipush (v := (-2)) hx hb dL_refuses_109 (by decide) ?_
    refine lv_icmp_ne (tgt := 407) hx hb dL_refuses_111 (by decide) (fun q => absurd (rfl) q) (fun _ => ?_)
    refine lv_aload_n hx hb dL_refuses_114 rfl (lv_at hl 2 rfl) ?_
    refine lv_iload_n hx hb dL_refuses_115 rfl (lv_at hl 1 rfl) ?_
    refine lv_bipush (v := nI 99) hx hb dL_refuses_116 (by decide) ?_
    refine (jt_fee_1 hst hJ hno).call 3 hE ⟨hx, hb, hml, hown, hts⟩ gL_refuses_L_fee rfl (by decide) (by decide +kernel) ⟨Nat.le_of_ble_eq_true rfl, Nat.le_of_ble_eq_true rfl⟩ hP hD hS hA hK rfl hl.1 rfl (lv_room (Nat.le_of_ble_eq_true rfl)) dL_refuses_118 ⟨Nat.le_of_ble_eq_true rfl, Nat.le_of_ble_eq_true rfl⟩ (fun x9 ws H locs h9 hP hD hS => ?_)
    obtain ⟨rfl, hJ⟩ := h9
    refine lv_bipush (v := (-3)) hx hb dL_refuses_121 (by decide) ?_
    refine lv_icmp_ne (tgt := 407) hx hb dL_refuses_123 (by decide) (fun q => absurd (rfl) q) (fun _ => ?_)
    refine lv_aload_n hx hb dL_refuses_126 rfl (lv_at hl 2 rfl) ?_
    refine lv_iconst (v := nI 5) hx hb dL_refuses_127 (by decide) ?_
    refine lv_iconst (v := (-1)) hx hb dL_refuses_128 (by decide) ?_
    refine lv_iload_n hx hb dL_refuses_129 rfl (lv_at hl 3 rfl) ?_
    refine lv_isub hx hb dL_refuses_130 ?_
    refine (jt_fee_2 hst hJ (i := 5) (by decide) (Or.inl (m1_sub (by omega)))).call 3 hE ⟨hx, hb, hml, hown, hts⟩ gL_refuses_L_fee rfl (by decide) (by decide +kernel) ⟨Nat.le_of_ble_eq_true rfl, Nat.le_of_ble_eq_true rfl⟩ hP hD hS hA hK rfl hl.1 rfl (lv_room (Nat.le_of_ble_eq_true rfl)) dL_refuses_131 ⟨Nat.le_of_ble_eq_true rfl, Nat.le_of_ble_eq_true rfl⟩ (fun x9 ws H locs h9 hP hD hS => ?_)
    obtain ⟨rfl, hJ⟩ := h9
    refine lv_bipush (v := (-2)) hx hb dL_refuses_134 (by decide) ?_
    refine lv_icmp_ne (tgt := 407) hx hb dL_refuses_136 (by decide) (fun q => absurd (rfl) q) (fun _ => ?_)
    refine lv_aload_n hx hb dL_refuses_139 rfl (lv_at hl 2 rfl) ?_
    refine lv_bipush (v := nI 32) hx hb dL_refuses_140 (by decide) ?_
    refine lv_iload_n hx hb dL_refuses_142 rfl (lv_at hl 3 rfl) ?_
    refine lv_isub hx hb dL_refuses_143 ?_
    refine (jt_append_1 hst hJ (Or.inl (msub_lt (by decide) (by omega) (by decide) (by omega)))).call 2 hE ⟨hx, hb, hml, hown, hts⟩ gL_refuses_L_append rfl (by decide) (by decide +kernel) ⟨Nat.le_of_ble_eq_true rfl, Nat.le_of_ble_eq_true rfl⟩ hP hD hS hA hK rfl hl.1 rfl (lv_room (Nat.le_of_ble_eq_true rfl)) dL_refuses_144 ⟨Nat.le_of_ble_eq_true rfl, Nat.le_of_ble_eq_true rfl⟩ (fun x9 ws H locs h9 hP hD hS => ?_)
    obtain ⟨rfl, hJ⟩ := h9
    refine lv_bipush (v := (-2)) hx hb dL_refuses_147 (by decide) ?_
    refine lv_icmp_ne (tgt := 407) hx hb dL_refuses_149 (by decide) (fun q => absurd (rfl) q) (fun _ => ?_)
    refine lv_aload_n hx hb dL_refuses_152 rfl (lv_at hl 2 rfl) ?_
    refine lv_bipush (v := nI 127) hx hb dL_refuses_153 (by decide) ?_
    refine lv_iload_n hx hb dL_refuses_155 rfl (lv_at hl 3 rfl) ?_
    refine lv_iadd hx hb dL_refuses_156 ?_
    refine lv_topi (fun y9 e9 => ?_)
    obtain rfl : y9 = nI (127 + c) := e9.trans (nI_add _ _)
    refine (jt_append_1 hst hJ (Or.inr (big_gt (show 126 < 127 + c by omega) (by omega)))).call 2 hE ⟨hx, hb, hml, hown, hts⟩ gL_refuses_L_append rfl (by decide) (by decide +kernel) ⟨Nat.le_of_ble_eq_true rfl, Nat.le_of_ble_eq_true rfl⟩ hP hD hS hA hK rfl hl.1 rfl (lv_room (Nat.le_of_ble_eq_true rfl)) dL_refuses_157 ⟨Nat.le_of_ble_eq_true rfl, Nat.le_of_ble_eq_true rfl⟩ (fun x9 ws H locs h9 hP hD hS => ?_)
    obtain ⟨rfl, hJ⟩ := h9
    refine lv_bipush (v := (-2)) hx hb dL_refuses_160 (by decide) ?_
    refine lv_icmp_ne (tgt := 407) hx hb dL_refuses_162 (by decide) (fun q => absurd (rfl) q) (fun _ => ?_)
    refine lv_aload_n hx hb dL_refuses_165 rfl (lv_at hl 2 rfl) ?_
    refine lv_iconst (v := nI 2) hx hb dL_refuses_166 (by decide) ?_
    refine lv_iload_n hx hb dL_refuses_167 rfl (lv_at hl 3 rfl) ?_
    refine lv_iadd hx hb dL_refuses_168 ?_
    refine lv_topi (fun y9 e9 => ?_)
    obtain rfl : y9 = nI (2 + c) := e9.trans (nI_add _ _)
    refine (jt_stopped_1 hst hJ (Or.inr (big_gt (show 1 < 2 + c by omega) (by omega)))).call 2 hE ⟨hx, hb, hml, hown, hts⟩ gL_refuses_L_stopped rfl (by decide) (by decide +kernel) ⟨Nat.le_of_ble_eq_true rfl, Nat.le_of_ble_eq_true rfl⟩ hP hD hS hA hK rfl hl.1 rfl (lv_room (Nat.le_of_ble_eq_true rfl)) dL_refuses_169 ⟨Nat.le_of_ble_eq_true rfl, Nat.le_of_ble_eq_true rfl⟩ (fun x9 ws H locs h9 hP hD hS => ?_)
    obtain ⟨rfl, hJ⟩ := h9
    refine lv_bipush (v := (-2)) hx hb dL_refuses_172 (by decide) ?_
    refine lv_icmp_ne (tgt := 407) hx hb dL_refuses_174 (by decide) (fun q => absurd (rfl) q) (fun _ => ?_)
    refine lv_aload_n hx hb dL_refuses_177 rfl (lv_at hl 2 rfl) ?_
    refine lv_iload_n hx hb dL_refuses_178 rfl (lv_at hl 1 rfl) ?_
    refine lv_iconst (v := nI 0) hx hb dL_refuses_179 (by decide) ?_
    refine (jt_told_1 hst hJ hn5).call 3 hE ⟨hx, hb, hml, hown, hts⟩ gL_refuses_L_told rfl (by decide) (by decide +kernel) ⟨Nat.le_of_ble_eq_true rfl, Nat.le_of_ble_eq_true rfl⟩ hP hD hS hA hK rfl hl.1 rfl (lv_room (Nat.le_of_ble_eq_true rfl)) dL_refuses_180 ⟨Nat.le_of_ble_eq_true rfl, Nat.le_of_ble_eq_true rfl⟩ (fun x9 ws H locs h9 hP hD hS => ?_)
    obtain ⟨rfl, hJ⟩ := h9
    refine lv_bipush (v := (-2)) hx hb dL_refuses_183 (by decide) ?_
    refine lv_icmp_ne (tgt := 407) hx hb dL_refuses_185 (by decide) (fun q => absurd (rfl) q) (fun _ => ?_)
    refine lv_aload_n hx hb dL_refuses_188 rfl (lv_at hl 2 rfl) ?_
    refine lv_iconst (v := nI 0) hx hb dL_refuses_189 (by decide) ?_
    refine lv_iconst (v := (-1)) hx hb dL_refuses_190 (by decide) ?_
    refine lv_iload_n hx hb dL_refuses_191 rfl (lv_at hl 3 rfl) ?_
    refine lv_isub hx hb dL_refuses_192 ?_
    refine (jt_told_2 hst hJ (i := 0) (by decide) (m1_sub (by omega))).call 3 hE ⟨hx, hb, hml, hown, hts⟩ gL_refuses_L_told rfl (by decide) (by decide +kernel) ⟨Nat.le_of_ble_eq_true rfl, Nat.le_of_ble_eq_true rfl⟩ hP hD hS hA hK rfl hl.1 rfl (lv_room (Nat.le_of_ble_eq_true rfl)) dL_refuses_193 ⟨Nat.le_of_ble_eq_true rfl, Nat.le_of_ble_eq_true rfl⟩ (fun x9 ws H locs h9 hP hD hS => ?_)
    obtain ⟨rfl, hJ⟩ := h9
    refine lv_bipush (v := (-2)) hx hb dL_refuses_196 (by decide) ?_
    refine lv_icmp_ne (tgt := 407) hx hb dL_refuses_198 (by decide) (fun q => absurd (rfl) q) (fun _ => ?_)
    refine lv_aload_n hx hb dL_refuses_201 rfl (lv_at hl 2 rfl) ?_
    refine lv_iload_n hx hb dL_refuses_202 rfl (lv_at hl 1 rfl) ?_
    refine lv_iconst (v := nI 0) hx hb dL_refuses_203 (by decide) ?_
    refine lv_iconst (v := nI 0) hx hb dL_refuses_204 (by decide) ?_
    refine (jt_meaning_1 hst hJ hno).call 4 hE ⟨hx, hb, hml, hown, hts⟩ gL_refuses_L_meaning rfl (by decide) (by decide +kernel) ⟨Nat.le_of_ble_eq_true rfl, Nat.le_of_ble_eq_true rfl⟩ hP hD hS hA hK rfl hl.1 rfl (lv_room (Nat.le_of_ble_eq_true rfl)) dL_refuses_205 ⟨Nat.le_of_ble_eq_true rfl, Nat.le_of_ble_eq_true rfl⟩ (fun x9 ws H locs h9 hP hD hS => ?_)
    obtain ⟨rfl, hJ⟩ := h9
    refine lv_bipush (v := (-3)) hx hb dL_refuses_208 (by decide) ?_
    refine lv_icmp_ne (tgt := 407) hx hb dL_refuses_210 (by decide) (fun q => absurd (rfl) q) (fun _ => ?_)
    refine lv_aload_n hx hb dL_refuses_213 rfl (lv_at hl 2 rfl) ?_
    refine lv_iconst (v := nI 0) hx hb dL_refuses_214 (by decide) ?_
    refine lv_iload_n hx hb dL_refuses_215 rfl (lv_at hl 0 rfl) ?_
    refine lv_iconst (v := nI 0) hx hb dL_refuses_216 (by decide) ?_
    refine (jt_meaning_2 hst hJ (i := 0) (by decide) hof).call 4 hE ⟨hx, hb, hml, hown, hts⟩ gL_refuses_L_meaning rfl (by decide) (by decide +kernel) ⟨Nat.le_of_ble_eq_true rfl, Nat.le_of_ble_eq_true rfl⟩ hP hD hS hA hK rfl hl.1 rfl (lv_room (Nat.le_of_ble_eq_true rfl)) dL_refuses_217 ⟨Nat.le_of_ble_eq_true rfl, Nat.le_of_ble_eq_true rfl⟩ (fun x9 ws H locs h9 hP hD hS => ?_)
    obtain ⟨rfl, hJ⟩ := h9
    refine lv_bipush (v := (-2)) hx hb dL_refuses_220 (by decide) ?_
    refine lv_icmp_ne (tgt := 407) hx hb dL_refuses_222 (by decide) (fun q => absurd (rfl) q) (fun _ => ?_)
    refine lv_aload_n hx hb dL_refuses_225 rfl (lv_at hl 2 rfl) ?_
    refine lv_iconst (v := nI 0) hx hb dL_refuses_226 (by decide) ?_
    refine lv_iconst (v := nI 0) hx hb dL_refuses_227 (by decide) ?_
    refine lv_iconst (v := nI 3) hx hb dL_refuses_228 (by decide) ?_
    refine lv_iload_n hx hb dL_refuses_229 rfl (lv_at hl 3 rfl) ?_
    refine lv_iadd hx hb dL_refuses_230 ?_
    refine lv_topi (fun y9 e9 => ?_)
    obtain rfl : y9 = nI (3 + c) := e9.trans (nI_add _ _)
    refine (jt_meaning_3 hst hJ (i := 0) (w := 0) (by decide) (by decide) (Or.inr (big_gt (show 2 < 3 + c by omega) (by omega)))).call 4 hE ⟨hx, hb, hml, hown, hts⟩ gL_refuses_L_meaning rfl (by decide) (by decide +kernel) ⟨Nat.le_of_ble_eq_true rfl, Nat.le_of_ble_eq_true rfl⟩ hP hD hS hA hK rfl hl.1 rfl (lv_room (Nat.le_of_ble_eq_true rfl)) dL_refuses_231 ⟨Nat.le_of_ble_eq_true rfl, Nat.le_of_ble_eq_true rfl⟩ (fun x9 ws H locs h9 hP hD hS => ?_)
    obtain ⟨rfl, hJ⟩ := h9
    refine lv_bipush (v := (-2)) hx hb dL_refuses_234 (by decide) ?_
    refine lv_icmp_ne (tgt := 407) hx hb dL_refuses_236 (by decide) (fun q => absurd (rfl) q) (fun _ => ?_)
    refine lv_aload_n hx hb dL_refuses_239 rfl (lv_at hl 2 rfl) ?_
    refine lv_iload_n hx hb dL_refuses_240 rfl (lv_at hl 1 rfl) ?_
    refine lv_iconst (v := nI 0) hx hb dL_refuses_241 (by decide) ?_
    refine (jt_link_1 hst hJ hno).call 3 hE ⟨hx, hb, hml, hown, hts⟩ gL_refuses_L_link rfl (by decide) (by decide +kernel) ⟨Nat.le_of_ble_eq_true rfl, Nat.le_of_ble_eq_true rfl⟩ hP hD hS hA hK rfl hl.1 rfl (lv_room (Nat.le_of_ble_eq_true rfl)) dL_refuses_242 ⟨Nat.le_of_ble_eq_true rfl, Nat.le_of_ble_eq_true rfl⟩ (fun x9 ws H locs h9 hP hD hS => ?_)
    obtain ⟨rfl, hJ⟩ := h9
    refine lv_bipush (v := (-3)) hx hb dL_refuses_245 (by decide) ?_
    refine lv_icmp_ne (tgt := 407) hx hb dL_refuses_247 (by decide) (fun q => absurd (rfl) q) (fun _ => ?_)
    refine lv_aload_n hx hb dL_refuses_250 rfl (lv_at hl 2 rfl) ?_
    refine lv_iconst (v := nI 0) hx hb dL_refuses_251 (by decide) ?_
    refine lv_bipush (v := nI 7) hx hb dL_refuses_252 (by decide) ?_
    refine lv_iload_n hx hb dL_refuses_254 rfl (lv_at hl 3 rfl) ?_
    refine lv_iadd hx hb dL_refuses_255 ?_
    refine lv_topi (fun y9 e9 => ?_)
    obtain rfl : y9 = nI (7 + c) := e9.trans (nI_add _ _)
    refine (jt_link_2 hst hJ (i := 0) (by decide) (Or.inr (big_gt (show 6 < 7 + c by omega) (by omega)))).call 3 hE ⟨hx, hb, hml, hown, hts⟩ gL_refuses_L_link rfl (by decide) (by decide +kernel) ⟨Nat.le_of_ble_eq_true rfl, Nat.le_of_ble_eq_true rfl⟩ hP hD hS hA hK rfl hl.1 rfl (lv_room (Nat.le_of_ble_eq_true rfl)) dL_refuses_256 ⟨Nat.le_of_ble_eq_true rfl, Nat.le_of_ble_eq_true rfl⟩ (fun x9 ws H locs h9 hP hD hS => ?_)
    obtain ⟨rfl, hJ⟩ := h9
    refine lv_bipush (v := (-2)) hx hb dL_refuses_259 (by decide) ?_
    refine lv_icmp_ne (tgt := 407) hx hb dL_refuses_261 (by decide) (fun q => absurd (rfl) q) (fun _ => ?_)
    refine lv_aload_n hx hb dL_refuses_264 rfl (lv_at hl 2 rfl) ?_
    refine lv_iconst (v := (-1)) hx hb dL_refuses_265 (by decide) ?_
    refine lv_iload_n hx hb dL_refuses_266 rfl (lv_at hl 3 rfl) ?_
    refine lv_isub hx hb dL_refuses_267 ?_
    refine lv_iconst (v := nI 0) hx hb dL_refuses_268 (by decide) ?_
    refine (jt_waits_1 hst hJ (m1_sub (by omega))).call 3 hE ⟨hx, hb, hml, hown, hts⟩ gL_refuses_L_waits rfl (by decide) (by decide +kernel) ⟨Nat.le_of_ble_eq_true rfl, Nat.le_of_ble_eq_true rfl⟩ hP hD hS hA hK rfl hl.1 rfl (lv_room (Nat.le_of_ble_eq_true rfl)) dL_refuses_269 ⟨Nat.le_of_ble_eq_true rfl, Nat.le_of_ble_eq_true rfl⟩ (fun x9 ws H locs h9 hP hD hS => ?_)
    obtain ⟨rfl, hJ⟩ := h9
    refine lv_bipush (v := (-2)) hx hb dL_refuses_272 (by decide) ?_
    refine lv_icmp_ne (tgt := 407) hx hb dL_refuses_274 (by decide) (fun q => absurd (rfl) q) (fun _ => ?_)
    refine lv_aload_n hx hb dL_refuses_277 rfl (lv_at hl 2 rfl) ?_
    refine lv_iconst (v := nI 0) hx hb dL_refuses_278 (by decide) ?_
    refine lv_iconst (v := nI 3) hx hb dL_refuses_279 (by decide) ?_
    refine lv_iload_n hx hb dL_refuses_280 rfl (lv_at hl 3 rfl) ?_
    refine lv_iadd hx hb dL_refuses_281 ?_
    refine lv_topi (fun y9 e9 => ?_)
    obtain rfl : y9 = nI (3 + c) := e9.trans (nI_add _ _)
    refine (jt_waits_2 hst hJ (i := 0) (by decide) (Or.inr (big_gt (show 2 < 3 + c by omega) (by omega)))).call 3 hE ⟨hx, hb, hml, hown, hts⟩ gL_refuses_L_waits rfl (by decide) (by decide +kernel) ⟨Nat.le_of_ble_eq_true rfl, Nat.le_of_ble_eq_true rfl⟩ hP hD hS hA hK rfl hl.1 rfl (lv_room (Nat.le_of_ble_eq_true rfl)) dL_refuses_282 ⟨Nat.le_of_ble_eq_true rfl, Nat.le_of_ble_eq_true rfl⟩ (fun x9 ws H locs h9 hP hD hS => ?_)
    obtain ⟨rfl, hJ⟩ := h9
    refine lv_bipush (v := (-2)) hx hb dL_refuses_285 (by decide) ?_
    refine lv_icmp_ne (tgt := 407) hx hb dL_refuses_287 (by decide) (fun q => absurd (rfl) q) (fun _ => ?_)
    refine lv_aload_n hx hb dL_refuses_290 rfl (lv_at hl 2 rfl) ?_
    refine lv_iload_n hx hb dL_refuses_291 rfl (lv_at hl 1 rfl) ?_
    refine lv_iconst (v := nI 0) hx hb dL_refuses_292 (by decide) ?_
    refine (jt_arrival_1 hst hJ hn5).call 3 hE ⟨hx, hb, hml, hown, hts⟩ gL_refuses_L_arrival rfl (by decide) (by decide +kernel) ⟨Nat.le_of_ble_eq_true rfl, Nat.le_of_ble_eq_true rfl⟩ hP hD hS hA hK rfl hl.1 rfl (lv_room (Nat.le_of_ble_eq_true rfl)) dL_refuses_293 ⟨Nat.le_of_ble_eq_true rfl, Nat.le_of_ble_eq_true rfl⟩ (fun x9 ws H locs h9 hP hD hS => ?_)
    obtain ⟨rfl, hJ⟩ := h9
    refine lv_bipush (v := (-2)) hx hb dL_refuses_296 (by decide) ?_
    refine lv_icmp_ne (tgt := 407) hx hb dL_refuses_298 (by decide) (fun q => absurd (rfl) q) (fun _ => ?_)
    refine lv_aload_n hx hb dL_refuses_301 rfl (lv_at hl 2 rfl) ?_
    refine lv_iconst (v := nI 0) hx hb dL_refuses_302 (by decide) ?_
    refine lv_bipush (v := nI 6) hx hb dL_refuses_303 (by decide) ?_
    refine lv_iload_n hx hb dL_refuses_305 rfl (lv_at hl 3 rfl) ?_
    refine lv_iadd hx hb dL_refuses_306 ?_
    refine lv_topi (fun y9 e9 => ?_)
    obtain rfl : y9 = nI (6 + c) := e9.trans (nI_add _ _)
    refine (jt_arrival_2 hst hJ (i := 0) (by decide) (Or.inr (big_gt (show 5 < 6 + c by omega) (by omega)))).call 3 hE ⟨hx, hb, hml, hown, hts⟩ gL_refuses_L_arrival rfl (by decide) (by decide +kernel) ⟨Nat.le_of_ble_eq_true rfl, Nat.le_of_ble_eq_true rfl⟩ hP hD hS hA hK rfl hl.1 rfl (lv_room (Nat.le_of_ble_eq_true rfl)) dL_refuses_307 ⟨Nat.le_of_ble_eq_true rfl, Nat.le_of_ble_eq_true rfl⟩ (fun x9 ws H locs h9 hP hD hS => ?_)
    obtain ⟨rfl, hJ⟩ := h9
    refine lv_bipush (v := (-2)) hx hb dL_refuses_310 (by decide) ?_
    refine lv_icmp_ne (tgt := 407) hx hb dL_refuses_312 (by decide) (fun q => absurd (rfl) q) (fun _ => ?_)
    refine lv_aload_n hx hb dL_refuses_315 rfl (lv_at hl 2 rfl) ?_
    refine lv_bipush (v := nI 7) hx hb dL_refuses_316 (by decide) ?_
    refine lv_iload_n hx hb dL_refuses_318 rfl (lv_at hl 3 rfl) ?_
    refine lv_iadd hx hb dL_refuses_319 ?_
    refine lv_topi (fun y9 e9 => ?_)
    obtain rfl : y9 = nI (7 + c) := e9.trans (nI_add _ _)
    refine (jt_count_1 hst hJ (Or.inr (big_gt (show 6 < 7 + c by omega) (by omega)))).call 2 hE ⟨hx, hb, hml, hown, hts⟩ gL_refuses_L_count rfl (by decide) (by decide +kernel) ⟨Nat.le_of_ble_eq_true rfl, Nat.le_of_ble_eq_true rfl⟩ hP hD hS hA hK rfl hl.1 rfl (lv_room (Nat.le_of_ble_eq_true rfl)) dL_refuses_320 ⟨Nat.le_of_ble_eq_true rfl, Nat.le_of_ble_eq_true rfl⟩ (fun x9 ws H locs h9 hP hD hS => ?_)
    obtain ⟨rfl, hJ⟩ := h9
    refine lv_bipush (v := (-2)) hx hb dL_refuses_323 (by decide) ?_
    refine lv_icmp_ne (tgt := 407) hx hb dL_refuses_325 (by decide) (fun q => absurd (rfl) q) (fun _ => ?_)
    refine lv_aload_n hx hb dL_refuses_328 rfl (lv_at hl 2 rfl) ?_
    refine lv_iload_n hx hb dL_refuses_329 rfl (lv_at hl 0 rfl) ?_
    refine lv_iconst (v := nI 0) hx hb dL_refuses_330 (by decide) ?_
    refine (jt_lost_1 hst hJ hof).call 3 hE ⟨hx, hb, hml, hown, hts⟩ gL_refuses_L_lost rfl (by decide) (by decide +kernel) ⟨Nat.le_of_ble_eq_true rfl, Nat.le_of_ble_eq_true rfl⟩ hP hD hS hA hK rfl hl.1 rfl (lv_room (Nat.le_of_ble_eq_true rfl)) dL_refuses_331 ⟨Nat.le_of_ble_eq_true rfl, Nat.le_of_ble_eq_true rfl⟩ (fun x9 ws H locs h9 hP hD hS => ?_)
    obtain ⟨rfl, hJ⟩ := h9
    refine lv_bipush (v := (-2)) hx hb dL_refuses_334 (by decide) ?_
    refine lv_icmp_ne (tgt := 407) hx hb dL_refuses_336 (by decide) (fun q => absurd (rfl) q) (fun _ => ?_)
    refine lv_aload_n hx hb dL_refuses_339 rfl (lv_at hl 2 rfl) ?_
    refine lv_iconst (v := nI 0) hx hb dL_refuses_340 (by decide) ?_
    refine lv_iconst (v := nI 2) hx hb dL_refuses_341 (by decide) ?_
    refine lv_iload_n hx hb dL_refuses_342 rfl (lv_at hl 3 rfl) ?_
    refine lv_iadd hx hb dL_refuses_343 ?_
    refine lv_topi (fun y9 e9 => ?_)
    obtain rfl : y9 = nI (2 + c) := e9.trans (nI_add _ _)
    refine (jt_lost_2 hst hJ (i := 0) (by decide) (Or.inr (big_gt (show 1 < 2 + c by omega) (by omega)))).call 3 hE ⟨hx, hb, hml, hown, hts⟩ gL_refuses_L_lost rfl (by decide) (by decide +kernel) ⟨Nat.le_of_ble_eq_true rfl, Nat.le_of_ble_eq_true rfl⟩ hP hD hS hA hK rfl hl.1 rfl (lv_room (Nat.le_of_ble_eq_true rfl)) dL_refuses_344 ⟨Nat.le_of_ble_eq_true rfl, Nat.le_of_ble_eq_true rfl⟩ (fun x9 ws H locs h9 hP hD hS => ?_)
    obtain ⟨rfl, hJ⟩ := h9
    refine lv_bipush (v := (-2)) hx hb dL_refuses_347 (by decide) ?_
    refine lv_icmp_ne (tgt := 407) hx hb dL_refuses_349 (by decide) (fun q => absurd (rfl) q) (fun _ => ?_)
    refine lv_aload_n hx hb dL_refuses_352 rfl (lv_at hl 2 rfl) ?_
    refine lv_iload_n hx hb dL_refuses_353 rfl (lv_at hl 1 rfl) ?_
    refine lv_iconst (v := nI 0) hx hb dL_refuses_354 (by decide) ?_
    refine (jt_ifGone_1 hst hJ hno).call 3 hE ⟨hx, hb, hml, hown, hts⟩ gL_refuses_L_ifGone rfl (by decide) (by decide +kernel) ⟨Nat.le_of_ble_eq_true rfl, Nat.le_of_ble_eq_true rfl⟩ hP hD hS hA hK rfl hl.1 rfl (lv_room (Nat.le_of_ble_eq_true rfl)) dL_refuses_355 ⟨Nat.le_of_ble_eq_true rfl, Nat.le_of_ble_eq_true rfl⟩ (fun x9 ws H locs h9 hP hD hS => ?_)
    obtain ⟨rfl, hJ⟩ := h9
    refine lv_bipush (v := (-3)) hx hb dL_refuses_358 (by decide) ?_
    refine lv_icmp_ne (tgt := 407) hx hb dL_refuses_360 (by decide) (fun q => absurd (rfl) q) (fun _ => ?_)
    refine lv_aload_n hx hb dL_refuses_363 rfl (lv_at hl 2 rfl) ?_
    refine lv_iconst (v := nI 0) hx hb dL_refuses_364 (by decide) ?_
    refine lv_iconst (v := nI 4) hx hb dL_refuses_365 (by decide) ?_
    refine lv_iload_n hx hb dL_refuses_366 rfl (lv_at hl 3 rfl) ?_
    refine lv_iadd hx hb dL_refuses_367 ?_
    refine lv_topi (fun y9 e9 => ?_)
    obtain rfl : y9 = nI (4 + c) := e9.trans (nI_add _ _)
    refine (jt_ifGone_2 hst hJ (i := 0) (by decide) (Or.inr (big_gt (show 3 < 4 + c by omega) (by omega)))).call 3 hE ⟨hx, hb, hml, hown, hts⟩ gL_refuses_L_ifGone rfl (by decide) (by decide +kernel) ⟨Nat.le_of_ble_eq_true rfl, Nat.le_of_ble_eq_true rfl⟩ hP hD hS hA hK rfl hl.1 rfl (lv_room (Nat.le_of_ble_eq_true rfl)) dL_refuses_368 ⟨Nat.le_of_ble_eq_true rfl, Nat.le_of_ble_eq_true rfl⟩ (fun x9 ws H locs h9 hP hD hS => ?_)
    obtain ⟨rfl, hJ⟩ := h9
    refine lv_bipush (v := (-2)) hx hb dL_refuses_371 (by decide) ?_
    refine lv_icmp_ne (tgt := 407) hx hb dL_refuses_373 (by decide) (fun q => absurd (rfl) q) (fun _ => ?_)
    refine lv_aload_n hx hb dL_refuses_376 rfl (lv_at hl 2 rfl) ?_
    refine lv_iload_n hx hb dL_refuses_377 rfl (lv_at hl 0 rfl) ?_
    refine (jt_lostAt_1 hst hJ hof).call 2 hE ⟨hx, hb, hml, hown, hts⟩ gL_refuses_L_lostAt rfl (by decide) (by decide +kernel) ⟨Nat.le_of_ble_eq_true rfl, Nat.le_of_ble_eq_true rfl⟩ hP hD hS hA hK rfl hl.1 rfl (lv_room (Nat.le_of_ble_eq_true rfl)) dL_refuses_378 ⟨Nat.le_of_ble_eq_true rfl, Nat.le_of_ble_eq_true rfl⟩ (fun x9 ws H locs h9 hP hD hS => ?_)
    obtain ⟨rfl, hJ⟩ := h9
    refine lv_bipush (v := (-2)) hx hb dL_refuses_381 (by decide) ?_
    refine lv_icmp_ne (tgt := 407) hx hb dL_refuses_383 (by decide) (fun q => absurd (rfl) q) (fun _ => ?_)
    obtain ⟨nw, P, hJP⟩ := hJ
    have hnp : ∃ npN, M.np = nI npN := by obtain ⟨v, -, -, -, -, -, hn⟩ := hJP; exact ⟨_, hn⟩
    obtain ⟨npN, hnp⟩ := hnp
    have h304 : M.s 304 = nI nw ∧ nw ≤ 8 := by obtain ⟨v, -, -, hC, -⟩ := hJP; exact ⟨hC.2.2.2.2.2.2.2.1.1.1, hC.2.2.2.2.2.2.2.1.1.2.1⟩
    refine lv_aload_n hx hb dL_refuses_386 rfl (lv_at hl 2 rfl) ?_
    refine lv_iconst (v := nI 0) hx hb dL_refuses_387 (by decide) ?_
    refine (jo_count hJP (k := 0) (by decide) hnp).call 2 hE ⟨hx, hb, hml, hown, hts⟩ gL_refuses_L_count rfl (by decide) (by decide +kernel) ⟨Nat.le_of_ble_eq_true rfl, Nat.le_of_ble_eq_true rfl⟩ hP hD hS hA hK rfl hl.1 rfl (lv_room (Nat.le_of_ble_eq_true rfl)) dL_refuses_388 ⟨Nat.le_of_ble_eq_true rfl, Nat.le_of_ble_eq_true rfl⟩ (fun x9 ws H locs h9 hP hD hS => ?_)
    obtain ⟨rfl, hJP⟩ := h9
    have hv0 : vCount M.s npN 0 = nI nw := by unfold vCount; rw [if_pos rfl]; exact h304.1
    rw [hv0]
    have k410 : ∀ (ws : va_W) (H : Heap) (locs : List Loc) (ls : Array Slot) (hJ : JJ cI cS ad al B M K ws) (hP : va_P G vwCl ws H) (hD : va_D A ws) (hS : va_S A s.heap H locs) (hl : lv_has ls 6 [(4, .int (nI 1)), (3, .int of), (2, .int no), (0, .ref ad), (1, .int (nI c))]), W p l e ({ frames := 9, cells := 800, slots := 20000, locals := 300 } : Room) s m ([.ref ad, .int (nI c)] : List Value).toArray below meth c0 H locs 500 15000 (MQ below (va_Qi (S := va_W) (fun x w => 1 = x ∧ JJ cI cS ad al [] M K w) (mB G (tyH cI cS) A (fun w => w)) A) ([.ref ad, .int (nI c)] : List Value).toArray s 800 20000 A) (F0 m 410 ls []) := by
      intro ws H locs ls hJ hP hD hS hl
      refine lv_aload_n hx hb dL_refuses_410 rfl (lv_at hl 3 rfl) ?_
      have hJ0 := jj_len hJ
      refine (jo_clearBuffer hJ).call hE ⟨hx, hb, hml, hown, hts⟩ (cwV 0 hts gL_refuses_X8_clearBuffer rfl rfl rfl (by decide +kernel) ⟨Nat.le_of_ble_eq_true rfl, Nat.le_of_ble_eq_true rfl⟩) rfl hP hD hS hA (hK.sub [0] rfl) rfl hl.1 rfl (lv_room (Nat.le_of_ble_eq_true rfl)) dL_refuses_411 ⟨Nat.le_of_ble_eq_true rfl, Nat.le_of_ble_eq_true rfl⟩ (fun x9 ws H locs h9 hP hD hS => ?_)
      obtain ⟨rfl, hJ⟩ := h9
      refine lv_istore (lv' := [(5, .int (nI B.length)), (4, .int (nI 1)), (3, .int of), (2, .int no), (0, .ref ad), (1, .int (nI c))]) hx hb dL_refuses_414 hl (by decide) rfl (fun ls hl => ?_)
      refine lv_iload hx hb dL_refuses_416 (lv_at hl 1 rfl) ?_
      refine lv_if_eq (tgt := 473) hx hb dL_refuses_418 (by decide) (fun q => absurd q (by decide)) (fun _ => ?_)
      refine lv_iload hx hb dL_refuses_421 (lv_at hl 0 rfl) ?_
      refine lv_if_lt (tgt := 473) hx hb dL_refuses_423 (by decide) (fun q => absurd q (nI_nneg _ (by omega))) (fun _ => ?_)
      refine lv_aload_n hx hb dL_refuses_426 rfl (lv_at hl 4 rfl) ?_
      refine (jt_obey_0 hst hJ).call 1 hE ⟨hx, hb, hml, hown, hts⟩ gL_refuses_L_obey rfl (by decide) (by decide +kernel) ⟨Nat.le_of_ble_eq_true rfl, Nat.le_of_ble_eq_true rfl⟩ hP hD hS hA hK rfl hl.1 rfl (lv_room (Nat.le_of_ble_eq_true rfl)) dL_refuses_427 ⟨Nat.le_of_ble_eq_true rfl, Nat.le_of_ble_eq_true rfl⟩ (fun x9 ws H locs h9 hP hD hS => ?_)
      obtain ⟨rfl, hJ⟩ := h9
      refine lv_bipush (v := (-2)) hx hb dL_refuses_430 (by decide) ?_
      refine lv_icmp_ne (tgt := 473) hx hb dL_refuses_432 (by decide) (fun q => absurd (rfl) q) (fun _ => ?_)
      refine lv_aload_n hx hb dL_refuses_435 rfl (lv_at hl 4 rfl) ?_
      refine lv_bipush (v := nI 59) hx hb dL_refuses_436 (by decide) ?_
      refine (jo_append (B := []) hJ (c := 59) (by decide) (by decide) (by decide)).call 2 hE ⟨hx, hb, hml, hown, hts⟩ gL_refuses_L_append rfl (by decide) (by decide +kernel) ⟨Nat.le_of_ble_eq_true rfl, Nat.le_of_ble_eq_true rfl⟩ hP hD hS hA hK rfl hl.1 rfl (lv_room (Nat.le_of_ble_eq_true rfl)) dL_refuses_438 ⟨Nat.le_of_ble_eq_true rfl, Nat.le_of_ble_eq_true rfl⟩ (fun x9 ws H locs h9 hP hD hS => ?_)
      obtain ⟨rfl, hJ⟩ := h9
      refine lv_iconst (v := nI 1) hx hb dL_refuses_441 (by decide) ?_
      refine lv_icmp_ne (tgt := 473) hx hb dL_refuses_442 (by decide) (fun q => absurd (rfl) q) (fun _ => ?_)
      refine lv_aload_n hx hb dL_refuses_445 rfl (lv_at hl 4 rfl) ?_
      refine (jo_firstError hJ).call hE ⟨hx, hb, hml, hown, hts⟩ (cwV 0 hts gL_refuses_X8_firstError rfl rfl rfl (by decide +kernel) ⟨Nat.le_of_ble_eq_true rfl, Nat.le_of_ble_eq_true rfl⟩) rfl hP hD hS hA (hK.sub [0] rfl) rfl hl.1 rfl (lv_room (Nat.le_of_ble_eq_true rfl)) dL_refuses_446 ⟨Nat.le_of_ble_eq_true rfl, Nat.le_of_ble_eq_true rfl⟩ (fun x9 ws H locs h9 hP hD hS => ?_)
      obtain ⟨rfl, hJ⟩ := h9
      refine lv_if_ne (tgt := 473) hx hb dL_refuses_449 (by decide) (fun q => absurd (by show nI (whF (txB [59]) 1 60 0).1 = 0; rw [wh_59]; rfl) q) (fun _ => ?_)
      refine lv_aload_n hx hb dL_refuses_452 rfl (lv_at hl 4 rfl) ?_
      refine (jt_obey_1 hst hJ).call 1 hE ⟨hx, hb, hml, hown, hts⟩ gL_refuses_L_obey rfl (by decide) (by decide +kernel) ⟨Nat.le_of_ble_eq_true rfl, Nat.le_of_ble_eq_true rfl⟩ hP hD hS hA hK rfl hl.1 rfl (lv_room (Nat.le_of_ble_eq_true rfl)) dL_refuses_453 ⟨Nat.le_of_ble_eq_true rfl, Nat.le_of_ble_eq_true rfl⟩ (fun x9 ws H locs h9 hP hD hS => ?_)
      obtain ⟨rfl, hJ⟩ := h9
      refine lv_bipush (v := (-2)) hx hb dL_refuses_456 (by decide) ?_
      refine lv_icmp_ne (tgt := 473) hx hb dL_refuses_458 (by decide) (fun q => absurd (rfl) q) (fun _ => ?_)
      refine lv_aload_n hx hb dL_refuses_461 rfl (lv_at hl 4 rfl) ?_
      refine (jo_clearBuffer hJ).call hE ⟨hx, hb, hml, hown, hts⟩ (cwV 0 hts gL_refuses_X8_clearBuffer rfl rfl rfl (by decide +kernel) ⟨Nat.le_of_ble_eq_true rfl, Nat.le_of_ble_eq_true rfl⟩) rfl hP hD hS hA (hK.sub [0] rfl) rfl hl.1 rfl (lv_room (Nat.le_of_ble_eq_true rfl)) dL_refuses_462 ⟨Nat.le_of_ble_eq_true rfl, Nat.le_of_ble_eq_true rfl⟩ (fun x9 ws H locs h9 hP hD hS => ?_)
      obtain ⟨rfl, hJ⟩ := h9
      refine lv_iconst (v := nI 1) hx hb dL_refuses_465 (by decide) ?_
      refine lv_icmp_ne (tgt := 473) hx hb dL_refuses_466 (by decide) (fun q => absurd (rfl) q) (fun _ => ?_)
      refine lv_iconst (v := nI 1) hx hb dL_refuses_469 (by decide) ?_
      refine lv_goto (tgt := 474) hx hb dL_refuses_470 (by decide) ?_
      exact mEndQ_z (S := va_W) ws hx hb hr rfl hlocks hP hK hD hS ⟨rfl, hJ⟩ rfl (Nat.le_of_ble_eq_true rfl) (Nat.le_of_ble_eq_true rfl) dL_refuses_474
    by_cases hn0 : 0 < nw
    · have hdo := hn0
      refine lv_if_gt (tgt := 403) hx hb dL_refuses_391 (by decide) (fun _ => ?_) (fun q => absurd (by rw [show (0 : Int32) = nI 0 from rfl, z_lt (by omega) (by omega)]; exact hn0) q)
      refine lv_iconst (v := nI 1) hx hb dL_refuses_403 (by decide) ?_
      refine lv_goto (tgt := 408) hx hb dL_refuses_404 (by decide) ?_
      refine lv_istore (lv' := [(4, .int (nI 1)), (3, .int of), (2, .int no), (0, .ref ad), (1, .int (nI c))]) hx hb dL_refuses_408 hl (by decide) rfl (fun ls hl => ?_)
      exact W.widen (Nat.le_of_ble_eq_true rfl) (Nat.le_of_ble_eq_true rfl) (k410 ws H locs ls ⟨nw, P, hJP⟩ hP hD hS hl)
    · have hdo := hn0
      refine lv_if_gt (tgt := 403) hx hb dL_refuses_391 (by decide) (fun q => absurd q (by rw [show (0 : Int32) = nI 0 from rfl, z_lt (by omega) (by omega)]; exact hn0)) (fun _ => ?_)
      refine lv_aload_n hx hb dL_refuses_394 rfl (lv_at hl 2 rfl) ?_
      obtain rfl : nw = 0 := by omega
      refine (jt_go_0 hst hJP).call 1 hE ⟨hx, hb, hml, hown, hts⟩ gL_refuses_L_go rfl (by decide) (by decide +kernel) ⟨Nat.le_of_ble_eq_true rfl, Nat.le_of_ble_eq_true rfl⟩ hP hD hS hA hK rfl hl.1 rfl (lv_room (Nat.le_of_ble_eq_true rfl)) dL_refuses_395 ⟨Nat.le_of_ble_eq_true rfl, Nat.le_of_ble_eq_true rfl⟩ (fun x9 ws H locs h9 hP hD hS => ?_)
      obtain ⟨rfl, hJ⟩ := h9
      refine lv_bipush (v := (-2)) hx hb dL_refuses_398 (by decide) ?_
      refine lv_icmp_ne (tgt := 407) hx hb dL_refuses_400 (by decide) (fun q => absurd (rfl) q) (fun _ => ?_)
      refine lv_iconst (v := nI 1) hx hb dL_refuses_403 (by decide) ?_
      refine lv_goto (tgt := 408) hx hb dL_refuses_404 (by decide) ?_
      refine lv_istore (lv' := [(4, .int (nI 1)), (3, .int of), (2, .int no), (0, .ref ad), (1, .int (nI c))]) hx hb dL_refuses_408 hl (by decide) rfl (fun ls hl => ?_)
      exact W.widen (Nat.le_of_ble_eq_true rfl) (Nat.le_of_ble_eq_true rfl) (k410 ws H locs ls hJ hP hD hS hl)
  obtain ⟨H, hH⟩ : ∃ H : Heap, H = s.heap := ⟨_, rfl⟩
  obtain ⟨locs, hlc⟩ : ∃ z : List Loc, z = [] := ⟨_, rfl⟩
  rw [← hlc, ← hH]
  have hP : va_P G vwCl ws H := by rw [hH]; exact hP
  have hS : va_S A s.heap H locs := by rw [hlc, hH]; exact hS
  by_cases hp2 : c % 2 = 0
  · have hpx := hp2
    refine lv_iload_n hx hb dL_refuses_0 rfl (lv_at hl 1 rfl) ?_
    refine lv_iconst (v := nI 2) hx hb dL_refuses_1 (by decide) ?_
    refine lv_irem hx hb dL_refuses_2 (by decide) ?_
    refine lv_topi (fun y9 e9 => ?_)
    obtain rfl : y9 = nI (c % 2) := e9.trans (pk_rem (by omega) (by omega) (by omega))
    refine lv_if_ne (tgt := 13) hx hb dL_refuses_3 (by decide) (fun q => absurd (by rw [hp2]; rfl) q) (fun _ => ?_)
    refine lv_bipush (v := nI 6) hx hb dL_refuses_6 (by decide) ?_
    refine lv_iload_n hx hb dL_refuses_8 rfl (lv_at hl 1 rfl) ?_
    refine lv_iadd hx hb dL_refuses_9 ?_
    refine lv_topi (fun y9 e9 => ?_)
    obtain rfl : y9 = nI (6 + c) := e9.trans (nI_add _ _)
    refine lv_goto (tgt := 16) hx hb dL_refuses_10 (by decide) ?_
    refine lv_istore_n (lv' := [(2, .int (nI (6 + c))), (0, .ref ad), (1, .int (nI c))]) hx hb dL_refuses_16 rfl hl (by decide) rfl (fun ls hl => ?_)
    refine lv_iload_n hx hb dL_refuses_17 rfl (lv_at hl 2 rfl) ?_
    refine lv_iconst (v := nI 2) hx hb dL_refuses_18 (by decide) ?_
    refine lv_irem hx hb dL_refuses_19 (by decide) ?_
    refine lv_topi (fun y9 e9 => ?_)
    obtain rfl : y9 = nI (c % 2) := e9.trans (pk_rem (by omega) (by omega) (by omega))
    refine lv_if_ne (tgt := 30) hx hb dL_refuses_20 (by decide) (fun q => absurd (by rw [hp2]; rfl) q) (fun _ => ?_)
    refine lv_bipush (v := nI 30) hx hb dL_refuses_23 (by decide) ?_
    refine lv_iload_n hx hb dL_refuses_25 rfl (lv_at hl 2 rfl) ?_
    refine lv_iadd hx hb dL_refuses_26 ?_
    refine lv_topi (fun y9 e9 => ?_)
    obtain rfl : y9 = nI (30 + c) := e9.trans (nI_add _ _)
    refine lv_goto (tgt := 33) hx hb dL_refuses_27 (by decide) ?_
    refine lv_istore_n (lv' := [(3, .int (nI (30 + c))), (2, .int (nI (6 + c))), (0, .ref ad), (1, .int (nI c))]) hx hb dL_refuses_33 rfl hl (by decide) rfl (fun ls hl => ?_)
    exact kmain _ _ (Or.inr (by rw [z_le (by omega) (by omega)]; omega)) (Or.inr (by rw [z_lt (by omega) (by omega)]; omega)) (Or.inr (by rw [z_lt (by omega) (by omega)]; omega)) ws H locs ls hJ hP hD hS hl
  · have hpx := hp2
    refine lv_iload_n hx hb dL_refuses_0 rfl (lv_at hl 1 rfl) ?_
    refine lv_iconst (v := nI 2) hx hb dL_refuses_1 (by decide) ?_
    refine lv_irem hx hb dL_refuses_2 (by decide) ?_
    refine lv_topi (fun y9 e9 => ?_)
    obtain rfl : y9 = nI (c % 2) := e9.trans (pk_rem (by omega) (by omega) (by omega))
    refine lv_if_ne (tgt := 13) hx hb dL_refuses_3 (by decide) (fun _ => ?_) (fun q => absurd q (fun h => hp2 ((nI_eq (b := 0) (by omega) (by omega)).mp h)))
    refine lv_iconst (v := (-1)) hx hb dL_refuses_13 (by decide) ?_
    refine lv_iload_n hx hb dL_refuses_14 rfl (lv_at hl 1 rfl) ?_
    refine lv_isub hx hb dL_refuses_15 ?_
    refine lv_istore_n (lv' := [(2, .int (((-1)) - (nI c))), (0, .ref ad), (1, .int (nI c))]) hx hb dL_refuses_16 rfl hl (by decide) rfl (fun ls hl => ?_)
    refine lv_iload_n hx hb dL_refuses_17 rfl (lv_at hl 2 rfl) ?_
    refine lv_iconst (v := nI 2) hx hb dL_refuses_18 (by decide) ?_
    refine lv_irem hx hb dL_refuses_19 (by decide) ?_
    refine lv_topi (fun y9 e9 => ?_)
    obtain rfl : y9 = nI (c % 2) := e9.trans (pk_rem (by omega) (by omega) (by omega))
    refine lv_if_ne (tgt := 30) hx hb dL_refuses_20 (by decide) (fun _ => ?_) (fun q => absurd q (fun h => hp2 ((nI_eq (b := 0) (by omega) (by omega)).mp h)))
    refine lv_iconst (v := (-1)) hx hb dL_refuses_30 (by decide) ?_
    refine lv_iload_n hx hb dL_refuses_31 rfl (lv_at hl 2 rfl) ?_
    refine lv_isub hx hb dL_refuses_32 ?_
    refine lv_istore_n (lv' := [(3, .int (((-1)) - (nI c))), (2, .int (((-1)) - (nI c))), (0, .ref ad), (1, .int (nI c))]) hx hb dL_refuses_33 rfl hl (by decide) rfl (fun ls hl => ?_)
    exact kmain _ _ (Or.inl (m1_sub (by omega))) (Or.inl (m1_sub (by omega))) (Or.inl (m1_sub (by omega))) ws H locs ls hJ hP hD hS hl
theorem jp_refuses {l : Launch} {sa sv : Nat → Nat} {G : va_G} {cI cS : ClassId} {ad : Nat} {al : Nat → Nat} {b L : Nat} {xs : Nat → Int32} (hst : l.stackTraces = false) {B : List Nat} {M : MT} {K : Nat} {ws : va_W} (hJ : JJ cI cS ad al B M K ws) {c : Nat} (hc : c < 100000) : LwP l sa sv G (tyH cI cS) b L xs yL_refuses wsL_refuses 9 300 800 20000 [.ref ad, .int (nI c)] ws (fun x w => 1 = x ∧ JJ cI cS ad al [] M K w) := LwP.mk ({ frames := 9, cells := 800, slots := 20000, locals := 300 } : Room) (Nat.le_refl _) (Nat.le_refl _) (Nat.le_refl _) (Nat.le_refl _) (mL_refuses hst hJ hc)

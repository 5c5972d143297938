-- History: dropOldest, save
abbrev tyH (cI cS : ClassId) : List (ClassId × FieldType) := [(cI, .int), (cS, .object RX5)]
theorem iwX1_dropOldest_X1 : ∀ w ∈ u_ws RX1 TX1 2, w ∈ wsX1_dropOldest := by decide +kernel
set_option maxHeartbeats 8000000 in
set_option maxRecDepth 100000 in
theorem mX1_dropOldest (l : Launch) (G : va_G) (cI cS : ClassId) (sz ah as : Nat) (n : Int32) (b0 b1 b2 b3 b4 b5 : Blk) : Met l yX1_dropOldest wsX1_dropOldest ({ frames := 0, cells := 0, slots := 0, locals := 0 }) (mPc G (tyH cI cS) [.ref ah] sz (hsW cS ah as n [b0, b1, b2, b3, b4, b5] ++ tlW cI [b0, b1, b2, b3, b4, b5])) (va_Qv (S := Unit) (fun _ => True) (mB G (tyH cI cS) (va_A (hsW cS ah as n [b0, b1, b2, b3, b4, b5] ++ tlW cI [b0, b1, b2, b3, b4, b5]) sz) (fun _ : Unit => hsW cS ah as 5 [b1, b2, b3, b4, b5, b0] ++ tlW cI [b0, b1, b2, b3, b4, b5])) (va_A (hsW cS ah as n [b0, b1, b2, b3, b4, b5] ++ tlW cI [b0, b1, b2, b3, b4, b5]) sz)) 0 0 (va_A (hsW cS ah as n [b0, b1, b2, b3, b4, b5] ++ tlW cI [b0, b1, b2, b3, b4, b5]) sz) := by
  refine mStart (cc := cX1_dropOldest) (maxL := 3) (ret := none) (by decide) rfl (Nat.le_of_ble_eq_true rfl) ?_
  intro p e s m below meth c A ls hx hb hml hr hts hown hlocks hnm hA hsz hAe hP hK hD hS hl
  rw [hAe]
  have hl : lv_has ls 3 [(0, .ref ah)] := hl
  have k1 := hts (.fieldLink RX1 11 "DeafChain$History" "saved" "[LDeafChain$State;") (by decide +kernel)
  have k2 := hts (.fieldLink RX1 17 "DeafChain$History" "size" "I") (by decide +kernel)
  refine lv_aload_n hx hb dX1_dropOldest_0 rfl (lv_at hl 0 rfl) ?_
  refine va_get (D := G) (ci := 1) (v := .ref as) (C := RX1) (T := TX1) (N := 2) hx hb hts iwX1_dropOldest_X1 hown hK hP 0 rfl rfl 0 (by decide) k1 (fun _ h9 => h9) rfl dX1_dropOldest_1 ?_
  refine lv_iconst (v := 0) hx hb dX1_dropOldest_4 (by decide) ?_
  refine va_aldq hx hb hK hP 1 1 rfl rfl (vp_lit (by decide +kernel)) dX1_dropOldest_5 ?_
  refine W.eq (g2 := F0 m 6 ls [.ref (b0.1 0)]) rfl ?_
  refine lv_astore_n (lv' := [(1, .ref (b0.1 0)), (0, .ref ah)]) hx hb dX1_dropOldest_6 rfl hl (by decide) rfl (fun ls hl => ?_)
  refine lv_iconst (v := 1) hx hb dX1_dropOldest_7 (by decide) ?_
  refine lv_istore_n (lv' := [(2, .int 1), (1, .ref (b0.1 0)), (0, .ref ah)]) hx hb dX1_dropOldest_8 rfl hl (by decide) rfl (fun ls hl => ?_)
  refine lv_iload_n hx hb dX1_dropOldest_9 rfl (lv_at hl 0 rfl) ?_
  refine lv_bipush (v := 6) hx hb dX1_dropOldest_10 (by decide) ?_
  refine lv_icmp_ge (tgt := 35) hx hb dX1_dropOldest_12 (by decide) (fun c1 => absurd c1 (by decide)) (fun c1 => ?_)
  refine lv_aload_n hx hb dX1_dropOldest_15 rfl (lv_at hl 2 rfl) ?_
  refine va_get (D := G) (ci := 1) (v := .ref as) (C := RX1) (T := TX1) (N := 2) hx hb hts iwX1_dropOldest_X1 hown hK hP 0 rfl rfl 0 (by decide) k1 (fun _ h9 => h9) rfl dX1_dropOldest_16 ?_
  refine lv_iload_n hx hb dX1_dropOldest_19 rfl (lv_at hl 0 rfl) ?_
  refine lv_iconst (v := 1) hx hb dX1_dropOldest_20 (by decide) ?_
  refine lv_isub hx hb dX1_dropOldest_21 ?_
  refine W.eq (g2 := F0 m 22 ls [.int 0, .ref as]) (by first | rfl | decide) ?_
  refine lv_aload_n hx hb dX1_dropOldest_22 rfl (lv_at hl 2 rfl) ?_
  refine va_get (D := G) (ci := 1) (v := .ref as) (C := RX1) (T := TX1) (N := 2) hx hb hts iwX1_dropOldest_X1 hown hK hP 0 rfl rfl 0 (by decide) k1 (fun _ h9 => h9) rfl dX1_dropOldest_23 ?_
  refine lv_iload_n hx hb dX1_dropOldest_26 rfl (lv_at hl 0 rfl) ?_
  refine va_aldq hx hb hK hP 1 1 rfl rfl (vp_lit (by decide +kernel)) dX1_dropOldest_27 ?_
  refine W.eq (g2 := F0 m 28 ls [.ref (b1.1 0), .int 0, .ref as]) rfl ?_
  refine va_astq hx hb hK hP hD hS 1 1 18 5 rfl rfl rfl rfl (vp_lit (by decide +kernel)) dX1_dropOldest_28 (fun H locs hP hD hS => ?_)
  have hP : va_P G vwCl ([(ah, .inr (1, [.ref as, .int n])), (as, .inl (cS, 6, .inr (.inr (.inr (.inr (va_up (svOf [b0, b1, b2, b3, b4, b5]) 0 (some (b1.1 0))))))))] ++ tlW cI [b0, b1, b2, b3, b4, b5]) H := hP
  have hD : va_D A ([(ah, .inr (1, [.ref as, .int n])), (as, .inl (cS, 6, .inr (.inr (.inr (.inr (va_up (svOf [b0, b1, b2, b3, b4, b5]) 0 (some (b1.1 0))))))))] ++ tlW cI [b0, b1, b2, b3, b4, b5]) := hD
  refine lv_iinc (v := 2) (lv' := [(2, .int 2), (1, .ref (b0.1 0)), (0, .ref ah)]) hx hb dX1_dropOldest_29 hl (k := 0) rfl (by decide) (by decide) rfl (fun ls hl => ?_)
  refine lv_goto (tgt := 9) hx hb dX1_dropOldest_32 (by decide) ?_
  refine lv_iload_n hx hb dX1_dropOldest_9 rfl (lv_at hl 0 rfl) ?_
  refine lv_bipush (v := 6) hx hb dX1_dropOldest_10 (by decide) ?_
  refine lv_icmp_ge (tgt := 35) hx hb dX1_dropOldest_12 (by decide) (fun c1 => absurd c1 (by decide)) (fun c1 => ?_)
  refine lv_aload_n hx hb dX1_dropOldest_15 rfl (lv_at hl 2 rfl) ?_
  refine va_get (D := G) (ci := 1) (v := .ref as) (C := RX1) (T := TX1) (N := 2) hx hb hts iwX1_dropOldest_X1 hown hK hP 0 rfl rfl 0 (by decide) k1 (fun _ h9 => h9) rfl dX1_dropOldest_16 ?_
  refine lv_iload_n hx hb dX1_dropOldest_19 rfl (lv_at hl 0 rfl) ?_
  refine lv_iconst (v := 1) hx hb dX1_dropOldest_20 (by decide) ?_
  refine lv_isub hx hb dX1_dropOldest_21 ?_
  refine W.eq (g2 := F0 m 22 ls [.int 1, .ref as]) (by first | rfl | decide) ?_
  refine lv_aload_n hx hb dX1_dropOldest_22 rfl (lv_at hl 2 rfl) ?_
  refine va_get (D := G) (ci := 1) (v := .ref as) (C := RX1) (T := TX1) (N := 2) hx hb hts iwX1_dropOldest_X1 hown hK hP 0 rfl rfl 0 (by decide) k1 (fun _ h9 => h9) rfl dX1_dropOldest_23 ?_
  refine lv_iload_n hx hb dX1_dropOldest_26 rfl (lv_at hl 0 rfl) ?_
  refine va_aldq hx hb hK hP 1 1 rfl rfl (vp_lit (by decide +kernel)) dX1_dropOldest_27 ?_
  refine W.eq (g2 := F0 m 28 ls [.ref (b2.1 0), .int 1, .ref as]) rfl ?_
  refine va_astq hx hb hK hP hD hS 1 1 34 5 rfl rfl rfl rfl (vp_lit (by decide +kernel)) dX1_dropOldest_28 (fun H locs hP hD hS => ?_)
  have hP : va_P G vwCl ([(ah, .inr (1, [.ref as, .int n])), (as, .inl (cS, 6, .inr (.inr (.inr (.inr (va_up (va_up (svOf [b0, b1, b2, b3, b4, b5]) 0 (some (b1.1 0))) 1 (some (b2.1 0))))))))] ++ tlW cI [b0, b1, b2, b3, b4, b5]) H := hP
  have hD : va_D A ([(ah, .inr (1, [.ref as, .int n])), (as, .inl (cS, 6, .inr (.inr (.inr (.inr (va_up (va_up (svOf [b0, b1, b2, b3, b4, b5]) 0 (some (b1.1 0))) 1 (some (b2.1 0))))))))] ++ tlW cI [b0, b1, b2, b3, b4, b5]) := hD
  refine lv_iinc (v := 3) (lv' := [(2, .int 3), (1, .ref (b0.1 0)), (0, .ref ah)]) hx hb dX1_dropOldest_29 hl (k := 0) rfl (by decide) (by decide) rfl (fun ls hl => ?_)
  refine lv_goto (tgt := 9) hx hb dX1_dropOldest_32 (by decide) ?_
  refine lv_iload_n hx hb dX1_dropOldest_9 rfl (lv_at hl 0 rfl) ?_
  refine lv_bipush (v := 6) hx hb dX1_dropOldest_10 (by decide) ?_
  refine lv_icmp_ge (tgt := 35) hx hb dX1_dropOldest_12 (by decide) (fun c1 => absurd c1 (by decide)) (fun c1 => ?_)
  refine lv_aload_n hx hb dX1_dropOldest_15 rfl (lv_at hl 2 rfl) ?_
  refine va_get (D := G) (ci := 1) (v := .ref as) (C := RX1) (T := TX1) (N := 2) hx hb hts iwX1_dropOldest_X1 hown hK hP 0 rfl rfl 0 (by decide) k1 (fun _ h9 => h9) rfl dX1_dropOldest_16 ?_
  refine lv_iload_n hx hb dX1_dropOldest_19 rfl (lv_at hl 0 rfl) ?_
  refine lv_iconst (v := 1) hx hb dX1_dropOldest_20 (by decide) ?_
  refine lv_isub hx hb dX1_dropOldest_21 ?_
  refine W.eq (g2 := F0 m 22 ls [.int 2, .ref as]) (by first | rfl | decide) ?_
  refine lv_aload_n hx hb dX1_dropOldest_22 rfl (lv_at hl 2 rfl) ?_
  refine va_get (D := G) (ci := 1) (v := .ref as) (C := RX1) (T := TX1) (N := 2) hx hb hts iwX1_dropOldest_X1 hown hK hP 0 rfl rfl 0 (by decide) k1 (fun _ h9 => h9) rfl dX1_dropOldest_23 ?_
  refine lv_iload_n hx hb dX1_dropOldest_26 rfl (lv_at hl 0 rfl) ?_
  refine va_aldq hx hb hK hP 1 1 rfl rfl (vp_lit (by decide +kernel)) dX1_dropOldest_27 ?_
  refine W.eq (g2 := F0 m 28 ls [.ref (b3.1 0), .int 2, .ref as]) rfl ?_
  refine va_astq hx hb hK hP hD hS 1 1 50 5 rfl rfl rfl rfl (vp_lit (by decide +kernel)) dX1_dropOldest_28 (fun H locs hP hD hS => ?_)
  have hP : va_P G vwCl ([(ah, .inr (1, [.ref as, .int n])), (as, .inl (cS, 6, .inr (.inr (.inr (.inr (va_up (va_up (va_up (svOf [b0, b1, b2, b3, b4, b5]) 0 (some (b1.1 0))) 1 (some (b2.1 0))) 2 (some (b3.1 0))))))))] ++ tlW cI [b0, b1, b2, b3, b4, b5]) H := hP
  have hD : va_D A ([(ah, .inr (1, [.ref as, .int n])), (as, .inl (cS, 6, .inr (.inr (.inr (.inr (va_up (va_up (va_up (svOf [b0, b1, b2, b3, b4, b5]) 0 (some (b1.1 0))) 1 (some (b2.1 0))) 2 (some (b3.1 0))))))))] ++ tlW cI [b0, b1, b2, b3, b4, b5]) := hD
  refine lv_iinc (v := 4) (lv' := [(2, .int 4), (1, .ref (b0.1 0)), (0, .ref ah)]) hx hb dX1_dropOldest_29 hl (k := 0) rfl (by decide) (by decide) rfl (fun ls hl => ?_)
  refine lv_goto (tgt := 9) hx hb dX1_dropOldest_32 (by decide) ?_
  refine lv_iload_n hx hb dX1_dropOldest_9 rfl (lv_at hl 0 rfl) ?_
  refine lv_bipush (v := 6) hx hb dX1_dropOldest_10 (by decide) ?_
  refine lv_icmp_ge (tgt := 35) hx hb dX1_dropOldest_12 (by decide) (fun c1 => absurd c1 (by decide)) (fun c1 => ?_)
  refine lv_aload_n hx hb dX1_dropOldest_15 rfl (lv_at hl 2 rfl) ?_
  refine va_get (D := G) (ci := 1) (v := .ref as) (C := RX1) (T := TX1) (N := 2) hx hb hts iwX1_dropOldest_X1 hown hK hP 0 rfl rfl 0 (by decide) k1 (fun _ h9 => h9) rfl dX1_dropOldest_16 ?_
  refine lv_iload_n hx hb dX1_dropOldest_19 rfl (lv_at hl 0 rfl) ?_
  refine lv_iconst (v := 1) hx hb dX1_dropOldest_20 (by decide) ?_
  refine lv_isub hx hb dX1_dropOldest_21 ?_
  refine W.eq (g2 := F0 m 22 ls [.int 3, .ref as]) (by first | rfl | decide) ?_
  refine lv_aload_n hx hb dX1_dropOldest_22 rfl (lv_at hl 2 rfl) ?_
  refine va_get (D := G) (ci := 1) (v := .ref as) (C := RX1) (T := TX1) (N := 2) hx hb hts iwX1_dropOldest_X1 hown hK hP 0 rfl rfl 0 (by decide) k1 (fun _ h9 => h9) rfl dX1_dropOldest_23 ?_
  refine lv_iload_n hx hb dX1_dropOldest_26 rfl (lv_at hl 0 rfl) ?_
  refine va_aldq hx hb hK hP 1 1 rfl rfl (vp_lit (by decide +kernel)) dX1_dropOldest_27 ?_
  refine W.eq (g2 := F0 m 28 ls [.ref (b4.1 0), .int 3, .ref as]) rfl ?_
  refine va_astq hx hb hK hP hD hS 1 1 66 5 rfl rfl rfl rfl (vp_lit (by decide +kernel)) dX1_dropOldest_28 (fun H locs hP hD hS => ?_)
  have hP : va_P G vwCl ([(ah, .inr (1, [.ref as, .int n])), (as, .inl (cS, 6, .inr (.inr (.inr (.inr (va_up (va_up (va_up (va_up (svOf [b0, b1, b2, b3, b4, b5]) 0 (some (b1.1 0))) 1 (some (b2.1 0))) 2 (some (b3.1 0))) 3 (some (b4.1 0))))))))] ++ tlW cI [b0, b1, b2, b3, b4, b5]) H := hP
  have hD : va_D A ([(ah, .inr (1, [.ref as, .int n])), (as, .inl (cS, 6, .inr (.inr (.inr (.inr (va_up (va_up (va_up (va_up (svOf [b0, b1, b2, b3, b4, b5]) 0 (some (b1.1 0))) 1 (some (b2.1 0))) 2 (some (b3.1 0))) 3 (some (b4.1 0))))))))] ++ tlW cI [b0, b1, b2, b3, b4, b5]) := hD
  refine lv_iinc (v := 5) (lv' := [(2, .int 5), (1, .ref (b0.1 0)), (0, .ref ah)]) hx hb dX1_dropOldest_29 hl (k := 0) rfl (by decide) (by decide) rfl (fun ls hl => ?_)
  refine lv_goto (tgt := 9) hx hb dX1_dropOldest_32 (by decide) ?_
  refine lv_iload_n hx hb dX1_dropOldest_9 rfl (lv_at hl 0 rfl) ?_
  refine lv_bipush (v := 6) hx hb dX1_dropOldest_10 (by decide) ?_
  refine lv_icmp_ge (tgt := 35) hx hb dX1_dropOldest_12 (by decide) (fun c1 => absurd c1 (by decide)) (fun c1 => ?_)
  refine lv_aload_n hx hb dX1_dropOldest_15 rfl (lv_at hl 2 rfl) ?_
  refine va_get (D := G) (ci := 1) (v := .ref as) (C := RX1) (T := TX1) (N := 2) hx hb hts iwX1_dropOldest_X1 hown hK hP 0 rfl rfl 0 (by decide) k1 (fun _ h9 => h9) rfl dX1_dropOldest_16 ?_
  refine lv_iload_n hx hb dX1_dropOldest_19 rfl (lv_at hl 0 rfl) ?_
  refine lv_iconst (v := 1) hx hb dX1_dropOldest_20 (by decide) ?_
  refine lv_isub hx hb dX1_dropOldest_21 ?_
  refine W.eq (g2 := F0 m 22 ls [.int 4, .ref as]) (by first | rfl | decide) ?_
  refine lv_aload_n hx hb dX1_dropOldest_22 rfl (lv_at hl 2 rfl) ?_
  refine va_get (D := G) (ci := 1) (v := .ref as) (C := RX1) (T := TX1) (N := 2) hx hb hts iwX1_dropOldest_X1 hown hK hP 0 rfl rfl 0 (by decide) k1 (fun _ h9 => h9) rfl dX1_dropOldest_23 ?_
  refine lv_iload_n hx hb dX1_dropOldest_26 rfl (lv_at hl 0 rfl) ?_
  refine va_aldq hx hb hK hP 1 1 rfl rfl (vp_lit (by decide +kernel)) dX1_dropOldest_27 ?_
  refine W.eq (g2 := F0 m 28 ls [.ref (b5.1 0), .int 4, .ref as]) rfl ?_
  refine va_astq hx hb hK hP hD hS 1 1 82 5 rfl rfl rfl rfl (vp_lit (by decide +kernel)) dX1_dropOldest_28 (fun H locs hP hD hS => ?_)
  have hP : va_P G vwCl ([(ah, .inr (1, [.ref as, .int n])), (as, .inl (cS, 6, .inr (.inr (.inr (.inr (va_up (va_up (va_up (va_up (va_up (svOf [b0, b1, b2, b3, b4, b5]) 0 (some (b1.1 0))) 1 (some (b2.1 0))) 2 (some (b3.1 0))) 3 (some (b4.1 0))) 4 (some (b5.1 0))))))))] ++ tlW cI [b0, b1, b2, b3, b4, b5]) H := hP
  have hD : va_D A ([(ah, .inr (1, [.ref as, .int n])), (as, .inl (cS, 6, .inr (.inr (.inr (.inr (va_up (va_up (va_up (va_up (va_up (svOf [b0, b1, b2, b3, b4, b5]) 0 (some (b1.1 0))) 1 (some (b2.1 0))) 2 (some (b3.1 0))) 3 (some (b4.1 0))) 4 (some (b5.1 0))))))))] ++ tlW cI [b0, b1, b2, b3, b4, b5]) := hD
  refine lv_iinc (v := 6) (lv' := [(2, .int 6), (1, .ref (b0.1 0)), (0, .ref ah)]) hx hb dX1_dropOldest_29 hl (k := 0) rfl (by decide) (by decide) rfl (fun ls hl => ?_)
  refine lv_goto (tgt := 9) hx hb dX1_dropOldest_32 (by decide) ?_
  refine lv_iload_n hx hb dX1_dropOldest_9 rfl (lv_at hl 0 rfl) ?_
  refine lv_bipush (v := 6) hx hb dX1_dropOldest_10 (by decide) ?_
  refine lv_icmp_ge (tgt := 35) hx hb dX1_dropOldest_12 (by decide) (fun c1 => ?_) (fun c1 => absurd (by decide) c1)
  refine lv_aload_n hx hb dX1_dropOldest_35 rfl (lv_at hl 2 rfl) ?_
  refine va_get (D := G) (ci := 1) (v := .ref as) (C := RX1) (T := TX1) (N := 2) hx hb hts iwX1_dropOldest_X1 hown hK hP 0 rfl rfl 0 (by decide) k1 (fun _ h9 => h9) rfl dX1_dropOldest_36 ?_
  refine lv_iconst (v := 5) hx hb dX1_dropOldest_39 (by decide) ?_
  refine lv_aload_n hx hb dX1_dropOldest_40 rfl (lv_at hl 1 rfl) ?_
  refine va_astq hx hb hK hP hD hS 1 1 2 5 rfl rfl rfl rfl (vp_lit (by decide +kernel)) dX1_dropOldest_41 (fun H locs hP hD hS => ?_)
  have eF : (va_up (va_up (va_up (va_up (va_up (va_up (svOf [b0, b1, b2, b3, b4, b5]) 0 (some (b1.1 0))) 1 (some (b2.1 0))) 2 (some (b3.1 0))) 3 (some (b4.1 0))) 4 (some (b5.1 0))) 5 (some (b0.1 0))) = svOf [b1, b2, b3, b4, b5, b0] := by
    funext k
    match k with
    | 0 => rfl
    | 1 => rfl
    | 2 => rfl
    | 3 => rfl
    | 4 => rfl
    | 5 => rfl
    | k + 6 => simp [va_up, svOf]
  have hP : va_P G vwCl ([(ah, .inr (1, [.ref as, .int n])), (as, .inl (cS, 6, .inr (.inr (.inr (.inr (va_up (va_up (va_up (va_up (va_up (va_up (svOf [b0, b1, b2, b3, b4, b5]) 0 (some (b1.1 0))) 1 (some (b2.1 0))) 2 (some (b3.1 0))) 3 (some (b4.1 0))) 4 (some (b5.1 0))) 5 (some (b0.1 0))))))))] ++ tlW cI [b0, b1, b2, b3, b4, b5]) H := hP
  have hD : va_D A ([(ah, .inr (1, [.ref as, .int n])), (as, .inl (cS, 6, .inr (.inr (.inr (.inr (va_up (va_up (va_up (va_up (va_up (va_up (svOf [b0, b1, b2, b3, b4, b5]) 0 (some (b1.1 0))) 1 (some (b2.1 0))) 2 (some (b3.1 0))) 3 (some (b4.1 0))) 4 (some (b5.1 0))) 5 (some (b0.1 0))))))))] ++ tlW cI [b0, b1, b2, b3, b4, b5]) := hD
  rw [eF] at hP hD
  refine lv_aload_n hx hb dX1_dropOldest_42 rfl (lv_at hl 2 rfl) ?_
  refine lv_iconst (v := 5) hx hb dX1_dropOldest_43 (by decide) ?_
  refine va_put (D := G) (ci := 1) (v := .int 5) (ty := .int) (C := RX1) (T := TX1) (N := 2) hx hb hts iwX1_dropOldest_X1 tyX1 tyX1_ok nmX1 hown hK hP hD hS 0 rfl rfl 1 (by decide) k2 (fun _ h9 => h9) rfl (by decide +kernel) rfl rfl (Nat.le_of_ble_eq_true rfl) dX1_dropOldest_44 (fun H locs hP hD hS => ?_)
  have hP : va_P G vwCl (hsW cS ah as 5 [b1, b2, b3, b4, b5, b0] ++ tlW cI [b0, b1, b2, b3, b4, b5]) H := hP
  have hD : va_D A (hsW cS ah as 5 [b1, b2, b3, b4, b5, b0] ++ tlW cI [b0, b1, b2, b3, b4, b5]) := hD
  exact mEnd_v () hx hb hr hlocks hP hK hD hS rfl (Nat.le_refl _) (Nat.le_refl _) dX1_dropOldest_47
/-- what save does to the blocks where there is room -/
def RestR (n : Nat) (bs : List Blk) (v : Nat → Nat → Int32) (bs' : List Blk) : Prop := bs'.length ≤ 6 ∧ n + 1 ≤ bs'.length ∧ (∀ k, k < n → bs'[k]? = bs[k]?) ∧ ∃ (a : Nat → Nat) (w : Nat → Nat → Int32), bs'[n]? = some (a, cpV v w)
/-- .. and altogether -/
def SaveR (n : Nat) (bs : List Blk) (v : Nat → Nat → Int32) (bs' : List Blk) : Prop := (n < 6 ∧ RestR n bs v bs') ∨ (n = 6 ∧ bs'.length = 6 ∧ (∀ k, k < 5 → bs'[k]? = bs[k + 1]?) ∧ ∃ (a : Nat → Nat) (w : Nat → Nat → Int32), bs'[5]? = some (a, cpV v w))
theorem tlW_app (cI : ClassId) (a b : List Blk) : tlW cI (a ++ b) = tlW cI a ++ tlW cI b := by simp [tlW]
theorem tlW_cons (cI : ClassId) (a : Blk) (b : List Blk) : tlW cI (a :: b) = stW cI a ++ tlW cI b := by simp [tlW]
theorem perm_a {α : Type} (h tp sb tq sn : List α) : ((h ++ (tp ++ (sb ++ tq))) ++ sn).Perm ((sb ++ sn) ++ (h ++ (tp ++ tq))) := by
  classical
  refine List.perm_iff_count.mpr (fun a => ?_)
  simp only [List.count_append]
  omega
theorem perm_b {α : Type} (x h t n : List α) : (x ++ ((h ++ t) ++ n)).Perm ((h ++ (t ++ x)) ++ n) := by
  classical
  refine List.perm_iff_count.mpr (fun a => ?_)
  simp only [List.count_append]
  omega
theorem mEnd_vp {p : Program} {l : Launch} {e : Env} {R : Room} {s : State} {m : MethodId} {args : Array Value} {below : List Frame} {meth : Method} {c : Code} {H : Heap} {locs : List Loc} {cells slots : Nat} {cc : ByteArray} {pc : Nat} {ls : Array Slot} {G : va_G} {A : Nat → Prop} {tys : List (ClassId × FieldType)} {ws : va_W} {mc ms : Nat} {S : Type} {post : S → Prop} {w1 : S → va_W} (u : S) (hu : post u) (hx : p.tables.exec = Jvm.exec) (hb : c.code = cc) (hr : meth.sig.returnType = none) (hlocks : meth.locks = false) (hP : va_P G vwCl ws H) (hK : va_K G vwCl tys s) (hD : va_D A ws) (hS : va_S A s.heap H locs) (hw : ws = w1 u) (hc : cells ≤ mc) (hs : slots ≤ ms) (hdg : decode cc pc = .ok (.return_, 1)) :
    W p l e R s m args below meth c H locs cells slots (MQ below (va_Qv (S := S) post (mB G tys A w1) A) args s mc ms A) (F0 m pc ls []) := by
  refine W.widen hc hs ?_
  exact W.vret hx hb hr (fun t ht hW => ⟨⟨u, rfl, hu, by rw [ht, ← hw]; exact hP, va_K.moved hW.alike hK, by rw [← hw]; exact hD⟩, hS.F ht⟩) hS.2.2 hdg hlocks
theorem iwX1_save_X1 : ∀ w ∈ u_ws RX1 TX1 2, w ∈ wsX1_save := by decide +kernel
theorem iwX1_save_X5 : ∀ w ∈ u_ws RX5 TX5 7, w ∈ wsX1_save := by decide +kernel
abbrev rmSave : Room := { frames := 3, cells := 16, slots := 480, locals := 90 }
/-- the world of save -/
abbrev svW (cI cS : ClassId) (ah as : Nat) (n : Nat) (bs : List Blk) (now : Blk) : va_W := (hsW cS ah as (nI n) bs ++ tlW cI bs) ++ stW cI now
section SV
variable {p : Program} {l : Launch} {e : Env} {s : State} {m : MethodId} {below : List Frame} {meth : Method} {c : Code} {H : Heap} {locs : List Loc} {cells slots : Nat} {G : va_G} {A : Nat → Prop} {cI cS : ClassId} {ah as : Nat} {now : Blk} {sa sv : Nat → Nat} {ls : Array Slot}
set_option maxHeartbeats 8000000 in
set_option maxRecDepth 100000 in
/-- from the copy on: the block b takes what now holds -/
theorem save_copy (hx : p.tables.exec = Jvm.exec) (hb : c.code = cX1_save) (hml : c.maxLocals = 3) (hr : meth.sig.returnType = none) (hts : ∀ w ∈ wsX1_save, w.before ([.ref ah, .ref (now.1 0)] : List Value).toArray s = true) (hown : s.vm.findClass RX1 = some m.cls) (hlocks : meth.locks = false) (hA : ∀ q : Nat, s.heap.size ≤ q → A q) (hK : va_K G vwCl (tyH cI cS) s) {Post : List Blk → Prop} {N n : Nat} (hN : N = n + 1) (hn : n < 6) (pre post : List Blk) (b : Blk) (hfin : Post (pre ++ (b.1, cpV now.2 b.2) :: post)) (hP : va_P G vwCl (svW cI cS ah as n (pre ++ b :: post) now) H) (hD : va_D A (svW cI cS ah as n (pre ++ b :: post) now)) (hS : va_S A s.heap H locs) (hl : lv_has ls 3 [(0, .ref ah), (1, .ref (now.1 0)), (2, .ref (b.1 0))]) (hc : cells ≤ 16) (hs : slots ≤ 480) :
    W p l e rmSave s m ([.ref ah, .ref (now.1 0)] : List Value).toArray below meth c H locs cells slots (MQ below (va_Qv (S := List Blk) Post (mB G (tyH cI cS) A (fun u => svW cI cS ah as N u now)) A) ([.ref ah, .ref (now.1 0)] : List Value).toArray s 16 480 A) (F0 m 45 ls []) := by
  subst hN
  have k2 := hts (.fieldLink RX1 17 "DeafChain$History" "size" "I") (by decide +kernel)
  have hKI := hK.sub (tys' := [(cI, .int)]) [0] rfl
  refine lv_aload_n hx hb dX1_save_45 rfl (lv_at hl 2 rfl) ?_
  refine lv_aload_n hx hb dX1_save_46 rfl (lv_at hl 1 rfl) ?_
  have hp : (svW cI cS ah as n (pre ++ b :: post) now).Perm ((stW cI b ++ stW cI now) ++ (hsW cS ah as (nI n) (pre ++ b :: post) ++ (tlW cI pre ++ tlW cI post))) := by
    unfold svW; rw [tlW_app, tlW_cons]; exact perm_a _ _ _ _ _
  refine mCallPV_v (As := [.ref (now.1 0)]) (rest := []) ⟨hx, hb, hml, hown, hts⟩ (mCopy l G cI H.size b now) (cwV 1 hts gX1_save_X5_copyFrom rfl rfl rfl (by decide +kernel) ⟨Nat.le_of_ble_eq_true rfl, Nat.le_of_ble_eq_true rfl⟩) hP hD hS hA hKI hp 0 5 rfl rfl rfl rfl hl.1 rfl (lv_room (Nat.le_of_ble_eq_true rfl)) dX1_save_47 ⟨hc, hs⟩ (fun _ H locs _ hP hD hS => ?_)
  have esv : svOf (pre ++ b :: post) = svOf (pre ++ (b.1, cpV now.2 b.2) :: post) := by
    funext k
    simp only [svOf, List.getElem?_append, List.getElem?_cons]
    split
    · rfl
    · split <;> rfl
  have hp2 : ((stW cI (b.1, cpV now.2 b.2) ++ stW cI now) ++ (hsW cS ah as (nI n) (pre ++ b :: post) ++ (tlW cI pre ++ tlW cI post))).Perm (svW cI cS ah as n (pre ++ (b.1, cpV now.2 b.2) :: post) now) := by
    unfold svW hsW; rw [tlW_app, tlW_cons, esv]; exact (perm_a _ _ _ _ _).symm
  have hP : va_P G vwCl (svW cI cS ah as n (pre ++ (b.1, cpV now.2 b.2) :: post) now) H := hP.perm hp2
  have hD : va_D A (svW cI cS ah as n (pre ++ (b.1, cpV now.2 b.2) :: post) now) := hD.perm hp2
  refine lv_aload_n hx hb dX1_save_50 rfl (lv_at hl 0 rfl) ?_
  refine lv_dup hx hb dX1_save_51 rfl ?_
  refine va_get (D := G) (ci := 1) (v := .int (nI n)) (C := RX1) (T := TX1) (N := 2) hx hb hts iwX1_save_X1 hown hK hP 0 rfl rfl 1 (by decide) k2 (fun _ h9 => h9) rfl dX1_save_52 ?_
  refine lv_iconst (v := 1) hx hb dX1_save_55 (by decide) ?_
  refine lv_iadd hx hb dX1_save_56 ?_
  refine W.eq (g2 := F0 m 57 ls [.int (nI (n + 1)), .ref ah]) (by rw [nI_1]) ?_
  refine va_put (D := G) (ci := 1) (v := .int (nI (n + 1))) (ty := .int) (C := RX1) (T := TX1) (N := 2) hx hb hts iwX1_save_X1 tyX1 tyX1_ok nmX1 hown hK hP hD hS 0 rfl rfl 1 (by decide) k2 (fun _ h9 => h9) rfl (by decide +kernel) rfl rfl (Nat.le_of_ble_eq_true rfl) dX1_save_57 (fun H locs hP hD hS => ?_)
  have hP : va_P G vwCl (svW cI cS ah as (n + 1) (pre ++ (b.1, cpV now.2 b.2) :: post) now) H := hP
  have hD : va_D A (svW cI cS ah as (n + 1) (pre ++ (b.1, cpV now.2 b.2) :: post) now) := hD
  exact mEnd_vp (pre ++ (b.1, cpV now.2 b.2) :: post) hfin hx hb hr hlocks hP hK hD hS rfl hc hs dX1_save_60
set_option maxHeartbeats 8000000 in
set_option maxRecDepth 100000 in
/-- where there is room: from the slot on -/
theorem save_rest (hx : p.tables.exec = Jvm.exec) (hb : c.code = cX1_save) (hml : c.maxLocals = 3) (hr : meth.sig.returnType = none) (hts : ∀ w ∈ wsX1_save, w.before ([.ref ah, .ref (now.1 0)] : List Value).toArray s = true) (hown : s.vm.findClass RX1 = some m.cls) (hlocks : meth.locks = false) (hA : ∀ q : Nat, s.heap.size ≤ q → A q) (hK : va_K G vwCl (tyH cI cS) s) (hE : EnvP sa sv A s s.heap) {r0 : Int32 × Int32 × Int32 × (Nat → Int32) × (Nat → Int32) × (Nat → Int32) × (Nat → Int32) × (Nat → Int32) × (Nat → Int32) × Int32 × (Nat → Int32) × (Nat → Int32) × (Nat → Int32) × Int32 × (Nat → Int32) × (Nat → Int32) × (Nat → Int32)} (h0 : fX5_init = some r0) {Post : List Blk → Prop} {N n : Nat} (hN : N = n + 1) (hn : n < 6) (bs : List Blk) (hnb : n ≤ bs.length) (hb6 : bs.length ≤ 6) (hfin : ∀ bs', RestR n bs now.2 bs' → Post bs') (hP : va_P G vwCl (svW cI cS ah as n bs now) H) (hD : va_D A (svW cI cS ah as n bs now)) (hS : va_S A s.heap H locs) (hl : lv_has ls 3 [(0, .ref ah), (1, .ref (now.1 0))]) :
    W p l e rmSave s m ([.ref ah, .ref (now.1 0)] : List Value).toArray below meth c H locs 0 0 (MQ below (va_Qv (S := List Blk) Post (mB G (tyH cI cS) A (fun u => svW cI cS ah as N u now)) A) ([.ref ah, .ref (now.1 0)] : List Value).toArray s 16 480 A) (F0 m 13 ls []) := by
  have k1 := hts (.fieldLink RX1 11 "DeafChain$History" "saved" "[LDeafChain$State;") (by decide +kernel)
  have k2 := hts (.fieldLink RX1 17 "DeafChain$History" "size" "I") (by decide +kernel)
  have hKI := hK.sub (tys' := [(cI, .int)]) [0] rfl
  refine lv_aload_n hx hb dX1_save_13 rfl (lv_at hl 0 rfl) ?_
  refine va_get (D := G) (ci := 1) (v := .ref as) (C := RX1) (T := TX1) (N := 2) hx hb hts iwX1_save_X1 hown hK hP 0 rfl rfl 0 (by decide) k1 (fun _ h9 => h9) rfl dX1_save_14 ?_
  refine lv_aload_n hx hb dX1_save_17 rfl (lv_at hl 0 rfl) ?_
  refine va_get (D := G) (ci := 1) (v := .int (nI n)) (C := RX1) (T := TX1) (N := 2) hx hb hts iwX1_save_X1 hown hK hP 0 rfl rfl 1 (by decide) k2 (fun _ h9 => h9) rfl dX1_save_18 ?_
  refine va_aldq hx hb hK hP 1 1 rfl rfl (vp_in_nI hn (by decide)) dX1_save_21 ?_
  rw [nI_clamp (n := n) (by omega)]
  by_cases hlt : n < bs.length
  · obtain ⟨pre, post, b, rfl, hpl⟩ : ∃ (pre post : List Blk) (b : Blk), bs = pre ++ b :: post ∧ pre.length = n := by
      refine ⟨bs.take n, bs.drop (n + 1), bs[n], ?_, by rw [List.length_take]; omega⟩
      rw [← List.drop_eq_getElem_cons hlt, List.take_append_drop]
    have e2 : svOf (pre ++ b :: post) n = some (b.1 0) := by
      simp only [svOf]; rw [List.getElem?_append_right (by omega), hpl, Nat.sub_self]; rfl
    refine W.eq (g2 := F0 m 22 ls [.ref (b.1 0)]) (by rw [e2]; rfl) ?_
    refine lv_astore_n (lv' := [(2, .ref (b.1 0)), (0, .ref ah), (1, .ref (now.1 0))]) hx hb dX1_save_22 rfl hl (by decide) rfl (fun ls hl => ?_)
    refine lv_aload_n hx hb dX1_save_23 rfl (lv_at hl 0 rfl) ?_
    refine lv_ifnonnull (tgt := 45) hx hb dX1_save_24 (by decide) ?_
    refine save_copy hx hb hml hr hts hown hlocks hA hK hN hn pre post b (hfin _ ⟨?_, ?_, ?_, b.1, b.2, ?_⟩) hP hD hS (lv_sub hl [1, 2, 0] rfl) (Nat.zero_le _) (Nat.zero_le _)
    · simpa using hb6
    · simp only [List.length_append, List.length_cons] at hlt ⊢; omega
    · intro k hk
      rw [List.getElem?_append_left (by omega), List.getElem?_append_left (by omega)]
    · rw [List.getElem?_append_right (by omega), hpl, Nat.sub_self]; rfl
  · have hlen : bs.length = n := by omega
    have e2 : svOf bs n = none := by simp only [svOf]; rw [List.getElem?_eq_none (by omega)]; rfl
    refine W.eq (g2 := F0 m 22 ls [.null]) (by rw [e2]; rfl) ?_
    refine lv_astore_nN (lv' := [(2, .null), (0, .ref ah), (1, .ref (now.1 0))]) hx hb dX1_save_22 rfl hl (by decide) rfl (fun ls hl => ?_)
    refine lv_aload_nN hx hb dX1_save_23 rfl (lv_at hl 0 rfl) ?_
    refine lv_ifnonnullN hx hb dX1_save_24 ?_
    have k3 := hts (.classLink RX1 9 RX5) (by decide +kernel)
    have k4 := hts (.instantiable RX5 7) (by decide +kernel)
    have k5 := hts (.initialized RX5) (by decide +kernel)
    have k6 := hts (.instanceMethod yX5_init) (by decide +kernel)
    refine va_new (ci := 5) (fs := [.null, .null, .null, .null, .int 0, .int 0, .int 0]) (C := RX5) (T := TX5) (N := 7) hx hb hts iwX1_save_X5 tyX5 tyX5_ok hown k3 k4 k5 hK hP hD hS hA rfl (fun j hj => by rcases (show j = 0 ∨ j = 1 ∨ j = 2 ∨ j = 3 ∨ j = 4 ∨ j = 5 ∨ j = 6 by omega) with rfl | rfl | rfl | rfl | rfl | rfl | rfl <;> rfl) (Nat.le_of_ble_eq_true rfl) (Nat.le_of_ble_eq_true rfl) dX1_save_27 (fun q H hP hD hS => ?_)
    refine lv_dup hx hb dX1_save_30 rfl ?_
    refine mCallPXN_v (As := []) (rest := [.ref q]) (wr := svW cI cS ah as n bs now) hE ⟨hx, hb, hml, hown, hts⟩ (mX5_init l sa sv G cI q H.size r0 h0) ⟨va_cnB 0 hts gX1_save_X5_init_n24 rfl rfl rfl (hE.1 _ (List.mem_of_getElem? (i := 5) rfl)) k5 (by decide +kernel) ⟨Nat.le_of_ble_eq_true rfl, Nat.le_of_ble_eq_true rfl⟩, rfl, k6⟩ hP hD hS hA hKI List.perm_append_comm rfl hl.1 rfl (lv_room (Nat.le_of_ble_eq_true rfl)) dX1_save_31 ⟨Nat.le_of_ble_eq_true rfl, Nat.le_of_ble_eq_true rfl⟩ (fun u9 H locs _ hP hD hS => ?_)
    obtain ⟨b1, eb1⟩ : ∃ z : Blk, z = (((fun k => match k with | 0 => q | k + 1 => u9 k), (fun k => match k with | 0 => fun _ => r0.1 | 1 => fun _ => r0.2.1 | 2 => fun _ => r0.2.2.1 | 3 => r0.2.2.2.1 | 4 => r0.2.2.2.2.1 | 5 => r0.2.2.2.2.2.1 | 6 => r0.2.2.2.2.2.2.1 | 7 => r0.2.2.2.2.2.2.2.1 | 8 => r0.2.2.2.2.2.2.2.2.1 | 9 => fun _ => r0.2.2.2.2.2.2.2.2.2.1 | 10 => r0.2.2.2.2.2.2.2.2.2.2.1 | 11 => r0.2.2.2.2.2.2.2.2.2.2.2.1 | 12 => r0.2.2.2.2.2.2.2.2.2.2.2.2.1 | 13 => fun _ => r0.2.2.2.2.2.2.2.2.2.2.2.2.2.1 | 14 => r0.2.2.2.2.2.2.2.2.2.2.2.2.2.2.1 | 15 => r0.2.2.2.2.2.2.2.2.2.2.2.2.2.2.2.1 | 16 => r0.2.2.2.2.2.2.2.2.2.2.2.2.2.2.2.2 | _ => fun _ => 0)) : Blk) := ⟨_, rfl⟩
    have hP : va_P G vwCl (stW cI b1 ++ svW cI cS ah as n bs now) H := by rw [eb1]; exact hP
    have hD : va_D A (stW cI b1 ++ svW cI cS ah as n bs now) := by rw [eb1]; exact hD
    have eq0 : q = b1.1 0 := by rw [eb1]
    refine W.eq (g2 := F0 m 34 ls [.ref (b1.1 0)]) (by rw [← eq0]) ?_
    refine lv_astore_n (lv' := [(2, .ref (b1.1 0)), (0, .ref ah), (1, .ref (now.1 0))]) hx hb dX1_save_34 rfl hl (by decide) rfl (fun ls hl => ?_)
    refine lv_aload_n hx hb dX1_save_35 rfl (lv_at hl 1 rfl) ?_
    refine va_get (D := G) (ci := 1) (v := .ref as) (C := RX1) (T := TX1) (N := 2) hx hb hts iwX1_save_X1 hown hK hP 16 rfl rfl 0 (by decide) k1 (fun _ h9 => h9) rfl dX1_save_36 ?_
    refine lv_aload_n hx hb dX1_save_39 rfl (lv_at hl 1 rfl) ?_
    refine va_get (D := G) (ci := 1) (v := .int (nI n)) (C := RX1) (T := TX1) (N := 2) hx hb hts iwX1_save_X1 hown hK hP 16 rfl rfl 1 (by decide) k2 (fun _ h9 => h9) rfl dX1_save_40 ?_
    refine lv_aload_n hx hb dX1_save_43 rfl (lv_at hl 0 rfl) ?_
    refine va_astq hx hb hK hP hD hS 17 1 0 5 rfl rfl rfl rfl (vp_in_nI hn (by decide)) dX1_save_44 (fun H locs hP hD hS => ?_)
    have eF : va_up (svOf bs) (nI n).toNatClampNeg (some (b1.1 0)) = svOf (bs ++ [b1]) := by
      funext k
      rw [nI_clamp (n := n) (by omega)]
      simp only [va_up, svOf]
      by_cases hk : k = n
      · subst hk; rw [if_pos rfl, List.getElem?_append_right (by omega), hlen, Nat.sub_self]; rfl
      · rw [if_neg hk]
        by_cases hk2 : k < n
        · rw [List.getElem?_append_left (by omega)]
        · rw [List.getElem?_eq_none (by omega), List.getElem?_eq_none (by simp; omega)]
    have hP : va_P G vwCl (stW cI b1 ++ (([(ah, .inr (1, [.ref as, .int (nI n)])), (as, .inl (cS, 6, .inr (.inr (.inr (.inr (va_up (svOf bs) (nI n).toNatClampNeg (some (b1.1 0))))))))] ++ tlW cI bs) ++ stW cI now)) H := hP
    have hD : va_D A (stW cI b1 ++ (([(ah, .inr (1, [.ref as, .int (nI n)])), (as, .inl (cS, 6, .inr (.inr (.inr (.inr (va_up (svOf bs) (nI n).toNatClampNeg (some (b1.1 0))))))))] ++ tlW cI bs) ++ stW cI now)) := hD
    rw [eF] at hP hD
    have hp2 : (stW cI b1 ++ ((hsW cS ah as (nI n) (bs ++ [b1]) ++ tlW cI bs) ++ stW cI now)).Perm (svW cI cS ah as n (bs ++ b1 :: []) now) := by
      unfold svW; rw [tlW_app, tlW_cons, show tlW cI [] = [] from rfl, List.append_nil]; exact perm_b _ _ _ _
    refine save_copy hx hb hml hr hts hown hlocks hA hK hN hn bs [] b1 (hfin _ ⟨?_, ?_, ?_, b1.1, b1.2, ?_⟩) (hP.perm hp2) (hD.perm hp2) hS (lv_sub hl [1, 2, 0] rfl) (Nat.le_of_ble_eq_true rfl) (Nat.le_of_ble_eq_true rfl)
    · simp only [List.length_append, List.length_cons, List.length_nil]; omega
    · simp only [List.length_append, List.length_cons, List.length_nil]; omega
    · intro k hk
      rw [List.getElem?_append_left (by omega)]
    · rw [List.getElem?_append_right (by omega), hlen, Nat.sub_self]; rfl
end SV
set_option maxHeartbeats 8000000 in
set_option maxRecDepth 100000 in
theorem mX1_save (l : Launch) (sa sv : Nat → Nat) (G : va_G) (cI cS : ClassId) (sz ah as : Nat) (n : Nat) (bs : List Blk) (now : Blk) {r0 : Int32 × Int32 × Int32 × (Nat → Int32) × (Nat → Int32) × (Nat → Int32) × (Nat → Int32) × (Nat → Int32) × (Nat → Int32) × Int32 × (Nat → Int32) × (Nat → Int32) × (Nat → Int32) × Int32 × (Nat → Int32) × (Nat → Int32) × (Nat → Int32)} (h0 : fX5_init = some r0) (hn : n ≤ 6) (hnb : n ≤ bs.length) (hb6 : bs.length ≤ 6) : Met l yX1_save wsX1_save rmSave (mPcX sa sv G (tyH cI cS) [.ref ah, .ref (now.1 0)] sz (svW cI cS ah as n bs now)) (va_Qv (S := List Blk) (SaveR n bs now.2) (mB G (tyH cI cS) (va_A (svW cI cS ah as n bs now) sz) (fun u => svW cI cS ah as (if n < 6 then n + 1 else 6) u now)) (va_A (svW cI cS ah as n bs now) sz)) 16 480 (va_A (svW cI cS ah as n bs now) sz) := by
  refine mStartX (cc := cX1_save) (maxL := 3) (ret := none) (by decide) rfl (Nat.le_of_ble_eq_true rfl) ?_
  intro p e s m below meth c A ls hx hb hml hr hts hown hlocks hnm hA hsz hAe hP hK hD hE hS hl
  rw [hAe]
  have hl : lv_has ls 3 [(0, .ref ah), (1, .ref (now.1 0))] := hl
  have k2 := hts (.fieldLink RX1 17 "DeafChain$History" "size" "I") (by decide +kernel)
  refine lv_aload_n hx hb dX1_save_0 rfl (lv_at hl 0 rfl) ?_
  refine va_get (D := G) (ci := 1) (v := .int (nI n)) (C := RX1) (T := TX1) (N := 2) hx hb hts iwX1_save_X1 hown hK hP 0 rfl rfl 1 (by decide) k2 (fun _ h9 => h9) rfl dX1_save_1 ?_
  refine lv_bipush (v := 6) hx hb dX1_save_4 (by decide) ?_
  by_cases h6 : n < 6
  · rw [if_pos h6]
    refine lv_icmp_lt (tgt := 13) hx hb dX1_save_6 (by decide) (fun c1 => ?_) (fun c1 => absurd (show nI n < nI 6 from nI_lt h6 (by decide)) c1)
    exact save_rest hx hb hml hr hts hown hlocks hA hK hE h0 rfl h6 bs hnb hb6 (fun u hu => Or.inl ⟨h6, hu⟩) hP hD hS hl
  · rw [if_neg h6]
    have hn6 : n = 6 := by omega
    subst hn6
    refine lv_icmp_lt (tgt := 13) hx hb dX1_save_6 (by decide) (fun c1 => absurd c1 (by decide)) (fun c1 => ?_)
    obtain ⟨b0, b1, b2, b3, b4, b5, rfl⟩ : ∃ b0 b1 b2 b3 b4 b5 : Blk, bs = [b0, b1, b2, b3, b4, b5] := by
      match bs, hnb, hb6 with
      | [b0, b1, b2, b3, b4, b5], _, _ => exact ⟨b0, b1, b2, b3, b4, b5, rfl⟩
    refine lv_aload_n hx hb dX1_save_9 rfl (lv_at hl 0 rfl) ?_
    refine mCallPV_v (As := []) (rest := []) (wr := stW cI now) ⟨hx, hb, hml, hown, hts⟩ (mX1_dropOldest l G cI cS s.heap.size ah as (nI 6) b0 b1 b2 b3 b4 b5) (cwV 0 hts gX1_save_X1_dropOldest rfl rfl rfl (by decide +kernel) ⟨Nat.le_of_ble_eq_true rfl, Nat.le_of_ble_eq_true rfl⟩) hP hD hS hA hK (List.Perm.refl _) 0 1 rfl rfl rfl rfl hl.1 rfl (lv_room (Nat.le_of_ble_eq_true rfl)) dX1_save_10 ⟨Nat.le_of_ble_eq_true rfl, Nat.le_of_ble_eq_true rfl⟩ (fun _ H locs _ hP hD hS => ?_)
    have hp2 : ((hsW cS ah as 5 [b1, b2, b3, b4, b5, b0] ++ tlW cI [b0, b1, b2, b3, b4, b5]) ++ stW cI now).Perm (svW cI cS ah as 5 [b1, b2, b3, b4, b5, b0] now) := by
      refine List.Perm.append_right _ (List.Perm.append_left _ ?_)
      rw [show [b0, b1, b2, b3, b4, b5] = [b0] ++ [b1, b2, b3, b4, b5] from rfl, show [b1, b2, b3, b4, b5, b0] = [b1, b2, b3, b4, b5] ++ [b0] from rfl, tlW_app, tlW_app]
      exact List.perm_append_comm
    refine save_rest hx hb hml hr hts hown hlocks hA hK hE h0 (n := 5) rfl (by decide) [b1, b2, b3, b4, b5, b0] (by simp) (by simp) (fun u hu => Or.inr ⟨rfl, ?_, ?_, hu.2.2.2⟩) (hP.perm hp2) (hD.perm hp2) hS hl
    · have := hu.1; have := hu.2.1; omega
    · intro k hk
      rw [hu.2.2.1 k hk]
      match k, hk with
      | 0, _ => rfl
      | 1, _ => rfl
      | 2, _ => rfl
      | 3, _ => rfl
      | 4, _ => rfl

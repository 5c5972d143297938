-- pure: what goes pays what was told that it would cost
section GS
variable {s s' : Nat → Int32} {n K : Nat} {P : List Nat} {a : Nat}
theorem chN_s (s : Nat → Int32) (ea : Nat → Nat) (ws : List Nat) (l : Nat) : chN s ea ws (l + 1) = hearN s l (ea l) 0 (chN s ea ws l) := rfl
theorem ch_c (hd : Dic s) (h : ∀ j, j < 192 → s' j = s j) {ws : List Nat} (hb : bd ws) : ∀ l, l ≤ 6 → chN s' (eaM s' 6) ws l = chN s (eaM s 6) ws l := by
  intro l
  induction l with
  | zero => intro _; show ws = ws; rfl
  | succ l ih =>
    intro hl
    have e := ih (by omega)
    have hb2 := ch_bd hd (eaM s 6) hb l (by omega)
    rw [chN_s, chN_s]
    have hea : eaM s' 6 l = eaM s 6 l := by unfold eaM earN; rw [h (180 + l) (by omega)]
    rw [e, hear_c (fun j hj => h j (Nat.lt_trans hj (by decide))) (by omega) _ _ _ hb2, hea]
theorem senF_c {x y : Nat} (h : ∀ k, k < 12 → s' (192 + 14 * x + 2 + k) = s (192 + 14 * y + 2 + k)) : ∀ k p, p + k ≤ 12 → senF s' x k p = senF s y k p := by
  intro k
  induction k with
  | zero => intro p _; rfl
  | succ k ih =>
    intro p hp
    show (s' (192 + 14 * x + 2 + p)).toNatClampNeg :: senF s' x k (p + 1) = (s (192 + 14 * y + 2 + p)).toNatClampNeg :: senF s y k (p + 1)
    rw [h p (by omega), ih (p + 1) (by omega)]
set_option maxRecDepth 100000 in
theorem cost_c (hd : Dic s) (h : ∀ j, j < 192 → s' j = s j) (hw : Wt s n) {x b : Nat} (hR : Rmv s s' x n) (hb : b < n) (hx : b ≠ x) : costN s' (shf x b) = costN s b := by
  have hs : senN s' (shf x b) = senN s b := by
    have hc := hR.cnt hb hx
    have h12 := (hw.cnt hb).2.2
    unfold senN
    rw [hc]
    exact senF_c (fun k hk => hR.w hb hx hk) _ 0 (by omega)
  have hbd := sen_bd hw hb
  have hp : ∀ l, l < 6 → payN s' (eaM s' 6) (senN s' (shf x b)) l = payN s (eaM s 6) (senN s b) l := fun l hl => by
    unfold payN
    rw [hs, ch_c hd h hbd (l + 1) (by omega), h _ (by omega)]
  unfold costN
  show nI 0 + payN s' (eaM s' 6) (senN s' (shf x b)) 0 + payN s' (eaM s' 6) (senN s' (shf x b)) 1 + payN s' (eaM s' 6) (senN s' (shf x b)) 2 + payN s' (eaM s' 6) (senN s' (shf x b)) 3 + payN s' (eaM s' 6) (senN s' (shf x b)) 4 + payN s' (eaM s' 6) (senN s' (shf x b)) 5 = nI 0 + payN s (eaM s 6) (senN s b) 0 + payN s (eaM s 6) (senN s b) 1 + payN s (eaM s 6) (senN s b) 2 + payN s (eaM s 6) (senN s b) 3 + payN s (eaM s 6) (senN s b) 4 + payN s (eaM s 6) (senN s b) 5
  rw [hp 0 (by omega), hp 1 (by omega), hp 2 (by omega), hp 3 (by omega), hp 4 (by omega), hp 5 (by omega)]
theorem fold_add (g : Nat → Int32) : ∀ (L : List Nat) (c : Int32), L.foldl (fun x b => x + g b) c = c + L.foldl (fun x b => x + g b) (nI 0)
  | [], c => (Int32.add_zero c).symm
  | a :: L, c => by
    show L.foldl (fun x b => x + g b) (c + g a) = c + L.foldl (fun x b => x + g b) (nI 0 + g a)
    rw [fold_add g L (c + g a), fold_add g L (nI 0 + g a), show nI 0 + g a = g a from Int32.zero_add _, Int32.add_assoc]
theorem fold_c (g g' : Nat → Int32) (f : Nat → Nat) : ∀ (L : List Nat) (c : Int32), (∀ b, b ∈ L → g' (f b) = g b) → (L.map f).foldl (fun x b => x + g' b) c = L.foldl (fun x b => x + g b) c
  | [], _, _ => rfl
  | a :: L, c, h => by
    show (L.map f).foldl (fun x b => x + g' b) (c + g' (f a)) = L.foldl (fun x b => x + g b) (c + g a)
    rw [h a List.mem_cons_self]
    exact fold_c g g' f L _ (fun b hb => h b (List.mem_cons_of_mem _ hb))
/-- what all that wait would cost -/
def allC (s : Nat → Int32) : Int32 := (List.range (s 304).toNatClampNeg).foldl (fun x b => x + costN s b) (nI 0)
/-- what was paid -/
def paidN (s : Nat → Int32) : Int32 := sumI (fun i => s (416 + i)) 6 0 (nI 0)
theorem allC_P (hw : Wt s n) (hP : Srt (ahW s) n P) : P.foldl (fun x b => x + costN s b) (nI 0) = allC s := by
  unfold allC
  rw [hw.1, z_cl (by have := hw.2.1; omega)]
  exact sum_perm (costN s) (hP.perm (ahW_asy s)) (nI 0)
theorem ac6 (a b c d e f a' b' c' d' e' f' : Int32) : nI 0 + (a + a') + (b + b') + (c + c') + (d + d') + (e + e') + (f + f') = (nI 0 + a + b + c + d + e + f) + (nI 0 + a' + b' + c' + d' + e' + f') := by
  have z0 : ∀ x : Int32, nI 0 + x = x := fun x => Int32.zero_add x
  simp only [z0]
  ac_rfl
theorem gone_sum {kp : Nat} (hd : Dic s) (hw : Wt s n) (hP : Srt (ahW s) n (a :: P)) (hG : Gone s s' n a kp) : paidN s' + allC s' = paidN s + allC s := by
  have n8 := hw.2.1
  have ha : a < n := (hP.2 a).mp List.mem_cons_self
  have hnd : ∀ b, b ∈ P → b ≠ a := fun b hb e => by
    have h1 := (List.pairwise_cons.mp hP.1).1 b hb
    rw [e] at h1
    have h2 := ahW_asy s a a h1
    rw [h1] at h2
    cases h2
  have hP' : Srt (ahW s') (n - 1) (P.map (shf a)) := hP.rmv hG.2.1
  have h304 : s' 304 = nI (n - 1) := hG.2.2.1
  have hall' : (P.map (shf a)).foldl (fun x b => x + costN s' b) (nI 0) = allC s' := by
    unfold allC
    rw [h304, z_cl (by omega)]
    exact sum_perm (costN s') (hP'.perm (ahW_asy s')) (nI 0)
  have hall : costN s a + P.foldl (fun x b => x + costN s b) (nI 0) = allC s := by
    rw [← allC_P hw hP]
    show _ = P.foldl (fun x b => x + costN s b) (nI 0 + costN s a)
    rw [show nI 0 + costN s a = costN s a from Int32.zero_add _]
    exact (fold_add (costN s) P (costN s a)).symm
  rw [fold_c (costN s) (costN s') (shf a) P (nI 0) (fun b hb => cost_c hd (fun j hj => hG.1 j (Or.inl hj)) hw hG.2.1 ((hP.2 b).mp (List.mem_cons_of_mem _ hb)) (hnd b hb))] at hall'
  have hpay : paidN s' = paidN s + costN s a := by
    have q := hG.2.2.2.2.2.2.2.2.2.2.2.2.2.2.1
    show nI 0 + s' (416 + 0) + s' (416 + 1) + s' (416 + 2) + s' (416 + 3) + s' (416 + 4) + s' (416 + 5) = (nI 0 + s (416 + 0) + s (416 + 1) + s (416 + 2) + s (416 + 3) + s (416 + 4) + s (416 + 5)) + (nI 0 + payN s (eaM s 6) (senN s a) 0 + payN s (eaM s 6) (senN s a) 1 + payN s (eaM s 6) (senN s a) 2 + payN s (eaM s 6) (senN s a) 3 + payN s (eaM s 6) (senN s a) 4 + payN s (eaM s 6) (senN s a) 5)
    rw [q 0 (by omega), q 1 (by omega), q 2 (by omega), q 3 (by omega), q 4 (by omega), q 5 (by omega)]
    exact ac6 _ _ _ _ _ _ _ _ _ _ _ _
  rw [hpay, ← hall, ← hall', Int32.add_assoc]
/-- the first goes -/
theorem go_MG {went sp sr : Int32} {mn er fe ms pa lo : Nat → Int32} {wz : Int32} {ww wl wu : Nat → Int32} {az : Int32} {aw af tw : Nat → Int32} (h : CR s n K P went sp sr mn er fe ms pa lo wz ww wl wu az aw af tw) (n1 : 1 ≤ n) {np : Nat} (hnp : np ≤ 6) (past : Nat → Int32) (th sz mi pd ls : Int32) (line back : Nat → Int32) : ∃ z s' np' past' sz' mi' pd' ls' line' back', fX9_go (nI np) th sz mi pd ls s past line back = some (nI z, np', nI 0, sz', mi', pd', ls', s', past', line', back') ∧ z ≤ 12 ∧ s' 304 = nI (n - 1) ∧ paidN s' + allC s' = paidN s + allC s := by
  have h304 := h.2.2.2.2.2.2.2.1.1.1
  obtain ⟨⟨h1, hd⟩, ⟨h2, hes⟩, -, -, -, -, -, ⟨hw, hP, hz, -⟩, ⟨kp, hkp, h408, -⟩, -⟩ := h
  have n8 := hw.2.1
  have hl := hP.len (ahW_asy s)
  cases P with
  | nil => rw [List.length_nil] at hl; omega
  | cons a Q =>
    have ha : a < n := (hP.2 a).mp List.mem_cons_self
    obtain ⟨s', sz', mi', pd', ls', line', back', e1, hG⟩ := goes_M hd hes hw hP hkp h408 sz mi pd ls line back
    obtain ⟨past', e6, e7⟩ := saves_M s past hnp
    have hlen := Nat.le_trans (ch_len s (eaM s 6) (senN s a) 6) (by rw [sen_len]; exact (hw.cnt ha).2.2)
    refine ⟨(chN s (eaM s 6) (senN s a) 6).length, s', nI (if np < 6 then np + 1 else 6), past', sz', mi', pd', ls', line', back', ?_, hlen, hG.2.2.1, gone_sum hd hw hP hG⟩
    have e3 := hG.2.2.2.2.1
    unfold fX9_go eX9_go
    rw [fuN1]
    simp (disch := first | omega | assumption) only [↓z_m1, li_0, li_1, li_2, li_3, li_4, li_5, li_6, li_7, li_8, li_9, li_10, li_11, li_12, li_13, li_14, li_15, li_16, li_17, li_18, li_19, li_20, li_21, li_22, li_23, li_24, li_25, li_26, li_27, li_28, li_29, li_30, li_31, li_32, li_33, li_34, li_35, li_36, li_37, li_38, li_39, li_40, li_41, li_42, li_43, li_44, li_45, li_46, li_47, li_48, li_49, li_50, li_51, li_52, li_53, li_54, li_55, li_56, li_57, li_58, li_59, li_60, li_61, li_62, li_63, li_64, li_65, li_66, li_67, li_68, li_69, li_70, li_71, li_72, li_73, li_74, li_75, li_76, li_77, li_78, li_79, li_80, li_81, li_82, li_83, li_84, li_85, li_86, li_87, li_88, li_89, li_90, li_91, li_92, li_93, li_94, li_95, li_96, li_97, li_98, li_99, li_100, li_101, li_102, li_103, li_104, li_105, li_106, li_107, li_108, li_109, li_110, li_111, li_112, li_113, li_114, li_115, li_116, li_117, li_118, li_119, li_120, li_121, li_122, li_123, li_124, li_125, li_126, li_127, li_128, li_129, li_130, li_180, li_186, li_192, li_304, li_305, li_306, li_307, li_319, li_320, li_321, li_322, li_408, li_409, li_410, li_416, li_422, li_428, li_458, li_459, li_460, li_2300, li_2760, nI_add, z_m6, z_m12, z_m30, z_l10, z_l12, z_l14, z_l17, z_l30, z_l460, z_sub, z_dec, z_dec0, z_m11, z_cl, z_leT, z_leF, z_ltT, z_ltF, z_eqT, z_eqF, z_em, z_me, z_mlt, z_mle, z_ltm, z_lem, z_mltm, z_mlem, z_nleT, z_nleF, z_nltT, z_nltF, or_false, or_self, false_or, or_true, true_or, not_true_eq_false, not_false_eq_true, ↓reduceIte, lt, z_ob, Nat.zero_add, Nat.add_zero, h304, sp_X9_go_1, bX9_go_1, ref_0, e6, e1, e3]
end GS

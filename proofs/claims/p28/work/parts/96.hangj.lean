-- hangs, of a chain that stands for a row
/-- which ear would be worst to have -/
def wstN (s : Nat → Int32) : Int32 := match fX9_worst (nI 0) (nI 0) (nI 0) (nI 0) s (fun _ => nI 0) with
  | some r => r.1
  | none => nI 0
theorem wst_0 {s : Nat → Int32} (h4 : s 304 = nI 0) : wstN s = mI := by
  have e : fX9_worst (nI 0) (nI 0) (nI 0) (nI 0) s (fun _ => nI 0) = some (mI, nI 0, nI 0, nI 0, nI 0, (fun _ => nI 0)) := by
    unfold fX9_worst eX9_worst
    simp (disch := first | omega | assumption) only [↓z_m1, li_0, li_1, li_2, li_3, li_4, li_5, li_6, li_7, li_8, li_9, li_10, li_11, li_12, li_13, li_14, li_15, li_16, li_17, li_18, li_19, li_20, li_21, li_22, li_23, li_24, li_25, li_26, li_27, li_28, li_29, li_30, li_31, li_32, li_33, li_34, li_35, li_36, li_37, li_38, li_39, li_40, li_41, li_42, li_43, li_44, li_45, li_46, li_47, li_48, li_49, li_50, li_51, li_52, li_53, li_54, li_55, li_56, li_57, li_58, li_59, li_60, li_61, li_62, li_63, li_64, li_65, li_66, li_67, li_68, li_69, li_70, li_71, li_72, li_73, li_74, li_75, li_76, li_77, li_78, li_79, li_80, li_81, li_82, li_83, li_84, li_85, li_86, li_87, li_88, li_89, li_90, li_91, li_92, li_93, li_94, li_95, li_96, li_97, li_98, li_99, li_100, li_101, li_102, li_103, li_104, li_105, li_106, li_107, li_108, li_109, li_110, li_111, li_112, li_113, li_114, li_115, li_116, li_117, li_118, li_119, li_120, li_121, li_122, li_123, li_124, li_125, li_126, li_127, li_128, li_129, li_130, li_180, li_186, li_192, li_304, li_305, li_306, li_307, li_319, li_320, li_321, li_322, li_408, li_409, li_410, li_416, li_422, li_428, li_458, li_459, li_460, li_2300, li_2760, nI_add, z_m6, z_m12, z_m30, z_l10, z_l12, z_l14, z_l17, z_l30, z_l460, z_sub, z_dec, z_dec0, z_m11, z_cl, z_leT, z_leF, z_ltT, z_ltF, z_eqT, z_eqF, z_em, z_me, z_mlt, z_mle, z_ltm, z_lem, z_mltm, z_mlem, z_nleT, z_nleF, z_nltT, z_nltF, or_false, or_self, false_or, or_true, true_or, not_true_eq_false, not_false_eq_true, ↓reduceIte, lt, z_ob, Nat.zero_add, Nat.add_zero, h4]
  unfold wstN
  rw [e]
set_option maxHeartbeats 4000000 in
set_option maxRecDepth 100000 in
theorem jo_worstEar {l : Launch} {sa sv : Nat → Nat} {G : va_G} {cI cS : ClassId} {ad : Nat} {al : Nat → Nat} {B : List Nat} {M : MT} {K : Nat} {ws : va_W} {nw : Nat} {P : List Nat} (hJ : JP cI cS ad al B M nw K P ws) : LwX l sa sv G [(cI, .int)] yX8_worstEar wsX8_worstEar ({ frames := 4, cells := 0, slots := 0, locals := 99 } : Room) ad [] ws (fun x ws1 => wstN M.s = x ∧ JP cI cS ad al B M nw K P ws1) := by
  obtain ⟨⟨went, sp, sr, wz, az, po, kd, li, wo, va, osl, osu, tl, tu, mn, er, fe, ms, pa, lo, ww, wl, wu, aw, af, tw, cs, osw, tv, rr, ll, bk, np, tn, bs, sn⟩, hp, hB, hC, hH, hs, hn⟩ := hJ
  have hp : ws.Perm (EW cI cS ad al ((went, sp, sr, wz, az, po, kd, li, wo, va, osl, osu, tl, tu, mn, er, fe, ms, pa, lo, ww, wl, wu, aw, af, tw, cs, osw, tv, rr, ll, bk, np, tn, bs, sn) : LV) ++ (tlW cI bs ++ tlW cI sn)) := hp
  have hC : CR M.s nw K P went sp sr mn er fe ms pa lo wz ww wl wu az aw af tw := hC
  obtain ⟨v, e1, e2⟩ := worst_XM hC
  obtain ⟨sz', mi', pd', ls', line', e3⟩ := e2 (nI 0) (nI 0) (nI 0) (nI 0) (fun _ => nI 0)
  have hv : wstN M.s = v := by unfold wstN; rw [e3]
  obtain ⟨sl', su', sw', rw2, lw2, e4⟩ := e1 tl tu tv rr ll
  exact oX_worstEar hp e4 (fun ws2 hp2 => ⟨hv, _, hp2, hB, hC, hH, hs, hn⟩)
/-- an int that is a small number -/
abbrev rng (p : Int32) (N : Nat) : Prop := p = nI p.toNatClampNeg ∧ p.toNatClampNeg < N
theorem rng_nI {a N : Nat} (h : a < N) (hN : N ≤ 1000) : rng (nI a) N := by
  have e : (nI a).toNatClampNeg = a := z_cl (by omega)
  exact ⟨by rw [e], by rw [e]; exact h⟩
theorem rng_ex {p : Int32} {N : Nat} (h : rng p N) : ∃ a, p = nI a ∧ a < N := ⟨_, h.1, h.2⟩
def ansM (s : Nat → Int32) (P PL : List Nat) (npN : Nat) (p1 : Int32) (p2 : Int32) (p3 : Int32) : Option Int32 := if rng p1 6 ∧ rng p2 30 ∧ rng p3 3 then some (vMean s p1.toNatClampNeg p2.toNatClampNeg p3.toNatClampNeg) else none
theorem ansM_in {s : Nat → Int32} {P PL : List Nat} {npN : Nat} {a0 a1 a2 : Nat} (h0 : a0 < 6) (h1 : a1 < 30) (h2 : a2 < 3) : ansM s P PL npN (nI a0) (nI a1) (nI a2) = some (vMean s a0 a1 a2) := by
  unfold ansM
  rw [if_pos ⟨rng_nI h0 (by omega), rng_nI h1 (by omega), rng_nI h2 (by omega)⟩, z_cl (show a0 < 2147483648 by omega), z_cl (show a1 < 2147483648 by omega), z_cl (show a2 < 2147483648 by omega)]
theorem ansM_ex {s : Nat → Int32} {P PL : List Nat} {npN : Nat} {p1 p2 p3 r : Int32} (h : ansM s P PL npN p1 p2 p3 = some r) : ∃ a0 a1 a2 : Nat, p1 = nI a0 ∧ p2 = nI a1 ∧ p3 = nI a2 ∧ a0 < 6 ∧ a1 < 30 ∧ a2 < 3 ∧ vMean s a0 a1 a2 = r := by
  unfold ansM at h
  by_cases hc : rng p1 6 ∧ rng p2 30 ∧ rng p3 3
  · rw [if_pos hc] at h
    obtain ⟨c0, c1, c2⟩ := hc
    obtain ⟨a0, rfl, l0⟩ := rng_ex c0
    obtain ⟨a1, rfl, l1⟩ := rng_ex c1
    obtain ⟨a2, rfl, l2⟩ := rng_ex c2
    rw [z_cl (show a0 < 2147483648 by omega), z_cl (show a1 < 2147483648 by omega), z_cl (show a2 < 2147483648 by omega)] at h
    exact ⟨a0, a1, a2, rfl, rfl, rfl, l0, l1, l2, Option.some.inj h⟩
  · rw [if_neg hc] at h
    cases h
def ansL (s : Nat → Int32) (P PL : List Nat) (npN : Nat) (p1 : Int32) (p2 : Int32) : Option Int32 := if rng p1 6 ∧ rng p2 7 then some (vLink s p1.toNatClampNeg p2.toNatClampNeg) else none
theorem ansL_in {s : Nat → Int32} {P PL : List Nat} {npN : Nat} {a0 a1 : Nat} (h0 : a0 < 6) (h1 : a1 < 7) : ansL s P PL npN (nI a0) (nI a1) = some (vLink s a0 a1) := by
  unfold ansL
  rw [if_pos ⟨rng_nI h0 (by omega), rng_nI h1 (by omega)⟩, z_cl (show a0 < 2147483648 by omega), z_cl (show a1 < 2147483648 by omega)]
theorem ansL_ex {s : Nat → Int32} {P PL : List Nat} {npN : Nat} {p1 p2 r : Int32} (h : ansL s P PL npN p1 p2 = some r) : ∃ a0 a1 : Nat, p1 = nI a0 ∧ p2 = nI a1 ∧ a0 < 6 ∧ a1 < 7 ∧ vLink s a0 a1 = r := by
  unfold ansL at h
  by_cases hc : rng p1 6 ∧ rng p2 7
  · rw [if_pos hc] at h
    obtain ⟨c0, c1⟩ := hc
    obtain ⟨a0, rfl, l0⟩ := rng_ex c0
    obtain ⟨a1, rfl, l1⟩ := rng_ex c1
    rw [z_cl (show a0 < 2147483648 by omega), z_cl (show a1 < 2147483648 by omega)] at h
    exact ⟨a0, a1, rfl, rfl, l0, l1, Option.some.inj h⟩
  · rw [if_neg hc] at h
    cases h
def ansC (s : Nat → Int32) (P PL : List Nat) (npN : Nat) (p1 : Int32) : Option Int32 := if rng p1 6 then some (vCount s npN p1.toNatClampNeg) else none
theorem ansC_in {s : Nat → Int32} {P PL : List Nat} {npN : Nat} {a0 : Nat} (h0 : a0 < 6) : ansC s P PL npN (nI a0) = some (vCount s npN a0) := by
  unfold ansC
  rw [if_pos (rng_nI h0 (by omega)), z_cl (show a0 < 2147483648 by omega)]
theorem ansC_ex {s : Nat → Int32} {P PL : List Nat} {npN : Nat} {p1 r : Int32} (h : ansC s P PL npN p1 = some r) : ∃ a0 : Nat, p1 = nI a0 ∧ a0 < 6 ∧ vCount s npN a0 = r := by
  unfold ansC at h
  by_cases hc : rng p1 6
  · rw [if_pos hc] at h
    obtain ⟨a0, rfl, l0⟩ := rng_ex hc
    rw [z_cl (show a0 < 2147483648 by omega)] at h
    exact ⟨a0, rfl, l0, Option.some.inj h⟩
  · rw [if_neg hc] at h
    cases h
def ansW (s : Nat → Int32) (P PL : List Nat) (npN : Nat) (p1 : Int32) (p2 : Int32) : Option Int32 := if rng p1 1000 ∧ rng p2 3 then some (vWait s P p1.toNatClampNeg p2.toNatClampNeg) else none
theorem ansW_in {s : Nat → Int32} {P PL : List Nat} {npN : Nat} {a0 a1 : Nat} (h0 : a0 < 1000) (h1 : a1 < 3) : ansW s P PL npN (nI a0) (nI a1) = some (vWait s P a0 a1) := by
  unfold ansW
  rw [if_pos ⟨rng_nI h0 (by omega), rng_nI h1 (by omega)⟩, z_cl (show a0 < 2147483648 by omega), z_cl (show a1 < 2147483648 by omega)]
theorem ansW_ex {s : Nat → Int32} {P PL : List Nat} {npN : Nat} {p1 p2 r : Int32} (h : ansW s P PL npN p1 p2 = some r) : ∃ a0 a1 : Nat, p1 = nI a0 ∧ p2 = nI a1 ∧ a0 < 1000 ∧ a1 < 3 ∧ vWait s P a0 a1 = r := by
  unfold ansW at h
  by_cases hc : rng p1 1000 ∧ rng p2 3
  · rw [if_pos hc] at h
    obtain ⟨c0, c1⟩ := hc
    obtain ⟨a0, rfl, l0⟩ := rng_ex c0
    obtain ⟨a1, rfl, l1⟩ := rng_ex c1
    rw [z_cl (show a0 < 2147483648 by omega), z_cl (show a1 < 2147483648 by omega)] at h
    exact ⟨a0, a1, rfl, rfl, l0, l1, Option.some.inj h⟩
  · rw [if_neg hc] at h
    cases h
def ansA (s : Nat → Int32) (P PL : List Nat) (npN : Nat) (p1 : Int32) (p2 : Int32) : Option Int32 := if rng p1 6 ∧ rng p2 6 then some (vArrv s p1.toNatClampNeg p2.toNatClampNeg) else none
theorem ansA_in {s : Nat → Int32} {P PL : List Nat} {npN : Nat} {a0 a1 : Nat} (h0 : a0 < 6) (h1 : a1 < 6) : ansA s P PL npN (nI a0) (nI a1) = some (vArrv s a0 a1) := by
  unfold ansA
  rw [if_pos ⟨rng_nI h0 (by omega), rng_nI h1 (by omega)⟩, z_cl (show a0 < 2147483648 by omega), z_cl (show a1 < 2147483648 by omega)]
theorem ansA_ex {s : Nat → Int32} {P PL : List Nat} {npN : Nat} {p1 p2 r : Int32} (h : ansA s P PL npN p1 p2 = some r) : ∃ a0 a1 : Nat, p1 = nI a0 ∧ p2 = nI a1 ∧ a0 < 6 ∧ a1 < 6 ∧ vArrv s a0 a1 = r := by
  unfold ansA at h
  by_cases hc : rng p1 6 ∧ rng p2 6
  · rw [if_pos hc] at h
    obtain ⟨c0, c1⟩ := hc
    obtain ⟨a0, rfl, l0⟩ := rng_ex c0
    obtain ⟨a1, rfl, l1⟩ := rng_ex c1
    rw [z_cl (show a0 < 2147483648 by omega), z_cl (show a1 < 2147483648 by omega)] at h
    exact ⟨a0, a1, rfl, rfl, l0, l1, Option.some.inj h⟩
  · rw [if_neg hc] at h
    cases h
def ansT (s : Nat → Int32) (P PL : List Nat) (npN : Nat) (p1 : Int32) (p2 : Int32) : Option Int32 := if rng p1 6 ∧ rng p2 1000 then some (vTold s p1.toNatClampNeg p2.toNatClampNeg) else none
theorem ansT_in {s : Nat → Int32} {P PL : List Nat} {npN : Nat} {a0 a1 : Nat} (h0 : a0 < 6) (h1 : a1 < 1000) : ansT s P PL npN (nI a0) (nI a1) = some (vTold s a0 a1) := by
  unfold ansT
  rw [if_pos ⟨rng_nI h0 (by omega), rng_nI h1 (by omega)⟩, z_cl (show a0 < 2147483648 by omega), z_cl (show a1 < 2147483648 by omega)]
theorem ansT_ex {s : Nat → Int32} {P PL : List Nat} {npN : Nat} {p1 p2 r : Int32} (h : ansT s P PL npN p1 p2 = some r) : ∃ a0 a1 : Nat, p1 = nI a0 ∧ p2 = nI a1 ∧ a0 < 6 ∧ a1 < 1000 ∧ vTold s a0 a1 = r := by
  unfold ansT at h
  by_cases hc : rng p1 6 ∧ rng p2 1000
  · rw [if_pos hc] at h
    obtain ⟨c0, c1⟩ := hc
    obtain ⟨a0, rfl, l0⟩ := rng_ex c0
    obtain ⟨a1, rfl, l1⟩ := rng_ex c1
    rw [z_cl (show a0 < 2147483648 by omega), z_cl (show a1 < 2147483648 by omega)] at h
    exact ⟨a0, a1, rfl, rfl, l0, l1, Option.some.inj h⟩
  · rw [if_neg hc] at h
    cases h
def ansO (s : Nat → Int32) (P PL : List Nat) (npN : Nat) (p1 : Int32) (p2 : Int32) : Option Int32 := if rng p1 30 ∧ rng p2 2 then some (vLost s (PL.getD p1.toNatClampNeg 0) p2.toNatClampNeg) else none
theorem ansO_in {s : Nat → Int32} {P PL : List Nat} {npN : Nat} {a0 a1 : Nat} (h0 : a0 < 30) (h1 : a1 < 2) : ansO s P PL npN (nI a0) (nI a1) = some (vLost s (PL.getD a0 0) a1) := by
  unfold ansO
  rw [if_pos ⟨rng_nI h0 (by omega), rng_nI h1 (by omega)⟩, z_cl (show a0 < 2147483648 by omega), z_cl (show a1 < 2147483648 by omega)]
theorem ansO_ex {s : Nat → Int32} {P PL : List Nat} {npN : Nat} {p1 p2 r : Int32} (h : ansO s P PL npN p1 p2 = some r) : ∃ a0 a1 : Nat, p1 = nI a0 ∧ p2 = nI a1 ∧ a0 < 30 ∧ a1 < 2 ∧ vLost s (PL.getD a0 0) a1 = r := by
  unfold ansO at h
  by_cases hc : rng p1 30 ∧ rng p2 2
  · rw [if_pos hc] at h
    obtain ⟨c0, c1⟩ := hc
    obtain ⟨a0, rfl, l0⟩ := rng_ex c0
    obtain ⟨a1, rfl, l1⟩ := rng_ex c1
    rw [z_cl (show a0 < 2147483648 by omega), z_cl (show a1 < 2147483648 by omega)] at h
    exact ⟨a0, a1, rfl, rfl, l0, l1, Option.some.inj h⟩
  · rw [if_neg hc] at h
    cases h
def ansS (s : Nat → Int32) (P PL : List Nat) (npN : Nat) (p1 : Int32) : Option Int32 := if rng p1 2 then some (vStop s p1.toNatClampNeg) else none
theorem ansS_in {s : Nat → Int32} {P PL : List Nat} {npN : Nat} {a0 : Nat} (h0 : a0 < 2) : ansS s P PL npN (nI a0) = some (vStop s a0) := by
  unfold ansS
  rw [if_pos (rng_nI h0 (by omega)), z_cl (show a0 < 2147483648 by omega)]
theorem ansS_ex {s : Nat → Int32} {P PL : List Nat} {npN : Nat} {p1 r : Int32} (h : ansS s P PL npN p1 = some r) : ∃ a0 : Nat, p1 = nI a0 ∧ a0 < 2 ∧ vStop s a0 = r := by
  unfold ansS at h
  by_cases hc : rng p1 2
  · rw [if_pos hc] at h
    obtain ⟨a0, rfl, l0⟩ := rng_ex hc
    rw [z_cl (show a0 < 2147483648 by omega)] at h
    exact ⟨a0, rfl, l0, Option.some.inj h⟩
  · rw [if_neg hc] at h
    cases h
def ansG (s : Nat → Int32) (P PL : List Nat) (npN : Nat) (p1 : Int32) (p2 : Int32) : Option Int32 := if rng p1 6 ∧ rng p2 4 then some (vIf s P p1.toNatClampNeg p2.toNatClampNeg) else none
theorem ansG_in {s : Nat → Int32} {P PL : List Nat} {npN : Nat} {a0 a1 : Nat} (h0 : a0 < 6) (h1 : a1 < 4) : ansG s P PL npN (nI a0) (nI a1) = some (vIf s P a0 a1) := by
  unfold ansG
  rw [if_pos ⟨rng_nI h0 (by omega), rng_nI h1 (by omega)⟩, z_cl (show a0 < 2147483648 by omega), z_cl (show a1 < 2147483648 by omega)]
theorem ansG_ex {s : Nat → Int32} {P PL : List Nat} {npN : Nat} {p1 p2 r : Int32} (h : ansG s P PL npN p1 p2 = some r) : ∃ a0 a1 : Nat, p1 = nI a0 ∧ p2 = nI a1 ∧ a0 < 6 ∧ a1 < 4 ∧ vIf s P a0 a1 = r := by
  unfold ansG at h
  by_cases hc : rng p1 6 ∧ rng p2 4
  · rw [if_pos hc] at h
    obtain ⟨c0, c1⟩ := hc
    obtain ⟨a0, rfl, l0⟩ := rng_ex c0
    obtain ⟨a1, rfl, l1⟩ := rng_ex c1
    rw [z_cl (show a0 < 2147483648 by omega), z_cl (show a1 < 2147483648 by omega)] at h
    exact ⟨a0, a1, rfl, rfl, l0, l1, Option.some.inj h⟩
  · rw [if_neg hc] at h
    cases h
set_option maxHeartbeats 4000000 in
set_option maxRecDepth 100000 in
theorem jp_hangs {l : Launch} {sa sv : Nat → Nat} {G : va_G} {cI cS : ClassId} {ad : Nat} {al : Nat → Nat} {b L : Nat} {xs : Nat → Int32} {B : List Nat} {M : MT} {K : Nat} {ws : va_W} (hJ : JJ cI cS ad al B M K ws) (hK : K ≤ 512) : LwP l sa sv G (tyH cI cS) b L xs yL_hangs wsL_hangs 9 260 0 0 [.ref ad] ws (fun x w => 1 = x ∧ JJ cI cS ad al B M K w) := by
  obtain ⟨nw, P, hJP⟩ := hJ
  have hnp : ∃ npN, M.np = nI npN := by obtain ⟨v, -, -, -, -, -, hn⟩ := hJP; exact ⟨_, hn⟩
  obtain ⟨npN, hnp⟩ := hnp
  obtain ⟨PL, hPL⟩ := ahL_srt M.s
  have hl := hPL.len (ahL_asy M.s)
  have hO : ∀ p a : Nat, PL[p]? = some a → p < 30 ∧ PL.getD p 0 = a := fun p a h => by
    have h1 := (List.getElem?_eq_some_iff.mp h).1
    exact ⟨by omega, by rw [List.getD_eq_getElem?_getD, h]; rfl⟩
  have hO2 : ∀ p : Nat, p < 30 → PL[p]? = some (PL.getD p 0) := fun p h => by
    rw [List.getD_eq_getElem?_getD, List.getElem?_eq_getElem (by omega : p < PL.length)]; rfl
  have hw : P = [] → wstN M.s = mI := fun e => by
    obtain ⟨v, -, -, hC, -⟩ := hJP
    have hw := hC.2.2.2.2.2.2.2.1.1
    have hP := hC.2.2.2.2.2.2.2.1.2.1
    have hl := hP.len (ahW_asy M.s)
    rw [e] at hl
    have hl0 : nw = 0 := hl.symm
    exact wst_0 (by rw [hw.1, hl0])
  have hf : fL_hangs (ansM M.s P PL npN) (ansL M.s P PL npN) (ansC M.s P PL npN) (ansW M.s P PL npN) (ansA M.s P PL npN) (ansT M.s P PL npN) (ansO M.s P PL npN) (ansS M.s P PL npN) (ansG M.s P PL npN) (shareN M.s) (P.foldl (fun x b => x + costN M.s b) (nI 0)) (wstN M.s) = some (nI 1) := by
    obtain ⟨v, -, -, hC, -⟩ := hJP
    exact hangs_1 hC hK hPL (npN := npN) (fun l w k h0 h1 h2 => ansM_in h0 h1 h2) (fun l k h0 h1 => ansL_in h0 h1) (fun k h0 => ansC_in h0) (fun p k h0 h1 => ansW_in h0 h1) (fun b k h0 h1 => ansA_in h0 h1) (fun b i h0 h1 => ansT_in h0 h1) (fun p a k h0 h1 => by
      obtain ⟨h2, h3⟩ := hO p a h0
      rw [ansO_in h2 h1, h3]) (fun k h0 => ansS_in h0) (fun i k h0 h1 => ansG_in h0 h1) rfl rfl hw
  have hM := mL_hangs l sa sv G cI cS ad (JP cI cS ad al B M nw K P) (ansM M.s P PL npN) (ansL M.s P PL npN) (ansC M.s P PL npN) (ansW M.s P PL npN) (ansA M.s P PL npN) (ansT M.s P PL npN) (ansO M.s P PL npN) (ansS M.s P PL npN) (ansG M.s P PL npN) (shareN M.s) (P.foldl (fun x b => x + costN M.s b) (nI 0)) (wstN M.s)
    (fun p1 p2 p3 r ws h hJ => by
      obtain ⟨a0, a1, a2, rfl, rfl, rfl, l0, l1, l2, rfl⟩ := ansM_ex h
      exact jo_meaning hJ l0 l1 l2)
    (fun p1 p2 r ws h hJ => by
      obtain ⟨a0, a1, rfl, rfl, l0, l1, rfl⟩ := ansL_ex h
      exact jo_link hJ l0 l1)
    (fun p1 r ws h hJ => by
      obtain ⟨a0, rfl, l0, rfl⟩ := ansC_ex h
      exact jo_count hJ (Nat.lt_succ_of_lt l0) hnp)
    (fun p1 p2 r ws h hJ => by
      obtain ⟨a0, a1, rfl, rfl, l0, l1, rfl⟩ := ansW_ex h
      exact jo_waits hJ l0 l1)
    (fun p1 p2 r ws h hJ => by
      obtain ⟨a0, a1, rfl, rfl, l0, l1, rfl⟩ := ansA_ex h
      exact jo_arrival hJ l0 l1)
    (fun p1 p2 r ws h hJ => by
      obtain ⟨a0, a1, rfl, rfl, l0, l1, rfl⟩ := ansT_ex h
      exact jo_told hJ l0 l1)
    (fun p1 p2 r ws h hJ => by
      obtain ⟨a0, a1, rfl, rfl, l0, l1, rfl⟩ := ansO_ex h
      exact jo_lost hJ hPL (hO2 a0 l0) hK l1)
    (fun p1 r ws h hJ => by
      obtain ⟨a0, rfl, l0, rfl⟩ := ansS_ex h
      exact jo_stopped hJ l0)
    (fun p1 p2 r ws h hJ => by
      obtain ⟨a0, a1, rfl, rfl, l0, l1, rfl⟩ := ansG_ex h
      exact jo_ifGone hJ l0 l1)
    (fun ws hJ => jo_throughShare hJ hK) (fun ws hJ => jo_costs hJ) (fun ws hJ => jo_worstEar hJ)
  refine ⟨({ frames := 9, cells := 0, slots := 0, locals := 260 } : Room), ws, [], va_W, (fun x w => x = nI 1 ∧ JP cI cS ad al B M nw K P w), (fun w => w), Nat.le_refl _, Nat.le_refl _, Nat.le_refl _, Nat.le_refl _, by rw [List.append_nil], fun sz _ _ => ?_, fun x u hx => ?_⟩
  · exact MetFree.mono (hM sz ws hJP (nI 1) hf) (fun a s h => h.1) (fun _ _ _ _ _ h => h) (fun _ _ _ _ _ h => h)
  · obtain ⟨h1, h2⟩ := hx
    rw [List.append_nil]
    exact ⟨h1.symm, nw, P, h2⟩

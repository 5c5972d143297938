-- pure: numbers by what they count
def mI : Int32 := -1
theorem z_m1 : (-1 : Int32) = mI := rfl
theorem li_0 : (0 : Int32) = nI 0 := rfl
theorem li_1 : (1 : Int32) = nI 1 := rfl
theorem li_2 : (2 : Int32) = nI 2 := rfl
theorem li_3 : (3 : Int32) = nI 3 := rfl
theorem li_4 : (4 : Int32) = nI 4 := rfl
theorem li_5 : (5 : Int32) = nI 5 := rfl
theorem li_6 : (6 : Int32) = nI 6 := rfl
theorem li_7 : (7 : Int32) = nI 7 := rfl
theorem li_8 : (8 : Int32) = nI 8 := rfl
theorem li_9 : (9 : Int32) = nI 9 := rfl
theorem li_10 : (10 : Int32) = nI 10 := rfl
theorem li_11 : (11 : Int32) = nI 11 := rfl
theorem li_12 : (12 : Int32) = nI 12 := rfl
theorem li_13 : (13 : Int32) = nI 13 := rfl
theorem li_14 : (14 : Int32) = nI 14 := rfl
theorem li_15 : (15 : Int32) = nI 15 := rfl
theorem li_16 : (16 : Int32) = nI 16 := rfl
theorem li_17 : (17 : Int32) = nI 17 := rfl
theorem li_18 : (18 : Int32) = nI 18 := rfl
theorem li_19 : (19 : Int32) = nI 19 := rfl
theorem li_20 : (20 : Int32) = nI 20 := rfl
theorem li_21 : (21 : Int32) = nI 21 := rfl
theorem li_22 : (22 : Int32) = nI 22 := rfl
theorem li_23 : (23 : Int32) = nI 23 := rfl
theorem li_24 : (24 : Int32) = nI 24 := rfl
theorem li_25 : (25 : Int32) = nI 25 := rfl
theorem li_26 : (26 : Int32) = nI 26 := rfl
theorem li_27 : (27 : Int32) = nI 27 := rfl
theorem li_28 : (28 : Int32) = nI 28 := rfl
theorem li_29 : (29 : Int32) = nI 29 := rfl
theorem li_30 : (30 : Int32) = nI 30 := rfl
theorem li_31 : (31 : Int32) = nI 31 := rfl
theorem li_32 : (32 : Int32) = nI 32 := rfl
theorem li_33 : (33 : Int32) = nI 33 := rfl
theorem li_34 : (34 : Int32) = nI 34 := rfl
theorem li_35 : (35 : Int32) = nI 35 := rfl
theorem li_36 : (36 : Int32) = nI 36 := rfl
theorem li_37 : (37 : Int32) = nI 37 := rfl
theorem li_38 : (38 : Int32) = nI 38 := rfl
theorem li_39 : (39 : Int32) = nI 39 := rfl
theorem li_40 : (40 : Int32) = nI 40 := rfl
theorem li_41 : (41 : Int32) = nI 41 := rfl
theorem li_42 : (42 : Int32) = nI 42 := rfl
theorem li_43 : (43 : Int32) = nI 43 := rfl
theorem li_44 : (44 : Int32) = nI 44 := rfl
theorem li_45 : (45 : Int32) = nI 45 := rfl
theorem li_46 : (46 : Int32) = nI 46 := rfl
theorem li_47 : (47 : Int32) = nI 47 := rfl
theorem li_48 : (48 : Int32) = nI 48 := rfl
theorem li_49 : (49 : Int32) = nI 49 := rfl
theorem li_50 : (50 : Int32) = nI 50 := rfl
theorem li_51 : (51 : Int32) = nI 51 := rfl
theorem li_52 : (52 : Int32) = nI 52 := rfl
theorem li_53 : (53 : Int32) = nI 53 := rfl
theorem li_54 : (54 : Int32) = nI 54 := rfl
theorem li_55 : (55 : Int32) = nI 55 := rfl
theorem li_56 : (56 : Int32) = nI 56 := rfl
theorem li_57 : (57 : Int32) = nI 57 := rfl
theorem li_58 : (58 : Int32) = nI 58 := rfl
theorem li_59 : (59 : Int32) = nI 59 := rfl
theorem li_60 : (60 : Int32) = nI 60 := rfl
theorem li_61 : (61 : Int32) = nI 61 := rfl
theorem li_62 : (62 : Int32) = nI 62 := rfl
theorem li_63 : (63 : Int32) = nI 63 := rfl
theorem li_64 : (64 : Int32) = nI 64 := rfl
theorem li_65 : (65 : Int32) = nI 65 := rfl
theorem li_66 : (66 : Int32) = nI 66 := rfl
theorem li_67 : (67 : Int32) = nI 67 := rfl
theorem li_68 : (68 : Int32) = nI 68 := rfl
theorem li_69 : (69 : Int32) = nI 69 := rfl
theorem li_70 : (70 : Int32) = nI 70 := rfl
theorem li_71 : (71 : Int32) = nI 71 := rfl
theorem li_72 : (72 : Int32) = nI 72 := rfl
theorem li_73 : (73 : Int32) = nI 73 := rfl
theorem li_74 : (74 : Int32) = nI 74 := rfl
theorem li_75 : (75 : Int32) = nI 75 := rfl
theorem li_76 : (76 : Int32) = nI 76 := rfl
theorem li_77 : (77 : Int32) = nI 77 := rfl
theorem li_78 : (78 : Int32) = nI 78 := rfl
theorem li_79 : (79 : Int32) = nI 79 := rfl
theorem li_80 : (80 : Int32) = nI 80 := rfl
theorem li_81 : (81 : Int32) = nI 81 := rfl
theorem li_82 : (82 : Int32) = nI 82 := rfl
theorem li_83 : (83 : Int32) = nI 83 := rfl
theorem li_84 : (84 : Int32) = nI 84 := rfl
theorem li_85 : (85 : Int32) = nI 85 := rfl
theorem li_86 : (86 : Int32) = nI 86 := rfl
theorem li_87 : (87 : Int32) = nI 87 := rfl
theorem li_88 : (88 : Int32) = nI 88 := rfl
theorem li_89 : (89 : Int32) = nI 89 := rfl
theorem li_90 : (90 : Int32) = nI 90 := rfl
theorem li_91 : (91 : Int32) = nI 91 := rfl
theorem li_92 : (92 : Int32) = nI 92 := rfl
theorem li_93 : (93 : Int32) = nI 93 := rfl
theorem li_94 : (94 : Int32) = nI 94 := rfl
theorem li_95 : (95 : Int32) = nI 95 := rfl
theorem li_96 : (96 : Int32) = nI 96 := rfl
theorem li_97 : (97 : Int32) = nI 97 := rfl
theorem li_98 : (98 : Int32) = nI 98 := rfl
theorem li_99 : (99 : Int32) = nI 99 := rfl
theorem li_100 : (100 : Int32) = nI 100 := rfl
theorem li_101 : (101 : Int32) = nI 101 := rfl
theorem li_102 : (102 : Int32) = nI 102 := rfl
theorem li_103 : (103 : Int32) = nI 103 := rfl
theorem li_104 : (104 : Int32) = nI 104 := rfl
theorem li_105 : (105 : Int32) = nI 105 := rfl
theorem li_106 : (106 : Int32) = nI 106 := rfl
theorem li_107 : (107 : Int32) = nI 107 := rfl
theorem li_108 : (108 : Int32) = nI 108 := rfl
theorem li_109 : (109 : Int32) = nI 109 := rfl
theorem li_110 : (110 : Int32) = nI 110 := rfl
theorem li_111 : (111 : Int32) = nI 111 := rfl
theorem li_112 : (112 : Int32) = nI 112 := rfl
theorem li_113 : (113 : Int32) = nI 113 := rfl
theorem li_114 : (114 : Int32) = nI 114 := rfl
theorem li_115 : (115 : Int32) = nI 115 := rfl
theorem li_116 : (116 : Int32) = nI 116 := rfl
theorem li_117 : (117 : Int32) = nI 117 := rfl
theorem li_118 : (118 : Int32) = nI 118 := rfl
theorem li_119 : (119 : Int32) = nI 119 := rfl
theorem li_120 : (120 : Int32) = nI 120 := rfl
theorem li_121 : (121 : Int32) = nI 121 := rfl
theorem li_122 : (122 : Int32) = nI 122 := rfl
theorem li_123 : (123 : Int32) = nI 123 := rfl
theorem li_124 : (124 : Int32) = nI 124 := rfl
theorem li_125 : (125 : Int32) = nI 125 := rfl
theorem li_126 : (126 : Int32) = nI 126 := rfl
theorem li_127 : (127 : Int32) = nI 127 := rfl
theorem li_128 : (128 : Int32) = nI 128 := rfl
theorem li_129 : (129 : Int32) = nI 129 := rfl
theorem li_130 : (130 : Int32) = nI 130 := rfl
theorem li_180 : (180 : Int32) = nI 180 := rfl
theorem li_186 : (186 : Int32) = nI 186 := rfl
theorem li_192 : (192 : Int32) = nI 192 := rfl
theorem li_304 : (304 : Int32) = nI 304 := rfl
theorem li_305 : (305 : Int32) = nI 305 := rfl
theorem li_306 : (306 : Int32) = nI 306 := rfl
theorem li_307 : (307 : Int32) = nI 307 := rfl
theorem li_319 : (319 : Int32) = nI 319 := rfl
theorem li_320 : (320 : Int32) = nI 320 := rfl
theorem li_321 : (321 : Int32) = nI 321 := rfl
theorem li_322 : (322 : Int32) = nI 322 := rfl
theorem li_408 : (408 : Int32) = nI 408 := rfl
theorem li_409 : (409 : Int32) = nI 409 := rfl
theorem li_410 : (410 : Int32) = nI 410 := rfl
theorem li_416 : (416 : Int32) = nI 416 := rfl
theorem li_422 : (422 : Int32) = nI 422 := rfl
theorem li_428 : (428 : Int32) = nI 428 := rfl
theorem li_458 : (458 : Int32) = nI 458 := rfl
theorem li_459 : (459 : Int32) = nI 459 := rfl
theorem li_460 : (460 : Int32) = nI 460 := rfl
theorem li_2300 : (2300 : Int32) = nI 2300 := rfl
theorem li_2760 : (2760 : Int32) = nI 2760 := rfl
theorem z_le {a b : Nat} (ha : a < 2147483648) (hb : b < 2147483648) : (nI a ≤ nI b) = (a ≤ b) := propext (nI_leI (by omega) (by omega))
theorem z_lt {a b : Nat} (ha : a < 2147483648) (hb : b < 2147483648) : (nI a < nI b) = (a < b) := propext (nI_ltI (by omega) (by omega))
theorem z_eq {a b : Nat} (ha : a < 2147483648) (hb : b < 2147483648) : (nI a = nI b) = (a = b) := propext (nI_eq (by omega) (by omega))
theorem z_leT {a b : Nat} (h : a ≤ b) (hb : b < 2147483648) : (nI a ≤ nI b) = True := eq_true (nI_le h (by omega))
theorem z_leF {a b : Nat} (h : b < a) (ha : a < 2147483648) : (nI a ≤ nI b) = False := eq_false (nI_ge h (by omega))
theorem z_ltT {a b : Nat} (h : a < b) (hb : b < 2147483648) : (nI a < nI b) = True := eq_true (nI_lt h (by omega))
theorem z_ltF {a b : Nat} (h : b ≤ a) (ha : a < 2147483648) : (nI a < nI b) = False := eq_false (nI_nlt h (by omega))
theorem z_eqT {a b : Nat} (h : a = b) : (nI a = nI b) = True := eq_true (by rw [h])
theorem z_eqF {a b : Nat} (h : a ≠ b) (ha : a < 2147483648) (hb : b < 2147483648) : (nI a = nI b) = False := eq_false (fun e => h ((nI_eq (by omega) (by omega)).mp e))
theorem z_cl {a : Nat} (ha : a < 2147483648) : (nI a).toNatClampNeg = a := nI_clamp (by omega)
theorem z_mint : mI.toInt = -1 := by decide
theorem z_em {a : Nat} (ha : a < 2147483648) : (nI a = mI) = False := eq_false (fun e => by
  have h := congrArg Int32.toInt e
  rw [nI_toInt (by omega), z_mint] at h
  omega)
theorem z_me {a : Nat} (ha : a < 2147483648) : (mI = nI a) = False := eq_false (fun e => by
  have h := (z_em ha).mp e.symm
  exact h)
theorem z_mlt {a : Nat} (ha : a < 2147483648) : (mI < nI a) = True := eq_true (by
  rw [Int32.lt_iff_toInt_lt, nI_toInt (by omega), z_mint]; omega)
theorem z_mle {a : Nat} (ha : a < 2147483648) : (mI ≤ nI a) = True := eq_true (by
  rw [Int32.le_iff_toInt_le, nI_toInt (by omega), z_mint]; omega)
theorem z_ltm {a : Nat} (ha : a < 2147483648) : (nI a < mI) = False := eq_false (by
  rw [Int32.lt_iff_toInt_lt, nI_toInt (by omega), z_mint]; omega)
theorem z_lem {a : Nat} (ha : a < 2147483648) : (nI a ≤ mI) = False := eq_false (by
  rw [Int32.le_iff_toInt_le, nI_toInt (by omega), z_mint]; omega)
theorem z_mltm : (mI < mI) = False := eq_false (by decide)
theorem z_mlem : (mI ≤ mI) = True := eq_true (by decide)
theorem z_dec {a : Nat} (h : 1 ≤ a) : nI a + mI = nI (a - 1) := by
  obtain ⟨b, rfl⟩ : ∃ b, a = b + 1 := ⟨a - 1, by omega⟩
  exact pk_m1 b
theorem z_dec0 : nI 0 + mI = mI := rfl
theorem z_m11 : mI + nI 1 = nI 0 := rfl
theorem z_sub {a b : Nat} (h : b ≤ a) : nI a - nI b = nI (a - b) := pk_sub h
theorem z_m6 (a : Nat) : nI a * nI 6 = nI (6 * a) := by rw [pk_mul, Nat.mul_comm]
theorem z_m12 (a : Nat) : nI a * nI 12 = nI (12 * a) := by rw [pk_mul, Nat.mul_comm]
theorem z_m30 (a : Nat) : nI a * nI 30 = nI (30 * a) := by rw [pk_mul, Nat.mul_comm]
theorem z_l10 (a : Nat) : nI 10 * nI a = nI (10 * a) := pk_mul _ _
theorem z_l12 (a : Nat) : nI 12 * nI a = nI (12 * a) := pk_mul _ _
theorem z_l14 (a : Nat) : nI 14 * nI a = nI (14 * a) := pk_mul _ _
theorem z_l17 (a : Nat) : nI 17 * nI a = nI (17 * a) := pk_mul _ _
theorem z_l30 (a : Nat) : nI 30 * nI a = nI (30 * a) := pk_mul _ _
theorem z_l460 (a : Nat) : nI 460 * nI a = nI (460 * a) := pk_mul _ _
theorem z_nleT {a b : Nat} (h : a ≤ b) : (a ≤ b) = True := eq_true h
theorem z_nleF {a b : Nat} (h : b < a) : (a ≤ b) = False := eq_false (by omega)
theorem z_nltT {a b : Nat} (h : a < b) : (a < b) = True := eq_true h
theorem z_nltF {a b : Nat} (h : b ≤ a) : (a < b) = False := eq_false (by omega)
theorem z_ob {α β : Type} {x : α} {f : α → Option β} : (some x).bind f = f x := rfl
theorem fuS {k fu : Nat} (h : k < fu) : ∃ z, fu = z + 1 := ⟨fu - 1, by omega⟩
/-- a meaning as a number: 30 is none -/
def mz (m : Nat) : Int32 := if m = 30 then mI else nI m
def un (x : Int32) : Nat := if x = mI then 30 else x.toNatClampNeg
theorem un_mz {m : Nat} (h : m ≤ 30) : un (mz m) = m := by
  unfold un mz
  by_cases e : m = 30
  · rw [if_pos e, if_pos rfl, e]
  · rw [if_neg e, if_neg (by rw [z_em (by omega)]; exact id), z_cl (by omega)]
theorem mz_30 : mz 30 = mI := rfl
theorem mz_lt {m : Nat} (h : m < 30) : mz m = nI m := if_neg (by omega)
/-- rows agree -/
def agr (f s : Nat → Int32) (o n : Nat) : Prop := ∀ j, j < n → f j = s (o + j)
def Dic (s : Nat → Int32) : Prop := ∀ j, j < 180 → ∃ m, m ≤ 30 ∧ s j = mz m
/-- a link's ear or fee -/
def Sets (s : Nat → Int32) (o : Nat) : Prop := ∀ l, l < 6 → ∃ e, e < 10 ∧ s (o + l) = nI e
/-- what a link says for a word; 30 is a mumble -/
def said (s : Nat → Int32) (l w : Nat) : Nat := if w = 30 then 30 else un (s (30 * l + w))
theorem Dic.at {s : Nat → Int32} (h : Dic s) {l w : Nat} (hl : l < 6) (hw : w < 30) : s (30 * l + w) = mz (said s l w) := by
  obtain ⟨m, hm, e⟩ := h (30 * l + w) (by omega)
  unfold said
  rw [if_neg (by omega), e, un_mz hm]
theorem said_le {s : Nat → Int32} (h : Dic s) {l w : Nat} (hl : l < 6) (hw : w ≤ 30) : said s l w ≤ 30 := by
  unfold said
  by_cases e : w = 30
  · rw [if_pos e]; omega
  · obtain ⟨m, hm, e2⟩ := h (30 * l + w) (by omega)
    rw [if_neg e, e2, un_mz hm]; exact hm
/-- the first place from w on, within k, where P holds; w + k without one -/
def fndN (P : Nat → Bool) : Nat → Nat → Nat
  | 0, w => w
  | k + 1, w => if P w then w else fndN P k (w + 1)
theorem fndN_le (P : Nat → Bool) : ∀ (k w : Nat), fndN P k w ≤ w + k := by
  intro k
  induction k with
  | zero => intro w; exact Nat.le_refl _
  | succ k ih =>
    intro w
    show (if P w then w else fndN P k (w + 1)) ≤ w + (k + 1)
    split
    · omega
    · have := ih (w + 1); omega
theorem fndN_none (P : Nat → Bool) : ∀ (k w : Nat), (∀ j, w ≤ j → j < w + k → P j = false) → fndN P k w = w + k := by
  intro k
  induction k with
  | zero => intro w _; rfl
  | succ k ih =>
    intro w h
    show (if P w then w else fndN P k (w + 1)) = w + (k + 1)
    rw [h w (Nat.le_refl _) (by omega), if_neg (by decide), ih (w + 1) (fun j h1 h2 => h j (by omega) (by omega))]
    omega
/-- the lowest word of a link with a meaning; 30 without one -/
def lowN (s : Nat → Int32) (l m : Nat) : Nat := fndN (fun j => s (30 * l + j) == nI m) 30 0
theorem lowN_le (s : Nat → Int32) (l m : Nat) : lowN s l m ≤ 30 := fndN_le _ 30 0
theorem lowN_30 {s : Nat → Int32} (h : Dic s) {l : Nat} (hl : l < 6) : lowN s l 30 = 30 := by
  refine fndN_none _ 30 0 (fun j _ h2 => ?_)
  obtain ⟨m, hm, e⟩ := h (30 * l + j) (by omega)
  rw [e]
  by_cases e2 : m = 30
  · rw [e2, mz_30]; decide
  · rw [mz_lt (by omega)]
    exact beq_eq_false_iff_ne.mpr (fun e3 => e2 ((nI_eq (by omega) (by omega)).mp e3))
/-- the word that comes back for a word in writing -/
def bck (s : Nat → Int32) (l w : Nat) : Nat := if said s l w = 30 then 30 else lowN s l (said s l w)
theorem bck_le (s : Nat → Int32) (l w : Nat) : bck s l w ≤ 30 := by
  unfold bck
  split
  · omega
  · exact lowN_le _ _ _
/-- the link that loses a word, from link l on for k links; l + k without one -/
def lossN (s : Nat → Int32) : Nat → Nat → Nat → Nat
  | 0, l, _ => l
  | k + 1, l, w => if bck s l w = w then lossN s k (l + 1) (said s l w) else l
theorem lossN_le (s : Nat → Int32) : ∀ (k l w : Nat), lossN s k l w ≤ l + k := by
  intro k
  induction k with
  | zero => intro l w; exact Nat.le_refl _
  | succ k ih =>
    intro l w
    show (if bck s l w = w then lossN s k (l + 1) (said s l w) else l) ≤ l + (k + 1)
    split
    · have := ih (l + 1) (said s l w); omega
    · omega
/-- a link; 6 is none -/
def lk (n : Nat) : Int32 := if n = 6 then mI else nI n
theorem lk_6 : lk 6 = mI := rfl
theorem lk_lt {n : Nat} (h : n < 6) : lk n = nI n := if_neg (by omega)

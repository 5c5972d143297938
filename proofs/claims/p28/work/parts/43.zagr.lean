-- pure: the loss by the rules and the loss by sending back agree
section AG
variable {s : Nat → Int32} {ea : Nat → Nat} {ws : List Nat}
theorem fndN_at {P : Nat → Bool} : ∀ (k w : Nat), fndN P k w < w + k → P (fndN P k w) = true := by
  intro k
  induction k with
  | zero => intro w h; exact absurd h (Nat.lt_irrefl _)
  | succ k ih =>
    intro w h
    by_cases e : P w = true
    · have e2 : fndN P (k + 1) w = w := if_pos e
      rw [e2]; exact e
    · have e2 : fndN P (k + 1) w = fndN P k (w + 1) := if_neg e
      rw [e2] at h ⊢
      exact ih (w + 1) (by omega)
theorem fndN_ge (P : Nat → Bool) : ∀ (k w : Nat), w ≤ fndN P k w := by
  intro k
  induction k with
  | zero => intro w; exact Nat.le_refl _
  | succ k ih =>
    intro w
    by_cases e : P w = true
    · have e2 : fndN P (k + 1) w = w := if_pos e
      rw [e2]; exact Nat.le_refl _
    · have e2 : fndN P (k + 1) w = fndN P k (w + 1) := if_neg e
      rw [e2]
      have := ih (w + 1)
      omega
theorem fndN_before {P : Nat → Bool} : ∀ (k w j : Nat), w ≤ j → j < fndN P k w → P j = false := by
  intro k
  induction k with
  | zero => intro w j h1 h2; have h2 : j < w := h2; omega
  | succ k ih =>
    intro w j h1 h2
    by_cases e : P w = true
    · have e2 : fndN P (k + 1) w = w := if_pos e
      rw [e2] at h2; omega
    · have e2 : fndN P (k + 1) w = fndN P k (w + 1) := if_neg e
      rw [e2] at h2
      by_cases ej : j = w
      · subst ej
        cases h : P j with
        | true => exact absurd h e
        | false => rfl
      · exact ih (w + 1) j (by omega) h2
theorem fndN_cg {P Q : Nat → Bool} : ∀ (k w : Nat), (∀ j, w ≤ j → j < w + k → (∀ i, w ≤ i → i < j → P i = false) → P j = Q j) → fndN P k w = fndN Q k w := by
  intro k
  induction k with
  | zero => intro w _; rfl
  | succ k ih =>
    intro w h
    have h0 := h w (Nat.le_refl _) (by omega) (fun i h1 h2 => by omega)
    by_cases e : P w = true
    · have e1 : fndN P (k + 1) w = w := if_pos e
      have e2 : fndN Q (k + 1) w = w := if_pos (by rw [← h0]; exact e)
      rw [e1, e2]
    · have e1 : fndN P (k + 1) w = fndN P k (w + 1) := if_neg e
      have e2 : fndN Q (k + 1) w = fndN Q k (w + 1) := if_neg (by rw [← h0]; exact e)
      rw [e1, e2]
      refine ih (w + 1) (fun j h1 h2 h3 => h j (by omega) (by omega) (fun i h4 h5 => ?_))
      by_cases ei : i = w
      · subst ei
        cases hp : P i with
        | true => exact absurd hp e
        | false => rfl
      · exact h3 i (by omega) h5
theorem low_said {l m : Nat} (hm : m ≤ 30) (h : lowN s l m < 30) : said s l (lowN s l m) = m := by
  have h1 := fndN_at (P := fun j => s (30 * l + j) == nI m) 30 0 (by unfold lowN at h; omega)
  have h2 : s (30 * l + lowN s l m) = nI m := eq_of_beq h1
  unfold said
  rw [if_neg (by omega), h2]
  unfold un
  rw [if_neg (fun e => by have := z_em (a := m) (by omega); rw [this] at e; exact e), z_cl (by omega)]
/-- a word, sent on from the beginning -/
def fwF (s : Nat → Int32) : Nat → Nat → Nat
  | 0, w => w
  | l + 1, w => said s l (fwF s l w)
def bkF (s : Nat → Int32) : Nat → Nat → Nat
  | 0, w => w
  | l + 1, w => bkF s l (lowN s l w)
theorem bk_bak : ∀ (l w : Nat), bkF s (l + 1) w = bakN s l w := by
  intro l
  induction l with
  | zero => intro w; rfl
  | succ l ih => intro w; exact ih (lowN s (l + 1) w)
theorem bk_30 (hd : Dic s) : ∀ l, l ≤ 6 → bkF s l 30 = 30 := by
  intro l
  induction l with
  | zero => intro _; rfl
  | succ l ih =>
    intro hl
    show bkF s l (lowN s l 30) = 30
    rw [lowN_30 hd (by omega)]
    exact ih (by omega)
theorem bk_inj (hd : Dic s) : ∀ (l v u : Nat), l ≤ 6 → v ≤ 30 → u < 30 → bkF s l v = u → v = fwF s l u := by
  intro l
  induction l with
  | zero => intro v u _ _ _ h; exact h
  | succ l ih =>
    intro v u hl hv hu h
    have h : bkF s l (lowN s l v) = u := h
    have hy := ih (lowN s l v) u (by omega) (lowN_le _ _ _) hu h
    have h30 : lowN s l v < 30 := by
      refine Nat.lt_of_le_of_ne (lowN_le _ _ _) (fun e => ?_)
      rw [e, bk_30 hd l (by omega)] at h
      omega
    show v = said s l (fwF s l u)
    rw [← hy, low_said hv h30]
theorem hear_map (l e : Nat) : ∀ (L : List Nat) (p : Nat), (hearN s l e p L).length = L.length → hearN s l e p L = L.map (said s l) := by
  intro L
  induction L with
  | nil => intro p _; rfl
  | cons w L ih =>
    intro p h
    rw [hearN] at h ⊢
    by_cases e1 : missB e (p + 1) = true
    · rw [if_pos e1, List.length_cons] at h
      have := hear_len s l e L (p + 1)
      omega
    · rw [if_neg e1, List.length_cons, List.length_cons] at h
      rw [if_neg e1, List.map_cons, ih (p + 1) (by omega)]
/-- while nothing is lost, each word stands for itself -/
theorem ch_fw (hd : Dic s) (hb : ∀ x, x ∈ ws → x < 30) : ∀ l, l ≤ 6 → (∀ j, j < l → lsB s ea ws j = false) → chN s ea ws l = ws.map (fwF s l) ∧ ∀ x, x ∈ ws → fwF s l x < 30 ∧ bkF s l (fwF s l x) = x := by
  intro l
  induction l with
  | zero => intro _ _; exact ⟨by show ws = ws.map (fwF s 0); rw [show fwF s 0 = id from rfl, List.map_id], fun x hx => ⟨hb x hx, rfl⟩⟩
  | succ l ih =>
    intro hl hj
    obtain ⟨h1, h2⟩ := ih (by omega) (fun j h => hj j (by omega))
    have h3 := hj l (by omega)
    rw [lsB_eq] at h3
    have h4 : ¬ (chN s ea ws (l + 1)).length < (chN s ea ws l).length := fun h => by rw [decide_eq_true h, Bool.true_or] at h3; cases h3
    have h5 : (chN s ea ws l).any (fun w => bck s l w != w) = false := by
      cases h : (chN s ea ws l).any (fun w => bck s l w != w) with
      | false => rfl
      | true => rw [h, Bool.or_true] at h3; cases h3
    have h6 := ch_mono (s := s) (ea := ea) (ws := ws) l
    have h7 : chN s ea ws (l + 1) = (chN s ea ws l).map (said s l) := hear_map l (ea l) (chN s ea ws l) 0 (show (chN s ea ws (l + 1)).length = _ by omega)
    have h8 : ∀ w, w ∈ chN s ea ws l → bck s l w = w := fun w hw => by
      have := List.any_eq_false.mp h5 w hw
      cases hc : (bck s l w != w) with
      | false => exact Decidable.byContradiction (fun hne => by rw [bne_iff_ne.mpr hne] at hc; cases hc)
      | true => exact absurd hc this
    refine ⟨by rw [h7, h1, List.map_map]; rfl, fun x hx => ?_⟩
    have hm : fwF s l x ∈ chN s ea ws l := by rw [h1]; exact List.mem_map.mpr ⟨x, hx, rfl⟩
    have hk := h8 _ hm
    obtain ⟨g1, g2⟩ := h2 x hx
    have hs : said s l (fwF s l x) ≠ 30 := fun e => by
      unfold bck at hk
      rw [if_pos e] at hk
      omega
    have hs2 := said_le hd (l := l) (w := fwF s l x) (by omega) (by omega)
    refine ⟨show said s l (fwF s l x) < 30 by omega, ?_⟩
    show bkF s l (lowN s l (said s l (fwF s l x))) = x
    unfold bck at hk
    rw [if_neg hs] at hk
    rw [hk]
    exact g2
theorem cb_ls (hd : Dic s) (hb : ∀ x, x ∈ ws → x < 30) {l : Nat} (hl : l < 6) (hj : ∀ j, j < l → lsB s ea ws j = false) : (!cbB s ea ws l) = lsB s ea ws l := by
  obtain ⟨h1, h2⟩ := ch_fw hd hb l (by omega) hj
  cases h : lsB s ea ws l with
  | false =>
    obtain ⟨h3, h4⟩ := ch_fw (ea := ea) hd hb (l + 1) (by omega) (fun j hjl => by
      by_cases e : j = l
      · rw [e]; exact h
      · exact hj j (by omega))
    have h5 : cbB s ea ws l = true := by
      refine decide_eq_true ?_
      rw [h3, List.map_map]
      refine (List.map_congr_left (fun x hx => ?_)).trans (List.map_id ws)
      show bakN s l (fwF s (l + 1) x) = id x
      rw [← bk_bak]
      exact (h4 x hx).2
    rw [h5]; rfl
  | true =>
    have h5 : cbB s ea ws l = false := by
      refine decide_eq_false (fun hc => ?_)
      have hlen : (chN s ea ws (l + 1)).length = ws.length := by rw [← hc, List.length_map, hc]
      have hlen2 : (chN s ea ws l).length = ws.length := by rw [h1, List.length_map]
      have h7 : chN s ea ws (l + 1) = (chN s ea ws l).map (said s l) := hear_map l (ea l) (chN s ea ws l) 0 (show (chN s ea ws (l + 1)).length = _ by omega)
      rw [lsB_eq, decide_eq_false (show ¬ (chN s ea ws (l + 1)).length < (chN s ea ws l).length by omega), Bool.false_or] at h
      obtain ⟨w, hw, hne⟩ := List.any_eq_true.mp h
      have hne := bne_iff_ne.mp hne
      rw [h7, h1, List.map_map, List.map_map] at hc
      rw [h1] at hw
      obtain ⟨x, hx, rfl⟩ := List.mem_map.mp hw
      have hx2 : bakN s l (said s l (fwF s l x)) = x := by
        have h8 : ws.map ((bakN s l ∘ said s l) ∘ fwF s l) = ws.map id := by rw [List.map_id]; exact hc
        exact (List.map_inj_left.mp h8) x hx
      rw [← bk_bak] at hx2
      have hx3 : bkF s l (lowN s l (said s l (fwF s l x))) = x := hx2
      have hx4 := bk_inj hd l _ x (by omega) (lowN_le _ _ _) (hb x hx) hx3
      refine hne ?_
      unfold bck
      by_cases e : said s l (fwF s l x) = 30
      · rw [e, lowN_30 hd hl, bk_30 hd l (by omega)] at hx3
        have := hb x hx
        omega
      · rw [if_neg e]; exact hx4
    rw [h5]; rfl
/-- both agree -/
theorem loss_agree (hd : Dic s) (hb : ∀ x, x ∈ ws → x < 30) : backP s ea ws = lossP s ea ws := by
  refine (fndN_cg (P := lsB s ea ws) (Q := fun j => !cbB s ea ws j) 6 0 (fun j _ h2 h3 => (cb_ls hd hb (by omega) (fun i hi => h3 i (Nat.zero_le _) hi)).symm)).symm
/-- without a loss all arrive, and no mumble -/
theorem loss_6 (hd : Dic s) (hb : ∀ x, x ∈ ws → x < 30) (h : lossP s ea ws = 6) : (chN s ea ws 6).length = ws.length ∧ ∀ x, x ∈ chN s ea ws 6 → x < 30 := by
  obtain ⟨h1, h2⟩ := ch_fw (ea := ea) hd hb 6 (Nat.le_refl _) (fun j hj => fndN_before (P := lsB s ea ws) 6 0 j (Nat.zero_le _) (by unfold lossP at h; omega))
  refine ⟨by rw [h1, List.length_map], fun x hx => ?_⟩
  rw [h1] at hx
  obtain ⟨y, hy, rfl⟩ := List.mem_map.mp hx
  exact (h2 y hy).1
end AG

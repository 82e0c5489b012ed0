/-! the cheapest holiday: weeks from 3 on cost the same; the state behind cover -/
theorem LR.gh {S S' : MS} {nc me : Nat} {Q : MS} (h : LR S nc me Q) (ho : OFQ [16] S S') : LR S' nc me Q := by
  obtain ⟨⟨a1, a2, a3⟩, ⟨b1, b2, b3, b4⟩, d1, d2, d3, d4⟩ := h
  have e : ∀ a, a ≠ 16 → S' a = S a := fun a ha => funext fun j => ho a j (by simpa using ha)
  refine ⟨⟨a1, ?_, ?_⟩, ⟨b1, ?_, ?_, ?_⟩, d1, ?_, ?_, ?_⟩
  · rw [e 21 (by decide)]; exact a2
  · rw [e 11 (by decide), e 12 (by decide)]; exact a3
  · rw [e 0 (by decide)]; exact b2
  · rw [e 1 (by decide), e 2 (by decide), e 3 (by decide), e 4 (by decide)]; exact b3
  · rw [e 5 (by decide), e 6 (by decide)]; exact b4
  · rw [e 7 (by decide)]; exact d2
  · rw [e 8 (by decide), e 9 (by decide)]; exact d3
  · rw [e 10 (by decide)]; exact d4
theorem LU.gh {S S' : MS} {ma : Nat} {Q : MS} (h : LU S ma Q) (ho : OFQ [16] S S') : LU S' ma Q := by
  have e : ∀ a, a ≠ 16 → S' a = S a := fun a ha => funext fun j => ho a j (by simpa using ha)
  unfold LU
  rw [e 21 (by decide), e 13 (by decide), e 14 (by decide), e 15 (by decide)]
  exact h
theorem LU.hol {S : MS} {ma : Nat} {Q : MS} (h : LU S ma Q) {i k : Nat} : LU (uM S 10 i 1) ma (uM Q 4 k 1) := by
  unfold LU
  rw [uM_nk (show (21 : Nat) ≠ 10 by decide)]
  refine ⟨h.1, h.2.1, fun x hx => ?_⟩
  rw [uM_nk (show (5 : Nat) ≠ 4 by decide), uM_nk (show (5 : Nat) ≠ 4 by decide), uM_nk (show (5 : Nat) ≠ 4 by decide), uM_nk (show (13 : Nat) ≠ 10 by decide), uM_nk (show (14 : Nat) ≠ 10 by decide), uM_nk (show (15 : Nat) ≠ 10 by decide)]
  exact h.2.2 x hx
theorem LR.hol1 {S : MS} {nc me : Nat} {Q : MS} (h : LR S nc me Q) {x w : Nat} (hx : x < me) (hw : w < 4) : LR (uM S 10 (52 * x + w) 1) nc me (uM Q 4 (4 * x + w) 1) := by
  obtain ⟨⟨a1, a2, a3⟩, ⟨b1, b2, b3, b4⟩, d1, d2, d3, d4⟩ := h
  have e : ∀ a, a ≠ 10 → uM S 10 (52 * x + w) 1 a = S a := fun a ha => funext fun j => uM_nk ha
  have f : ∀ a, a ≠ 4 → uM Q 4 (4 * x + w) 1 a = Q a := fun a ha => funext fun j => uM_nk ha
  refine ⟨⟨a1, ?_, ?_⟩, ⟨b1, ?_, ?_, ?_⟩, d1, ?_, ?_, fun y v hy hv => ?_⟩
  · rw [e 21 (by decide), f 0 (by decide)]; exact a2
  · rw [e 11 (by decide), e 12 (by decide), f 0 (by decide)]; exact a3
  · rw [e 0 (by decide)]; exact b2
  · rw [e 1 (by decide), e 2 (by decide), e 3 (by decide), e 4 (by decide), f 1 (by decide)]; exact b3
  · rw [e 5 (by decide), e 6 (by decide), f 2 (by decide)]; exact b4
  · rw [e 7 (by decide)]; exact d2
  · rw [e 8 (by decide), e 9 (by decide), f 3 (by decide)]; exact d3
  · have h0 := d4 y v hy hv
    by_cases q : y = x ∧ v = w
    · obtain ⟨rfl, rfl⟩ := q
      rw [uM_eq, if_pos hw, uM_eq]
    · rw [uM_ni (show 52 * y + v ≠ 52 * x + w by omega), h0]
      by_cases z : v < 4
      · rw [if_pos z, if_pos z, uM_ni (by omega)]
      · rw [if_neg z, if_neg z]
theorem holb_of {l : List Nat} {Q3 Q4 Q5 Q6 : MS} {k : Nat} (e1 : Q4 = uM Q3 4 k 1) (h : OFQ l Q4 Q5) (e2 : Q6 = uM Q5 4 k 0) (h0 : Q3 4 k = 0) : OFQ l Q3 Q6 := fun a j ha => by
  by_cases q : a = 4 ∧ j = k
  · obtain ⟨rfl, rfl⟩ := q
    rw [e2, uM_eq, h0]
  · rw [e2, uM_ne q, h a j ha, e1, uM_ne q]
theorem cvr_nn {S : MS} {w : Nat} (h : ¬ cvR S w < 0) : cvN S w 5 0 < 1000000 ∧ cvR S w = nI (cvN S w 5 0) := by
  unfold cvR at h ⊢
  by_cases q : cvN S w 5 0 < 1000000
  · exact ⟨q, if_pos q⟩
  · rw [if_neg q] at h
    exact absurd (by decide) h
theorem cvr_neg {S : MS} {w : Nat} (h : cvR S w < 0) : ¬ cvN S w 5 0 < 1000000 := by
  intro q
  unfold cvR at h
  rw [if_pos q] at h
  exact nI_nneg (by omega) h
theorem week_at {k : Nat} (hk : k < 52) : isWeekI (nI k) = true := by
  unfold isWeekI
  rw [within_N (by omega) (by omega) (by omega)]
  simp
  omega
theorem cov_pos {S : MS} {k : Nat} (hk : k < 52) (h : ¬ cvR S k < 0) : covR S (nI k) = cvR S k ∧ covS S (nI k) = kpS S k 5 := by
  obtain ⟨h1, h2⟩ := cvr_nn h
  unfold covR covS
  rw [week_at hk, tn_nI (by omega), h2, if_pos rfl, if_pos rfl, if_pos h1, if_pos h1]
  exact ⟨rfl, rfl⟩
theorem cov_neg {S : MS} {k : Nat} (hk : k < 52) (h : cvR S k < 0) : covR S (nI k) = -2 ∧ covS S (nI k) = S := by
  have h1 := cvr_neg h
  unfold covR covS
  rw [week_at hk, tn_nI (by omega), if_pos rfl, if_pos rfl, if_neg h1, if_neg h1]
  exact ⟨rfl, rfl⟩
theorem shrt_at {S : MS} {w d : Nat} (hw : w < 52) (hd : d < 5) : shrtI S (nI w) (nI d) = nI (shN S w d) := by
  unfold shrtI isDayI
  rw [week_at hw, within_N (by omega) (by omega) (by omega), tn_nI (by omega), tn_nI (by omega)]
  simp
  omega
theorem kps_of {S : MS} {w : Nat} : OFQ [16] S (kpS S w 5) := fun a j ha => by
  unfold kpS
  rw [if_neg (by simp at ha; omega)]
theorem kps_16 {S : MS} {w j : Nat} (hj : j < 5) : kpS S w 5 16 j = chN S w j (usA S w j) := if_pos ⟨rfl, hj⟩
def lsI (p : Option Nat × Nat) : Int32 := match p.1 with
  | none => -1
  | some _ => nI p.2
def CPK (p : Option Nat × Nat) : Prop := (p.1 = none → p.2 = 1000000) ∧ (p.1 ≠ none → p.2 < 1000000)
theorem CPK.take {x c : Nat} (h : c < 1000000) : CPK (some x, c) := ⟨fun q => (by cases q), fun _ => h⟩
theorem CPK.le {p : Option Nat × Nat} (h : CPK p) : p.2 ≤ 1000000 := by
  by_cases q : p.1 = none
  · exact Nat.le_of_eq (h.1 q)
  · exact Nat.le_of_lt (h.2 q)
theorem chp_ok (S : MS) (e w : Nat) : CPK (chp S e w) := by
  induction w with
  | zero => exact ⟨fun _ => rfl, fun h => absurd rfl h⟩
  | succ w ih =>
    rw [chp_s]
    obtain ⟨p, hp⟩ : ∃ p, p = chp S e w := ⟨_, rfl⟩
    obtain ⟨c, hc⟩ : ∃ c, c = chw S e w := ⟨_, rfl⟩
    rw [← hp, ← hc]
    rw [← hp] at ih
    by_cases h1 : S 10 (52 * e + w) = 0
    · rw [if_pos h1]
      by_cases h2 : c < p.2
      · rw [if_pos h2]
        exact CPK.take (Nat.lt_of_lt_of_le h2 ih.le)
      · rw [if_neg h2]
        exact ih
    · rw [if_neg h1]
      exact ih
theorem ls_neg {p : Option Nat × Nat} (hk : CPK p) (h : lsI p < 0) : p.2 = 1000000 := by
  unfold lsI at h
  cases hq : p.1 with
  | none => exact hk.1 hq
  | some x =>
    rw [hq] at h
    have := hk.2 (by rw [hq]; simp)
    exact absurd h (nI_nneg (by omega))
theorem ls_nn {p : Option Nat × Nat} (h : ¬ lsI p < 0) : lsI p = nI p.2 := by
  unfold lsI at h ⊢
  cases hq : p.1 with
  | none => rw [hq] at h; exact absurd (show (-1 : Int32) < 0 by decide) h
  | some x => rfl
/-- what least costs hang on -/
theorem cv_congr {S S' : MS} {w w' : Nat} (h13 : S' 13 = S 13) (h14 : S' 14 = S 14) (h15 : S' 15 = S 15) (h21 : S' 21 = S 21) (hs : ∀ d, d < 5 → shN S' w' d = shN S w d) : ∀ k u, cvN S' w' k u = cvN S w k u
  | 0, _ => rfl
  | k + 1, u => by
    rw [cv_s, cv_s]
    refine lsN_congr (fun s _ => ?_)
    have hg : givB S' s (4 - k) u (shN S w (4 - k)) = givB S s (4 - k) u (shN S w (4 - k)) := by
      unfold givB
      rw [show canK S' s (4 - k) u = canK S s (4 - k) u from funext fun x => by unfold canK; rw [h21, h13, h14]]
    have hc : cstN S' s = cstN S s := by
      unfold cstN
      rw [h15]
    rw [hs (4 - k) (by omega), hg, hc, cv_congr h13 h14 h15 h21 hs k]
/-- an educator's holiday in a week from 3 on costs what it costs in week 3 -/
theorem chw_late {S : MS} {nc me : Nat} {Q : MS} (h : LR S nc me Q) (h3 : ∀ e, e < me → Q 4 (4 * e + 3) = 0) {e w : Nat} (he : e < me) (hw3 : 3 ≤ w) (hw : w < 52) : chw S e w = chw S e 3 := by
  have hE := h.2.2
  have hm := hE.1
  have z : ∀ x v, x < me → 3 ≤ v → v < 52 → S 10 (52 * x + v) = 0 := fun x v hx h1 h2 => by
    rw [hE.2.2.2 x v hx h2]
    by_cases q : v < 4
    · rw [if_pos q, show v = 3 by omega]
      exact h3 x hx
    · rw [if_neg q]
  unfold chw
  refine cv_congr (funext fun j => by rw [uM_nk (by omega), uM_nk (by omega)]) (funext fun j => by rw [uM_nk (by omega), uM_nk (by omega)]) (funext fun j => by rw [uM_nk (by omega), uM_nk (by omega)]) (funext fun j => by rw [uM_nk (by omega), uM_nk (by omega)]) (fun d hd => ?_) 5 0
  have hn : ∀ k i, needN (uM S 10 i 1) d k (-9) = needN S d k (-9) := fun k i => rfl
  have ht : ∀ k, thrN (uM S 10 (52 * e + w) 1) w d k = thrN (uM S 10 (52 * e + 3) 1) 3 d k := fun k => by
    refine sm_congr (fun x hx => ?_)
    unfold thrB
    rw [uM_nk (show (7 : Nat) ≠ 10 by decide), uM_nk (show (8 : Nat) ≠ 10 by decide), uM_nk (show (9 : Nat) ≠ 10 by decide), uM_nk (show (7 : Nat) ≠ 10 by decide), uM_nk (show (8 : Nat) ≠ 10 by decide), uM_nk (show (9 : Nat) ≠ 10 by decide)]
    by_cases hxm : x < me
    · by_cases q : x = e
      · subst q
        rw [uM_eq, uM_eq]
      · rw [uM_ni (show 52 * x + w ≠ 52 * e + w by omega), uM_ni (show 52 * x + 3 ≠ 52 * e + 3 by omega), z x w hxm hw3 hw, z x 3 hxm (by omega) (by omega)]
    · rw [hE.out (by omega) hx]
      rfl
  unfold shN
  congr 1
  funext k
  rw [hn, hn, ht]
theorem chp_52 {S : MS} {nc me : Nat} {Q : MS} (h : LR S nc me Q) (h3 : ∀ e, e < me → Q 4 (4 * e + 3) = 0) {e : Nat} (he : e < me) : chp S e 52 = chp S e 4 := by
  have hE := h.2.2
  have z3 : S 10 (52 * e + 3) = 0 := by
    rw [hE.2.2.2 e 3 he (by omega), if_pos (by decide)]
    exact h3 e he
  have h4 : (chp S e 4).2 ≤ chw S e 3 := by
    rw [chp_s S e 3, if_pos z3]
    obtain ⟨p, hp⟩ : ∃ p, p = chp S e 3 := ⟨_, rfl⟩
    obtain ⟨c, hc⟩ : ∃ c, c = chw S e 3 := ⟨_, rfl⟩
    rw [← hp, ← hc]
    by_cases h2 : c < p.2
    · rw [if_pos h2]
      exact Nat.le_refl _
    · rw [if_neg h2]
      omega
  have key : ∀ k, k ≤ 48 → chp S e (4 + k) = chp S e 4 := by
    intro k
    induction k with
    | zero => intro _; rfl
    | succ k ih =>
      intro hk
      have hz : S 10 (52 * e + (4 + k)) = 0 := by rw [hE.2.2.2 e (4 + k) he (by omega), if_neg (by omega)]
      rw [← Nat.add_assoc, chp_s, ih (by omega), chw_late h h3 he (by omega) (by omega), if_pos hz, if_neg (by omega)]
  exact key 48 (Nat.le_refl _)
theorem chp_at {S : MS} {nc me : Nat} {Q : MS} (h : LR S nc me Q) (h3 : ∀ e, e < me → Q 4 (4 * e + 3) = 0) {e : Nat} (he : e < me) : chpR S (nI e) = oI (chp S e 4).1 := by
  have hE := h.2.2
  have hm := hE.1
  have hh : hasE S (nI e) = true := by
    unfold hasE
    rw [within_N (by omega) (by omega) (by omega), nI_clamp (by omega), hE.in1 he]
    simp
    omega
  unfold chpR
  rw [hh, tn_nI (by omega), chp_52 h h3 he]
  rfl

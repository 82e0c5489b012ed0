/-! writes of plain rows, side by side -/
theorem chE_of {S S' : MS} {c : Nat} (h : ∀ a j, a ≤ 6 → S' a j = S a j) : chE S' c = chE S c := by
  unfold chE
  rw [h 2 c (by omega), h 1 c (by omega), h 4 c (by omega), h 3 c (by omega), show spP S' 5 c = spP S 5 c from funext fun q => by unfold spP; rw [h 5 _ (by omega), h 6 _ (by omega)]]
theorem edE_of {S S' : MS} {c : Nat} (h : ∀ a j, 8 ≤ a → a ≤ 10 → S' a j = S a j) : edE S' c = edE S c := by
  unfold edE
  rw [show spP S' 8 c = spP S 8 c from funext fun q => by unfold spP; rw [h 8 _ (by omega) (by omega), h 9 _ (by omega) (by omega)], show hoP S' c = hoP S c from funext fun q => by unfold hoP; rw [h 10 _ (by omega) (by omega)]]
theorem suE_of {S S' : MS} {c g : Nat} (h : ∀ a j, 13 ≤ a → a ≤ 15 → S' a j = S a j) : suE S' c g = suE S c g := by
  unfold suE
  rw [h 13 _ (by omega) (by omega), h 14 _ (by omega) (by omega), h 15 _ (by omega) (by omega)]
theorem RG.row {S S' : MS} {G : Nat → Nat} {T T' : CT} {e : CE} (h : RG S G T e) (hB : BD S') (hI : IV S') (hT : rowsT S' T') (hs : ∀ a j, a ≤ 10 ∨ (13 ≤ a ∧ a ≤ 15) → S' a j = S a j) (h2 : S' 21 2 = S 21 2) : RG S' G T' e :=
  ⟨hB, hI, hT, h.2.2.2.1.congr (fun i _ => hs 0 i (by omega)) (fun i _ _ => chE_of (fun a j _ => hs a j (by omega))), h.2.2.2.2.1.congr (fun i _ => hs 7 i (by omega)) (fun i _ _ => edE_of (fun a j _ _ => hs a j (by omega))), h.2.2.2.2.2.congr (fun i _ => by unfold suH; rw [h2]) (fun i _ _ => suE_of (fun a j _ _ => hs a j (by omega)))⟩
theorem RG.ag {S S' : MS} {G : Nat → Nat} {T : CT} {e : CE} (h : RG S G T e) (ha : AG S' S) (hB : BD S') : RG S' G T e := by
  have hs : ∀ a j, a < 18 ∨ 20 < a → S' a j = S a j := fun a j q => ha.at q
  refine h.row hB (AG.iv ha.symm h.hI) ?_ (fun a j q => hs a j (by omega)) (hs 21 2 (by omega))
  exact ⟨fun i hi => by rw [hs _ _ (by omega)]; exact h.t0 hi, fun i hi => by rw [hs _ _ (by omega)]; exact h.t1 hi, fun i hi => by rw [hs _ _ (by omega)]; exact h.t2 hi, fun i hi => by rw [hs _ _ (by omega)]; exact h.t3 hi, by rw [hs _ _ (by omega)]; exact h.room, by rw [hs _ _ (by omega)]; exact h.month, by rw [hs _ _ (by omega)]; exact h.len, by rw [hs _ _ (by omega)]; exact h.cnt⟩
section
variable {S : MS} {T : CT}
theorem uu {k i v k' : Nat} {j : Nat} (h : T k' j = nI (S k j)) : uI T k' i (nI v) k' j = nI (uM S k i v k j) := by
  by_cases q : j = i
  · subst q
    rw [uI_eq, uM_eq]
  · rw [uI_ni q, uM_ni q, h]
theorem rows_11 (h : rowsT S T) {i v : Nat} : rowsT (uM S 11 i v) (uI T 0 i (nI v)) := by
  obtain ⟨a0, a1, a2, a3, b0, b1, b2, b3⟩ := h
  refine ⟨fun j hj => uu (a0 j hj), fun j hj => ?_, fun j hj => ?_, fun j hj => ?_, ?_, ?_, ?_, ?_⟩ <;> rw [uI_nk (by omega), uM_nk (by omega)]
  · exact a1 j hj
  · exact a2 j hj
  · exact a3 j hj
  · exact b0
  · exact b1
  · exact b2
  · exact b3
theorem rows_12 (h : rowsT S T) {i v : Nat} : rowsT (uM S 12 i v) (uI T 1 i (nI v)) := by
  obtain ⟨a0, a1, a2, a3, b0, b1, b2, b3⟩ := h
  refine ⟨fun j hj => ?_, fun j hj => uu (a1 j hj), fun j hj => ?_, fun j hj => ?_, ?_, ?_, ?_, ?_⟩ <;> rw [uI_nk (by omega), uM_nk (by omega)]
  · exact a0 j hj
  · exact a2 j hj
  · exact a3 j hj
  · exact b0
  · exact b1
  · exact b2
  · exact b3
theorem rows_16 (h : rowsT S T) {i v : Nat} : rowsT (uM S 16 i v) (uI T 2 i (nI v)) := by
  obtain ⟨a0, a1, a2, a3, b0, b1, b2, b3⟩ := h
  refine ⟨fun j hj => ?_, fun j hj => ?_, fun j hj => uu (a2 j hj), fun j hj => ?_, ?_, ?_, ?_, ?_⟩ <;> rw [uI_nk (by omega), uM_nk (by omega)]
  · exact a0 j hj
  · exact a1 j hj
  · exact a3 j hj
  · exact b0
  · exact b1
  · exact b2
  · exact b3
theorem rows_17 (h : rowsT S T) {i v : Nat} : rowsT (uM S 17 i v) (uI T 3 i (nI v)) := by
  obtain ⟨a0, a1, a2, a3, b0, b1, b2, b3⟩ := h
  refine ⟨fun j hj => ?_, fun j hj => ?_, fun j hj => ?_, fun j hj => uu (a3 j hj), ?_, ?_, ?_, ?_⟩ <;> rw [uI_nk (by omega), uM_nk (by omega)]
  · exact a0 j hj
  · exact a1 j hj
  · exact a2 j hj
  · exact b0
  · exact b1
  · exact b2
  · exact b3
theorem rows_21 (h : rowsT S T) {i i' v : Nat} (hi : (i = 1 ∧ i' = 0) ∨ (i = 0 ∧ i' = 1) ∨ (i = 3 ∧ i' = 2) ∨ (i = 2 ∧ i' = 3)) : rowsT (uM S 21 i v) (uI T 10 i' (nI v)) := by
  obtain ⟨a0, a1, a2, a3, b0, b1, b2, b3⟩ := h
  refine ⟨fun j hj => ?_, fun j hj => ?_, fun j hj => ?_, fun j hj => ?_, ?_, ?_, ?_, ?_⟩
  · rw [uI_nk (by omega), uM_nk (by omega)]; exact a0 j hj
  · rw [uI_nk (by omega), uM_nk (by omega)]; exact a1 j hj
  · rw [uI_nk (by omega), uM_nk (by omega)]; exact a2 j hj
  · rw [uI_nk (by omega), uM_nk (by omega)]; exact a3 j hj
  all_goals
    rcases hi with ⟨rfl, rfl⟩ | ⟨rfl, rfl⟩ | ⟨rfl, rfl⟩ | ⟨rfl, rfl⟩
    all_goals first
      | (rw [uI_eq, uM_eq]; done)
      | (rw [uI_ni (by omega), uM_ni (by omega)]; assumption)
end
theorem wl {y : Int32} {lo hi : Nat} (h : y < nI lo) : withinI y (nI lo) (nI hi) = false := by
  unfold withinI
  rw [decide_eq_false (i_lt_n h), Bool.false_and]
theorem wh {y : Int32} {lo hi : Nat} (h : ¬ y ≤ nI hi) : withinI y (nI lo) (nI hi) = false := by
  unfold withinI
  rw [decide_eq_false h, Bool.and_false]
theorem wl0 {y : Int32} {hi : Nat} (h : y < 0) : withinI y (nI 0) (nI hi) = false := wl (by rw [nI_0]; exact h)

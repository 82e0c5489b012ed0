/-! changes of children and educators, side by side -/
theorem chE_0 {S : MS} {i v c : Nat} : chE (uM S 0 i v) c = chE S c := by
  unfold chE
  rw [uM_nk (by omega), uM_nk (by omega), uM_nk (by omega), uM_nk (by omega), spP_uM (by decide) (by decide)]
theorem edE_7 {S : MS} {i v c : Nat} : edE (uM S 7 i v) c = edE S c := by
  unfold edE
  rw [spP_uM (by decide) (by decide), hoP_uM (by decide)]
theorem rowsT.off {S S' : MS} {T : CT} (h : rowsT S T) (ho : ∀ k j, k = 11 ∨ k = 12 ∨ k = 16 ∨ k = 17 ∨ k = 21 → S' k j = S k j) : rowsT S' T := by
  obtain ⟨a0, a1, a2, a3, b0, b1, b2, b3⟩ := h
  refine ⟨fun i hi => ?_, fun i hi => ?_, fun i hi => ?_, fun i hi => ?_, ?_, ?_, ?_, ?_⟩ <;> rw [ho _ _ (by omega)]
  · exact a0 i hi
  · exact a1 i hi
  · exact a2 i hi
  · exact a3 i hi
  · exact b0
  · exact b1
  · exact b2
  · exact b3
theorem suH_of {S S' : MS} (h : S' 21 2 = S 21 2) (j : Nat) : suH S' j = suH S j := by unfold suH; rw [h]
section
variable {S : MS} {G : Nat → Nat} {T : CT} {e : CE}
theorem RG.rmC {c : Nat} (h : RG S G T e) : RG (uM S 0 c 0) G T (wR e 0 c none) :=
  ⟨BD_u h.hB (by omega), IV_rmC h.hI, h.2.2.1.off (fun k j hk => uM_nk (by omega)), (h.2.2.2.1.rm (h' := uM S 0 c 0 0) (uM_eq _ _ _ _) (fun j _ hj => uM_ni hj)).congr (fun _ _ => rfl) (fun _ _ _ => chE_0), (h.2.2.2.2.1.other (by decide)).congr (fun i _ => uM_nk (by omega)) (fun i _ _ => edE_of (fun a j _ _ => uM_nk (by omega))), (h.2.2.2.2.2.other (by decide)).congr (fun i _ => suH_of (uM_nk (by omega)) i) (fun i _ _ => suE_of (fun a j _ _ => uM_nk (by omega)))⟩
theorem RG.rmE {c : Nat} (h : RG S G T e) : RG (uM S 7 c 0) G T (wR e 1 c none) :=
  ⟨BD_u h.hB (by omega), IV_rmE h.hI, h.2.2.1.off (fun k j hk => uM_nk (by omega)), (h.2.2.2.1.other (by decide)).congr (fun i _ => uM_nk (by omega)) (fun i _ _ => chE_of (fun a j _ => uM_nk (by omega))), (h.2.2.2.2.1.rm (h' := uM S 7 c 0 7) (uM_eq _ _ _ _) (fun j _ hj => uM_ni hj)).congr (fun _ _ => rfl) (fun _ _ _ => edE_7), (h.2.2.2.2.2.other (by decide)).congr (fun i _ => suH_of (uM_nk (by omega)) i) (fun i _ _ => suE_of (fun a j _ _ => uM_nk (by omega)))⟩
theorem RG.educ {S' : MS} {c a : Nat} (h : RG S G T e) (hc : c < 8) (ha : eR e 1 c = some a) (h1 : S 7 c = 1) (hB : BD S') (hI : IV S') (ho : ∀ k j, (k < 8 ∨ 10 < k) → S' k j = S k j) (h8 : ∀ k j, k = 8 ∨ k = 9 → j / 5 ≠ c → S' k j = S k j) (h10 : ∀ j, j / 52 ≠ c → S' 10 j = S 10 j) : RG S' G T (wP e a (edE S' c)) := by
  refine h.setE hc ha h1 hB hI (h.2.2.1.off (fun k j hk => ho k j (by omega))) (fun j => ho 0 j (by omega)) (fun j hj => chE_of (fun k i _ => ho k i (by omega))) (fun j => ho 7 j (by omega)) (fun j hj hjc => ?_) (fun j => suH_of (ho 21 2 (by omega)) j) (fun j _ => suE_of (fun k i _ _ => ho k i (by omega)))
  unfold edE
  rw [msk_congr (q := spP S 8 j) (n := 50) (fun q hq => by
      unfold spP
      rw [h8 8 (5 * j + q / 10) (by omega) (by omega), h8 9 (5 * j + q / 10) (by omega) (by omega)]), msk_congr (q := hoP S j) (n := 52) (fun q hq => by
      unfold hoP
      rw [h10 (52 * j + q) (by omega)])]
theorem chE_st {c : Nat} (h0 : S 0 c = 1) : chE (stepM S c) c = chE (growS S c) c := by
  unfold stepM
  rw [if_pos h0, chE_0]
  rfl
theorem st_off {c : Nat} : ∀ k j, k ≠ 0 → k ≠ 1 → k ≠ 4 → stepM S c k j = S k j := by
  intro k j h0 h1 h4
  unfold stepM
  split
  · rw [uM_nk h0, uM_nk h4, uM_nk h1]
  · rfl
theorem st_ni {c : Nat} : ∀ k j, j ≠ c → stepM S c k j = S k j := by
  intro k j h
  unfold stepM
  split
  · rw [uM_ni h, uM_ni h, uM_ni h]
  · rfl
theorem st_0 {c : Nat} (h0 : S 0 c = 1) : stepM S c 0 c = if S 1 c + 1 = 78 then 0 else 1 := by
  unfold stepM
  rw [if_pos h0, uM_eq]
theorem BD_st {c : Nat} (hB : BD S) (hI : IV S) (hc : c < 24) : BD (stepM S c) := by
  have h8 := hI.2.2.2.2.2.2.2.1 c hc
  unfold stepM
  split
  · refine BD_u (BD_u (BD_u hB (by omega)) ?_) ?_
    · split <;> omega
    · split <;> omega
  · exact hB
theorem RG.keep {c a : Nat} (h : RG S G T e) (hc : c < 24) (ha : eR e 0 c = some a) (h0 : S 0 c = 1) (h78 : S 1 c + 1 ≠ 78) : RG (stepM S c) G T (wP e a (chE (growS S c) c)) := by
  rw [← chE_st h0]
  refine h.child hc ha h0 (BD_st h.hB h.hI hc) (IV_step h.hI hc) (fun k j hk => ?_) (fun k j hk hj => st_ni k j hj) (fun k j hk hj => st_off k j (by omega) (by omega) (by omega))
  by_cases hk0 : k = 0
  · subst hk0
    by_cases hj : j = c
    · subst hj
      rw [st_0 h0, if_neg h78, h0]
    · exact st_ni 0 j hj
  · exact st_off k j hk0 (by omega) (by omega)
theorem RG.drop {c a : Nat} (h : RG S G T e) (hc : c < 24) (ha : eR e 0 c = some a) (h0 : S 0 c = 1) (h78 : S 1 c + 1 = 78) : RG (stepM S c) G T (wR (wP e a (chE (growS S c) c)) 0 c none) := by
  have hcl : clsE (eP e a) = some 0 := by
    rcases h.ch hc with ⟨_, b, q1, _, q3⟩ | ⟨q, _⟩
    · rw [← Option.some.inj (q1.symm.trans ha), q3]; rfl
    · omega
  refine ⟨BD_st h.hB h.hI hc, IV_step h.hI hc, h.2.2.1.off (fun k j hk => st_off k j (by omega) (by omega) (by omega)), ?_, ?_, ?_⟩
  · refine (((h.2.2.2.1.set (f' := chE (stepM S c)) hc ha (chE_st h0) (fun j hj hjc => ?_)).rm (h' := stepM S c 0) ?_ (fun j _ hj => st_ni 0 j hj)))
    · unfold chE
      rw [st_ni 2 j hjc, st_ni 1 j hjc, st_ni 4 j hjc, st_ni 3 j hjc, show spP (stepM S c) 5 j = spP S 5 j from funext fun q => by unfold spP; rw [st_off 5 _ (by omega) (by omega) (by omega), st_off 6 _ (by omega) (by omega) (by omega)]]
    · rw [st_0 h0, if_pos h78]
  · exact ((h.2.2.2.2.1.off (cls_ed S) (by rw [hcl]; decide)).other (by decide)).congr (fun i _ => st_off 7 i (by omega) (by omega) (by omega)) (fun i _ _ => edE_of (fun k j _ _ => st_off k j (by omega) (by omega) (by omega)))
  · exact ((h.2.2.2.2.2.off (fun j => cls_su S j (G j)) (by rw [hcl]; decide)).other (by decide)).congr (fun i _ => suH_of (st_off 21 2 (by omega) (by omega) (by omega)) i) (fun i _ _ => suE_of (fun k j _ _ => st_off k j (by omega) (by omega) (by omega)))
end
theorem can_is (S : MS) {c d b e : Nat} (hd : d < 5) (hb : b ≤ e) (he : e ≤ 10) : canHaveB S c d b e = andN (fun q => !((spP S 5 c q && !dyP d 0 10 q || dyP d b e q) && !spP S 5 c q) || sfB S c q) 50 := by
  unfold canHaveB
  apply Bool.eq_iff_iff.mpr
  rw [andN_iff, andN_iff]
  constructor
  · intro h q hq
    by_cases hy : dyP d b e q = true
    · have hy2 := hy
      unfold dyP at hy2
      simp only [Bool.and_eq_true, decide_eq_true_eq] at hy2
      have h2 := h (q % 10 - b) (by omega)
      rw [show b + (q % 10 - b) = q % 10 by omega] at h2
      unfold hvB at h2
      rw [← hy2.1, bkd_sp] at h2
      show (!((spP S 5 c q && !dyP d 0 10 q || dyP d b e q) && !spP S 5 c q) || sfB S c q) = true
      unfold sfB
      rw [hy]
      cases hs : spP S 5 c q
      · rw [hs, Bool.false_or] at h2
        rw [h2]
        simp
      · simp
    · have hy2 : dyP d b e q = false := by simpa using hy
      show (!((spP S 5 c q && !dyP d 0 10 q || dyP d b e q) && !spP S 5 c q) || sfB S c q) = true
      rw [hy2]
      cases spP S 5 c q <;> simp
  · intro h k hk
    have h2 := h (10 * d + (b + k)) (by omega)
    have e1 : (10 * d + (b + k)) / 10 = d := by omega
    have e2 : (10 * d + (b + k)) % 10 = b + k := by omega
    have hy : dyP d b e (10 * d + (b + k)) = true := by
      unfold dyP
      rw [e1, e2, decide_eq_true rfl, decide_eq_true (by omega), decide_eq_true (by omega)]
      rfl
    rw [hy, Bool.or_true, Bool.true_and, Bool.not_not] at h2
    unfold sfB at h2
    rw [e1, e2] at h2
    unfold hvB
    rw [← spP_bk S c d (b + k) (by omega)]
    exact h2

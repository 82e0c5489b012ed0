/-! the text, read side by side -/
def rdB (V : MS) (q : Nat) : Bool := decide (V 18 (q / 10) ≤ q % 10) && decide (q % 10 < V 19 (q / 10))
def RD1 (S : MS) (f p l : Nat) (V : MS) (bk : Int64) : Prop := l ≤ 5 ∧ S 21 3 + 4 ≤ p + 4 * f ∧ p % 4 = 0 ∧ rdI S 16 0 0 = rdI S f p l ∧ rdZ S = rdT S f p l V ∧ bk = msk (rdB V) 50 ∧ spOk V ∧ ∀ j, l ≤ j → j < 5 → V 18 j = 0 ∧ V 19 j = 0
def RDS (S : MS) (i : Nat) (dy bg en : Int32) (bk : Int64) : Prop := ∃ (f p l : Nat) (V : MS), RD1 S f p l V bk ∧ ((i = p ∧ dy + nI 1 = nI l) ∨ (i = p + 1 ∧ okD S l p = true ∧ dy = nI (dyN S p)) ∨ (i = p + 2 ∧ okD S l p = true ∧ okB S (p + 1) = true ∧ dy = nI (dyN S p) ∧ bg = nI (ltN S (p + 1))) ∨ (i = p + 3 ∧ okD S l p = true ∧ okB S (p + 1) = true ∧ okE S (ltN S (p + 1)) (p + 2) = true ∧ dy = nI (dyN S p) ∧ bg = nI (ltN S (p + 1)) ∧ en = nI (ltN S (p + 2))))
theorem RDS.r0 {S : MS} {i : Nat} {dy bg en : Int32} {bk : Int64} (h : RDS S i dy bg en bk) (q : i % 4 = 0) : ∃ f l V, RD1 S f i l V bk ∧ dy + nI 1 = nI l := by
  obtain ⟨f, p, l, V, h1, h2 | h2 | h2 | h2⟩ := h
  · obtain ⟨rfl, h3⟩ := h2
    exact ⟨f, l, V, h1, h3⟩
  · have := h1.2.2.1; omega
  · have := h1.2.2.1; omega
  · have := h1.2.2.1; omega
theorem RDS.r1 {S : MS} {i : Nat} {dy bg en : Int32} {bk : Int64} (h : RDS S i dy bg en bk) (q : i % 4 = 1) : ∃ f p l V, RD1 S f p l V bk ∧ i = p + 1 ∧ okD S l p = true ∧ dy = nI (dyN S p) := by
  obtain ⟨f, p, l, V, h1, h2 | h2 | h2 | h2⟩ := h
  · have := h1.2.2.1; omega
  · exact ⟨f, p, l, V, h1, h2⟩
  · have := h1.2.2.1; omega
  · have := h1.2.2.1; omega
theorem RDS.r2 {S : MS} {i : Nat} {dy bg en : Int32} {bk : Int64} (h : RDS S i dy bg en bk) (q : i % 4 = 2) : ∃ f p l V, RD1 S f p l V bk ∧ i = p + 2 ∧ okD S l p = true ∧ okB S (p + 1) = true ∧ dy = nI (dyN S p) ∧ bg = nI (ltN S (p + 1)) := by
  obtain ⟨f, p, l, V, h1, h2 | h2 | h2 | h2⟩ := h
  · have := h1.2.2.1; omega
  · have := h1.2.2.1; omega
  · exact ⟨f, p, l, V, h1, h2⟩
  · have := h1.2.2.1; omega
theorem RDS.r3 {S : MS} {i : Nat} {dy bg en : Int32} {bk : Int64} (h : RDS S i dy bg en bk) (q : i % 4 = 3) : ∃ f p l V, RD1 S f p l V bk ∧ i = p + 3 ∧ okD S l p = true ∧ okB S (p + 1) = true ∧ okE S (ltN S (p + 1)) (p + 2) = true ∧ dy = nI (dyN S p) ∧ bg = nI (ltN S (p + 1)) ∧ en = nI (ltN S (p + 2)) := by
  obtain ⟨f, p, l, V, h1, h2 | h2 | h2 | h2⟩ := h
  · have := h1.2.2.1; omega
  · have := h1.2.2.1; omega
  · have := h1.2.2.1; omega
  · exact ⟨f, p, l, V, h1, h2⟩
theorem zR_at (S : MS) : ∀ n j, j < n → itS zR S n 18 j = 0 ∧ itS zR S n 19 j = 0
  | 0, j, h => absurd h (Nat.not_lt_zero _)
  | n + 1, j, h => by
    show zR (itS zR S n) n 18 j = 0 ∧ zR (itS zR S n) n 19 j = 0
    unfold zR
    by_cases q : j = n
    · subst q
      exact ⟨by rw [uM_nk (by omega), uM_eq], uM_eq _ _ _ _⟩
    · have := zR_at S n j (by omega)
      exact ⟨by rw [uM_nk (by omega), uM_ni q]; exact this.1, by rw [uM_ni q, uM_nk (by omega)]; exact this.2⟩
theorem RDS.start {S : MS} (hI : IV S) {bg en : Int32} : RDS S 0 (-1) bg en (lN 0) := by
  have hz := zR_at S 5
  refine ⟨16, 0, 0, itS zR S 5, ⟨by omega, by have := hI.2.2.2.2.2.2.2.2.2.2.2; omega, rfl, rfl, rfl, ?_, fun d hd => by have := hz d hd; omega, fun j _ hj => hz j hj⟩, Or.inl ⟨rfl, by decide⟩⟩
  have e : msk (rdB (itS zR S 5)) 50 = msk (fun _ => false) 50 := msk_congr (fun q hq => by
    unfold rdB
    rw [(hz (q / 10) (by omega)).1, (hz (q / 10) (by omega)).2, decide_eq_false (Nat.not_lt_zero _), Bool.and_false])
  rw [e]
  decide
theorem rd_lo {dy : Int32} {l : Nat} (h : dy + nI 1 = nI l) : nI 48 + dy = nI (47 + l) := by
  rw [← nI_add, ← h, Int32.add_comm dy (nI 1), ← Int32.add_assoc, show nI 47 + nI 1 = nI 48 from by decide]
theorem rd_f {S : MS} {f p l : Nat} {V : MS} {bk : Int64} (h : RD1 S f p l V bk) (hp : p < S 21 3) : ∃ g, f = g + 1 := ⟨f - 1, by have := h.2.1; omega⟩
theorem rd_bad0 {S : MS} {f p l : Nat} {V : MS} {bk : Int64} (h : RD1 S f p l V bk) (hp : p < S 21 3) (h1 : okD S l p = false) : rdI S 16 0 0 = nI p := by
  obtain ⟨g, rfl⟩ := rd_f h hp
  rw [h.2.2.2.1, rdI_s, if_pos hp, h1]
  rfl
theorem rd_bad1 {S : MS} {f p l : Nat} {V : MS} {bk : Int64} (h : RD1 S f p l V bk) (h1 : okD S l p = true) (h2 : okB S (p + 1) = false) : rdI S 16 0 0 = nI (p + 1) := by
  obtain ⟨g, rfl⟩ := rd_f h (ok_of h1).1
  rw [h.2.2.2.1, rdI_s, if_pos (ok_of h1).1, h1, h2]
  rfl
theorem rd_bad2 {S : MS} {f p l : Nat} {V : MS} {bk : Int64} (h : RD1 S f p l V bk) (h1 : okD S l p = true) (h2 : okB S (p + 1) = true) (h3 : okE S (ltN S (p + 1)) (p + 2) = false) : rdI S 16 0 0 = nI (p + 2) := by
  obtain ⟨g, rfl⟩ := rd_f h (ok_of h1).1
  rw [h.2.2.2.1, rdI_s, if_pos (ok_of h1).1, h1, h2, h3]
  rfl
theorem rd_bad3 {S : MS} {f p l : Nat} {V : MS} {bk : Int64} (h : RD1 S f p l V bk) (h1 : okD S l p = true) (h2 : okB S (p + 1) = true) (h3 : okE S (ltN S (p + 1)) (p + 2) = true) (h4 : okS S (p + 3) = false) : rdI S 16 0 0 = nI (p + 3) := by
  obtain ⟨g, rfl⟩ := rd_f h (ok_of h1).1
  rw [h.2.2.2.1, rdI_s, if_pos (ok_of h1).1, h1, h2, h3, h4]
  rfl
theorem ok_D {S : MS} {l p : Nat} (h : p < S 21 3) (h1 : 48 + l ≤ S 17 p) (h2 : S 17 p ≤ 52) : okD S l p = true := by
  unfold okD
  rw [decide_eq_true h, decide_eq_true h1, decide_eq_true h2]
  rfl
theorem no_D {S : MS} {l p : Nat} (h1 : S 17 p < 48 + l ∨ 52 < S 17 p) : okD S l p = false := by
  unfold okD
  rcases h1 with q | q
  · rw [decide_eq_false (show ¬ 48 + l ≤ S 17 p by omega), Bool.false_and, Bool.and_false]
  · rw [decide_eq_false (show ¬ S 17 p ≤ 52 by omega), Bool.and_false, Bool.and_false]
theorem ok_B {S : MS} {p : Nat} (h : p < S 21 3) (h1 : 97 ≤ S 17 p) (h2 : S 17 p ≤ 106) : okB S p = true := by
  unfold okB
  rw [decide_eq_true h, decide_eq_true h1, decide_eq_true h2]
  rfl
theorem no_B {S : MS} {p : Nat} (h1 : ¬ p < S 21 3 ∨ S 17 p < 97 ∨ 106 < S 17 p) : okB S p = false := by
  unfold okB
  rcases h1 with q | q | q
  · rw [decide_eq_false q, Bool.false_and]
  · rw [decide_eq_false (show ¬ 97 ≤ S 17 p by omega), Bool.false_and, Bool.and_false]
  · rw [decide_eq_false (show ¬ S 17 p ≤ 106 by omega), Bool.and_false, Bool.and_false]
theorem ok_E {S : MS} {b p : Nat} (h : p < S 21 3) (h1 : 98 + b ≤ S 17 p) (h2 : S 17 p ≤ 107) : okE S b p = true := by
  unfold okE
  rw [decide_eq_true h, decide_eq_true h1, decide_eq_true h2]
  rfl
theorem no_E {S : MS} {b p : Nat} (h1 : ¬ p < S 21 3 ∨ S 17 p < 98 + b ∨ 107 < S 17 p) : okE S b p = false := by
  unfold okE
  rcases h1 with q | q | q
  · rw [decide_eq_false q, Bool.false_and]
  · rw [decide_eq_false (show ¬ 98 + b ≤ S 17 p by omega), Bool.false_and, Bool.and_false]
  · rw [decide_eq_false (show ¬ S 17 p ≤ 107 by omega), Bool.and_false, Bool.and_false]
theorem ok_S {S : MS} {p : Nat} (h : p < S 21 3) (h1 : S 17 p = 59) : okS S p = true := by
  unfold okS
  rw [decide_eq_true h, decide_eq_true h1]
  rfl
theorem no_S {S : MS} {p : Nat} (h1 : ¬ p < S 21 3 ∨ S 17 p ≠ 59) : okS S p = false := by
  unfold okS
  rcases h1 with q | q
  · rw [decide_eq_false q, Bool.false_and]
  · rw [decide_eq_false q, Bool.and_false]
theorem RD1.next {S : MS} {f p l : Nat} {V : MS} {bk : Int64} (h : RD1 S f p l V bk) (h1 : okD S l p = true) (h2 : okB S (p + 1) = true) (h3 : okE S (ltN S (p + 1)) (p + 2) = true) (h4 : okS S (p + 3) = true) {bg en : Int32} : RDS S (p + 4) (nI (dyN S p)) bg en (bk ||| msk (dyP (dyN S p) (ltN S (p + 1)) (ltN S (p + 2))) 50) := by
  have q1 := ok_of h1
  have q2 := okB_of h2
  have q3 := okE_of h3
  have hd : dyN S p < 5 := by unfold dyN; omega
  have hld : l ≤ dyN S p := by unfold dyN; omega
  have hbe : ltN S (p + 1) ≤ ltN S (p + 2) := by
    have h5 : 98 + (S 17 (p + 1) - 97) ≤ S 17 (p + 2) := q3.2.1
    unfold ltN; omega
  have he : ltN S (p + 2) ≤ 10 := by unfold ltN; omega
  obtain ⟨g, rfl⟩ := rd_f h q1.1
  obtain ⟨a1, a2, a3, a4, a5, a6, a7, a8⟩ := h
  refine ⟨g, p + 4, dyN S p + 1, uM (uM V 18 (dyN S p) (ltN S (p + 1))) 19 (dyN S p) (ltN S (p + 2)), ⟨by omega, by omega, by omega, ?_, ?_, ?_, spOk_u a7 hbe he, fun j hj hj5 => ?_⟩, Or.inl ⟨rfl, nI_add _ _⟩⟩
  · rw [a4, rdI_s, if_pos q1.1, h1, h2, h3, h4]
    rfl
  · rw [a5, rdT_s, if_pos q1.1, h1, h2, h3, h4]
    rfl
  · rw [a6, msk_or (by decide)]
    refine msk_congr (fun q hq => ?_)
    unfold rdB dyP
    by_cases z : q / 10 = dyN S p
    · rw [z, uM_nk (by omega), uM_eq, uM_eq, decide_eq_true rfl, (a8 _ hld hd).1, (a8 _ hld hd).2, decide_eq_false (Nat.not_lt_zero _), Bool.and_false, Bool.false_or, Bool.true_and]
    · rw [uM_nk (by omega), uM_ni z, uM_ni z, uM_nk (by omega), decide_eq_false z, Bool.false_and, Bool.or_false]
  · rw [uM_nk (by omega), uM_ni (by omega), uM_ni (by omega), uM_nk (by omega)]
    exact a8 j (by omega) hj5
def RDE (S : MS) (r : Int32) (bk : Int64) : Prop := (rdI S 16 0 0 = -9 ∧ r = -1 ∧ bk = msk (rdB (rdZ S)) 50 ∧ spOk (rdZ S)) ∨ ∃ i, i < 65 ∧ rdI S 16 0 0 = nI i ∧ r = nI i
theorem RDS.end0 {S : MS} {i : Nat} {dy bg en : Int32} {bk : Int64} (h : RDS S i dy bg en bk) (hi : i = S 21 3) (q : i % 4 = 0) : RDE S (-1) bk := by
  obtain ⟨f, l, V, h1, _⟩ := h.r0 q
  obtain ⟨a1, a2, a3, a4, a5, a6, a7, a8⟩ := h1
  have e1 : rdI S f i l = -9 := by
    cases f with
    | zero => rfl
    | succ f => rw [rdI_s, if_neg (by omega)]
  have e2 : rdT S f i l V = V := by
    cases f with
    | zero => rfl
    | succ f => rw [rdT_s, if_neg (by omega)]
  refine Or.inl ⟨a4.trans e1, rfl, ?_, ?_⟩
  · rw [a5, e2]; exact a6
  · rw [a5, e2]; exact a7
theorem RDS.end1 {S : MS} {i : Nat} {dy bg en : Int32} {bk : Int64} (h : RDS S i dy bg en bk) (hI : IV S) (hi : i = S 21 3) (q : i % 4 ≠ 0) : RDE S (nI i) bk := by
  have hl := hI.2.2.2.2.2.2.2.2.2.2.2
  refine Or.inr ⟨i, by omega, ?_, rfl⟩
  rcases (show i % 4 = 1 ∨ i % 4 = 2 ∨ i % 4 = 3 by omega) with z | z | z
  · obtain ⟨f, p, l, V, h1, rfl, h2, _⟩ := h.r1 z
    exact rd_bad1 h1 h2 (no_B (Or.inl (by omega)))
  · obtain ⟨f, p, l, V, h1, rfl, h2, h3, _⟩ := h.r2 z
    exact rd_bad2 h1 h2 h3 (no_E (Or.inl (by omega)))
  · obtain ⟨f, p, l, V, h1, rfl, h2, h3, h4, _⟩ := h.r3 z
    exact rd_bad3 h1 h2 h3 h4 (no_S (Or.inl (by omega)))
theorem i2c_n : ∀ k, k < 127 → ((nI k).toUInt32 % 65536).toInt32 = nI k := by decide
theorem nar_n : ∀ k, k < 127 → vp_nar .char (nI k) = nI k := by decide
/-- bookings loaded -/
theorem can5 {S : MS} {c : Nat} {B : MS} (hB : spOk B) : andN (fun d => canHaveB S c d (B 18 d) (B 19 d)) 5 = andN (fun q => !(rdB B q && !spP S 5 c q) || sfB S c q) 50 := by
  apply Bool.eq_iff_iff.mpr
  rw [andN_iff, andN_iff]
  constructor
  · intro h q hq
    show (!(rdB B q && !spP S 5 c q) || sfB S c q) = true
    by_cases hy : rdB B q = true
    · have hy2 := hy
      unfold rdB at hy2
      simp only [Bool.and_eq_true, decide_eq_true_eq] at hy2
      have h2 := andN_iff.mp (h (q / 10) (by omega)) (q % 10 - B 18 (q / 10)) (by omega)
      rw [show B 18 (q / 10) + (q % 10 - B 18 (q / 10)) = q % 10 by omega] at h2
      unfold hvB at h2
      rw [bkd_sp] at h2
      unfold sfB
      rw [hy]
      cases hs : spP S 5 c q
      · rw [hs, Bool.false_or] at h2
        rw [h2]
        rfl
      · rfl
    · have hy2 : rdB B q = false := by simpa using hy
      rw [hy2]
      rfl
  · intro h d hd
    refine andN_iff.mpr (fun k hk => ?_)
    have hb := hB d hd
    have h2 := h (10 * d + (B 18 d + k)) (by omega)
    have e1 : (10 * d + (B 18 d + k)) / 10 = d := by omega
    have e2 : (10 * d + (B 18 d + k)) % 10 = B 18 d + k := by omega
    have hy : rdB B (10 * d + (B 18 d + k)) = true := by
      unfold rdB
      rw [e1, e2, decide_eq_true (by omega), decide_eq_true (by omega)]
      rfl
    rw [hy, Bool.true_and, Bool.not_not] at h2
    unfold sfB at h2
    rw [e1, e2] at h2
    show hvB S c d (B 18 d + k) = true
    unfold hvB
    rw [← spP_bk S c d (B 18 d + k) (by omega)]
    exact h2
def spF (c : Nat) (B : MS) (T : MS) (d : Nat) : MS := uM (uM T 5 (5 * c + d) (B 18 d)) 6 (5 * c + d) (B 19 d)
theorem spT_is (S : MS) (c : Nat) (B : MS) : spT S c B = itS (spF c B) S 5 := rfl
theorem spF_at {S : MS} {c : Nat} {B : MS} : ∀ n d, d < n → itS (spF c B) S n 5 (5 * c + d) = B 18 d ∧ itS (spF c B) S n 6 (5 * c + d) = B 19 d
  | 0, d, h => absurd h (Nat.not_lt_zero _)
  | n + 1, d, h => by
    show spF c B (itS (spF c B) S n) n 5 (5 * c + d) = _ ∧ spF c B (itS (spF c B) S n) n 6 (5 * c + d) = _
    unfold spF
    by_cases q : d = n
    · subst q
      exact ⟨by rw [uM_nk (by omega), uM_eq], uM_eq _ _ _ _⟩
    · have := spF_at (S := S) (c := c) (B := B) n d (by omega)
      exact ⟨by rw [uM_nk (by omega), uM_ni (by omega)]; exact this.1, by rw [uM_ni (by omega), uM_nk (by omega)]; exact this.2⟩
theorem spF_nk {S : MS} {c : Nat} {B : MS} {n k j : Nat} (h5 : k ≠ 5) (h6 : k ≠ 6) : itS (spF c B) S n k j = S k j := it_nk (fun T d => by unfold spF; rw [uM_nk h6, uM_nk h5]) n
theorem spF_no {S : MS} {c : Nat} {B : MS} {k j : Nat} (h : j / 5 ≠ c) : ∀ n, n ≤ 5 → itS (spF c B) S n k j = S k j
  | 0, _ => rfl
  | n + 1, hn => by
    show spF c B (itS (spF c B) S n) n k j = _
    unfold spF
    rw [uM_ni (by omega), uM_ni (by omega)]
    exact spF_no h n (by omega)
theorem spF_ok {S : MS} {c : Nat} {B : MS} (hB : BD S) (hI : IV S) (hs : spOk B) : ∀ n, n ≤ 5 → BD (itS (spF c B) S n) ∧ IV (itS (spF c B) S n)
  | 0, _ => ⟨hB, hI⟩
  | n + 1, hn => by
    have ih := spF_ok (c := c) hB hI hs n (by omega)
    have h := hs n (by omega)
    exact ⟨BD_u (BD_u ih.1 (by omega)) (by omega), IV_span ih.2 h.1 h.2⟩
theorem ld_no {S : MS} {c : Nat} (hs : spOk (rdZ S)) : ldNo S c = (decide (S 3 c = 1) && !andN (fun q => !(rdB (rdZ S) q && !spP S 5 c q) || sfB S c q) 50) := by
  unfold ldNo
  rw [can5 hs]

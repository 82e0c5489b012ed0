/-! the search for covers: its numbers -/
def uG (G : Nat → Nat) : Nat := G 0 + 6 * G 1 + 36 * G 2 + 216 * G 3
theorem uG_dig {G : Nat → Nat} (hG : ∀ k, k < 4 → G k ≤ 5) {k : Nat} (hk : k < 4) : uG G / pwN k % 6 = G k := by
  have h0 := hG 0 (by omega)
  have h1 := hG 1 (by omega)
  have h2 := hG 2 (by omega)
  have h3 := hG 3 (by omega)
  unfold uG
  rcases (show k = 0 ∨ k = 1 ∨ k = 2 ∨ k = 3 by omega) with rfl | rfl | rfl | rfl
  · rw [show pwN 0 = 1 from rfl]; omega
  · rw [show pwN 1 = 6 from rfl]; omega
  · rw [show pwN 2 = 36 from rfl]; omega
  · rw [show pwN 3 = 216 from rfl]; omega
def gU (G : Nat → Nat) (s k : Nat) : Nat := G k + bitN s k
theorem uG_add (G : Nat → Nat) (s : Nat) : uG (gU G s) = uG G + usN s := by
  have p0 : pwN 0 = 1 := rfl
  have p1 : pwN 1 = 6 := rfl
  have p2 : pwN 2 = 36 := rfl
  have p3 : pwN 3 = 216 := rfl
  show G 0 + bitN s 0 + 6 * (G 1 + bitN s 1) + 36 * (G 2 + bitN s 2) + 216 * (G 3 + bitN s 3) = _ + ((((0 + bitN s 0 * pwN 0) + bitN s 1 * pwN 1) + bitN s 2 * pwN 2) + bitN s 3 * pwN 3)
  rw [p0, p1, p2, p3]
  unfold uG
  omega
theorem su_t {S : MS} {i : Nat} (h : suH S i = 1) : i < S 21 2 := by
  unfold suH at h
  by_cases q : i < S 21 2
  · exact q
  · rw [decide_eq_false q] at h; exact absurd h (by decide)
theorem su_f {S : MS} {i : Nat} (h : suH S i = 0) : ¬ i < S 21 2 := fun q => by
  unfold suH at h
  rw [decide_eq_true q] at h
  exact absurd h (by decide)
theorem su_i {S : MS} {i : Nat} (h : i < S 21 2) : suH S i = 1 := by
  unfold suH
  rw [decide_eq_true h]
  rfl
theorem canK_is {S : MS} {G : Nat → Nat} (hG : ∀ k, k < 4 → G k ≤ 5) {s d k : Nat} (hk : k < 4) (hb : bitN s k = 1) (hs : k < S 21 2) : canK S s d (uG G) k = (decide (bitN (S 13 k) d = 1) && decide (G k < S 14 k)) := by
  unfold canK
  rw [uG_dig hG hk, decide_eq_false (fun q => q hb), decide_eq_true hs, Bool.true_and, Bool.false_or]
theorem canK_no {S : MS} {u s d k : Nat} (hb : ¬ bitN s k = 1) : canK S s d u k = true := by
  unfold canK
  rw [decide_eq_true hb, Bool.true_or]
theorem canK_su {S : MS} {u s d k : Nat} (hb : bitN s k = 1) (hs : ¬ k < S 21 2) : canK S s d u k = false := by
  unfold canK
  rw [decide_eq_false (fun q => q hb), decide_eq_false hs, Bool.false_and, Bool.false_and, Bool.false_or]
theorem sz_le (s : Nat) : szN s ≤ 4 := by
  have : szN s ≤ 4 * 1 := sm_le (fun k _ => bitN_le s k)
  omega
theorem giv_of {S : MS} {G : Nat → Nat} (hG : ∀ k, k < 4 → G k ≤ 5) (hI : IV S) {s d m : Nat} (h : givB S s d (uG G) m = true) : ∀ k, k < 4 → bitN s k = 1 → suH S k = 1 ∧ G k < 5 := by
  intro k hk hb
  unfold givB at h
  rw [Bool.and_eq_true] at h
  have h4 := andN_iff.mp h.1 k hk
  have h14 := (hI.2.2.2.2.2.2.2.2.1 k hk).2.1
  by_cases hs : k < S 21 2
  · rw [canK_is hG hk hb hs, Bool.and_eq_true, decide_eq_true_eq, decide_eq_true_eq] at h4
    exact ⟨su_i hs, by omega⟩
  · rw [canK_su hb hs] at h4
    exact absurd h4 (by decide)
theorem gU_le {S : MS} {G : Nat → Nat} (hG : ∀ k, k < 4 → G k ≤ 5) (hI : IV S) {s d m : Nat} (h : givB S s d (uG G) m = true) : ∀ k, k < 4 → gU G s k ≤ 5 := by
  intro k hk
  have hb := bitN_le s k
  have h5 := hG k hk
  unfold gU
  by_cases q : bitN s k = 1
  · have := (giv_of hG hI h k hk q).2
    omega
  · omega
/-- the days given, in part changed -/
def gm (G G' : Nat → Nat) (i k : Nat) : Nat := if k < i then G' k else G k
theorem gm_at (G G' : Nat → Nat) (i : Nat) : gm G G' i i = G i := if_neg (Nat.lt_irrefl i)
theorem gm_new (G G' : Nat → Nat) (i : Nat) : gm G G' (i + 1) i = G' i := if_pos (Nat.lt_succ_self i)
theorem gm_0 (G G' : Nat → Nat) (j : Nat) : gm G G' 0 j = G j := if_neg (Nat.not_lt_zero j)
theorem gm_4 (G G' : Nat → Nat) {j : Nat} (h : j < 4) : G' j = gm G G' 4 j := (if_pos h).symm
theorem gm_ne {G G' : Nat → Nat} {i j : Nat} (h : j ≠ i) : gm G G' (i + 1) j = gm G G' i j := by
  unfold gm
  by_cases q : j < i
  · rw [if_pos q, if_pos (by omega)]
  · rw [if_neg q, if_neg (by omega)]
theorem gm_skip {G G' : Nat → Nat} {i : Nat} (h : G' i = G i) (j : Nat) : gm G G' (i + 1) j = gm G G' i j := by
  by_cases q : j = i
  · subst q
    rw [gm_new, gm_at, h]
  · exact gm_ne q
theorem nI_dec (a : Nat) (ha : a < 16777216) : nI (a + 1) + (-1) = nI a := by
  apply Int32.toInt_inj.mp
  have h1 : nI a + nI 1 = nI (a + 1) := nI_add a 1
  rw [← h1]
  have : nI a + nI 1 + (-1) = nI a := by
    rw [Int32.add_assoc, show nI 1 + (-1) = (0 : Int32) from by decide, Int32.add_zero]
  rw [this]
theorem nI_inc (a : Nat) : nI a + nI 1 = nI (a + 1) := nI_add a 1
/-- the least costs with k days left from the day d on, when u is given; the sets that are chosen -/
def cv2 (S : MS) (sh : Nat → Nat) : Nat → Nat → Nat → Nat
  | 0, _, _ => 0
  | k + 1, d, u => lsN (fun s => if givB S s d u (sh d) then cstN S s + cv2 S sh k (d + 1) (u + usN s) else 1000000) 16
def cf (S : MS) (sh : Nat → Nat) (k d u s : Nat) : Nat := if givB S s d u (sh d) then cstN S s + cv2 S sh k (d + 1) (u + usN s) else 1000000
theorem cv2_s (S : MS) (sh : Nat → Nat) (k d u : Nat) : cv2 S sh (k + 1) d u = lsN (cf S sh k d u) 16 := rfl
/-- the first of the least -/
def am (f : Nat → Nat) : Nat → Nat
  | 0 => 0
  | n + 1 => if f n < lsN f n then n else am f n
theorem am_s (f : Nat → Nat) (n : Nat) : am f (n + 1) = if f n < lsN f n then n else am f n := rfl
def bsN (S : MS) (sh : Nat → Nat) : Nat → Nat → Nat → Nat → Nat
  | 0, _, _, _ => 0
  | k + 1, d, u, j => if j = d then am (cf S sh k d u) 16 else bsN S sh k (d + 1) (u + usN (am (cf S sh k d u) 16)) j
theorem ls_skip {f : Nat → Nat} {n : Nat} (h : lsN f n ≤ f n) : lsN f (n + 1) = lsN f n ∧ am f (n + 1) = am f n := by
  rw [lsN_s, am_s, if_neg (by omega), if_neg (by omega)]
  exact ⟨rfl, rfl⟩
theorem ls_take {f : Nat → Nat} {n : Nat} (h : f n < lsN f n) : lsN f (n + 1) = f n ∧ am f (n + 1) = n := by
  rw [lsN_s, am_s, if_pos h, if_pos h]
  exact ⟨rfl, rfl⟩
theorem ls_end {f : Nat → Nat} {p : Nat} (h : ∀ i, p ≤ i → f i = 1000000) : ∀ n, lsN f (p + n) = lsN f p ∧ am f (p + n) = am f p
  | 0 => ⟨rfl, rfl⟩
  | n + 1 => by
    have ih := ls_end h n
    have hs := ls_skip (f := f) (n := p + n) (by rw [h _ (by omega)]; exact lsN_le f _)
    rw [show p + (n + 1) = p + n + 1 by omega, hs.1, hs.2]
    exact ih
theorem big_no {S : MS} {u s d m p k : Nat} (hp : p = 2 ^ k) (hk : k = S 21 2) (hk4 : k ≤ 4) (hs : s < 16) (h : p ≤ s) : givB S s d u m = false := by
  have hb : ∃ i, i < 4 ∧ k ≤ i ∧ bitN s i = 1 := by
    have : ∀ k, k ≤ 4 → ∀ s, s < 16 → 2 ^ k ≤ s → ∃ i, i < 4 ∧ k ≤ i ∧ bitN s i = 1 := by
      intro k hk4 s hs h
      rcases (show k = 0 ∨ k = 1 ∨ k = 2 ∨ k = 3 ∨ k = 4 by omega) with rfl | rfl | rfl | rfl | rfl
      · rcases (show s % 2 = 1 ∨ s / 2 % 2 = 1 ∨ s / 4 % 2 = 1 ∨ s / 8 % 2 = 1 by omega) with q | q | q | q
        · exact ⟨0, by omega, by omega, by unfold bitN; simpa using q⟩
        · exact ⟨1, by omega, by omega, by unfold bitN; simpa using q⟩
        · exact ⟨2, by omega, by omega, by unfold bitN; simpa using q⟩
        · exact ⟨3, by omega, by omega, by unfold bitN; simpa using q⟩
      · rcases (show s / 2 % 2 = 1 ∨ s / 4 % 2 = 1 ∨ s / 8 % 2 = 1 by omega) with q | q | q
        · exact ⟨1, by omega, by omega, by unfold bitN; simpa using q⟩
        · exact ⟨2, by omega, by omega, by unfold bitN; simpa using q⟩
        · exact ⟨3, by omega, by omega, by unfold bitN; simpa using q⟩
      · rcases (show s / 4 % 2 = 1 ∨ s / 8 % 2 = 1 by omega) with q | q
        · exact ⟨2, by omega, by omega, by unfold bitN; simpa using q⟩
        · exact ⟨3, by omega, by omega, by unfold bitN; simpa using q⟩
      · exact ⟨3, by omega, by omega, by unfold bitN; simp; omega⟩
      · omega
    exact this k hk4 s hs (hp ▸ h)
  obtain ⟨i, hi, hki, hbi⟩ := hb
  unfold givB
  rw [andN_no (k := i + 1) (by omega) (by rw [andN, canK_su hbi (by omega), Bool.and_false]), Bool.false_and]
/-- sets from 2 to the count on are none -/
theorem cf_big {S : MS} {sh : Nat → Nat} {k d u p n : Nat} (hp : p = 2 ^ n) (hk : n = S 21 2) (hk4 : n ≤ 4) (hs16 : ∀ s, 16 ≤ s → True) : lsN (cf S sh k d u) 16 = lsN (cf S sh k d u) p ∧ am (cf S sh k d u) 16 = am (cf S sh k d u) p := by
  have hp16 : p ≤ 16 := by
    rw [hp]
    have : 2 ^ n ≤ 2 ^ 4 := Nat.pow_le_pow_right (by decide) hk4
    omega
  have key : ∀ m, p + m ≤ 16 → lsN (cf S sh k d u) (p + m) = lsN (cf S sh k d u) p ∧ am (cf S sh k d u) (p + m) = am (cf S sh k d u) p := by
    intro m
    induction m with
    | zero => intro _; exact ⟨rfl, rfl⟩
    | succ m ih =>
      intro hm
      have h1 : cf S sh k d u (p + m) = 1000000 := by
        unfold cf
        rw [big_no hp hk hk4 (by omega) (by omega)]
        rfl
      have hs := ls_skip (f := cf S sh k d u) (n := p + m) (by rw [h1]; exact lsN_le _ _)
      rw [show p + (m + 1) = p + m + 1 by omega, hs.1, hs.2]
      exact ih (by omega)
  have := key (16 - p) (by omega)
  rwa [show p + (16 - p) = 16 by omega] at this
/-- the best cost and its sets behind a search from the day d on: better than b, or as it was -/
def CVB (T : CT) (d : Nat) (ch : Nat → Nat) (v b : Nat) (U : CT) : Prop := (v < b → U 11 0 = nI v ∧ ∀ j, j < 5 → U 6 j = if j < d then T 4 j else nI (ch j)) ∧ (b ≤ v → U 11 0 = nI b ∧ ∀ j, j < 5 → U 6 j = T 6 j)
theorem CVB.best {T U : CT} {d v b : Nat} {ch : Nat → Nat} (h : CVB T d ch v b U) : ∃ b1 : Nat, U 11 0 = nI b1 ∧ b1 = if v < b then v else b := by
  by_cases q : v < b
  · exact ⟨v, (h.1 q).1, by rw [if_pos q]⟩
  · exact ⟨b, (h.2 (by omega)).1, by rw [if_neg q]⟩
/-- what is chosen on the day d and behind it, if s sets are looked at -/
def chS (S : MS) (sh : Nat → Nat) (k d u s j : Nat) : Nat := if j = d then am (cf S sh k d u) s else bsN S sh k (d + 1) (u + usN (am (cf S sh k d u) s)) j
theorem CVB.skip {S : MS} {sh : Nat → Nat} {T U : CT} {k d u s c b : Nat} (h : CVB T d (chS S sh k d u s) (c + lsN (cf S sh k d u) s) b U) (hf : lsN (cf S sh k d u) s ≤ cf S sh k d u s) : CVB T d (chS S sh k d u (s + 1)) (c + lsN (cf S sh k d u) (s + 1)) b U := by
  have hs := ls_skip hf
  have e : chS S sh k d u (s + 1) = chS S sh k d u s := by
    funext j
    unfold chS
    rw [hs.2]
  rw [hs.1, e]
  exact h
theorem CVB.step {S : MS} {sh : Nat → Nat} {T T1 T2 U : CT} {k d u s c b b1 w : Nat} (h : CVB T d (chS S sh k d u s) (c + lsN (cf S sh k d u) s) b T1) (hb1 : b1 = if c + lsN (cf S sh k d u) s < b then c + lsN (cf S sh k d u) s else b)
    (hw : cf S sh k d u s = w) (h4 : ∀ j, j < d → T2 4 j = T 4 j) (h4d : T2 4 d = nI s) (h6 : ∀ j, j < 5 → T2 6 j = T1 6 j) (hU : CVB T2 (d + 1) (fun j => bsN S sh k (d + 1) (u + usN s) j) (c + w) b1 U) : CVB T d (chS S sh k d u (s + 1)) (c + lsN (cf S sh k d u) (s + 1)) b U := by
  subst hw
  by_cases q : c + cf S sh k d u s < b1
  · obtain ⟨u1, u2⟩ := hU.1 q
    have hlt : cf S sh k d u s < lsN (cf S sh k d u) s ∧ c + cf S sh k d u s < b := by
      by_cases z : c + lsN (cf S sh k d u) s < b
      · rw [if_pos z] at hb1; omega
      · rw [if_neg z] at hb1; omega
    have hs := ls_take hlt.1
    refine ⟨fun _ => ⟨by rw [hs.1]; exact u1, fun j hj => ?_⟩, fun z => by rw [hs.1] at z; omega⟩
    rw [u2 j hj]
    unfold chS
    rw [hs.2]
    by_cases z : j < d
    · rw [if_pos z, if_pos (by omega), h4 j z]
    · rw [if_neg z]
      by_cases y : j = d
      · subst y
        rw [if_pos (by omega), if_pos rfl, h4d]
      · rw [if_neg (by omega), if_neg y]
  · obtain ⟨u1, u2⟩ := hU.2 (by omega)
    by_cases z : c + lsN (cf S sh k d u) s < b
    · rw [if_pos z] at hb1
      have hle : lsN (cf S sh k d u) s ≤ cf S sh k d u s := by omega
      have h' := h.skip hle
      have hs := ls_skip hle
      refine ⟨fun y => ⟨by rw [u1, hb1, hs.1], fun j hj => ?_⟩, fun y => by rw [hs.1] at y; omega⟩
      rw [u2 j hj, h6 j hj]
      exact (h'.1 y).2 j hj
    · rw [if_neg z] at hb1
      have hle : b ≤ c + lsN (cf S sh k d u) (s + 1) := by
        rw [lsN_s]
        split <;> omega
      refine ⟨fun y => absurd y (by omega), fun _ => ⟨by rw [u1, hb1], fun j hj => ?_⟩⟩
      rw [u2 j hj, h6 j hj]
      exact (h.2 (by omega)).2 j hj
def CVQ (S : MS) (sh : Nat → Nat) (d k : Nat) (G : Nat → Nat) (T : CT) (e : CE) (c b : Nat) (u : CS) : Prop := SM [4, 6, 11] T u.1 ∧ RG S G u.1 u.2 ∧ (∀ a i, eR u.2 a i = eR e a i) ∧ (∀ j, j < d → u.1 4 j = T 4 j) ∧ CVB T d (fun j => bsN S sh k d (uG G) j) (c + cv2 S sh k d (uG G)) b u.1
def CVP (S : MS) (sh : Nat → Nat) (d k : Nat) : Prop := ∀ (G : Nat → Nat) (T : CT) (e : CE), RG S G T e → (∀ i, i < 4 → G i ≤ 5) → (∀ d, d < 5 → T 5 d = nI (sh d)) → ∀ c b : Nat, c ≤ 4000 * d → b ≤ 1000000 → T 11 0 = nI b → CZ zX1_coverFrom 14 (k + 3) [.int (nI d), .int (nI c)] (T, e) (pV (fun u => CVQ S sh d k G T e c b u))
theorem shl_p : ∀ n, n < 5 → nI 1 <<< (nI n &&& 31) = nI (2 ^ n) := by decide
/-- the reference's costs and choices are these -/
theorem cvN_2 (S : MS) (w : Nat) : ∀ k, k ≤ 5 → ∀ u, cvN S w k u = cv2 S (shN S w) k (5 - k) u
  | 0, _, _ => rfl
  | k + 1, hk, u => by
    rw [cv2_s]
    refine lsN_congr (fun s _ => ?_)
    unfold cf
    rw [cvN_2 S w k (by omega), show 5 - (k + 1) = 4 - k by omega, show 4 - k + 1 = 5 - k by omega]
theorem fr_is {p : Nat → Bool} {i : Nat} (hp : p i = true) : ∀ n c, c ≤ i → i < c + n → (∀ j, c ≤ j → j < i → p j = false) → frP p n c = i
  | 0, c, h1, h2, _ => by omega
  | n + 1, c, h1, h2, h3 => by
    rw [frP]
    by_cases q : c = i
    · rw [q, if_pos hp]
    · rw [h3 c (Nat.le_refl c) (by omega), if_neg (by decide)]
      exact fr_is hp n (c + 1) (by omega) (by omega) (fun j hj hji => h3 j (by omega) hji)
theorem am_is {f : Nat → Nat} : ∀ n, lsN f n < 1000000 → am f n < n ∧ f (am f n) = lsN f n ∧ ∀ j, j < am f n → lsN f n < f j
  | 0, h => absurd h (Nat.lt_irrefl _)
  | n + 1, h => by
    rw [lsN_s] at h
    rw [lsN_s, am_s]
    by_cases q : f n < lsN f n
    · rw [if_pos q, if_pos q]
      refine ⟨Nat.lt_succ_self n, rfl, fun j hj => Nat.lt_of_lt_of_le q ?_⟩
      have : ∀ n j, j < n → lsN f n ≤ f j := by
        intro n
        induction n with
        | zero => intro j hj; exact absurd hj (Nat.not_lt_zero _)
        | succ n ih =>
          intro j hj
          rw [lsN_s]
          by_cases z : j = n
          · subst z; split <;> omega
          · have := ih j (by omega); split <;> omega
      exact this n j hj
    · rw [if_neg q] at h
      rw [if_neg q, if_neg q]
      obtain ⟨h1, h2, h3⟩ := am_is n h
      exact ⟨by omega, h2, h3⟩
theorem ch_is {S : MS} {w d u k : Nat} (hd : d + k = 4) (h : cv2 S (shN S w) (k + 1) d u < 1000000) : chN S w d u = am (cf S (shN S w) k d u) 16 ∧ cv2 S (shN S w) k (d + 1) (u + usN (am (cf S (shN S w) k d u) 16)) < 1000000 := by
  rw [cv2_s] at h
  obtain ⟨h1, h2, h3⟩ := am_is 16 h
  have e4 : ∀ x, cvN S w (4 - d) x = cv2 S (shN S w) k (d + 1) x := fun x => by rw [show 4 - d = k by omega, cvN_2 S w k (by omega), show 5 - k = d + 1 by omega]
  have e5 : cvN S w (5 - d) u = lsN (cf S (shN S w) k d u) 16 := by rw [show 5 - d = k + 1 by omega, cvN_2 S w (k + 1) (by omega), show 5 - (k + 1) = d by omega]; rfl
  have hg : ∀ s, gdB S w d u s = true ↔ (givB S s d u (shN S w d) = true ∧ cf S (shN S w) k d u s = lsN (cf S (shN S w) k d u) 16) := by
    intro s
    unfold gdB
    rw [e4, e5, Bool.and_eq_true, decide_eq_true_eq]
    unfold cf
    constructor
    · rintro ⟨a, b⟩
      exact ⟨a, by rw [if_pos a]; exact b⟩
    · rintro ⟨a, b⟩
      rw [if_pos a] at b
      exact ⟨a, b⟩
  have hgi : givB S (am (cf S (shN S w) k d u) 16) d u (shN S w d) = true := by
    cases q : givB S (am (cf S (shN S w) k d u) 16) d u (shN S w d) with
    | true => rfl
    | false =>
      have : cf S (shN S w) k d u (am (cf S (shN S w) k d u) 16) = 1000000 := if_neg (by rw [q]; decide)
      omega
  constructor
  · refine fr_is ((hg _).mpr ⟨hgi, h2⟩) 16 0 (Nat.zero_le _) (by omega) (fun j _ hj => ?_)
    cases q : gdB S w d u j with
    | false => rfl
    | true =>
      have h4 := ((hg j).mp q).2
      have h5 := h3 j hj
      omega
  · have : cf S (shN S w) k d u (am (cf S (shN S w) k d u) 16) = cstN S (am (cf S (shN S w) k d u) 16) + cv2 S (shN S w) k (d + 1) (u + usN (am (cf S (shN S w) k d u) 16)) := if_pos hgi
    omega
theorem bs_is {S : MS} {w : Nat} (k : Nat) : ∀ d, d + k = 5 → cv2 S (shN S w) k d (usA S w d) < 1000000 → ∀ j, d ≤ j → j < 5 → bsN S (shN S w) k d (usA S w d) j = chN S w j (usA S w j) := by
  induction k with
  | zero =>
    intro d hd _ j h1 h2
    rw [Nat.add_zero] at hd
    exact absurd (Nat.lt_of_le_of_lt h1 h2) (by rw [hd]; exact Nat.lt_irrefl 5)
  | succ k ih =>
    intro d hd h j h1 h2
    obtain ⟨e1, e2⟩ := ch_is (k := k) (by omega) h
    rw [bsN]
    by_cases q : j = d
    · subst q
      rw [if_pos rfl, e1]
    · rw [if_neg q]
      rw [← e1] at e2 ⊢
      exact ih (d + 1) (by omega) e2 j (by omega) h2
theorem cstN_w {S S' : MS} {w : Nat} {g : Int32} (h : AW S w g S') (s : Nat) : cstN S' s = cstN S s := by
  rw [show cstN S' s = cstN (cutw S') s from rfl, h.cut]
  rfl
theorem givB_w {S S' : MS} {w : Nat} {g : Int32} (h : AW S w g S') (s d u m : Nat) : givB S' s d u m = givB S s d u m := by
  rw [show givB S' s d u m = givB (cutw S') s d u m from rfl, h.cut]
  rfl
theorem AW.cvq {S S' : MS} {w : Nat} {g : Int32} (h : AW S w g S') (sh : Nat → Nat) : ∀ k d u, cv2 S' sh k d u = cv2 S sh k d u
  | 0, _, _ => rfl
  | k + 1, d, u => lsN_congr (fun s _ => by rw [h.cvq sh k, givB_w h, cstN_w h])
theorem ch_le (S : MS) (w d u : Nat) : chN S w d u ≤ 16 := by
  have : ∀ (p : Nat → Bool) n c, frP p n c ≤ c + n := by
    intro p n
    induction n with
    | zero => intro c; exact Nat.le_refl c
    | succ n ih =>
      intro c
      rw [frP]
      split
      · omega
      · have := ih (c + 1); omega
  have := this (gdB S w d u) 16 0
  unfold chN
  omega
theorem RG.edAt {S : MS} {G : Nat → Nat} {T : CT} {e : CE} {c a : Nat} (h : RG S G T e) (hc : c < 8) (h7 : S 7 c = 1) (hr : eR e 1 c = some a) : a ∈ eL e ∧ eP e a = edE S c := by
  rcases h.ed hc with ⟨_, b, q1, q2, q3⟩ | ⟨q, _⟩
  · have : b = a := Option.some.inj (q1.symm.trans hr)
    exact ⟨this ▸ q2, this ▸ q3⟩
  · omega
theorem am_congr {f g : Nat → Nat} : ∀ {n : Nat}, (∀ i, i < n → f i = g i) → am f n = am g n
  | 0, _ => rfl
  | n + 1, h => by rw [am_s, am_s, am_congr (n := n) (fun i hi => h i (Nat.lt_succ_of_lt hi)), lsN_congr (n := n) (fun i hi => h i (Nat.lt_succ_of_lt hi)), h n (Nat.lt_succ_self n)]
theorem AW.bs2 {S S' : MS} {w : Nat} {g : Int32} (h : AW S w g S') (sh : Nat → Nat) (k : Nat) : ∀ d u j, bsN S' sh k d u j = bsN S sh k d u j := by
  induction k with
  | zero => intro d u j; rfl
  | succ k ih =>
    intro d u j
    have e : am (cf S' sh k d u) 16 = am (cf S sh k d u) 16 := am_congr (fun s _ => by unfold cf; rw [h.cvq sh k, givB_w h, cstN_w h])
    rw [bsN, bsN, e]
    split
    · rfl
    · exact ih _ _ _
theorem AW.chosen {S S' : MS} {w : Nat} {g : Int32} (h : AW S w g S') {x y : Nat} (hx : x = cv2 S (shN S' w) 5 0 0) (hy : x < y) (hl : y ≤ 1000000) {j : Nat} (hj : j < 5) : bsN S (shN S' w) 5 0 0 j = chN S' w j (usA S' w j) := by
  have h0 : usA S' w 0 = 0 := rfl
  have h1 := bs_is (S := S') (w := w) 5 0 rfl
  rw [h0, h.cvq, ← hx] at h1
  have h2 := h1 (Nat.lt_of_lt_of_le hy hl) j (Nat.zero_le j) hj
  rw [h.bs2] at h2
  exact h2

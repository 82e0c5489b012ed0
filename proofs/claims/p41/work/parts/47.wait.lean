/-! the waiting list: priorities -/
def prN (S : MS) (c : Nat) : Nat := (ptsN S c * 128 + S 1 c) * 32 + 31 - c
def prI (S : MS) (c : Nat) : Int32 := if isWt S c then nI (prN S c) else -1
theorem pts_le {S : MS} (hI : IV S) {c : Nat} (hc : c < 24) : ptsN S c ≤ 1000 := by
  have h1 := hours_le hI hc
  have h2 := hI.2.2.2.2.2.2.2.1 c hc
  unfold ptsN
  split <;> omega
theorem pr_lt {S : MS} (hI : IV S) {c : Nat} (hc : c < 24) : prN S c < 16777216 := by
  have h1 := pts_le hI hc
  have h2 := hI.2.2.2.2.2.2.2.1 c hc
  unfold prN
  omega
theorem bef_pr {S : MS} (hI : IV S) {a b : Nat} (ha : a < 24) (hb : b < 24) (hab : a ≠ b) : befB S a b = decide (prN S b < prN S a) := by
  have h1 := hI.2.2.2.2.2.2.2.1 a ha
  have h2 := hI.2.2.2.2.2.2.2.1 b hb
  unfold befB prN
  split
  · apply decide_eq_decide.mpr; omega
  · split
    · apply decide_eq_decide.mpr; omega
    · apply decide_eq_decide.mpr; omega
theorem pr_inj {S : MS} (hI : IV S) {a b : Nat} (ha : a < 24) (hb : b < 24) (h : prN S a = prN S b) : a = b := by
  have h1 := hI.2.2.2.2.2.2.2.1 a ha
  have h2 := hI.2.2.2.2.2.2.2.1 b hb
  unfold prN at h
  omega
theorem place_pr {S : MS} (hI : IV S) {c : Nat} (hc : c < 24) : placeN S c = sm (fun k => ct (isWt S k && decide (prN S c < prN S k))) 24 := sm_congr (fun k hk => by
  unfold plcB
  by_cases q : k = c
  · subst q
    rw [decide_eq_false (by simp), decide_eq_false (Nat.lt_irrefl _), Bool.and_false]
    rfl
  · rw [bef_pr hI hk hc q, decide_eq_true q, Bool.true_and])
theorem place_inj {S : MS} (hI : IV S) {a b : Nat} (ha : a < 24) (hb : b < 24) (wa : isWt S a = true) (wb : isWt S b = true) (h : placeN S a = placeN S b) : a = b := by
  have key : ∀ a b, a < 24 → b < 24 → isWt S a = true → prN S b < prN S a → placeN S a < placeN S b := by
    intro a b ha hb wa q
    rw [place_pr hI ha, place_pr hI hb]
    refine sm_lt (fun k _ => ?_) ⟨a, ha, ?_⟩
    · by_cases z : prN S a < prN S k
      · rw [decide_eq_true z, decide_eq_true (Nat.lt_trans q z)]
        exact Nat.le_refl _
      · rw [decide_eq_false z, Bool.and_false]
        exact Nat.zero_le _
    · show ct (isWt S a && decide (prN S a < prN S a)) < ct (isWt S a && decide (prN S b < prN S a))
      rw [decide_eq_false (Nat.lt_irrefl _), wa, decide_eq_true q]
      decide
  rcases Nat.lt_trichotomy (prN S a) (prN S b) with q | q | q
  · have := key b a hb ha wb q
    omega
  · exact pr_inj hI ha hb q
  · have := key a b ha hb wa q
    omega
theorem prI_w {S : MS} {c : Nat} (h : ¬ prI S c = -1) : isWt S c = true ∧ prI S c = nI (prN S c) := by
  unfold prI at h ⊢
  by_cases q : isWt S c = true
  · rw [if_pos q]
    exact ⟨q, rfl⟩
  · rw [if_neg q] at h
    exact absurd rfl h
theorem prI_n {S : MS} (hI : IV S) {c : Nat} (hc : c < 24) (h : prI S c = -1) : isWt S c = false := by
  unfold prI at h
  cases q : isWt S c with
  | false => rfl
  | true =>
    rw [if_pos q] at h
    exact absurd h (nI_nm1 (pr_lt hI hc))
theorem m1_le {n : Nat} (h : n < 2147483648) : (-1 : Int32) ≤ nI n := by
  rw [Int32.le_iff_toInt_le, nI_toInt (show n < 2 ^ 31 from h), m1_toInt]
  omega
theorem prI_le {S : MS} (hI : IV S) {c p : Nat} (hc : c < 24) (hp : p < 16777216) : prI S c ≤ nI p ↔ (isWt S c && decide (p < prN S c)) = false := by
  unfold prI
  by_cases q : isWt S c = true
  · rw [if_pos q, nI_leI (by have := pr_lt hI hc; omega) (by omega), q]
    simp
  · rw [if_neg q]
    have : isWt S c = false := by simpa using q
    rw [this]
    exact ⟨fun _ => rfl, fun _ => m1_le (by omega)⟩
theorem fd_first {p : Nat → Bool} {i : Nat} (hp : p i = true) : ∀ {n : Nat}, i < n → (∀ j, j < n → p j = true → j = i) → fdI p n = nI i
  | 0, h, _ => absurd h (Nat.not_lt_zero _)
  | n + 1, h, hu => by
    rw [fdI_succ]
    by_cases q : i = n
    · rw [if_pos (q ▸ hp), q]
    · rw [if_neg (fun z => q (hu n (Nat.lt_succ_self n) z).symm)]
      exact fd_first hp (by omega) (fun j hj hj2 => hu j (by omega) hj2)
theorem fd_none {p : Nat → Bool} : ∀ {n : Nat}, (∀ j, j < n → p j = false) → fdI p n = -9
  | 0, _ => rfl
  | n + 1, h => by
    rw [fdI_succ, h n (Nat.lt_succ_self n)]
    exact fd_none (fun j hj => h j (by omega))
/-- the first that can be admitted, among the numbers below i -/
def FrI (S : MS) (e : CE) (i : Nat) (r : Option Nat) (hi : Int32) : Prop := (nxt S i = none ∧ r = none ∧ hi = -1) ∨ ∃ b, nxt S i = some b ∧ b < i ∧ eR e 0 b = r ∧ hi = nI (prN S b)
theorem fr_skip {S : MS} {e : CE} (hI : IV S) {i : Nat} {r : Option Nat} {hi : Int32} (h : FrI S e i r hi) (hi24 : i < 24) (hs : isWt S i = false ∨ admB S i = false ∨ prI S i ≤ hi) : FrI S e (i + 1) r hi := by
  have hn : nxt S (i + 1) = nxt S i := by
    rw [nxt_s]
    by_cases q : (isWt S i && admB S i) = true
    · rw [if_pos q]
      rw [Bool.and_eq_true] at q
      rcases hs with z | z | z
      · rw [z] at q; exact absurd q.1 (by decide)
      · rw [z] at q; exact absurd q.2 (by decide)
      · rcases h with ⟨h1, _, h3⟩ | ⟨b, h1, h2, _, h3⟩
        · subst h3
          have hp : prI S i = nI (prN S i) := if_pos q.1
          rw [hp, Int32.le_iff_toInt_le, nI_toInt (by have := pr_lt hI hi24; omega), m1_toInt] at z
          omega
        · rw [h1]
          subst h3
          have z2 := (prI_le hI hi24 (pr_lt hI (show b < 24 by omega))).mp z
          rw [q.1, Bool.true_and] at z2
          have : befB S i b = false := by rw [bef_pr hI hi24 (by omega) (by omega)]; exact z2
          simp [this]
    · rw [if_neg q]
  rcases h with ⟨h1, h2, h3⟩ | ⟨b, h1, h2, h3, h4⟩
  · exact Or.inl ⟨hn.trans h1, h2, h3⟩
  · exact Or.inr ⟨b, hn.trans h1, by omega, h3, h4⟩
theorem fr_take {S : MS} {e : CE} (hI : IV S) {i : Nat} {r : Option Nat} {hi : Int32} (h : FrI S e i r hi) (hi24 : i < 24) (hp : ¬ prI S i ≤ hi) (ha : admB S i = true) {a : Nat} (hr : eR e 0 i = some a) : FrI S e (i + 1) (some a) (prI S i) := by
  have hw : isWt S i = true := by
    cases q : isWt S i with
    | true => rfl
    | false =>
      refine absurd ?_ hp
      unfold prI
      rw [q]
      rcases h with ⟨_, _, h3⟩ | ⟨b, _, h2, _, h3⟩
      · rw [h3]; exact Int32.le_refl _
      · rw [h3]; exact m1_le (by have := pr_lt hI (show b < 24 by omega); omega)
  have hq : (isWt S i && admB S i) = true := by rw [hw, ha]; rfl
  refine Or.inr ⟨i, ?_, by omega, hr, by unfold prI; rw [if_pos hw]⟩
  rw [nxt_s, if_pos hq]
  rcases h with ⟨h1, _, _⟩ | ⟨b, h1, h2, _, h3⟩
  · rw [h1]
  · rw [h1]
    subst h3
    have z : ¬ (isWt S i && decide (prN S b < prN S i)) = false := fun q => hp ((prI_le hI hi24 (pr_lt hI (show b < 24 by omega))).mpr q)
    have : befB S i b = true := by
      rw [bef_pr hI hi24 (by omega) (by omega)]
      rw [hw, Bool.true_and] at z
      simpa using z
    simp [this]
/-- a write of a child's rows, side by side -/
theorem RG.child {S S' : MS} {G : Nat → Nat} {T : CT} {e : CE} {c a : Nat} (h : RG S G T e) (hc : c < 24) (ha : eR e 0 c = some a) (h1 : S 0 c = 1) (hB : BD S') (hI : IV S') (ho : ∀ k j, (k < 1 ∨ 6 < k) → S' k j = S k j) (h4 : ∀ k j, k ≤ 4 → j ≠ c → S' k j = S k j) (h5 : ∀ k j, k = 5 ∨ k = 6 → j / 5 ≠ c → S' k j = S k j) : RG S' G T (wP e a (chE S' c)) := by
  refine h.setC hc ha h1 hB hI ?_ (fun j => ho 0 j (by omega)) (fun j hj hjc => ?_) (fun j => ho 7 j (by omega)) (fun j _ => edE_of (fun k i _ _ => ho k i (by omega))) (fun j => by unfold suH; rw [ho 21 2 (by omega)]) (fun j _ => suE_of (fun k i _ _ => ho k i (by omega)))
  · obtain ⟨a0, a1, a2, a3, b0, b1, b2, b3⟩ := h.2.2.1
    refine ⟨fun i hi => ?_, fun i hi => ?_, fun i hi => ?_, fun i hi => ?_, ?_, ?_, ?_, ?_⟩ <;> rw [ho _ _ (by omega)]
    · exact a0 i hi
    · exact a1 i hi
    · exact a2 i hi
    · exact a3 i hi
    · exact b0
    · exact b1
    · exact b2
    · exact b3
  · unfold chE
    rw [h4 2 j (by omega) hjc, h4 1 j (by omega) hjc, h4 4 j (by omega) hjc, h4 3 j (by omega) hjc, msk_congr (q := spP S 5 j) (n := 50) (fun q hq => by
      unfold spP
      rw [h5 5 (5 * j + q / 10) (by omega) (by omega), h5 6 (5 * j + q / 10) (by omega) (by omega)])]
theorem RG.adm {S : MS} {G : Nat → Nat} {T : CT} {e : CE} {c a v : Nat} (h : RG S G T e) (hc : c < 24) (ha : eR e 0 c = some a) (h1 : S 0 c = 1) (hv : v ≤ 1) : RG (uM S 3 c v) G T (wP e a (chE (uM S 3 c v) c)) := by
  refine h.child hc ha h1 (BD_u h.hB (by omega)) (IV_adm h.hI hv) (fun k j hk => uM_nk (by omega)) (fun k j hk hj => uM_ni hj) (fun k j hk hj => uM_nk (by omega))

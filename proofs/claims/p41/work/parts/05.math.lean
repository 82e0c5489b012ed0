/-! the numbers of a state S of the reference -/
def sm (f : Nat → Nat) : Nat → Nat
  | 0 => 0
  | n + 1 => sm f n + f n
theorem sm_s (f : Nat → Nat) (n : Nat) : sm f (n + 1) = sm f n + f n := rfl
theorem sm_0 (f : Nat → Nat) : sm f 0 = 0 := rfl
theorem sm_le {f : Nat → Nat} {b : Nat} : ∀ {n : Nat}, (∀ i, i < n → f i ≤ b) → sm f n ≤ n * b
  | 0, _ => by simp [sm]
  | n + 1, h => by
    have h1 := sm_le (f := f) (b := b) (n := n) (fun i hi => h i (Nat.lt_succ_of_lt hi))
    have h2 := h n (Nat.lt_succ_self n)
    rw [sm_s, Nat.succ_mul]
    omega
theorem sm_congr {f g : Nat → Nat} : ∀ {n : Nat}, (∀ i, i < n → f i = g i) → sm f n = sm g n
  | 0, _ => rfl
  | n + 1, h => by rw [sm_s, sm_s, sm_congr (n := n) (fun i hi => h i (Nat.lt_succ_of_lt hi)), h n (Nat.lt_succ_self n)]
/-- one if it holds -/
def ct (b : Bool) : Nat := if b then 1 else 0
theorem ct_le (b : Bool) : ct b ≤ 1 := by cases b <;> decide
theorem ct_t : ct true = 1 := rfl
theorem ct_f : ct false = 0 := rfl
def withinI (v lo hi : Int32) : Bool := decide (lo ≤ v) && decide (v ≤ hi)
theorem nI_pred_le {h e : Nat} (hh : h < 2147483648) (he : e < 2147483648) : nI h ≤ nI e - nI 1 ↔ h < e := by
  rcases e with _ | e
  · constructor
    · intro q
      exact absurd q (by
        rw [Int32.le_iff_toInt_le, nI_toInt (show h < 2 ^ 31 from hh)]
        rw [show (nI 0 - nI 1).toInt = -1 from by decide]
        omega)
    · intro q; omega
  · rw [pk_sub (by omega), nI_leI (show h < 2 ^ 31 from hh) (by omega)]
    omega
theorem within_N {v lo hi : Nat} (h1 : v < 2147483648) (h2 : lo < 2147483648) (h3 : hi < 2147483648) : withinI (nI v) (nI lo) (nI hi) = (decide (lo ≤ v) && decide (v ≤ hi)) := by
  unfold withinI
  rw [decide_eq_decide.mpr (nI_leI h2 h1), decide_eq_decide.mpr (nI_leI h1 h3)]
theorem within_P {v lo hi : Nat} (h1 : v < 2147483648) (h2 : lo < 2147483648) (h3 : hi < 2147483648) : withinI (nI v) (nI lo) (nI hi - nI 1) = (decide (lo ≤ v) && decide (v < hi)) := by
  unfold withinI
  rw [decide_eq_decide.mpr (nI_leI h2 h1), decide_eq_decide.mpr (nI_pred_le h1 h3)]
/-- an int between 0 and a number is a number -/
theorem within_0 {x : Int32} {n : Nat} (hn : n < 2147483648) (h : withinI x (nI 0) (nI n) = true) : ∃ j : Nat, j ≤ n ∧ x = nI j := by
  unfold withinI at h
  simp only [Bool.and_eq_true, decide_eq_true_eq] at h
  obtain ⟨h1, h2⟩ := h
  refine nI_of2 (M := nI n) (n := n) (nI_toInt (show n < 2 ^ 31 from hn)) ?_ h2
  intro q
  rw [nI_0] at h1
  rw [Int32.le_iff_toInt_le] at h1
  rw [Int32.lt_iff_toInt_lt] at q
  omega
def isDayI (x : Int32) : Bool := withinI x (nI 0) (nI 4)
def isSpanI (b e : Int32) : Bool := withinI b (nI 0) (nI 10) && withinI e b (nI 10)
def isWeekI (x : Int32) : Bool := withinI x (nI 0) (nI 51)
def isGroupI (x : Int32) : Bool := withinI x (nI 0) (nI 2)
def isHourI (d h : Int32) : Bool := isDayI d && withinI h (nI 0) (nI 9)
/-- the child, the educator with the number x is there -/
def hasC (S : MS) (x : Int32) : Bool := withinI x (nI 0) (nI 23) && decide (S 0 x.toNatClampNeg = 1)
def hasE (S : MS) (x : Int32) : Bool := withinI x (nI 0) (nI 7) && decide (S 7 x.toNatClampNeg = 1)
theorem hasC_of {S : MS} {x : Int32} (h : hasC S x = true) : ∃ c : Nat, c < 24 ∧ x = nI c ∧ S 0 c = 1 := by
  unfold hasC at h
  simp only [Bool.and_eq_true, decide_eq_true_eq] at h
  obtain ⟨j, hj, rfl⟩ := within_0 (by decide) h.1
  refine ⟨j, by omega, rfl, ?_⟩
  rw [nI_clamp (by omega)] at h
  exact h.2
theorem hasE_of {S : MS} {x : Int32} (h : hasE S x = true) : ∃ c : Nat, c < 8 ∧ x = nI c ∧ S 7 c = 1 := by
  unfold hasE at h
  simp only [Bool.and_eq_true, decide_eq_true_eq] at h
  obtain ⟨j, hj, rfl⟩ := within_0 (by decide) h.1
  refine ⟨j, by omega, rfl, ?_⟩
  rw [nI_clamp (by omega)] at h
  exact h.2
def isIn (S : MS) (c : Nat) : Bool := decide (S 0 c = 1) && decide (S 3 c = 1)
def childN (S : MS) : Nat := sm (fun c => S 0 c) 24
def hoursN (S : MS) (c : Nat) : Nat := sm (fun d => S 6 (5 * c + d) - S 5 (5 * c + d)) 5
def isBkd (S : MS) (c d h : Nat) : Bool := decide (S 5 (5 * c + d) ≤ h) && decide (h < S 6 (5 * c + d))
def grpN (S : MS) (c : Nat) : Nat := if S 1 c < 24 then 0 else if S 1 c < 36 then 1 else 2
theorem grpN_le (S : MS) (c : Nat) : grpN S c ≤ 2 := by unfold grpN; split <;> (try split) <;> omega
/-- how many are present: of the group g, of all (-9) -/
def presB (S : MS) (d h : Nat) (g : Int32) (c : Nat) : Bool := isIn S c && isBkd S c d h && (decide (g = -9) || decide (nI (grpN S c) = g))
def presN (S : MS) (d h : Nat) (g : Int32) : Nat := sm (fun c => ct (presB S d h g c)) 24
/-- what holds of the reference's state between calls -/
def IV (S : MS) : Prop := (∀ i, i < 120 → S 5 i ≤ S 6 i ∧ S 6 i ≤ 10) ∧ (∀ i, i < 40 → S 8 i ≤ S 9 i ∧ S 9 i ≤ 10) ∧ (∀ i, i < 24 → S 0 i ≤ 1 ∧ S 3 i ≤ 1) ∧ (∀ i, i < 8 → S 7 i ≤ 1) ∧ (∀ i, i < 416 → S 10 i ≤ 1) ∧ (∀ i, i < 3 → 1 ≤ S 11 i ∧ S 11 i ≤ 20) ∧ (∀ i, i < 3 → S 12 i ≤ 5000) ∧ (∀ i, i < 24 → S 1 i ≤ 78 ∧ S 4 i ≤ S 1 i ∧ (S 0 i = 1 → S 1 i ≤ 77) ∧ S 2 i ≤ 11) ∧ (∀ i, i < 4 → S 13 i ≤ 31 ∧ S 14 i ≤ 5 ∧ S 15 i ≤ 1000) ∧ S 21 1 ≤ 24 ∧ S 21 2 ≤ 4 ∧ S 21 3 ≤ 60
/-- a write of another row keeps what is said of a row -/
theorem IV_of {S S' : MS} (h : IV S) (h1 : ∀ i, i < 120 → S' 5 i ≤ S' 6 i ∧ S' 6 i ≤ 10 ∨ (S' 5 i = S 5 i ∧ S' 6 i = S 6 i)) (h2 : ∀ i, i < 40 → S' 8 i ≤ S' 9 i ∧ S' 9 i ≤ 10 ∨ (S' 8 i = S 8 i ∧ S' 9 i = S 9 i))
    (h3 : ∀ i, i < 24 → S' 0 i ≤ 1 ∨ S' 0 i = S 0 i) (h4 : ∀ i, i < 24 → S' 3 i ≤ 1 ∨ S' 3 i = S 3 i) (h5 : ∀ i, i < 8 → S' 7 i ≤ 1 ∨ S' 7 i = S 7 i) (h6 : ∀ i, i < 416 → S' 10 i ≤ 1 ∨ S' 10 i = S 10 i)
    (h7 : ∀ i, i < 3 → (1 ≤ S' 11 i ∧ S' 11 i ≤ 20) ∨ S' 11 i = S 11 i) (h8 : ∀ i, i < 3 → S' 12 i ≤ 5000 ∨ S' 12 i = S 12 i)
    (h9 : ∀ i, i < 24 → (S' 1 i ≤ 78 ∧ S' 4 i ≤ S' 1 i ∧ (S' 0 i = 1 → S' 1 i ≤ 77) ∧ S' 2 i ≤ 11) ∨ (S' 1 i = S 1 i ∧ S' 4 i = S 4 i ∧ (S' 0 i = S 0 i ∨ S' 0 i = 0) ∧ S' 2 i = S 2 i))
    (h10 : ∀ i, i < 4 → (S' 13 i ≤ 31 ∧ S' 14 i ≤ 5 ∧ S' 15 i ≤ 1000) ∨ (S' 13 i = S 13 i ∧ S' 14 i = S 14 i ∧ S' 15 i = S 15 i)) (h11 : S' 21 1 ≤ 24 ∨ S' 21 1 = S 21 1) (h12 : S' 21 2 ≤ 4 ∨ S' 21 2 = S 21 2) (h13 : S' 21 3 ≤ 60 ∨ S' 21 3 = S 21 3) : IV S' := by
  obtain ⟨a1, a2, a3, a4, a5, a6, a7, a8, a9, b1, b2, b3⟩ := h
  refine ⟨fun i hi => ?_, fun i hi => ?_, fun i hi => ?_, fun i hi => ?_, fun i hi => ?_, fun i hi => ?_, fun i hi => ?_, fun i hi => ?_, fun i hi => ?_, by omega, by omega, by omega⟩
  · have := a1 i hi; have := h1 i hi; omega
  · have := a2 i hi; have := h2 i hi; omega
  · have := a3 i hi; have := h3 i hi; have := h4 i hi; omega
  · have := a4 i hi; have := h5 i hi; omega
  · have := a5 i hi; have := h6 i hi; omega
  · have := a6 i hi; have := h7 i hi; omega
  · have := a7 i hi; have := h8 i hi; omega
  · have := a8 i hi; have := h9 i hi; omega
  · have := a9 i hi; have := h10 i hi; omega
def allN (S : MS) : Nat := S 11 0 * S 11 1 * S 11 2
def addN (S : MS) (m : Int32) (g : Nat) : Nat := ct (decide (m ≠ -9) && decide (grpN S m.toNatClampNeg = g))
def cntN (S : MS) (d h : Nat) (m : Int32) (g : Nat) : Nat := presN S d h (nI g) + addN S m g
def needN (S : MS) (d h : Nat) (m : Int32) : Nat := (sm (fun g => cntN S d h m g * (allN S / S 11 g)) 3 + allN S - 1) / allN S
def wrkB (S : MS) (d h e : Nat) : Bool := decide (S 7 e = 1) && (decide (S 8 (5 * e + d) ≤ h) && decide (h < S 9 (5 * e + d)))
def staffN (S : MS) (d h : Nat) : Nat := sm (fun e => ct (wrkB S d h e)) 8
def moreN (m : Int32) : Nat := ct (decide (m ≠ -9))
def safeB (S : MS) (d h : Nat) (m : Int32) : Bool := decide (presN S d h (-9) + moreN m ≤ S 21 1) && decide (needN S d h m ≤ staffN S d h)
/-- none, or a child's number -/
def isMore (m : Int32) : Prop := m = -9 ∨ ∃ c : Nat, c < 24 ∧ m = nI c
theorem isMore_9 : isMore (-9) := Or.inl rfl
theorem isMore_c {c : Nat} (h : c < 24) : isMore (nI c) := Or.inr ⟨c, h, rfl⟩
theorem nI_n9 {c : Nat} (h : c < 16777216) : nI c ≠ -9 := by
  intro q
  have := congrArg Int32.toInt q
  rw [nI_toInt (by omega)] at this
  have h9 : (-9 : Int32).toInt = -9 := by decide
  rw [h9] at this
  omega
def andN (f : Nat → Bool) : Nat → Bool
  | 0 => true
  | n + 1 => andN f n && f n
def orN (f : Nat → Bool) : Nat → Bool
  | 0 => false
  | n + 1 => orN f n || f n
theorem andN_iff {f : Nat → Bool} : ∀ {n : Nat}, andN f n = true ↔ ∀ i, i < n → f i = true
  | 0 => by simp [andN]
  | n + 1 => by
    rw [andN, Bool.and_eq_true, andN_iff (n := n)]
    constructor
    · rintro ⟨h1, h2⟩ i hi
      rcases Nat.lt_succ_iff_lt_or_eq.mp hi with h | h
      · exact h1 i h
      · rw [h]; exact h2
    · exact fun h => ⟨fun i hi => h i (Nat.lt_succ_of_lt hi), h n (Nat.lt_succ_self n)⟩
theorem orN_iff {f : Nat → Bool} : ∀ {n : Nat}, orN f n = true ↔ ∃ i, i < n ∧ f i = true
  | 0 => by simp [orN]
  | n + 1 => by
    rw [orN, Bool.or_eq_true, orN_iff (n := n)]
    constructor
    · rintro (⟨i, h1, h2⟩ | h)
      · exact ⟨i, Nat.lt_succ_of_lt h1, h2⟩
      · exact ⟨n, Nat.lt_succ_self n, h⟩
    · rintro ⟨i, h1, h2⟩
      rcases Nat.lt_succ_iff_lt_or_eq.mp h1 with h | h
      · exact Or.inl ⟨i, h, h2⟩
      · rw [h] at h2; exact Or.inr h2
theorem andN_no {f : Nat → Bool} {n k : Nat} (hk : k ≤ n) (h : andN f k = false) : andN f n = false := by
  cases hq : andN f n with
  | false => rfl
  | true =>
    have := andN_iff.mp hq
    have h2 : andN f k = true := andN_iff.mpr (fun i hi => this i (Nat.lt_of_lt_of_le hi hk))
    rw [h] at h2; exact absurd h2 (by decide)
def hvB (S : MS) (c d h : Nat) : Bool := isBkd S c d h || safeB S d h (nI c)
def canHaveB (S : MS) (c d b e : Nat) : Bool := andN (fun k => hvB S c d (b + k)) (e - b)
def sibB (S : MS) (c k : Nat) : Bool := decide (k ≠ c) && isIn S k && decide (S 2 k = S 2 c)
def ptsN (S : MS) (c : Nat) : Nat := 10 * S 4 c + (if orN (sibB S c) 24 then 25 else 0) + hoursN S c
def isWt (S : MS) (c : Nat) : Bool := decide (S 0 c = 1) && decide (S 3 c = 0)
def befB (S : MS) (a b : Nat) : Bool := if ptsN S a ≠ ptsN S b then decide (ptsN S b < ptsN S a) else if S 1 a ≠ S 1 b then decide (S 1 b < S 1 a) else decide (a < b)
def plcB (S : MS) (c k : Nat) : Bool := decide (k ≠ c) && isWt S k && befB S k c
def placeN (S : MS) (c : Nat) : Nat := sm (fun k => ct (plcB S c k)) 24
def fdI (p : Nat → Bool) : Nat → Int32
  | 0 => -9
  | n + 1 => if p n then nI n else fdI p n
def wtgI (S : MS) (x : Int32) : Int32 := if x < 0 then -1 else fdI (fun c => isWt S c && decide (nI (placeN S c) = x)) 24
def fitB (S : MS) (c d h : Nat) : Bool := !isBkd S c d h || safeB S d h (nI c)
def admB (S : MS) (c : Nat) : Bool := decide (0 < hoursN S c) && andN (fun d => andN (fun h => fitB S c d h) 10) 5
/-- the first of the waiting list that can be admitted: none (-9) or its number -/
def nxt (S : MS) : Nat → Option Nat
  | 0 => none
  | n + 1 => if isWt S n && admB S n then (match nxt S n with | none => some n | some b => if befB S n b then some n else some b) else nxt S n
def oI (o : Option Nat) : Int32 := match o with | none => -9 | some c => nI c
def admF : Nat → MS → MS
  | 0, S => S
  | f + 1, S => match nxt S 24 with | none => S | some c => admF f (uM S 3 c 1)
def admC : Nat → MS → Nat
  | 0, _ => 0
  | f + 1, S => match nxt S 24 with | none => 0 | some c => admC f (uM S 3 c 1) + 1
def itS (f : MS → Nat → MS) (S : MS) : Nat → MS
  | 0 => S
  | n + 1 => f (itS f S n) n
def eduN (S : MS) : Nat := sm (fun e => S 7 e) 8
def usfN (S : MS) : Nat := sm (fun d => sm (fun h => ct (!safeB S d h (-9))) 10) 5
def oldB (S : MS) (c k : Nat) : Bool := isIn S k && decide (S 2 k = S 2 c) && (decide (S 1 c < S 1 k) || decide (S 1 k = S 1 c) && decide (k < c))
def rankN (S : MS) (c : Nat) : Nat := sm (fun k => ct (oldB S c k)) 24
def pctN (r : Nat) : Nat := if r = 0 then 100 else if r = 1 then 70 else 40
def feeN (S : MS) (c : Nat) : Nat := 4 * hoursN S c * S 12 (grpN S c) * pctN (rankN S c) / 100
def payN (S : MS) (w : Int32) (k : Nat) : Nat := if isIn S k && (decide (w = -9) || decide (nI (S 2 k) = w)) then feeN S k else 0
def feesN (S : MS) (w : Int32) : Nat := sm (payN S w) 24
def thrB (S : MS) (w d h e : Nat) : Bool := decide (S 7 e = 1) && decide (S 10 (52 * e + w) = 0) && (decide (S 8 (5 * e + d) ≤ h) && decide (h < S 9 (5 * e + d)))
def thrN (S : MS) (w d h : Nat) : Nat := sm (fun e => ct (thrB S w d h e)) 8
def mxN (f : Nat → Nat) : Nat → Nat
  | 0 => 0
  | n + 1 => if mxN f n < f n then f n else mxN f n
def shN (S : MS) (w d : Nat) : Nat := mxN (fun h => needN S d h (-9) - thrN S w d h) 10

/-! IV through the writes of the methods -/
theorem IV_span {S : MS} (h : IV S) {i b e : Nat} (hb : b ≤ e) (he : e ≤ 10) : IV (uM (uM S 5 i b) 6 i e) := by
  refine IV_of h ?_ ?_ ?_ ?_ ?_ ?_ ?_ ?_ ?_ ?_ ?_ ?_ ?_ <;> try (intro j _; right; simp [uM]; done)
  · intro j _
    by_cases hj : j = i
    · left; subst hj; simp [uM]; omega
    · right; simp [uM, hj]
  all_goals simp [uM]
theorem IV_work {S : MS} (h : IV S) {i b e : Nat} (hb : b ≤ e) (he : e ≤ 10) : IV (uM (uM S 8 i b) 9 i e) := by
  refine IV_of h ?_ ?_ ?_ ?_ ?_ ?_ ?_ ?_ ?_ ?_ ?_ ?_ ?_ <;> try (intro j _; right; simp [uM]; done)
  · intro j _
    by_cases hj : j = i
    · left; subst hj; simp [uM]; omega
    · right; simp [uM, hj]
  all_goals simp [uM]
theorem IV_rmC {S : MS} (h : IV S) {c : Nat} : IV (uM S 0 c 0) := by
  refine IV_of h ?_ ?_ ?_ ?_ ?_ ?_ ?_ ?_ ?_ ?_ ?_ ?_ ?_ <;> try (intro j _; right; simp [uM]; done)
  · intro j _
    by_cases hj : j = c
    · left; simp [uM, hj]
    · right; simp [uM, hj]
  · intro j _
    by_cases hj : j = c
    · right; simp [uM, hj]
    · right; simp [uM, hj]
  all_goals simp [uM]
theorem isSpan_of {b e : Int32} (h : isSpanI b e = true) : ∃ b' e' : Nat, b' ≤ e' ∧ e' ≤ 10 ∧ b = nI b' ∧ e = nI e' := by
  unfold isSpanI at h
  rw [Bool.and_eq_true] at h
  obtain ⟨b', hb, rfl⟩ := within_0 (by decide) h.1
  have h2 := h.2
  unfold withinI at h2
  simp only [Bool.and_eq_true, decide_eq_true_eq] at h2
  have h3 : withinI e (nI 0) (nI 10) = true := by
    unfold withinI
    simp only [Bool.and_eq_true, decide_eq_true_eq]
    refine ⟨?_, h2.2⟩
    have h4 := h2.1
    rw [Int32.le_iff_toInt_le] at h4 ⊢
    rw [nI_toInt (by omega)] at h4 ⊢
    omega
  obtain ⟨e', he, rfl⟩ := within_0 (by decide) h3
  exact ⟨b', e', (nI_leI (by omega) (by omega)).mp h2.1, he, rfl, rfl⟩
abbrev tn (x : Int32) : Nat := x.toNatClampNeg
/-! answers and next states of the calls -/
def ageI (S : MS) (x : Int32) : Int32 := if hasC S x then nI (S 1 (tn x)) else -1
def isAdI (S : MS) (x : Int32) : Int32 := if hasC S x then nI (S 3 (tn x)) else -1
def hoursI (S : MS) (x : Int32) : Int32 := if hasC S x then nI (hoursN S (tn x)) else -1
def waitedI (S : MS) (x : Int32) : Int32 := if hasC S x then (if S 3 (tn x) = 1 then -2 else nI (S 4 (tn x))) else -1
def pointsI (S : MS) (x : Int32) : Int32 := if hasC S x then (if S 3 (tn x) = 1 then -2 else nI (ptsN S (tn x))) else -1
def feeI (S : MS) (x : Int32) : Int32 := if hasC S x then (if S 3 (tn x) = 0 then -2 else nI (feeN S (tn x))) else -1
def bookOk (S : MS) (x d b e : Int32) : Bool := hasC S x && isDayI d && isSpanI b e
def bookNo (S : MS) (c d b e : Nat) : Bool := decide (S 3 c = 1) && !canHaveB S c d b e
def setSp (S : MS) (k c d b e : Nat) : MS := uM (uM S k (5 * c + d) b) (k + 1) (5 * c + d) e
def bookR (S : MS) (x d b e : Int32) : Int32 := if bookOk S x d b e then (if bookNo S (tn x) (tn d) (tn b) (tn e) then -3 else nI (hoursN (setSp S 5 (tn x) (tn d) (tn b) (tn e)) (tn x))) else -1
def bookS (S : MS) (x d b e : Int32) : MS := if bookOk S x d b e then (if bookNo S (tn x) (tn d) (tn b) (tn e) then S else setSp S 5 (tn x) (tn d) (tn b) (tn e)) else S
def rmCR (S : MS) (x : Int32) : Int32 := if hasC S x then nI (childN (uM S 0 (tn x) 0)) else -1
def rmCS (S : MS) (x : Int32) : MS := if hasC S x then uM S 0 (tn x) 0 else S

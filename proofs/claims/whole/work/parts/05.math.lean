/-! the numbers of a state S of the reference -/
def sm (f : Nat → Nat) : Nat → Nat
  | 0 => 0
  | n + 1 => sm f n + f n
theorem sm_s (f : Nat → Nat) (n : Nat) : sm f (n + 1) = sm f n + f n := rfl
theorem sm_0 (f : Nat → Nat) : sm f 0 = 0 := rfl
theorem sm_le {f : Nat → Nat} {b : Nat} : ∀ {n : Nat}, (∀ i, i < n → f i ≤ b) → sm f n ≤ n * b
  | 0, _ => by simp [sm]
  | n + 1, h => by
    have h1 := sm_le (f := f) (b := b) (n := n) (fun i hi => h i (Nat.lt_succ_of_lt hi))
    have h2 := h n (Nat.lt_succ_self n)
    rw [sm_s, Nat.succ_mul]
    omega
theorem sm_congr {f g : Nat → Nat} : ∀ {n : Nat}, (∀ i, i < n → f i = g i) → sm f n = sm g n
  | 0, _ => rfl
  | n + 1, h => by rw [sm_s, sm_s, sm_congr (n := n) (fun i hi => h i (Nat.lt_succ_of_lt hi)), h n (Nat.lt_succ_self n)]
/-- one if it holds -/
def ct (b : Bool) : Nat := if b then 1 else 0
theorem ct_le (b : Bool) : ct b ≤ 1 := by cases b <;> decide
theorem ct_t : ct true = 1 := rfl
theorem ct_f : ct false = 0 := rfl
def withinI (v lo hi : Int32) : Bool := decide (lo ≤ v) && decide (v ≤ hi)
theorem nI_pred_le {h e : Nat} (hh : h < 2147483648) (he : e < 2147483648) : nI h ≤ nI e - nI 1 ↔ h < e := by
  rcases e with _ | e
  · constructor
    · intro q
      exact absurd q (by
        rw [Int32.le_iff_toInt_le, nI_toInt (show h < 2 ^ 31 from hh)]
        rw [show (nI 0 - nI 1).toInt = -1 from by decide]
        omega)
    · intro q; omega
  · rw [pk_sub (by omega), nI_leI (show h < 2 ^ 31 from hh) (by omega)]
    omega
theorem within_N {v lo hi : Nat} (h1 : v < 2147483648) (h2 : lo < 2147483648) (h3 : hi < 2147483648) : withinI (nI v) (nI lo) (nI hi) = (decide (lo ≤ v) && decide (v ≤ hi)) := by
  unfold withinI
  rw [decide_eq_decide.mpr (nI_leI h2 h1), decide_eq_decide.mpr (nI_leI h1 h3)]
theorem within_P {v lo hi : Nat} (h1 : v < 2147483648) (h2 : lo < 2147483648) (h3 : hi < 2147483648) : withinI (nI v) (nI lo) (nI hi - nI 1) = (decide (lo ≤ v) && decide (v < hi)) := by
  unfold withinI
  rw [decide_eq_decide.mpr (nI_leI h2 h1), decide_eq_decide.mpr (nI_pred_le h1 h3)]
/-- an int between 0 and a number is a number -/
theorem within_0 {x : Int32} {n : Nat} (hn : n < 2147483648) (h : withinI x (nI 0) (nI n) = true) : ∃ j : Nat, j ≤ n ∧ x = nI j := by
  unfold withinI at h
  simp only [Bool.and_eq_true, decide_eq_true_eq] at h
  obtain ⟨h1, h2⟩ := h
  refine nI_of2 (M := nI n) (n := n) (nI_toInt (show n < 2 ^ 31 from hn)) ?_ h2
  intro q
  rw [nI_0] at h1
  rw [Int32.le_iff_toInt_le] at h1
  rw [Int32.lt_iff_toInt_lt] at q
  omega
def isDayI (x : Int32) : Bool := withinI x (nI 0) (nI 4)
def isSpanI (b e : Int32) : Bool := withinI b (nI 0) (nI 10) && withinI e b (nI 10)
def isWeekI (x : Int32) : Bool := withinI x (nI 0) (nI 51)
def isGroupI (x : Int32) : Bool := withinI x (nI 0) (nI 2)
def isHourI (d h : Int32) : Bool := isDayI d && withinI h (nI 0) (nI 9)
/-- the child, the educator with the number x is there -/
def hasC (S : MS) (x : Int32) : Bool := withinI x (nI 0) (nI 23) && decide (S 0 x.toNatClampNeg = 1)
def hasE (S : MS) (x : Int32) : Bool := withinI x (nI 0) (nI 7) && decide (S 7 x.toNatClampNeg = 1)
theorem hasC_of {S : MS} {x : Int32} (h : hasC S x = true) : ∃ c : Nat, c < 24 ∧ x = nI c ∧ S 0 c = 1 := by
  unfold hasC at h
  simp only [Bool.and_eq_true, decide_eq_true_eq] at h
  obtain ⟨j, hj, rfl⟩ := within_0 (by decide) h.1
  refine ⟨j, by omega, rfl, ?_⟩
  rw [nI_clamp (by omega)] at h
  exact h.2
theorem hasE_of {S : MS} {x : Int32} (h : hasE S x = true) : ∃ c : Nat, c < 8 ∧ x = nI c ∧ S 7 c = 1 := by
  unfold hasE at h
  simp only [Bool.and_eq_true, decide_eq_true_eq] at h
  obtain ⟨j, hj, rfl⟩ := within_0 (by decide) h.1
  refine ⟨j, by omega, rfl, ?_⟩
  rw [nI_clamp (by omega)] at h
  exact h.2
def isIn (S : MS) (c : Nat) : Bool := decide (S 0 c = 1) && decide (S 3 c = 1)
def childN (S : MS) : Nat := sm (fun c => S 0 c) 24
def hoursN (S : MS) (c : Nat) : Nat := sm (fun d => S 6 (5 * c + d) - S 5 (5 * c + d)) 5
def isBkd (S : MS) (c d h : Nat) : Bool := decide (S 5 (5 * c + d) ≤ h) && decide (h < S 6 (5 * c + d))
def grpN (S : MS) (c : Nat) : Nat := if S 1 c < 24 then 0 else if S 1 c < 36 then 1 else 2
theorem grpN_le (S : MS) (c : Nat) : grpN S c ≤ 2 := by unfold grpN; split <;> (try split) <;> omega
/-- how many are present: of the group g, of all (-9) -/
def presB (S : MS) (d h : Nat) (g : Int32) (c : Nat) : Bool := isIn S c && isBkd S c d h && (decide (g = -9) || decide (nI (grpN S c) = g))
def presN (S : MS) (d h : Nat) (g : Int32) : Nat := sm (fun c => ct (presB S d h g c)) 24
/-- what holds of the reference's state between calls -/
def IV (S : MS) : Prop := (∀ i, i < 120 → S 5 i ≤ S 6 i ∧ S 6 i ≤ 10) ∧ (∀ i, i < 40 → S 8 i ≤ S 9 i ∧ S 9 i ≤ 10) ∧ (∀ i, i < 24 → S 0 i ≤ 1 ∧ S 3 i ≤ 1) ∧ (∀ i, i < 8 → S 7 i ≤ 1) ∧ (∀ i, i < 416 → S 10 i ≤ 1) ∧ (∀ i, i < 3 → 1 ≤ S 11 i ∧ S 11 i ≤ 20) ∧ (∀ i, i < 3 → S 12 i ≤ 5000)

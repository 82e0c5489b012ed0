/-! the best cover -/
def cutc (S : MS) : MS := fun a j => if a = 16 ∨ a = 18 ∨ a = 19 ∨ a = 20 then 0 else S a j
def AC (S T : MS) : Prop := cutc S = cutc T
theorem AC_of {S T : MS} (h : ∀ a j, a ≠ 16 → (a < 18 ∨ 20 < a) → S a j = T a j) : AC S T := by
  funext a j
  unfold cutc
  split
  · rfl
  · exact h a j (by omega) (by omega)
theorem AC.symm {S T : MS} (h : AC S T) : AC T S := Eq.symm h
theorem AC.trans {S T U : MS} (h : AC S T) (h2 : AC T U) : AC S U := Eq.trans h h2
theorem AG.ac {S T : MS} (h : AG S T) : AC S T := AC_of (fun _ _ _ ha => h.at ha)
theorem IV_cutc (S : MS) : IV S = IV (cutc S) := rfl
theorem shN_cutc (S : MS) (w d : Nat) : shN S w d = shN (cutc S) w d := rfl
theorem givB_cutc (S : MS) (set d u many : Nat) : givB S set d u many = givB (cutc S) set d u many := rfl
theorem cstN_cutc (S : MS) (set : Nat) : cstN S set = cstN (cutc S) set := rfl
theorem cvN_cutc (S : MS) (w : Nat) : ∀ k u, cvN S w k u = cvN (cutc S) w k u
  | 0, _ => rfl
  | k + 1, u => lsN_congr (fun set _ => by rw [cvN_cutc S w k, shN_cutc, givB_cutc, cstN_cutc])
theorem AC.iv {S T : MS} (h : AC S T) (hI : IV S) : IV T := by
  rw [IV_cutc] at hI ⊢
  rw [← (show cutc S = cutc T from h)]
  exact hI
theorem AC.cv {S T : MS} (h : AC S T) (w k u : Nat) : cvN S w k u = cvN T w k u := by rw [cvN_cutc, cvN_cutc T, show cutc S = cutc T from h]
theorem AC.sh {S T : MS} (h : AC S T) (w d : Nat) : shN S w d = shN T w d := by rw [shN_cutc, shN_cutc T, show cutc S = cutc T from h]
theorem AC.giv {S T : MS} (h : AC S T) (set d u many : Nat) : givB S set d u many = givB T set d u many := by rw [givB_cutc, givB_cutc T, show cutc S = cutc T from h]
theorem AC.cst {S T : MS} (h : AC S T) (set : Nat) : cstN S set = cstN T set := by rw [cstN_cutc, cstN_cutc T, show cutc S = cutc T from h]
def gdB (S : MS) (w d u s : Nat) : Bool := givB S s d u (shN S w d) && decide (cstN S s + cvN S w (4 - d) (u + usN s) = cvN S w (5 - d) u)
/-- the first place from c on where p holds -/
def frP (p : Nat → Bool) : Nat → Nat → Nat
  | 0, c => c
  | n + 1, c => if p c then c else frP p n (c + 1)
def chN (S : MS) (w d u : Nat) : Nat := frP (gdB S w d u) 16 0
def usA (S : MS) (w : Nat) : Nat → Nat
  | 0 => 0
  | d + 1 => usA S w d + usN (chN S w d (usA S w d))
def kpS (S : MS) (w d : Nat) : MS := fun a j => if a = 16 ∧ j < d then chN S w j (usA S w j) else S a j
theorem kpS_0 (S : MS) (w : Nat) : kpS S w 0 = S := by
  funext a j
  unfold kpS
  rw [if_neg (by omega)]
theorem kpS_ac (S : MS) (w d : Nat) : AC (kpS S w d) S := AC_of (fun a j ha _ => by unfold kpS; rw [if_neg (by omega)])
theorem kpS_s (S : MS) (w d : Nat) : uM (kpS S w d) 16 d (chN S w d (usA S w d)) = kpS S w (d + 1) := by
  funext a j
  unfold uM kpS
  by_cases h : a = 16 ∧ j = d
  · obtain ⟨rfl, rfl⟩ := h
    rw [if_pos ⟨rfl, rfl⟩, if_pos ⟨rfl, by omega⟩]
  · rw [if_neg h]
    by_cases h2 : a = 16 ∧ j < d
    · rw [if_pos h2, if_pos ⟨h2.1, by omega⟩]
    · rw [if_neg h2, if_neg (by omega)]
theorem ls_ex {f : Nat → Nat} : ∀ {n : Nat}, lsN f n < 1000000 → ∃ i, i < n ∧ f i = lsN f n
  | 0, h => absurd h (Nat.lt_irrefl _)
  | n + 1, h => by
    rw [lsN_s] at h ⊢
    by_cases q : f n < lsN f n
    · rw [if_pos q]
      exact ⟨n, by omega, rfl⟩
    · rw [if_neg q] at h ⊢
      obtain ⟨i, h1, h2⟩ := ls_ex h
      exact ⟨i, by omega, h2⟩
theorem gd_ex {S : MS} {w d u : Nat} (hd : d < 5) (h : cvN S w (5 - d) u < 1000000) : ∃ s, s < 16 ∧ gdB S w d u s = true := by
  obtain ⟨k, hk⟩ : ∃ k, 5 - d = k + 1 := ⟨4 - d, by omega⟩
  rw [hk] at h
  obtain ⟨s, h1, h2⟩ := ls_ex h
  refine ⟨s, h1, ?_⟩
  have e1 : 4 - k = d := by omega
  have e2 : 4 - d = k := by omega
  rw [e1] at h2
  unfold gdB
  rw [hk, e2, Bool.and_eq_true]
  by_cases q : givB S s d u (shN S w d) = true
  · rw [if_pos q] at h2
    exact ⟨q, decide_eq_true (by rw [h2]; show lsN _ 16 = lsN _ 16; rw [e1])⟩
  · rw [if_neg q] at h2
    have h3 : cvN S w (k + 1) u = 1000000 := by
      show lsN _ 16 = _
      rw [e1]
      exact h2.symm
    omega
def covR (S : MS) (x : Int32) : Int32 := if isWeekI x then (if cvN S (tn x) 5 0 < 1000000 then nI (cvN S (tn x) 5 0) else -2) else -1
def covS (S : MS) (x : Int32) : MS := if isWeekI x then (if cvN S (tn x) 5 0 < 1000000 then kpS S (tn x) 5 else S) else S
/-- what cover and loadBookings leave behind: the state off the rows that calls fill anew -/
def pA (R : Int32) (N : MS) : Option Value → MS → Prop := pI (fun r u => R = r ∧ AG u N ∧ BD u ∧ IV u)
def chw (S : MS) (e w : Nat) : Nat := cvN (uM S 10 (52 * e + w) 1) w 5 0
def chp (S : MS) (e : Nat) : Nat → Option Nat × Nat
  | 0 => (none, 1000000)
  | w + 1 => if S 10 (52 * e + w) = 0 then (if chw S e w < (chp S e w).2 then (some w, chw S e w) else chp S e w) else chp S e w
theorem chp_s (S : MS) (e w : Nat) : chp S e (w + 1) = if S 10 (52 * e + w) = 0 then (if chw S e w < (chp S e w).2 then (some w, chw S e w) else chp S e w) else chp S e w := rfl
def chpR (S : MS) (x : Int32) : Int32 := if hasE S x then oI (chp S (tn x) 52).1 else -1
theorem hol_back {T S : MS} {i v : Nat} (h : AG T (uM S 10 i v)) (h0 : S 10 i = 0) : AG (uM T 10 i 0) S := AG_of (fun a j ha => by
  by_cases q : a = 10 ∧ j = i
  · rw [q.1, q.2, uM_eq, h0]
  · rw [uM_ne q, h.at ha, uM_ne q])
theorem IV_kept {S : MS} (h : IV S) {i v : Nat} : IV (uM S 16 i v) := AC.iv (AC_of (fun a j ha _ => by rw [uM_nk ha])) h

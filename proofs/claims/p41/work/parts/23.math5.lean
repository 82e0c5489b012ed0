/-! the text, the checksum -/
def typR (S : MS) (x : Int32) : Int32 := if withinI x (nI 32) (nI 126) then (if S 21 3 = 60 then -3 else nI (S 21 3 + 1)) else -1
def typS (S : MS) (x : Int32) : MS := if withinI x (nI 32) (nI 126) then (if S 21 3 = 60 then S else uM (uM S 17 (S 21 3) (tn x)) 21 3 (S 21 3 + 1)) else S
theorem IV_text {S : MS} (h : IV S) {i v : Nat} : IV (uM S 17 i v) := by
  refine IV_of h ?_ ?_ ?_ ?_ ?_ ?_ ?_ ?_ ?_ ?_ ?_ ?_ ?_ <;> try (intro j _; right; simp [uM]; done)
  all_goals simp [uM]
theorem IV_len {S : MS} (h : IV S) {v : Nat} (hv : v ≤ 60) : IV (uM S 21 3 v) := by
  refine IV_of h ?_ ?_ ?_ ?_ ?_ ?_ ?_ ?_ ?_ ?_ ?_ ?_ ?_ <;> try (intro j _; right; simp [uM]; done)
  · right; simp [uM]
  · right; simp [uM]
  · left; simp [uM]; omega
def chI (S : MS) (p l : Nat) : Int32 := if p < S 21 3 ∧ l ≤ S 17 p then nI (S 17 p - l) else -1
def okD (S : MS) (l p : Nat) : Bool := decide (p < S 21 3) && (decide (48 + l ≤ S 17 p) && decide (S 17 p ≤ 52))
def okB (S : MS) (p : Nat) : Bool := decide (p < S 21 3) && (decide (97 ≤ S 17 p) && decide (S 17 p ≤ 106))
def okE (S : MS) (b p : Nat) : Bool := decide (p < S 21 3) && (decide (98 + b ≤ S 17 p) && decide (S 17 p ≤ 107))
def okS (S : MS) (p : Nat) : Bool := decide (p < S 21 3) && decide (S 17 p = 59)
def dyN (S : MS) (p : Nat) : Nat := S 17 p - 48
def ltN (S : MS) (p : Nat) : Nat := S 17 p - 97
/-- the fault of the text from the place p on, when days from l on may stand; -9: none -/
def rdI (S : MS) : Nat → Nat → Nat → Int32
  | 0, _, _ => -9
  | f + 1, p, l => if p < S 21 3 then (if okD S l p then (if okB S (p + 1) then (if okE S (ltN S (p + 1)) (p + 2) then (if okS S (p + 3) then rdI S f (p + 4) (dyN S p + 1) else nI (p + 3)) else nI (p + 2)) else nI (p + 1)) else nI p) else -9
/-- what reading leaves in the rows 18 and 19 -/
def rdT (S : MS) : Nat → Nat → Nat → MS → MS
  | 0, _, _, T => T
  | f + 1, p, l, T => if p < S 21 3 then (if okD S l p then (if okB S (p + 1) then (if okE S (ltN S (p + 1)) (p + 2) then (if okS S (p + 3) then rdT S f (p + 4) (dyN S p + 1) (uM (uM T 18 (dyN S p) (ltN S (p + 1))) 19 (dyN S p) (ltN S (p + 2))) else T) else T) else T) else T) else T
theorem rdI_s (S : MS) (f p l : Nat) : rdI S (f + 1) p l = if p < S 21 3 then (if okD S l p then (if okB S (p + 1) then (if okE S (ltN S (p + 1)) (p + 2) then (if okS S (p + 3) then rdI S f (p + 4) (dyN S p + 1) else nI (p + 3)) else nI (p + 2)) else nI (p + 1)) else nI p) else -9 := rfl
theorem rdT_s (S : MS) (f p l : Nat) (T : MS) : rdT S (f + 1) p l T = if p < S 21 3 then (if okD S l p then (if okB S (p + 1) then (if okE S (ltN S (p + 1)) (p + 2) then (if okS S (p + 3) then rdT S f (p + 4) (dyN S p + 1) (uM (uM T 18 (dyN S p) (ltN S (p + 1))) 19 (dyN S p) (ltN S (p + 2))) else T) else T) else T) else T) else T := rfl
def zR (S : MS) (d : Nat) : MS := uM (uM S 18 d 0) 19 d 0
def rdZ (S : MS) : MS := rdT S 16 0 0 (itS zR S 5)
theorem m1_toInt : (-1 : Int32).toInt = -1 := by decide
theorem within_m1 {lo hi : Nat} (h : lo < 2147483648) : withinI (-1) (nI lo) (nI hi) = false := by
  unfold withinI
  rw [Bool.and_eq_false_iff]
  left
  rw [decide_eq_false_iff_not, Int32.le_iff_toInt_le, nI_toInt (show lo < 2 ^ 31 from h), m1_toInt]
  omega
theorem ch_day {S : MS} (hB : BD S) {p l : Nat} (hl : l ≤ 5) : withinI (chI S p 48) (nI l) (nI 4) = okD S l p := by
  have hb := hB 17 p
  unfold chI okD
  by_cases q : p < S 21 3 ∧ 48 ≤ S 17 p
  · rw [if_pos q, within_N (by omega) (by omega) (by omega), decide_eq_true q.1, Bool.true_and]
    congr 1 <;> (apply decide_eq_decide.mpr; omega)
  · rw [if_neg q, within_m1 (by omega)]
    symm
    simp
    omega
theorem ch_beg {S : MS} (hB : BD S) {p : Nat} : withinI (chI S p 97) (nI 0) (nI 9) = okB S p := by
  have hb := hB 17 p
  unfold chI okB
  by_cases q : p < S 21 3 ∧ 97 ≤ S 17 p
  · rw [if_pos q, within_N (by omega) (by omega) (by omega), decide_eq_true q.1, Bool.true_and]
    congr 1 <;> (apply decide_eq_decide.mpr; omega)
  · rw [if_neg q, within_m1 (by omega)]
    symm
    simp
    omega
theorem ch_end {S : MS} (hB : BD S) {p b : Nat} (hb9 : b ≤ 9) : withinI (chI S p 97) (nI (b + 1)) (nI 10) = okE S b p := by
  have hb := hB 17 p
  unfold chI okE
  by_cases q : p < S 21 3 ∧ 97 ≤ S 17 p
  · rw [if_pos q, within_N (by omega) (by omega) (by omega), decide_eq_true q.1, Bool.true_and]
    congr 1 <;> (apply decide_eq_decide.mpr; omega)
  · rw [if_neg q, within_m1 (by omega)]
    symm
    simp
    omega
theorem ch_semi {S : MS} (hB : BD S) {p : Nat} : chI S p 59 = 0 ↔ okS S p = true := by
  have hb := hB 17 p
  unfold chI okS
  by_cases q : p < S 21 3 ∧ 59 ≤ S 17 p
  · rw [if_pos q, ← nI_0, nI_eq (by omega) (by omega)]
    simp
    omega
  · rw [if_neg q]
    simp
    omega
theorem chI_ag {S T : MS} (h : AG S T) (p l : Nat) : chI S p l = chI T p l := by
  unfold chI
  rw [h.at (by omega), h.at (by omega)]
theorem ok_of {S : MS} {l p : Nat} (h : okD S l p = true) : p < S 21 3 ∧ 48 + l ≤ S 17 p ∧ S 17 p ≤ 52 := by
  unfold okD at h
  simpa using h
theorem okB_of {S : MS} {p : Nat} (h : okB S p = true) : p < S 21 3 ∧ 97 ≤ S 17 p ∧ S 17 p ≤ 106 := by
  unfold okB at h
  simpa using h
theorem okE_of {S : MS} {b p : Nat} (h : okE S b p = true) : p < S 21 3 ∧ 98 + b ≤ S 17 p ∧ S 17 p ≤ 107 := by
  unfold okE at h
  simpa using h
theorem chI_val {S : MS} {p l : Nat} (h : p < S 21 3) (h2 : l ≤ S 17 p) : chI S p l = nI (S 17 p - l) := if_pos ⟨h, h2⟩
theorem canHave_cut (S : MS) (c d b e : Nat) : canHaveB S c d b e = canHaveB (cut S) c d b e := rfl
theorem AG.chv {S T : MS} (h : AG S T) (c d b e : Nat) : canHaveB S c d b e = canHaveB T c d b e := by rw [canHave_cut, canHave_cut T, show cut S = cut T from h]
def spT (S : MS) (c : Nat) (B : MS) : MS := itS (fun T d => uM (uM T 5 (5 * c + d) (B 18 d)) 6 (5 * c + d) (B 19 d)) S 5
def ldNo (S : MS) (c : Nat) : Bool := decide (S 3 c = 1) && !andN (fun d => canHaveB S c d (rdZ S 18 d) (rdZ S 19 d)) 5
def ldR (S : MS) (x : Int32) : Int32 := if hasC S x then (if rdI S 16 0 0 = -9 then (if ldNo S (tn x) then -3 else nI (hoursN (spT S (tn x) (rdZ S)) (tn x))) else -10 - rdI S 16 0 0) else -1
def ldS (S : MS) (x : Int32) : MS := if hasC S x then (if rdI S 16 0 0 = -9 then (if ldNo S (tn x) then S else spT S (tn x) (rdZ S)) else S) else S
theorem AG_it {f g : MS → Nat → MS} (h : ∀ T U d, AG T U → AG (f T d) (g U d)) {S T : MS} (hST : AG S T) : ∀ n, AG (itS f S n) (itS g T n)
  | 0 => hST
  | n + 1 => h _ _ _ (AG_it h hST n)
theorem AG_zR (S : MS) : ∀ n, AG (itS zR S n) S
  | 0 => AG.refl S
  | n + 1 => AG_19 (AG_18 (AG_zR S n))
/-- the spans that reading has found are spans -/
def spOk (T : MS) : Prop := ∀ d, d < 5 → T 18 d ≤ T 19 d ∧ T 19 d ≤ 10
theorem spOk_u {T : MS} (h : spOk T) {d b e : Nat} (hb : b ≤ e) (he : e ≤ 10) : spOk (uM (uM T 18 d b) 19 d e) := by
  intro j hj
  by_cases q : j = d
  · subst q
    simp [uM]
    omega
  · have := h j hj
    simp [uM, q]
    exact this
def mixL (h : Int64) (v : Nat) : Int64 := 31 * h + (nI v).toInt64
def dgC (S : MS) (h : Int64) : Nat → Int64
  | 0 => h
  | c + 1 => if S 0 c = 1 then mixL (mixL (mixL (mixL (mixL (dgC S h c) c) (S 1 c)) (S 3 c)) (hoursN S c)) (if S 3 c = 1 then feeN S c else ptsN S c) else dgC S h c
def dgQ (S : MS) (g : Int64) (d h : Nat) : Int64 := mixL (mixL (mixL g (presN S d h (-9))) (needN S d h (-9))) (staffN S d h)
def dgH (S : MS) (g : Int64) : Nat → Int64
  | 0 => g
  | q + 1 => dgQ S (dgH S g q) (q / 10) (q % 10)
def dgF (f : Nat → Nat) (g : Int64) : Nat → Int64
  | 0 => g
  | d + 1 => mixL (dgF f g d) (f d)
def dg1 (S : MS) : Int64 := mixL (1335511 + (nI (S 21 0)).toInt64) (childN S)
def dg2 (S : MS) : Int64 := mixL (dgC S (dg1 S) 24) (eduN S)
def dg3 (S : MS) : Int64 := mixL (mixL (dgH S (dg2 S) 50) (usfN S)) (feesN S (-9))
def digL (S : MS) : Int64 := mixL (dgF (fun d => shN S 0 d) (dgF (fun d => S 16 d) (dg3 S) 5) 5) (S 21 3)
def pLS (S : MS) (x : Int64) : Option Value → MS → Prop := pL (fun r u => x = r ∧ S = u)
theorem dgC_s (S : MS) (h : Int64) (c : Nat) : dgC S h (c + 1) = if S 0 c = 1 then mixL (mixL (mixL (mixL (mixL (dgC S h c) c) (S 1 c)) (S 3 c)) (hoursN S c)) (if S 3 c = 1 then feeN S c else ptsN S c) else dgC S h c := rfl
theorem dgH_s (S : MS) (g : Int64) {d h : Nat} (hh : h < 10) : dgH S g (10 * d + (h + 1)) = dgQ S (dgH S g (10 * d + h)) d h := by
  show dgQ S (dgH S g (10 * d + h)) ((10 * d + h) / 10) ((10 * d + h) % 10) = _
  rw [show (10 * d + h) / 10 = d by omega, show (10 * d + h) % 10 = h by omega]

/-! more answers and next states -/
def pS (R : Int32) (N : MS) : Option Value → MS → Prop := pI (fun r u => R = r ∧ N = u ∧ BD u ∧ IV u)
theorem within_of {x : Int32} {lo n : Nat} (hlo : lo ≤ n) (hn : n < 2147483648) (h : withinI x (nI lo) (nI n) = true) : ∃ j : Nat, lo ≤ j ∧ j ≤ n ∧ x = nI j := by
  have h2 := h
  unfold withinI at h2
  simp only [Bool.and_eq_true, decide_eq_true_eq] at h2
  have h3 : withinI x (nI 0) (nI n) = true := by
    unfold withinI
    simp only [Bool.and_eq_true, decide_eq_true_eq]
    refine ⟨?_, h2.2⟩
    have h4 := h2.1
    rw [Int32.le_iff_toInt_le] at h4 ⊢
    rw [nI_toInt (by omega)] at h4 ⊢
    omega
  obtain ⟨j, hj, rfl⟩ := within_0 hn h3
  exact ⟨j, (nI_leI (by omega) (by omega)).mp h2.1, hj, rfl⟩
def stepM (S : MS) (c : Nat) : MS := if S 0 c = 1 then uM (uM (uM S 1 c (S 1 c + 1)) 4 c (S 4 c + (if S 3 c = 1 then 0 else 1))) 0 c (if S 1 c + 1 = 78 then 0 else 1) else S
def monthS (S : MS) : MS := itS stepM (uM S 21 0 (S 21 0 + 1)) 24
theorem stepM_eq {T : MS} {i a m r : Nat} (h0 : T 0 i = 1) (ha : a = T 1 i + 1) (hm : m = T 4 i + (if T 3 i = 1 then 0 else 1)) (hr : r = if T 1 i + 1 = 78 then 0 else 1) : uM (uM (uM T 1 i a) 4 i m) 0 i r = stepM T i := by
  subst ha hm hr
  unfold stepM
  rw [if_pos h0]
theorem stepM_no {T : MS} {i : Nat} (h0 : T 0 i ≠ 1) : stepM T i = T := if_neg h0
theorem IV_step {T : MS} {i : Nat} (h : IV T) (hi : i < 24) : IV (stepM T i) := by
  unfold stepM
  split
  · rename_i h0
    have h8 := h.2.2.2.2.2.2.2.1 i hi
    have h3 := h.2.2.1 i hi
    refine IV_of h ?_ ?_ ?_ ?_ ?_ ?_ ?_ ?_ ?_ ?_ ?_ ?_ ?_ <;> try (intro j _; right; simp [uM]; done)
    · intro j _
      by_cases hj : j = i
      · left; subst hj; simp [uM]; split <;> omega
      · right; simp [uM, hj]
    · intro j _
      by_cases hj : j = i
      · left; subst hj; simp [uM]
        refine ⟨by omega, ?_, ?_, by omega⟩
        · split <;> omega
        · intro hne; omega
      · right; simp [uM, hj]
    all_goals simp [uM]
  · exact h
theorem IV_month {S : MS} (h : IV S) {v : Nat} : IV (uM S 21 0 v) := by
  refine IV_of h ?_ ?_ ?_ ?_ ?_ ?_ ?_ ?_ ?_ ?_ ?_ ?_ ?_ <;> try (intro j _; right; simp [uM]; done)
  all_goals simp [uM]
theorem fdI_succ (p : Nat → Bool) (n : Nat) : fdI p (n + 1) = if p n then nI n else fdI p n := rfl
theorem wtg_pos {S : MS} {x : Int32} (h : 0 ≤ x) : wtgI S x = fdI (fun c => isWt S c && decide (nI (placeN S c) = x)) 24 := by
  unfold wtgI
  rw [if_neg]
  intro q
  rw [Int32.le_iff_toInt_le] at h
  rw [Int32.lt_iff_toInt_lt] at q
  omega
theorem wtg_neg {S : MS} {x : Int32} (h : ¬ 0 ≤ x) : wtgI S x = -1 := by
  unfold wtgI
  rw [if_pos]
  rw [Int32.le_iff_toInt_le] at h
  rw [Int32.lt_iff_toInt_lt]
  omega
theorem adm_stop {A : Bool} {f : Nat → Bool} {h n : Nat} (hh : h ≤ n) (e : false = (A && andN f h)) : false = (A && andN f n) := by
  cases A with
  | false => rfl
  | true =>
    rw [Bool.true_and] at e
    rw [andN_no hh e.symm]
    rfl
theorem oI_9 {o : Option Nat} (ho : ∀ b, o = some b → b < 24) (h : oI o = -9) : o = none := by
  cases o with
  | none => rfl
  | some b => exact absurd h (nI_n9 (by have := ho b rfl; omega))
theorem oI_n9 {o : Option Nat} (h : ¬ oI o = -9) : ∃ b, o = some b := by
  cases o with
  | none => exact absurd rfl h
  | some b => exact ⟨b, rfl⟩
theorem nxt_lt {S : MS} : ∀ {n b : Nat}, nxt S n = some b → b < n
  | 0, b, h => by simp [nxt] at h
  | n + 1, b, h => by
    rw [nxt] at h
    split at h
    · split at h
      · cases h; omega
      · rename_i b' hb'
        have := nxt_lt hb'
        split at h <;> (cases h; omega)
    · have := nxt_lt h; omega
theorem nxt_wt {S : MS} : ∀ {n b : Nat}, nxt S n = some b → isWt S b = true ∧ admB S b = true
  | 0, b, h => by simp [nxt] at h
  | n + 1, b, h => by
    rw [nxt] at h
    split at h
    · rename_i hw
      rw [Bool.and_eq_true] at hw
      split at h
      · cases h; exact hw
      · rename_i b' hb'
        have := nxt_wt hb'
        split at h <;> cases h
        · exact hw
        · exact this
    · exact nxt_wt h
def wtN (S : MS) : Nat := sm (fun c => ct (isWt S c)) 24
theorem sm_lt {f g : Nat → Nat} : ∀ {n : Nat}, (∀ i, i < n → f i ≤ g i) → (∃ i, i < n ∧ f i < g i) → sm f n < sm g n
  | 0, _, h => by obtain ⟨i, h1, _⟩ := h; omega
  | n + 1, h, ⟨i, hi, hlt⟩ => by
    rw [sm_s, sm_s]
    have hn := h n (Nat.lt_succ_self n)
    by_cases hin : i = n
    · subst hin
      have : sm f i ≤ sm g i := by
        have : ∀ m, m ≤ i → sm f m ≤ sm g m := by
          intro m
          induction m with
          | zero => intro _; exact Nat.le_refl _
          | succ m ih => intro hm; rw [sm_s, sm_s]; have := ih (by omega); have := h m (by omega); omega
        exact this i (Nat.le_refl _)
      omega
    · have := sm_lt (n := n) (fun j hj => h j (Nat.lt_succ_of_lt hj)) ⟨i, by omega, hlt⟩
      omega
theorem wtN_adm {S : MS} {b : Nat} (hb : b < 24) (hw : isWt S b = true) : wtN (uM S 3 b 1) < wtN S := by
  refine sm_lt (fun i _ => ?_) ⟨b, hb, ?_⟩
  · by_cases hi : i = b
    · subst hi
      rw [hw, show isWt (uM S 3 i 1) i = false by simp [isWt, uM]]
      decide
    · rw [show isWt (uM S 3 b 1) i = isWt S i by simp [isWt, uM, hi]]
      exact Nat.le_refl _
  · show ct (isWt (uM S 3 b 1) b) < ct (isWt S b)
    rw [hw, show isWt (uM S 3 b 1) b = false by simp [isWt, uM]]
    decide
theorem wtN_le (S : MS) : wtN S ≤ 24 := by
  have : wtN S ≤ 24 * 1 := sm_le (fun i _ => ct_le _)
  omega
theorem IV_adm {S : MS} (h : IV S) {c v : Nat} (hv : v ≤ 1) : IV (uM S 3 c v) := by
  refine IV_of h ?_ ?_ ?_ ?_ ?_ ?_ ?_ ?_ ?_ ?_ ?_ ?_ ?_ <;> try (intro j _; right; simp [uM]; done)
  · intro j _
    by_cases hj : j = c
    · left; simp [uM, hj]; omega
    · right; simp [uM, hj]
  all_goals simp [uM]
theorem IV_rel {S : MS} (h : IV S) {c : Nat} : IV (uM (uM S 3 c 0) 4 c 0) := by
  have h2 := IV_adm h (c := c) (v := 0) (by omega)
  refine ⟨?_, ?_, ?_, ?_, ?_, ?_, ?_, ?_, ?_, ?_, ?_, ?_⟩
  · intro i hi; have := h2.1 i hi; simp [uM] at this ⊢; exact this
  · intro i hi; have := h2.2.1 i hi; simp [uM] at this ⊢; exact this
  · intro i hi; have := h2.2.2.1 i hi; simp [uM] at this ⊢; exact this
  · intro i hi; have := h2.2.2.2.1 i hi; simp [uM] at this ⊢; exact this
  · intro i hi; have := h2.2.2.2.2.1 i hi; simp [uM] at this ⊢; exact this
  · intro i hi; have := h2.2.2.2.2.2.1 i hi; simp [uM] at this ⊢; exact this
  · intro i hi; have := h2.2.2.2.2.2.2.1 i hi; simp [uM] at this ⊢; exact this
  · intro i hi
    have := h.2.2.2.2.2.2.2.1 i hi
    by_cases hic : i = c
    · subst hic; simp [uM]; exact ⟨this.1, this.2.2.1, this.2.2.2⟩
    · simp [uM, hic]; exact this
  · intro i hi; have := h2.2.2.2.2.2.2.2.2.1 i hi; simp [uM] at this ⊢; exact this
  · have := h2.2.2.2.2.2.2.2.2.2.1; simp [uM] at this ⊢; exact this
  · have := h2.2.2.2.2.2.2.2.2.2.2.1; simp [uM] at this ⊢; exact this
  · have := h2.2.2.2.2.2.2.2.2.2.2.2; simp [uM] at this ⊢; exact this
def relR (S : MS) (x : Int32) : Int32 := if hasC S x then (if S 3 (tn x) = 0 then -2 else nI (hoursN S (tn x))) else -1
def relS (S : MS) (x : Int32) : MS := if hasC S x then (if S 3 (tn x) = 0 then S else uM (uM S 3 (tn x) 0) 4 (tn x) 0) else S
theorem hoursN_congr {S T : MS} {c : Nat} (h5 : ∀ j, S 5 j = T 5 j) (h6 : ∀ j, S 6 j = T 6 j) : hoursN S c = hoursN T c := by
  unfold hoursN
  exact sm_congr (fun i _ => by rw [h5, h6])
/-- the first place from c on that is no 1 -/
def frF (f : Nat → Nat) : Nat → Nat → Nat
  | 0, c => c
  | n + 1, c => if f c = 1 then frF f n (c + 1) else c
def freeC (S : MS) : Nat := frF (S 0) 24 0
def freeE (S : MS) : Nat := frF (S 7) 8 0
theorem sm_all1 {f : Nat → Nat} : ∀ {n : Nat}, (∀ i, i < n → f i = 1) → sm f n = n
  | 0, _ => rfl
  | n + 1, h => by rw [sm_s, sm_all1 (fun i hi => h i (Nat.lt_succ_of_lt hi)), h n (Nat.lt_succ_self n)]
def zC (c : Nat) (S : MS) (d : Nat) : MS := uM (uM S 5 (5 * c + d) 0) 6 (5 * c + d) 0
def zE (e : Nat) (S : MS) (d : Nat) : MS := uM (uM S 8 (5 * e + d) 0) 9 (5 * e + d) 0
def zH (e : Nat) (S : MS) (w : Nat) : MS := uM S 10 (52 * e + w) 0
def newC (S : MS) (c a f : Nat) : MS := itS (zC c) (uM (uM (uM (uM (uM S 0 c 1) 1 c a) 2 c f) 3 c 0) 4 c 0) 5
def addOk (a f : Int32) : Bool := withinI a (nI 3) (nI 77) && withinI f (nI 0) (nI 11)
def addCR (S : MS) (a f : Int32) : Int32 := if addOk a f then (if childN S = 24 then -3 else nI (freeC S)) else -1
def addCS (S : MS) (a f : Int32) : MS := if addOk a f then (if childN S = 24 then S else newC S (freeC S) (tn a) (tn f)) else S
def newE (S : MS) (e : Nat) : MS := itS (zH e) (itS (zE e) (uM S 7 e 1) 5) 52
def addER (S : MS) : Int32 := if eduN S = 8 then -3 else nI (freeE S)
def addES (S : MS) : MS := if eduN S = 8 then S else newE S (freeE S)
def rmER (S : MS) (x : Int32) : Int32 := if hasE S x then nI (eduN (uM S 7 (tn x) 0)) else -1
def rmES (S : MS) (x : Int32) : MS := if hasE S x then uM S 7 (tn x) 0 else S
def wkhN (S : MS) (e : Nat) : Nat := sm (fun d => S 9 (5 * e + d) - S 8 (5 * e + d)) 5
def workOk (S : MS) (x d b e : Int32) : Bool := hasE S x && isDayI d && isSpanI b e
def workR (S : MS) (x d b e : Int32) : Int32 := if workOk S x d b e then nI (wkhN (setSp S 8 (tn x) (tn d) (tn b) (tn e)) (tn x)) else -1
def workS (S : MS) (x d b e : Int32) : MS := if workOk S x d b e then setSp S 8 (tn x) (tn d) (tn b) (tn e) else S
def holN (S : MS) (e : Nat) : Nat := sm (fun w => S 10 (52 * e + w)) 52
def holS (S : MS) (x w : Int32) (b : Bool) : MS := if hasE S x && isWeekI w then uM S 10 (52 * tn x + tn w) (ct b) else S
def holR (S : MS) (x w : Int32) (b : Bool) : Int32 := if hasE S x && isWeekI w then nI (holN (uM S 10 (52 * tn x + tn w) (ct b)) (tn x)) else -1
def ratOk (g r : Int32) : Bool := isGroupI g && withinI r (nI 1) (nI 20)
def ratR (S : MS) (g r : Int32) : Int32 := if ratOk g r then nI (S 11 (tn g)) else -1
def ratS (S : MS) (g r : Int32) : MS := if ratOk g r then uM S 11 (tn g) (tn r) else S
def rateOk (g r : Int32) : Bool := isGroupI g && withinI r (nI 0) (nI 5000)
def rateR (S : MS) (g r : Int32) : Int32 := if rateOk g r then nI (S 12 (tn g)) else -1
def rateS (S : MS) (g r : Int32) : MS := if rateOk g r then uM S 12 (tn g) (tn r) else S
def limR (S : MS) (x : Int32) : Int32 := if withinI x (nI 1) (nI 24) then nI (S 21 1) else -1
def limS (S : MS) (x : Int32) : MS := if withinI x (nI 1) (nI 24) then uM S 21 1 (tn x) else S
def presI (S : MS) (d h : Int32) : Int32 := if isHourI d h then nI (presN S (tn d) (tn h) (-9)) else -1
def needI (S : MS) (d h : Int32) : Int32 := if isHourI d h then nI (needN S (tn d) (tn h) (-9)) else -1
def stafI (S : MS) (d h : Int32) : Int32 := if isHourI d h then nI (staffN S (tn d) (tn h)) else -1
def shrtI (S : MS) (w d : Int32) : Int32 := if isWeekI w && isDayI d then nI (shN S (tn w) (tn d)) else -1
def cvoI (S : MS) (d : Int32) : Int32 := if isDayI d then nI (S 16 (tn d)) else -1
def ffR (S : MS) (x : Int32) : Int32 := if hasC S x then (if S 3 (tn x) = 1 then -2 else nI (feesN (uM S 3 (tn x) 1) (nI (S 2 (tn x))))) else -1
theorem uM_back {S : MS} {c : Nat} (h : S 3 c = 0) : uM (uM S 3 c 1) 3 c 0 = S := by
  funext a j
  by_cases q : a = 3 ∧ j = c
  · rw [q.1, q.2, uM_eq, h]
  · rw [uM_ne q, uM_ne q]
def subOk (ds m w : Int32) : Bool := withinI ds (nI 1) (nI 31) && withinI m (nI 1) (nI 5) && withinI w (nI 1) (nI 1000)
def subNew (S : MS) (ds m w : Nat) : MS := uM (uM (uM (uM S 13 (S 21 2) ds) 14 (S 21 2) m) 15 (S 21 2) w) 21 2 (S 21 2 + 1)
def subR (S : MS) (ds m w : Int32) : Int32 := if subOk ds m w then (if S 21 2 = 4 then -3 else nI (S 21 2)) else -1
def subS (S : MS) (ds m w : Int32) : MS := if subOk ds m w then (if S 21 2 = 4 then S else subNew S (tn ds) (tn m) (tn w)) else S
theorem pct_le (r : Nat) : pctN r ≤ 100 := by unfold pctN; split <;> (try split) <;> omega
theorem lack_le {a b c : Nat} (ha : a < 1073741824) (hb : b < 1073741824) (hc : c < 1073741824) : nI a - nI b ≤ nI c ↔ a ≤ b + c := by
  rw [Int32.le_iff_toInt_le, pk_sub_toInt ha hb, nI_toInt (by omega)]
  omega
theorem stepM_21 (T : MS) (i t : Nat) : stepM T i 21 t = T 21 t := by
  unfold stepM
  split
  · rw [uM_nk (by omega), uM_nk (by omega), uM_nk (by omega)]
  · rfl
theorem itS_month {S : MS} : ∀ n : Nat, itS stepM (uM S 21 0 (S 21 0 + 1)) n 21 0 = S 21 0 + 1
  | 0 => uM_eq _ _ _ _
  | n + 1 => by rw [itS, stepM_21, itS_month n]
theorem IV_rmE {S : MS} (h : IV S) {c : Nat} : IV (uM S 7 c 0) := by
  refine IV_of h ?_ ?_ ?_ ?_ ?_ ?_ ?_ ?_ ?_ ?_ ?_ ?_ ?_ <;> try (intro j _; right; simp [uM]; done)
  · intro j _
    by_cases hj : j = c
    · left; simp [uM, hj]
    · right; simp [uM, hj]
  all_goals simp [uM]
theorem IV_hol {S : MS} (h : IV S) {c v : Nat} (hv : v ≤ 1) : IV (uM S 10 c v) := by
  refine IV_of h ?_ ?_ ?_ ?_ ?_ ?_ ?_ ?_ ?_ ?_ ?_ ?_ ?_ <;> try (intro j _; right; simp [uM]; done)
  · intro j _
    by_cases hj : j = c
    · left; simp [uM, hj]; omega
    · right; simp [uM, hj]
  all_goals simp [uM]
theorem IV_rat {S : MS} (h : IV S) {c v : Nat} (hv : 1 ≤ v ∧ v ≤ 20) : IV (uM S 11 c v) := by
  refine IV_of h ?_ ?_ ?_ ?_ ?_ ?_ ?_ ?_ ?_ ?_ ?_ ?_ ?_ <;> try (intro j _; right; simp [uM]; done)
  · intro j _
    by_cases hj : j = c
    · left; simp [uM, hj]; omega
    · right; simp [uM, hj]
  all_goals simp [uM]
theorem IV_rate {S : MS} (h : IV S) {c v : Nat} (hv : v ≤ 5000) : IV (uM S 12 c v) := by
  refine IV_of h ?_ ?_ ?_ ?_ ?_ ?_ ?_ ?_ ?_ ?_ ?_ ?_ ?_ <;> try (intro j _; right; simp [uM]; done)
  · intro j _
    by_cases hj : j = c
    · left; simp [uM, hj]; omega
    · right; simp [uM, hj]
  all_goals simp [uM]
theorem IV_lim {S : MS} (h : IV S) {v : Nat} (hv : v ≤ 24) : IV (uM S 21 1 v) := by
  refine IV_of h ?_ ?_ ?_ ?_ ?_ ?_ ?_ ?_ ?_ ?_ ?_ ?_ ?_ <;> try (intro j _; right; simp [uM]; done)
  · left; simp [uM]; omega
  all_goals simp [uM]
theorem feeN_le {S : MS} (h : IV S) {c : Nat} (hc : c < 24) : feeN S c ≤ 1000000 := by
  have h1 : hoursN S c ≤ 5 * 10 := sm_le (fun i hi => by have := h.1 (5 * c + i) (by omega); omega)
  have h2 := h.2.2.2.2.2.2.1 (grpN S c) (by have := grpN_le S c; omega)
  have h3 := Nat.mul_le_mul (Nat.mul_le_mul (Nat.mul_le_mul (Nat.le_refl 4) h1) h2) (pct_le (rankN S c))
  unfold feeN
  omega
theorem pay_le {S : MS} (h : IV S) {w : Int32} {c : Nat} (hc : c < 24) : payN S w c ≤ 1000000 := by
  unfold payN
  split
  · exact feeN_le h hc
  · omega
theorem feesN_le {S : MS} (h : IV S) {w : Int32} : feesN S w ≤ 24000000 := by
  have : feesN S w ≤ 24 * 1000000 := sm_le (fun i hi => pay_le h hi)
  omega
theorem mxN_s (f : Nat → Nat) (n : Nat) : mxN f (n + 1) = if mxN f n < f n then f n else mxN f n := rfl
theorem IV_sub {S : MS} (h : IV S) {a b c : Nat} (ha : a ≤ 31) (hb : b ≤ 5) (hc : c ≤ 1000) (hn : S 21 2 < 4) : IV (subNew S a b c) := by
  unfold subNew
  refine IV_of h ?_ ?_ ?_ ?_ ?_ ?_ ?_ ?_ ?_ ?_ ?_ ?_ ?_ <;> try (intro j _; right; simp [uM]; done)
  · intro j _
    by_cases hj : j = S 21 2
    · left; simp [uM, hj]; omega
    · right; simp [uM, hj]
  · right; simp [uM]
  · left; simp [uM]; omega
  · right; simp [uM]
theorem frF_ge {f : Nat → Nat} : ∀ {n c : Nat}, c ≤ frF f n c
  | 0, c => Nat.le_refl c
  | n + 1, c => by
    rw [frF]
    split
    · have := frF_ge (f := f) (n := n) (c := c + 1); omega
    · exact Nat.le_refl c
theorem IV_zC {S : MS} (h : IV S) {c d : Nat} : IV (zC c S d) := IV_span h (Nat.le_refl 0) (Nat.zero_le _)
theorem IV_zE {S : MS} (h : IV S) {c d : Nat} : IV (zE c S d) := IV_work h (Nat.le_refl 0) (Nat.zero_le _)
theorem IV_zH {S : MS} (h : IV S) {c d : Nat} : IV (zH c S d) := IV_hol h (Nat.zero_le _)
theorem IV_it {f : MS → Nat → MS} (hf : ∀ T d, IV T → IV (f T d)) {S : MS} (h : IV S) : ∀ n, IV (itS f S n)
  | 0 => h
  | n + 1 => hf _ _ (IV_it hf h n)
theorem BD_it {f : MS → Nat → MS} (hf : ∀ T d, BD T → BD (f T d)) {S : MS} (h : BD S) : ∀ n, BD (itS f S n)
  | 0 => h
  | n + 1 => hf _ _ (BD_it hf h n)
theorem IV_new5 {S : MS} (h : IV S) {c a f : Nat} (ha : a ≤ 77) (hf : f ≤ 11) : IV (uM (uM (uM (uM (uM S 0 c 1) 1 c a) 2 c f) 3 c 0) 4 c 0) := by
  refine IV_of h ?_ ?_ ?_ ?_ ?_ ?_ ?_ ?_ ?_ ?_ ?_ ?_ ?_ <;> try (intro j _; right; simp [uM]; done)
  · intro j _
    by_cases hj : j = c
    · left; simp [uM, hj]
    · right; simp [uM, hj]
  · intro j _
    by_cases hj : j = c
    · left; simp [uM, hj]
    · right; simp [uM, hj]
  · intro j _
    by_cases hj : j = c
    · left; simp [uM, hj]; omega
    · right; simp [uM, hj]
  all_goals simp [uM]
theorem IV_newE {S : MS} (h : IV S) {c : Nat} : IV (uM S 7 c 1) := by
  refine IV_of h ?_ ?_ ?_ ?_ ?_ ?_ ?_ ?_ ?_ ?_ ?_ ?_ ?_ <;> try (intro j _; right; simp [uM]; done)
  · intro j _
    by_cases hj : j = c
    · left; simp [uM, hj]
    · right; simp [uM, hj]
  all_goals simp [uM]

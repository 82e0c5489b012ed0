/-! the law's rows (Q 0 numbers, Q 1 children, Q 2 spans, Q 3 working hours, Q 4 holidays, Q 5 substitutes) beside the state S -/
theorem sm_ext {f : Nat → Nat} {n N : Nat} (h : n ≤ N) (hz : ∀ i, n ≤ i → i < N → f i = 0) : sm f N = sm f n := by
  induction N with
  | zero =>
    have h0 : n = 0 := by omega
    rw [h0]
  | succ N ih =>
    by_cases q : n = N + 1
    · rw [q]
    · rw [sm_s, hz N (by omega) (by omega), Nat.add_zero]
      exact ih (by omega) (fun i h1 h2 => hz i h1 (by omega))
theorem orN_ext {f : Nat → Bool} {n N : Nat} (h : n ≤ N) (hz : ∀ i, n ≤ i → i < N → f i = false) : orN f N = orN f n := by
  induction N with
  | zero =>
    have h0 : n = 0 := by omega
    rw [h0]
  | succ N ih =>
    by_cases q : n = N + 1
    · rw [q]
    · rw [orN, hz N (by omega) (by omega), Bool.or_false]
      exact ih (by omega) (fun i h1 h2 => hz i h1 (by omega))
def inL (f : Nat → Nat) (o d h : Nat) : Bool := decide (f (o + 2 * d) ≤ h) && decide (h < f (o + 2 * d + 1))
def LQ (S : MS) (n m : Nat) (Q : MS) : Prop := (1 ≤ n ∧ n ≤ 5 ∧ m ≤ 3) ∧ (Q 0 7 = n ∧ Q 0 8 = m ∧ Q 0 6 = S 21 1) ∧ ∀ g, g < 3 → Q 0 g = S 11 g ∧ Q 0 (3 + g) = S 12 g
def LC (S : MS) (n : Nat) (Q : MS) : Prop := n ≤ 5 ∧ (∀ c, c < 24 → S 0 c = ct (decide (c < n))) ∧ (∀ c, c < n → Q 1 (4 * c) = S 1 c ∧ Q 1 (4 * c + 1) = S 2 c ∧ Q 1 (4 * c + 2) = S 3 c ∧ Q 1 (4 * c + 3) = S 4 c) ∧ ∀ c d, c < n → d < 5 → Q 2 (10 * c + 2 * d) = S 5 (5 * c + d) ∧ Q 2 (10 * c + 2 * d + 1) = S 6 (5 * c + d)
def LE (S : MS) (m : Nat) (Q : MS) : Prop := m ≤ 3 ∧ (∀ e, e < 8 → S 7 e = ct (decide (e < m))) ∧ (∀ e d, e < m → d < 5 → Q 3 (10 * e + 2 * d) = S 8 (5 * e + d) ∧ Q 3 (10 * e + 2 * d + 1) = S 9 (5 * e + d)) ∧ ∀ e w, e < m → w < 52 → S 10 (52 * e + w) = if w < 4 then Q 4 (4 * e + w) else 0
def LR (S : MS) (n m : Nat) (Q : MS) : Prop := LQ S n m Q ∧ LC S n Q ∧ LE S m Q
section
variable {S : MS} {n m : Nat} {Q : MS}
theorem LC.out (h : LC S n Q) {c : Nat} (hc : n ≤ c) (hl : c < 24) : S 0 c = 0 := by rw [h.2.1 c hl, decide_eq_false (by omega)]; rfl
theorem LC.in1 (h : LC S n Q) {c : Nat} (hc : c < n) : S 0 c = 1 := by rw [h.2.1 c (by have := h.1; omega), decide_eq_true hc]; rfl
theorem LC.age (h : LC S n Q) {c : Nat} (hc : c < n) : Q 1 (4 * c) = S 1 c := (h.2.2.1 c hc).1
theorem LC.fam (h : LC S n Q) {c : Nat} (hc : c < n) : Q 1 (4 * c + 1) = S 2 c := (h.2.2.1 c hc).2.1
theorem LC.adm (h : LC S n Q) {c : Nat} (hc : c < n) : Q 1 (4 * c + 2) = S 3 c := (h.2.2.1 c hc).2.2.1
theorem LC.wtd (h : LC S n Q) {c : Nat} (hc : c < n) : Q 1 (4 * c + 3) = S 4 c := (h.2.2.1 c hc).2.2.2
theorem LC.bk (h : LC S n Q) {c d : Nat} (hc : c < n) (hd : d < 5) (k : Nat) : inL (Q 2) (10 * c) d k = isBkd S c d k := by
  have := h.2.2.2 c d hc hd
  unfold inL isBkd
  rw [this.1, this.2]
theorem LC.isin (h : LC S n Q) {c : Nat} (hc : c < n) : isIn S c = decide (S 3 c = 1) := by
  unfold isIn
  rw [h.in1 hc]
  simp
theorem LC.isout (h : LC S n Q) {c : Nat} (hc : n ≤ c) (hl : c < 24) : isIn S c = false := by
  unfold isIn
  rw [h.out hc hl]
  simp
theorem LE.out (h : LE S m Q) {c : Nat} (hc : m ≤ c) (hl : c < 8) : S 7 c = 0 := by rw [h.2.1 c hl, decide_eq_false (by omega)]; rfl
theorem LE.in1 (h : LE S m Q) {c : Nat} (hc : c < m) : S 7 c = 1 := by rw [h.2.1 c (by have := h.1; omega), decide_eq_true hc]; rfl
theorem LE.wk (h : LE S m Q) {c d : Nat} (hc : c < m) (hd : d < 5) (k : Nat) : inL (Q 3) (10 * c) d k = (decide (S 8 (5 * c + d) ≤ k) && decide (k < S 9 (5 * c + d))) := by
  have := h.2.2.1 c d hc hd
  unfold inL
  rw [this.1, this.2]
theorem LE.hol (h : LE S m Q) {c w : Nat} (hc : c < m) (hw : w < 4) : Q 4 (4 * c + w) = S 10 (52 * c + w) := by
  rw [h.2.2.2 c w hc (by omega), if_pos hw]
theorem span10 {b e : Nat} (h : b ≤ e) (he : e ≤ 10) : sm (fun k => ct (decide (b ≤ k) && decide (k < e))) 10 = e - b := by
  have : ∀ e, e < 11 → ∀ b, b < 11 → b ≤ e → sm (fun k => ct (decide (b ≤ k) && decide (k < e))) 10 = e - b := by decide +kernel
  exact this e (by omega) b (by omega) h
theorem hours_is (hI : IV S) {c d : Nat} (hc : c < 24) (hd : d < 5) : sm (fun k => ct (isBkd S c d k)) 10 = S 6 (5 * c + d) - S 5 (5 * c + d) := by
  have := hI.1 (5 * c + d) (by omega)
  exact span10 this.1 this.2
/-! numbers of hours -/
theorem presB_9 (h : LC S n Q) {c d k : Nat} (hc : c < n) : presB S d k (-9) c = (decide (S 3 c = 1) && isBkd S c d k) := by
  unfold presB
  rw [h.isin hc]
  simp
theorem presB_out (h : LC S n Q) {c d k : Nat} (hc : n ≤ c) (hl : c < 24) (g : Int32) : presB S d k g c = false := by
  unfold presB
  rw [h.isout hc hl]
  rfl
theorem LC.pres (h : LC S n Q) (d k : Nat) : presN S d k (-9) = sm (fun c => ct (presB S d k (-9) c)) n := sm_ext (by have := h.1; omega) (fun i h1 h2 => by rw [presB_out h h1 h2]; rfl)
def wgN (S : MS) (g : Nat) : Nat := if g = 0 then S 11 1 * S 11 2 else if g = 1 then S 11 0 * S 11 2 else S 11 0 * S 11 1
def nsN (S : MS) (d k c : Nat) : Nat := if presB S d k (-9) c then wgN S (grpN S c) else 0
theorem sm_grp {p : Nat → Bool} {g w : Nat → Nat} (hg : ∀ c, g c ≤ 2) : ∀ n, sm (fun c => if p c then w (g c) else 0) n = sm (fun k => sm (fun c => ct (p c && decide (g c = k))) n * w k) 3
  | 0 => by simp [sm]
  | n + 1 => by
    rw [sm_s, sm_grp hg n]
    show (0 + sm (fun c => ct (p c && decide (g c = 0))) n * w 0 + sm (fun c => ct (p c && decide (g c = 1))) n * w 1 + sm (fun c => ct (p c && decide (g c = 2))) n * w 2) + (if p n then w (g n) else 0) = 0 + (sm (fun c => ct (p c && decide (g c = 0))) n + ct (p n && decide (g n = 0))) * w 0 + (sm (fun c => ct (p c && decide (g c = 1))) n + ct (p n && decide (g n = 1))) * w 1 + (sm (fun c => ct (p c && decide (g c = 2))) n + ct (p n && decide (g n = 2))) * w 2
    have h2 := hg n
    rw [Nat.add_mul, Nat.add_mul, Nat.add_mul]
    cases hp : p n with
    | false => simp [ct]
    | true =>
      rcases (show g n = 0 ∨ g n = 1 ∨ g n = 2 by omega) with q | q | q <;> simp [q, ct] <;> omega
theorem cnt_9s (d k g : Nat) (hg : g < 3) : cntN S d k (-9) g = sm (fun c => ct (presB S d k (-9) c && decide (grpN S c = g))) 24 := by
  unfold cntN addN presN
  have h1 : (decide ((-9 : Int32) ≠ -9) && decide (grpN S (-9 : Int32).toNatClampNeg = g)) = false := by simp
  rw [h1]
  refine sm_congr (fun c _ => ?_)
  unfold presB
  have h2 : decide (nI g = -9) = false := decide_eq_false (nI_n9 (by omega))
  have h3 := grpN_le S c
  have h4 : decide (nI (grpN S c) = nI g) = decide (grpN S c = g) := by
    by_cases q : grpN S c = g
    · rw [q]; simp
    · rw [decide_eq_false q, decide_eq_false (fun z => q ((nI_eq (by omega) (by omega)).mp z))]
  rw [h2, h4]
  simp
theorem wg_is (hI : IV S) {g : Nat} (hg : g < 3) : allN S / S 11 g = wgN S g := by
  have hr := hI.2.2.2.2.2.1
  have h0 := (hr 0 (by omega)).1
  have h1 := (hr 1 (by omega)).1
  have h2 := (hr 2 (by omega)).1
  unfold allN wgN
  rcases (show g = 0 ∨ g = 1 ∨ g = 2 by omega) with q | q | q <;> subst q <;> simp
  · rw [Nat.mul_assoc, Nat.mul_div_cancel_left _ h0]
  · rw [Nat.mul_assoc, Nat.mul_comm (S 11 1), ← Nat.mul_assoc, Nat.mul_div_cancel _ h1]
  · rw [Nat.mul_div_cancel _ h2]
theorem need_sum (hI : IV S) (h : LC S n Q) (d k : Nat) : sm (fun g => cntN S d k (-9) g * (allN S / S 11 g)) 3 = sm (nsN S d k) n := by
  have e1 : sm (fun g => cntN S d k (-9) g * (allN S / S 11 g)) 3 = sm (fun g => sm (fun c => ct (presB S d k (-9) c && decide (grpN S c = g))) 24 * wgN S g) 3 := sm_congr (fun g hg => by rw [cnt_9s d k g hg, wg_is hI hg])
  rw [e1, ← sm_grp (p := presB S d k (-9)) (g := grpN S) (w := wgN S) (grpN_le S) 24]
  exact sm_ext (by have := h.1; omega) (fun i h1 h2 => by rw [presB_out h h1 h2]; rfl)
theorem ceil_of {s a k : Nat} (ha : 0 < a) (h1 : s ≤ k * a) (h2 : k = 0 ∨ (k - 1) * a < s) : k = (s + a - 1) / a := by
  symm
  rcases h2 with h2 | h2
  · subst h2
    rw [Nat.zero_mul] at h1
    exact Nat.div_eq_of_lt (by omega)
  · rcases k with _ | k
    · rw [Nat.zero_mul] at h1
      exact Nat.div_eq_of_lt (by omega)
    · rw [Nat.add_sub_cancel] at h2
      have e1 : (k + 1) * a = k * a + a := Nat.succ_mul k a
      have e2 : (k + 1 + 1) * a = k * a + a + a := by rw [Nat.succ_mul, e1]
      exact Nat.div_eq_of_lt_le (by omega) (by omega)
theorem all_pos (hI : IV S) : 0 < allN S ∧ allN S ≤ 8000 := by
  have hr := hI.2.2.2.2.2.1
  have h0 := hr 0 (by omega)
  have h1 := hr 1 (by omega)
  have h2 := hr 2 (by omega)
  unfold allN
  refine ⟨Nat.mul_pos (Nat.mul_pos h0.1 h1.1) h2.1, ?_⟩
  exact Nat.mul_le_mul (Nat.mul_le_mul h0.2 h1.2) h2.2
theorem wg_le (hI : IV S) (g : Nat) : wgN S g ≤ 400 := by
  have hr := hI.2.2.2.2.2.1
  have h0 := hr 0 (by omega)
  have h1 := hr 1 (by omega)
  have h2 := hr 2 (by omega)
  unfold wgN
  split
  · exact Nat.mul_le_mul h1.2 h2.2
  · split
    · exact Nat.mul_le_mul h0.2 h2.2
    · exact Nat.mul_le_mul h0.2 h1.2
theorem ns_le (hI : IV S) (d k c : Nat) : nsN S d k c ≤ 400 := by
  unfold nsN
  split
  · exact wg_le hI _
  · omega
theorem LE.staff (h : LE S m Q) (d k : Nat) : staffN S d k = sm (fun e => ct (wrkB S d k e)) m := sm_ext (by have := h.1; omega) (fun i h1 h2 => by unfold wrkB; rw [h.out h1 h2]; rfl)
theorem LE.thr (h : LE S m Q) (w d k : Nat) : thrN S w d k = sm (fun e => ct (thrB S w d k e)) m := sm_ext (by have := h.1; omega) (fun i h1 h2 => by unfold thrB; rw [h.out h1 h2]; rfl)
theorem wrk_is (h : LE S m Q) {c d : Nat} (hc : c < m) (hd : d < 5) (k : Nat) : wrkB S d k c = inL (Q 3) (10 * c) d k := by
  rw [h.wk hc hd]
  unfold wrkB
  rw [h.in1 hc]
  simp
theorem thr_is (h : LE S m Q) {c d w : Nat} (hc : c < m) (hd : d < 5) (hw : w < 4) (k : Nat) : thrB S w d k c = (decide (Q 4 (4 * c + w) = 0) && inL (Q 3) (10 * c) d k) := by
  rw [h.wk hc hd, h.hol hc hw]
  unfold thrB
  rw [h.in1 hc]
  simp
theorem LC.sib (h : LC S n Q) (c : Nat) : orN (sibB S c) 24 = orN (sibB S c) n := orN_ext (by have := h.1; omega) (fun i h1 h2 => by unfold sibB; rw [h.isout h1 h2]; simp)
theorem sib_is (h : LC S n Q) {c k : Nat} (hk : k < n) : sibB S c k = (decide (k ≠ c) && decide (S 3 k = 1) && decide (S 2 k = S 2 c)) := by
  unfold sibB
  rw [h.isin hk]
theorem LC.rank (h : LC S n Q) (c : Nat) : rankN S c = sm (fun k => ct (oldB S c k)) n := sm_ext (by have := h.1; omega) (fun i h1 h2 => by unfold oldB; rw [h.isout h1 h2]; rfl)
theorem old_is (h : LC S n Q) {c k : Nat} (hk : k < n) : oldB S c k = (decide (S 3 k = 1) && decide (S 2 k = S 2 c) && (decide (S 1 c < S 1 k) || decide (S 1 k = S 1 c) && decide (k < c))) := by
  unfold oldB
  rw [h.isin hk]
end

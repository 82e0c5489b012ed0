/-! bits, the costs of covers -/
def bitN (n k : Nat) : Nat := n / 2 ^ k % 2
theorem bitN_le (n k : Nat) : bitN n k ≤ 1 := by unfold bitN; omega
theorem shift_k : ∀ k, k < 32 → ((nI k &&& 31).toBitVec.smod 32).toNat = k := by decide
theorem bit_at {n k : Nat} (hn : n < 2147483648) (hk : k < 31) : nI n >>> (nI k &&& 31) &&& nI 1 = nI (bitN n k) := by
  rw [pk_shrN (show n < 2 ^ 31 from hn) _ k (shift_k k (by omega)), pk_andN (k := 1) (Nat.lt_of_le_of_lt (Nat.div_le_self _ _) (by omega)) (by decide)]
  rfl
def pwN (k : Nat) : Nat := if k = 0 then 1 else if k = 1 then 6 else if k = 2 then 36 else 216
theorem pwN_pos (k : Nat) : 0 < pwN k ∧ pwN k ≤ 216 := by unfold pwN; split <;> (try split) <;> (try split) <;> omega
def canK (S : MS) (set d u k : Nat) : Bool := decide (bitN set k ≠ 1) || (decide (k < S 21 2) && decide (bitN (S 13 k) d = 1) && decide (u / pwN k % 6 < S 14 k))
def szN (set : Nat) : Nat := sm (fun k => bitN set k) 4
def givB (S : MS) (set d u many : Nat) : Bool := andN (canK S set d u) 4 && decide (szN set = many)
def cstN (S : MS) (set : Nat) : Nat := sm (fun k => bitN set k * S 15 k) 4
def usN (set : Nat) : Nat := sm (fun k => bitN set k * pwN k) 4
def lsN (f : Nat → Nat) : Nat → Nat
  | 0 => 1000000
  | n + 1 => if f n < lsN f n then f n else lsN f n
theorem lsN_s (f : Nat → Nat) (n : Nat) : lsN f (n + 1) = if f n < lsN f n then f n else lsN f n := rfl
theorem lsN_le (f : Nat → Nat) : ∀ n, lsN f n ≤ 1000000
  | 0 => Nat.le_refl _
  | n + 1 => by have := lsN_le f n; rw [lsN_s]; split <;> omega
theorem lsN_congr {f g : Nat → Nat} : ∀ {n : Nat}, (∀ i, i < n → f i = g i) → lsN f n = lsN g n
  | 0, _ => rfl
  | n + 1, h => by rw [lsN_s, lsN_s, lsN_congr (n := n) (fun i hi => h i (Nat.lt_succ_of_lt hi)), h n (Nat.lt_succ_self n)]
/-- least costs with k days left, and a set's cost then -/
def cvN (S : MS) (w : Nat) : Nat → Nat → Nat
  | 0, _ => 0
  | k + 1, u => lsN (fun set => if givB S set (4 - k) u (shN S w (4 - k)) then cstN S set + cvN S w k (u + usN set) else 1000000) 16
theorem cvN_le (S : MS) (w k u : Nat) : cvN S w k u ≤ 1000000 := by
  cases k with
  | zero => exact Nat.zero_le _
  | succ k => exact lsN_le _ _
theorem uses_ok {S : MS} (hI : IV S) {set d u many : Nat} (hs : set < 16) (hu : u < 1296) (h : givB S set d u many = true) : u + usN set < 1296 := by
  unfold givB at h
  rw [Bool.and_eq_true] at h
  have h4 := andN_iff.mp h.1
  have b := hI.2.2.2.2.2.2.2.2.1
  have k0 := h4 0 (by omega); have k1 := h4 1 (by omega); have k2 := h4 2 (by omega); have k3 := h4 3 (by omega)
  have b0 := b 0 (by omega); have b1 := b 1 (by omega); have b2 := b 2 (by omega); have b3 := b 3 (by omega)
  have l0 := bitN_le set 0; have l1 := bitN_le set 1; have l2 := bitN_le set 2; have l3 := bitN_le set 3
  have p0 : pwN 0 = 1 := rfl
  have p1 : pwN 1 = 6 := rfl
  have p2 : pwN 2 = 36 := rfl
  have p3 : pwN 3 = 216 := rfl
  unfold canK at k0 k1 k2 k3
  rw [p0] at k0; rw [p1] at k1; rw [p2] at k2; rw [p3] at k3
  simp only [Bool.or_eq_true, Bool.and_eq_true, decide_eq_true_eq] at k0 k1 k2 k3
  show u + ((((0 + bitN set 0 * pwN 0) + bitN set 1 * pwN 1) + bitN set 2 * pwN 2) + bitN set 3 * pwN 3) < 1296
  rw [p0, p1, p2, p3]
  omega
theorem us_le {set : Nat} : usN set ≤ 259 := by
  have l0 := bitN_le set 0; have l1 := bitN_le set 1; have l2 := bitN_le set 2; have l3 := bitN_le set 3
  have p0 : pwN 0 = 1 := rfl
  have p1 : pwN 1 = 6 := rfl
  have p2 : pwN 2 = 36 := rfl
  have p3 : pwN 3 = 216 := rfl
  show ((((0 + bitN set 0 * pwN 0) + bitN set 1 * pwN 1) + bitN set 2 * pwN 2) + bitN set 3 * pwN 3) ≤ 259
  rw [p0, p1, p2, p3]
  omega
theorem cst_le {S : MS} (hI : IV S) {set : Nat} : cstN S set ≤ 4000 := by
  have : cstN S set ≤ 4 * 1000 := sm_le (fun k hk => by
    have := (hI.2.2.2.2.2.2.2.2.1 k hk).2.2
    have h1 := bitN_le set k
    have := Nat.mul_le_mul h1 this
    omega)
  omega
/-- what the calls' answers hang on: all rows but those that calls fill anew -/
def cut (S : MS) : MS := fun a j => if a = 18 ∨ a = 19 ∨ a = 20 then 0 else S a j
def AG (S T : MS) : Prop := cut S = cut T
theorem AG.refl (S : MS) : AG S S := rfl
theorem AG.at {S T : MS} (h : AG S T) {a j : Nat} (ha : a < 18 ∨ 20 < a) : S a j = T a j := by
  have := congrFun (congrFun h a) j
  unfold cut at this
  rw [if_neg (by omega), if_neg (by omega)] at this
  exact this
theorem AG_of {S T : MS} (h : ∀ a j, a < 18 ∨ 20 < a → S a j = T a j) : AG S T := by
  funext a j
  unfold cut
  split
  · rfl
  · exact h a j (by omega)
theorem AG_u {S T : MS} (h : AG S T) {k i v : Nat} : AG (uM S k i v) (uM T k i v) := AG_of (fun a j ha => by
  unfold uM
  split
  · rfl
  · exact h.at ha)
theorem AG_20 {S T : MS} (h : AG S T) {i v : Nat} : AG (uM S 20 i v) T := AG_of (fun a j ha => by rw [uM_nk (by omega)]; exact h.at ha)
theorem AG_18 {S T : MS} (h : AG S T) {i v : Nat} : AG (uM S 18 i v) T := AG_of (fun a j ha => by rw [uM_nk (by omega)]; exact h.at ha)
theorem AG_19 {S T : MS} (h : AG S T) {i v : Nat} : AG (uM S 19 i v) T := AG_of (fun a j ha => by rw [uM_nk (by omega)]; exact h.at ha)
theorem IV_cut (S : MS) : IV S = IV (cut S) := rfl
theorem shN_cut (S : MS) (w d : Nat) : shN S w d = shN (cut S) w d := rfl
theorem givB_cut (S : MS) (set d u many : Nat) : givB S set d u many = givB (cut S) set d u many := rfl
theorem cstN_cut (S : MS) (set : Nat) : cstN S set = cstN (cut S) set := rfl
theorem cvN_cut (S : MS) (w : Nat) : ∀ k u, cvN S w k u = cvN (cut S) w k u
  | 0, _ => rfl
  | k + 1, u => lsN_congr (fun set _ => by rw [cvN_cut S w k, shN_cut, givB_cut, cstN_cut])
theorem AG.iv {S T : MS} (h : AG S T) (hI : IV S) : IV T := by
  rw [IV_cut] at hI ⊢
  rw [← (show cut S = cut T from h)]
  exact hI
theorem AG.cv {S T : MS} (h : AG S T) (w k u : Nat) : cvN S w k u = cvN T w k u := by rw [cvN_cut, cvN_cut T, show cut S = cut T from h]
theorem AG.sh {S T : MS} (h : AG S T) (w d : Nat) : shN S w d = shN T w d := by rw [shN_cut, shN_cut T, show cut S = cut T from h]
theorem AG.giv {S T : MS} (h : AG S T) (set d u many : Nat) : givB S set d u many = givB T set d u many := by rw [givB_cut, givB_cut T, show cut S = cut T from h]
theorem AG.cst {S T : MS} (h : AG S T) (set : Nat) : cstN S set = cstN T set := by rw [cstN_cut, cstN_cut T, show cut S = cut T from h]
theorem AG.symm {S T : MS} (h : AG S T) : AG T S := Eq.symm h
theorem AG.trans {S T U : MS} (h : AG S T) (h2 : AG T U) : AG S U := Eq.trans h h2
theorem dec5 : ∀ k, k < 5 → nI (4 - k) + Int32.ofInt (-1) = if k + 1 < 5 then nI (4 - (k + 1)) else -1 := by decide

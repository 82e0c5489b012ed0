/-! sets of hours and weeks as longs: bits -/
def ofB (p : Nat → Bool) : Nat → Nat
  | 0 => 0
  | n + 1 => ofB p n + (if p n then 2 ^ n else 0)
theorem ofB_lt (p : Nat → Bool) : ∀ n, ofB p n < 2 ^ n
  | 0 => Nat.one_pos
  | n + 1 => by
    have := ofB_lt p n
    rw [ofB, Nat.pow_succ]
    split <;> omega
theorem ofB_congr {p q : Nat → Bool} : ∀ {n : Nat}, (∀ i, i < n → p i = q i) → ofB p n = ofB q n
  | 0, _ => rfl
  | n + 1, h => by rw [ofB, ofB, ofB_congr (n := n) (fun i hi => h i (Nat.lt_succ_of_lt hi)), h n (Nat.lt_succ_self n)]
theorem ofB_bit (p : Nat → Bool) : ∀ (n i : Nat), (ofB p n).testBit i = (decide (i < n) && p i)
  | 0, i => by simp [ofB]
  | n + 1, i => by
    have hl := ofB_lt p n
    have ih := ofB_bit p n i
    rw [ofB]
    by_cases hp : p n = true
    · rw [if_pos hp, Nat.add_comm]
      rcases Nat.lt_trichotomy i n with h | h | h
      · rw [Nat.testBit_two_pow_add_gt h, ih, decide_eq_true h, decide_eq_true (show i < n + 1 by omega)]
      · subst h
        rw [Nat.testBit_two_pow_add_eq, ih, decide_eq_false (Nat.lt_irrefl _), decide_eq_true (Nat.lt_succ_self _), hp]
        rfl
      · rw [Nat.testBit_lt_two_pow (Nat.lt_of_lt_of_le (show 2 ^ n + ofB p n < 2 ^ (n + 1) by rw [Nat.pow_succ]; omega) (Nat.pow_le_pow_right (by decide) h)), decide_eq_false (show ¬ i < n + 1 by omega)]
        rfl
    · rw [if_neg hp, Nat.add_zero, ih]
      by_cases hi : i = n
      · subst hi; simp [hp]
      · rw [show decide (i < n + 1) = decide (i < n) by apply decide_eq_decide.mpr; omega]
theorem ofB_of {p : Nat → Bool} {n m : Nat} (h : ∀ i, m.testBit i = (decide (i < n) && p i)) : m = ofB p n := Nat.eq_of_testBit_eq (fun i => by rw [h, ofB_bit])
theorem bit_bitN (n k : Nat) : n.testBit k = decide (bitN n k = 1) := Nat.testBit_eq_decide_div_mod_eq
theorem bitN_ofB (p : Nat → Bool) (n i : Nat) : bitN (ofB p n) i = ct (decide (i < n) && p i) := by
  have h := bit_bitN (ofB p n) i
  rw [ofB_bit] at h
  have hl := bitN_le (ofB p n) i
  rw [h]
  unfold ct
  by_cases q : bitN (ofB p n) i = 1
  · simp [q]
  · simp [q]; omega
/-- a set as a long -/
def msk (p : Nat → Bool) (n : Nat) : Int64 := lN (ofB p n)
theorem msk_congr {p q : Nat → Bool} {n : Nat} (h : ∀ i, i < n → p i = q i) : msk p n = msk q n := congrArg lN (ofB_congr h)
theorem lN_bits (n : Nat) : (lN n).toBitVec = BitVec.ofNat 64 n := rfl
theorem lN_inj {a b : Nat} (ha : a < 2 ^ 64) (hb : b < 2 ^ 64) (h : lN a = lN b) : a = b := by
  have h1 := congrArg (fun x : Int64 => x.toBitVec.toNat) h
  simp only [lN_bits, BitVec.toNat_ofNat] at h1
  rwa [Nat.mod_eq_of_lt ha, Nat.mod_eq_of_lt hb] at h1
theorem lN_of_bits {x : Int64} {n : Nat} (h : ∀ i, i < 64 → x.toBitVec.getLsbD i = n.testBit i) : x = lN n := by
  apply Int64.toBitVec_inj.mp
  rw [lN_bits]
  apply BitVec.eq_of_getLsbD_eq
  intro i hi
  rw [h i hi, BitVec.getLsbD_ofNat, decide_eq_true hi, Bool.true_and]
theorem lN_get (n i : Nat) : (lN n).toBitVec.getLsbD i = (decide (i < 64) && n.testBit i) := by rw [lN_bits, BitVec.getLsbD_ofNat]
theorem lN_and (a b : Nat) : lN a &&& lN b = lN (a &&& b) := lN_of_bits (fun i hi => by
  rw [Int64.toBitVec_and, BitVec.getLsbD_and, lN_get, lN_get, Nat.testBit_and, decide_eq_true hi, Bool.true_and, Bool.true_and])
theorem lN_or (a b : Nat) : lN a ||| lN b = lN (a ||| b) := lN_of_bits (fun i hi => by
  rw [Int64.toBitVec_or, BitVec.getLsbD_or, lN_get, lN_get, Nat.testBit_or, decide_eq_true hi, Bool.true_and, Bool.true_and])
theorem m1_bits : (-1 : Int64).toBitVec = BitVec.allOnes 64 := by decide
/-- less a set, and another -/
theorem msk_mix {p q r : Nat → Bool} {n : Nat} (hn : n ≤ 64) : (msk p n &&& (msk q n ^^^ (-1))) ||| msk r n = msk (fun i => p i && !q i || r i) n := by
  apply lN_of_bits
  intro i hi
  rw [Int64.toBitVec_or, Int64.toBitVec_and, Int64.toBitVec_xor, m1_bits, BitVec.getLsbD_or, BitVec.getLsbD_and, BitVec.getLsbD_xor, BitVec.getLsbD_allOnes]
  unfold msk
  rw [lN_get, lN_get, lN_get, ofB_bit, ofB_bit, ofB_bit, ofB_bit, decide_eq_true hi]
  cases decide (i < n) <;> cases p i <;> cases q i <;> cases r i <;> rfl
theorem msk_less {p q : Nat → Bool} {n : Nat} (hn : n ≤ 64) : msk p n &&& (msk q n ^^^ (-1)) = msk (fun i => p i && !q i) n := by
  apply lN_of_bits
  intro i hi
  rw [Int64.toBitVec_and, Int64.toBitVec_xor, m1_bits, BitVec.getLsbD_and, BitVec.getLsbD_xor, BitVec.getLsbD_allOnes]
  unfold msk
  rw [lN_get, lN_get, ofB_bit, ofB_bit, ofB_bit, decide_eq_true hi]
  cases decide (i < n) <;> cases p i <;> cases q i <;> rfl
theorem msk_or {p q : Nat → Bool} {n : Nat} (hn : n ≤ 64) : msk p n ||| msk q n = msk (fun i => p i || q i) n := by
  apply lN_of_bits
  intro i hi
  rw [Int64.toBitVec_or, BitVec.getLsbD_or]
  unfold msk
  rw [lN_get, lN_get, ofB_bit, ofB_bit, ofB_bit, decide_eq_true hi]
  cases decide (i < n) <;> cases p i <;> cases q i <;> rfl
theorem shift_l : ∀ k, k < 64 → ((nI k).toInt64.toUInt64 &&& Int64.toUInt64 63).toNat = k := by decide
theorem lN_toU (n : Nat) : (lN n).toUInt64.toNat = n % 2 ^ 64 := rfl
theorem lN_ofU (u : UInt64) : u.toInt64 = lN u.toNat := by
  apply Int64.toBitVec_inj.mp
  rw [lN_bits]
  show u.toBitVec = _
  apply BitVec.eq_of_toNat_eq
  rw [BitVec.toNat_ofNat]
  exact (Nat.mod_eq_of_lt u.toBitVec.isLt).symm
theorem lN_ushr {n k : Nat} (hn : n < 2 ^ 64) (hk : k < 64) : ((lN n).toUInt64 >>> ((nI k).toInt64.toUInt64 &&& Int64.toUInt64 63)).toInt64 = lN (n / 2 ^ k) := by
  rw [lN_ofU, UInt64.toNat_shiftRight, shift_l k hk, lN_toU, Nat.mod_eq_of_lt hn, Nat.mod_eq_of_lt hk, Nat.shiftRight_eq_div_pow]
theorem one_bit (n : Nat) : n &&& 1 = n % 2 := Nat.and_one_is_mod n
/-- what hasHour and hasHoliday ask -/
theorem has_bit {p : Nat → Bool} {n k : Nat} (hn : n ≤ 63) (hk : k < n) : ((msk p n).toUInt64 >>> ((nI k).toInt64.toUInt64 &&& Int64.toUInt64 63)).toInt64 &&& lN 1 = lN (ct (p k)) := by
  unfold msk
  rw [lN_ushr (Nat.lt_of_lt_of_le (ofB_lt p n) (Nat.pow_le_pow_right (by decide) (by omega))) (by omega), lN_and, one_bit]
  have := bitN_ofB p n k
  unfold bitN at this
  rw [this, decide_eq_true hk, Bool.true_and]
theorem shift_ll : ∀ k, k < 64 → (BitVec.smod ((nI k).toInt64 &&& 63).toBitVec 64).toNat = k := by decide
theorem lN_shl {n k : Nat} (hk : k < 64) : lN n <<< ((nI k).toInt64 &&& 63) = lN (n * 2 ^ k) := by
  apply Int64.toBitVec_inj.mp
  apply BitVec.eq_of_toNat_eq
  show ((BitVec.ofNat 64 n) <<< (BitVec.smod ((nI k).toInt64 &&& 63).toBitVec 64)).toNat = _
  rw [BitVec.shiftLeft_eq', BitVec.toNat_shiftLeft, shift_ll k hk, lN_bits, BitVec.toNat_ofNat, BitVec.toNat_ofNat, Nat.shiftLeft_eq, Nat.mul_mod, Nat.mod_mod, ← Nat.mul_mod]
/-- the hours of a span on a day -/
def dyP (d b e q : Nat) : Bool := decide (q / 10 = d) && (decide (b ≤ q % 10) && decide (q % 10 < e))
theorem span_arith : ∀ d, d < 5 → ∀ b, b < 11 → ∀ e, e < 11 → b ≤ e → (2 ^ e - 2 ^ b) * 2 ^ (10 * d) = ofB (dyP d b e) 50 := by decide +kernel
theorem span_val {d b e : Nat} (hd : d < 5) (hb : b ≤ e) (he : e ≤ 10) : (lN 1 <<< ((nI e).toInt64 &&& 63) - lN 1 <<< ((nI b).toInt64 &&& 63)) <<< ((nI (10 * d)).toInt64 &&& 63) = msk (dyP d b e) 50 := by
  rw [lN_shl (by omega), lN_shl (by omega), Nat.one_mul, Nat.one_mul, lN_sub (Nat.pow_le_pow_right (by decide) hb), lN_shl (by omega), span_arith d hd b (by omega) e (by omega) hb]
  rfl
theorem week_val {w : Nat} (hw : w < 52) : lN 1 <<< ((nI w).toInt64 &&& 63) = msk (fun i => decide (i = w)) 52 := by
  rw [lN_shl (by omega), Nat.one_mul]
  refine congrArg lN (ofB_of (fun i => ?_))
  rw [Nat.testBit_two_pow]
  by_cases q : i = w
  · subst q
    rw [decide_eq_true hw, decide_eq_true (rfl : i = i)]
    rfl
  · rw [decide_eq_false q, decide_eq_false (fun z => q z.symm), Bool.and_false]
/-- the hours of the spans of the rows k, k + 1 for the number c -/
def spP (S : MS) (k c q : Nat) : Bool := decide (S k (5 * c + q / 10) ≤ q % 10) && decide (q % 10 < S (k + 1) (5 * c + q / 10))
theorem spP_bk (S : MS) (c d h : Nat) (hh : h < 10) : spP S 5 c (10 * d + h) = isBkd S c d h := by
  unfold spP isBkd
  rw [show (10 * d + h) / 10 = d by omega, show (10 * d + h) % 10 = h by omega]
/-- a new span on a day -/
theorem spP_set {S : MS} {k c d b e : Nat} {q : Nat} (hd : d < 5) (hq : q < 50) : spP (setSp S k c d b e) k c q = (spP S k c q && !dyP d 0 10 q || dyP d b e q) := by
  unfold spP setSp dyP
  by_cases h : q / 10 = d
  · subst h
    rw [uM_nk (by omega), uM_eq, uM_eq, decide_eq_true rfl]
    have h10 : q % 10 < 10 := Nat.mod_lt _ (by decide)
    simp [h10]
  · rw [uM_nk (by omega), uM_ni (by omega), uM_ni (by omega), uM_nk (by omega), decide_eq_false h]
    simp
/-- how many hours -/
theorem sm_split (f : Nat → Nat) (n : Nat) : ∀ m, sm f (n + m) = sm f n + sm (fun i => f (n + i)) m
  | 0 => rfl
  | m + 1 => by
    show sm f (n + m) + f (n + m) = sm f n + (sm (fun i => f (n + i)) m + f (n + m))
    rw [sm_split f n m]
    omega
theorem span_cnt {b e : Nat} (hb : b ≤ e) : ∀ n, n ≤ 10 → sm (fun h => ct (decide (b ≤ h) && decide (h < e))) n = (if n ≤ b then 0 else if n ≤ e then n - b else e - b)
  | 0, _ => by rw [sm_0]; split <;> omega
  | n + 1, h => by
    rw [sm_s, span_cnt hb n (by omega)]
    by_cases h1 : b ≤ n <;> by_cases h2 : n < e <;> simp only [h1, h2, decide_true, decide_false, Bool.and_true, Bool.and_false, ct, if_true, Bool.false_eq_true, if_false] <;> (repeat' split) <;> omega
theorem spP_cnt {S : MS} {k c : Nat} (h : ∀ d, d < 5 → S k (5 * c + d) ≤ S (k + 1) (5 * c + d) ∧ S (k + 1) (5 * c + d) ≤ 10) : ∀ d, d ≤ 5 → sm (fun q => ct (spP S k c q)) (10 * d) = sm (fun d => S (k + 1) (5 * c + d) - S k (5 * c + d)) d
  | 0, _ => rfl
  | d + 1, hd => by
    have hb := h d (by omega)
    rw [show 10 * (d + 1) = 10 * d + 10 by omega, sm_split, spP_cnt h d (by omega), sm_s (fun d => S (k + 1) (5 * c + d) - S k (5 * c + d)) d]
    congr 1
    rw [show sm (fun i => ct (spP S k c (10 * d + i))) 10 = sm (fun i => ct (decide (S k (5 * c + d) ≤ i) && decide (i < S (k + 1) (5 * c + d)))) 10 from sm_congr (fun i hi => by
      unfold spP
      rw [show (10 * d + i) / 10 = d by omega, show (10 * d + i) % 10 = i by omega])]
    rw [span_cnt hb.1 10 (Nat.le_refl _)]
    (repeat' split) <;> omega

/-! the JDK's count of bits counts bits -/
theorem and_split (a m : Nat) {b c : Nat} (hb : b < 256) (hc : c < 256) : (256 * a + b) &&& (256 * m + c) = 256 * (a &&& m) + (b &&& c) := by
  have hbc : b &&& c < 2 ^ 8 := Nat.lt_of_le_of_lt Nat.and_le_left hb
  apply Nat.eq_of_testBit_eq
  intro i
  rw [Nat.testBit_and, show (256 : Nat) = 2 ^ 8 from rfl, Nat.testBit_two_pow_mul_add a hb, Nat.testBit_two_pow_mul_add m hc, Nat.testBit_two_pow_mul_add _ hbc]
  by_cases h : i < 8
  · simp [h, Nat.testBit_and]
  · simp [h, Nat.testBit_and]
def rp (c : Nat) : Nat → Nat
  | 0 => 0
  | n + 1 => 256 * rp c n + c
def F5 (n x : Nat) : Nat := x - (x / 2 &&& rp 85 n)
def F3 (n x : Nat) : Nat := (x &&& rp 51 n) + (x / 4 &&& rp 51 n)
def FF (n x : Nat) : Nat := (x + x / 16) &&& rp 15 n
def f5 (l : Nat) : Nat := l - (l / 2 &&& 85)
def f3 (l : Nat) : Nat := (l &&& 51) + (l / 4 &&& 51)
def ff (l : Nat) : Nat := (l + l / 16) &&& 15
theorem f5_cut : ∀ t, t < 2 → ∀ l, l < 256 → (128 * t + l / 2) &&& 85 = l / 2 &&& 85 := by decide +kernel
theorem f5_le : ∀ l, l < 256 → l / 2 &&& 85 ≤ l ∧ f5 l < 256 := by decide +kernel
theorem f3_cut : ∀ t, t < 4 → ∀ l, l < 256 → (64 * t + l / 4) &&& 51 = l / 4 &&& 51 := by decide +kernel
theorem ff_cut : ∀ t, t < 5 → ∀ l, l < 69 → (l + l / 16 + 16 * t) &&& 15 = ff l := by decide +kernel
theorem f3_le : ∀ l, l < 256 → f3 (f5 l) < 69 ∧ f3 (f5 l) % 16 ≤ 4 := by decide +kernel
def pb (l : Nat) : Nat := ff (f3 (f5 l))
theorem pb_val : ∀ l, l < 256 → pb l = sm (fun i => bitN l i) 8 ∧ pb l ≤ 8 := by decide +kernel
theorem F5_s (n h : Nat) {l : Nat} (hl : l < 256) : F5 (n + 1) (256 * h + l) = 256 * F5 n h + f5 l := by
  unfold F5 f5
  have e : (256 * h + l) / 2 = 256 * (h / 2) + (128 * (h % 2) + l / 2) := by omega
  have h1 : h / 2 &&& rp 85 n ≤ h / 2 := Nat.and_le_left
  have h2 := (f5_le l hl).1
  rw [e, show rp 85 (n + 1) = 256 * rp 85 n + 85 from rfl, and_split _ _ (by omega) (by decide), f5_cut _ (Nat.mod_lt _ (by decide)) l hl]
  omega
theorem F3_s (n h : Nat) {l : Nat} (hl : l < 256) : F3 (n + 1) (256 * h + l) = 256 * F3 n h + f3 l := by
  unfold F3 f3
  have e : (256 * h + l) / 4 = 256 * (h / 4) + (64 * (h % 4) + l / 4) := by omega
  rw [e, show rp 51 (n + 1) = 256 * rp 51 n + 51 from rfl, and_split _ _ hl (by decide), and_split _ _ (by omega) (by decide), f3_cut _ (Nat.mod_lt _ (by decide)) l hl]
  omega
theorem FF_s (n h : Nat) {l : Nat} (hl : l < 69) (hh : h % 16 ≤ 4) : FF (n + 1) (256 * h + l) = 256 * FF n h + ff l := by
  unfold FF
  have e : 256 * h + l + (256 * h + l) / 16 = 256 * (h + h / 16) + (l + l / 16 + 16 * (h % 16)) := by omega
  rw [e, show rp 15 (n + 1) = 256 * rp 15 n + 15 from rfl, and_split _ _ (by omega) (by decide), ff_cut _ (by omega) l hl]
theorem nib (n x : Nat) : F3 n (F5 n x) % 16 ≤ 4 := by
  cases n with
  | zero =>
    have : F3 0 (F5 0 x) = 0 := by unfold F3; simp [rp]
    omega
  | succ n =>
    have hx : x = 256 * (x / 256) + x % 256 := by omega
    have hl : x % 256 < 256 := Nat.mod_lt _ (by decide)
    rw [hx, F5_s n _ hl, F3_s n _ (f5_le _ hl).2]
    have := (f3_le _ hl).2
    omega
def PF (n x : Nat) : Nat := FF n (F3 n (F5 n x))
theorem PF_s (n x : Nat) : PF (n + 1) x = 256 * PF n (x / 256) + pb (x % 256) := by
  have hx : x = 256 * (x / 256) + x % 256 := by omega
  have hl : x % 256 < 256 := Nat.mod_lt _ (by decide)
  unfold PF
  rw [show F5 (n + 1) x = F5 (n + 1) (256 * (x / 256) + x % 256) from congrArg _ hx, F5_s n _ hl, F3_s n _ (f5_le _ hl).2, FF_s n _ (f3_le _ hl).1 (nib n _)]
  rfl
theorem PF_0 (x : Nat) : PF 0 x = 0 := by unfold PF FF; simp [rp]
def pcN (n x : Nat) : Nat := sm (fun i => bitN x i) (8 * n)
theorem bitN_low {x i : Nat} (hi : i < 8) : bitN x i = bitN (x % 256) i := by
  unfold bitN
  rcases (show i = 0 ∨ i = 1 ∨ i = 2 ∨ i = 3 ∨ i = 4 ∨ i = 5 ∨ i = 6 ∨ i = 7 by omega) with rfl | rfl | rfl | rfl | rfl | rfl | rfl | rfl <;> omega
theorem pcN_s (n x : Nat) : pcN (n + 1) x = pb (x % 256) + pcN n (x / 256) := by
  unfold pcN
  rw [show 8 * (n + 1) = 8 + 8 * n by omega, sm_split, (pb_val _ (Nat.mod_lt _ (by decide))).1]
  congr 1
  · exact sm_congr (fun i hi => bitN_low hi)
  · exact sm_congr (fun i _ => by unfold bitN; rw [Nat.pow_add, ← Nat.div_div_eq_div_mul])
theorem pop_dv {b q r : Nat} (hr : r < b) : (b * q + r) / b = q := by rw [Nat.mul_add_div (Nat.lt_of_le_of_lt (Nat.zero_le r) hr), Nat.div_eq_of_lt hr, Nat.add_zero]
theorem pop_nat (x : Nat) : ∃ R : Nat, R = PF 8 x ∧ R < 2 ^ 60 ∧ (R + R / 256 + (R + R / 256) / 65536 + (R + R / 256 + (R + R / 256) / 65536) / 4294967296) % 128 = pcN 8 x := by
  refine ⟨_, rfl, ?_⟩
  have p : ∀ y : Nat, pb (y % 256) ≤ 8 := fun y => (pb_val _ (Nat.mod_lt _ (by decide))).2
  have e : pcN 0 (x / 256 / 256 / 256 / 256 / 256 / 256 / 256 / 256) = 0 := rfl
  rw [pcN_s, pcN_s, pcN_s, pcN_s, pcN_s, pcN_s, pcN_s, pcN_s, e]
  rw [PF_s, PF_s, PF_s, PF_s, PF_s, PF_s, PF_s, PF_s, PF_0]
  have p0 := p x
  have p1 := p (x / 256)
  have p2 := p (x / 256 / 256)
  have p3 := p (x / 256 / 256 / 256)
  have p4 := p (x / 256 / 256 / 256 / 256)
  have p5 := p (x / 256 / 256 / 256 / 256 / 256)
  have p6 := p (x / 256 / 256 / 256 / 256 / 256 / 256)
  have p7 := p (x / 256 / 256 / 256 / 256 / 256 / 256 / 256)
  revert p0 p1 p2 p3 p4 p5 p6 p7
  generalize pb (x % 256) = a0
  generalize pb (x / 256 % 256) = a1
  generalize pb (x / 256 / 256 % 256) = a2
  generalize pb (x / 256 / 256 / 256 % 256) = a3
  generalize pb (x / 256 / 256 / 256 / 256 % 256) = a4
  generalize pb (x / 256 / 256 / 256 / 256 / 256 % 256) = a5
  generalize pb (x / 256 / 256 / 256 / 256 / 256 / 256 % 256) = a6
  generalize pb (x / 256 / 256 / 256 / 256 / 256 / 256 / 256 % 256) = a7
  intro p0 p1 p2 p3 p4 p5 p6 p7
  refine ⟨by omega, ?_⟩
  rw [pop_dv (show a0 < 256 by omega)]
  rw [show 256 * (256 * (256 * (256 * (256 * (256 * (256 * (256 * 0 + a7) + a6) + a5) + a4) + a3) + a2) + a1) + a0 + (256 * (256 * (256 * (256 * (256 * (256 * (256 * 0 + a7) + a6) + a5) + a4) + a3) + a2) + a1) = 65536 * ((a2 + a3) + 256 * (a3 + a4) + 65536 * (a4 + a5) + 16777216 * (a5 + a6) + 4294967296 * (a6 + a7) + 1099511627776 * (a7)) + ((a0 + a1) + 256 * (a1 + a2)) by omega]
  rw [pop_dv (show (a0 + a1) + 256 * (a1 + a2) < 65536 by omega)]
  rw [show 65536 * ((a2 + a3) + 256 * (a3 + a4) + 65536 * (a4 + a5) + 16777216 * (a5 + a6) + 4294967296 * (a6 + a7) + 1099511627776 * (a7)) + ((a0 + a1) + 256 * (a1 + a2)) + ((a2 + a3) + 256 * (a3 + a4) + 65536 * (a4 + a5) + 16777216 * (a5 + a6) + 4294967296 * (a6 + a7) + 1099511627776 * (a7)) = 4294967296 * ((a4 + a5 + a6 + a7) + 256 * (a5 + a6 + a7) + 65536 * (a6 + a7) + 16777216 * (a7)) + ((a0 + a1 + a2 + a3) + 256 * (a1 + a2 + a3 + a4) + 65536 * (a2 + a3 + a4 + a5) + 16777216 * (a3 + a4 + a5 + a6)) by omega]
  rw [pop_dv (show (a0 + a1 + a2 + a3) + 256 * (a1 + a2 + a3 + a4) + 65536 * (a2 + a3 + a4 + a5) + 16777216 * (a3 + a4 + a5 + a6) < 4294967296 by omega)]
  rw [show 4294967296 * ((a4 + a5 + a6 + a7) + 256 * (a5 + a6 + a7) + 65536 * (a6 + a7) + 16777216 * (a7)) + ((a0 + a1 + a2 + a3) + 256 * (a1 + a2 + a3 + a4) + 65536 * (a2 + a3 + a4 + a5) + 16777216 * (a3 + a4 + a5 + a6)) + ((a4 + a5 + a6 + a7) + 256 * (a5 + a6 + a7) + 65536 * (a6 + a7) + 16777216 * (a7)) = 128 * (2 * (a1 + a2 + a3 + a4 + a5 + a6 + a7) + 512 * (a2 + a3 + a4 + a5 + a6 + a7) + 131072 * (a3 + a4 + a5 + a6 + a7) + 33554432 * (a4 + a5 + a6 + a7) + 8589934592 * (a5 + a6 + a7) + 2199023255552 * (a6 + a7) + 562949953421312 * (a7)) + (a0 + a1 + a2 + a3 + a4 + a5 + a6 + a7) by omega]
  rw [Nat.mul_add_mod, Nat.mod_eq_of_lt (show a0 + a1 + a2 + a3 + a4 + a5 + a6 + a7 < 128 by omega)]
  omega

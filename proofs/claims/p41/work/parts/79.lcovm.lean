/-! all ways to give two substitutes to five days, beside the least costs by days left -/
theorem ls_at {f : Nat → Nat} {i : Nat} : ∀ {n : Nat}, i < n → lsN f n ≤ f i
  | 0, h => absurd h (by omega)
  | n + 1, h => by
    rw [lsN_s]
    by_cases q : i = n
    · subst q
      split <;> omega
    · have := ls_at (f := f) (i := i) (n := n) (by omega)
      split <;> omega
theorem fr_first {p : Nat → Bool} : ∀ n c, (∃ i, c ≤ i ∧ i < c + n ∧ p i = true) → p (frP p n c) = true ∧ frP p n c < c + n ∧ c ≤ frP p n c ∧ ∀ j, c ≤ j → j < frP p n c → p j = false
  | 0, c, h => by
    obtain ⟨i, h1, h2, _⟩ := h
    exact absurd h1 (by omega)
  | n + 1, c, h => by
    rw [frP]
    by_cases q : p c = true
    · rw [if_pos q]
      exact ⟨q, by omega, Nat.le_refl _, fun j h1 h2 => absurd h1 (by omega)⟩
    · rw [if_neg q]
      obtain ⟨i, h1, h2, h3⟩ := h
      have hne : i ≠ c := fun z => q (z ▸ h3)
      obtain ⟨a1, a2, a3, a4⟩ := fr_first n (c + 1) ⟨i, by omega, by omega, h3⟩
      refine ⟨a1, by omega, by omega, fun j j1 j2 => ?_⟩
      by_cases z : j = c
      · rw [z]
        exact eq_false_of_ne_true q
      · exact a4 j (by omega) j2
def wyB (S : MS) (w : Nat) : Nat → Nat → Nat → Bool
  | 0, _, _ => true
  | k + 1, u, y => givB S (y / 4 ^ k) (4 - k) u (shN S w (4 - k)) && wyB S w k (u + usN (y / 4 ^ k)) (y % 4 ^ k)
def wyC (S : MS) : Nat → Nat → Nat
  | 0, _ => 0
  | k + 1, y => cstN S (y / 4 ^ k) + wyC S k (y % 4 ^ k)
def bwN (S : MS) (w : Nat) : Nat → Nat → Nat
  | 0, _ => 0
  | k + 1, u => chN S w (4 - k) u * 4 ^ k + bwN S w k (u + usN (chN S w (4 - k) u))
section
variable {S : MS} {w : Nat}
theorem cv_s (S : MS) (w k u : Nat) : cvN S w (k + 1) u = lsN (fun set => if givB S set (4 - k) u (shN S w (4 - k)) then cstN S set + cvN S w k (u + usN set) else 1000000) 16 := rfl
theorem cv_at {k u s : Nat} (hs : s < 16) (hg : givB S s (4 - k) u (shN S w (4 - k)) = true) : cvN S w (k + 1) u ≤ cstN S s + cvN S w k (u + usN s) := by
  rw [cv_s]
  refine Nat.le_trans (ls_at (i := s) hs) ?_
  show (if _ then _ else _) ≤ _
  rw [if_pos hg]
  exact Nat.le_refl _
theorem p4 (k : Nat) : 0 < 4 ^ k := Nat.pow_pos (by decide)
theorem dig {s r P : Nat} (hP : 0 < P) (hr : r < P) : (s * P + r) / P = s ∧ (s * P + r) % P = r := by
  rw [Nat.mul_comm]
  exact ⟨by rw [Nat.mul_add_div hP, Nat.div_eq_of_lt hr, Nat.add_zero], by rw [Nat.mul_add_mod, Nat.mod_eq_of_lt hr]⟩
theorem pf_lo : ∀ k u y, y < 4 ^ k → wyB S w k u y = true → cvN S w k u ≤ wyC S k y
  | 0, u, y, _, _ => Nat.le_refl _
  | k + 1, u, y, hy, h => by
    have h : (givB S (y / 4 ^ k) (4 - k) u (shN S w (4 - k)) && wyB S w k (u + usN (y / 4 ^ k)) (y % 4 ^ k)) = true := h
    rw [Bool.and_eq_true] at h
    rw [Nat.pow_succ] at hy
    have hs : y / 4 ^ k < 4 := Nat.div_lt_of_lt_mul hy
    have h1 := pf_lo k _ (y % 4 ^ k) (Nat.mod_lt _ (p4 k)) h.2
    have h2 := cv_at (k := k) (u := u) (s := y / 4 ^ k) (by omega) h.1
    show _ ≤ cstN S (y / 4 ^ k) + wyC S k (y % 4 ^ k)
    omega
theorem giv_lt4 (h2 : S 21 2 ≤ 2) {s d u m : Nat} (hs : s < 16) (h : givB S s d u m = true) : s < 4 := by
  unfold givB at h
  rw [Bool.and_eq_true] at h
  have h4 := andN_iff.mp h.1
  have k2 := h4 2 (by omega)
  have k3 := h4 3 (by omega)
  unfold canK at k2 k3
  simp only [Bool.or_eq_true, Bool.and_eq_true, decide_eq_true_eq] at k2 k3
  have e2 : bitN s 2 = s / 4 % 2 := rfl
  have e3 : bitN s 3 = s / 8 % 2 := rfl
  rw [e2] at k2
  rw [e3] at k3
  omega
theorem ch_ok (h2 : S 21 2 ≤ 2) {k u : Nat} (hk : k < 5) (h : cvN S w (k + 1) u < 1000000) : chN S w (4 - k) u < 4 ∧ gdB S w (4 - k) u (chN S w (4 - k) u) = true ∧ ∀ j, j < chN S w (4 - k) u → gdB S w (4 - k) u j = false := by
  have h5 : cvN S w (5 - (4 - k)) u < 1000000 := by
    rw [show 5 - (4 - k) = k + 1 by omega]
    exact h
  obtain ⟨s, hs, hg⟩ := gd_ex (show 4 - k < 5 by omega) h5
  obtain ⟨a1, a2, a3, a4⟩ := fr_first (p := gdB S w (4 - k) u) 16 0 ⟨s, Nat.zero_le _, by omega, hg⟩
  have hg1 := a1
  unfold gdB at hg1
  rw [Bool.and_eq_true] at hg1
  exact ⟨giv_lt4 h2 (show chN S w (4 - k) u < 16 by show frP _ 16 0 < 16; omega) hg1.1, a1, fun j hj => a4 j (Nat.zero_le _) hj⟩
theorem gd_at {k u s : Nat} (hk : k < 5) (h : gdB S w (4 - k) u s = true) : givB S s (4 - k) u (shN S w (4 - k)) = true ∧ cstN S s + cvN S w k (u + usN s) = cvN S w (k + 1) u := by
  unfold gdB at h
  rw [Bool.and_eq_true, decide_eq_true_eq, show 4 - (4 - k) = k by omega, show 5 - (4 - k) = k + 1 by omega] at h
  exact h
theorem bw_ok (h2 : S 21 2 ≤ 2) (k : Nat) : ∀ u, k ≤ 5 → cvN S w k u < 1000000 → bwN S w k u < 4 ^ k ∧ wyB S w k u (bwN S w k u) = true ∧ wyC S k (bwN S w k u) = cvN S w k u ∧ ∀ y, y < bwN S w k u → wyB S w k u y = true → cvN S w k u < wyC S k y := by
  induction k with
  | zero =>
    intro u _ _
    refine ⟨?_, rfl, ?_, fun y hy => ?_⟩
    · show 0 < 1
      omega
    · show 0 = 0
      rfl
    · have hy : y < 0 := hy
      omega
  | succ k ih =>
    intro u hk h
    obtain ⟨c1, c2, c3⟩ := ch_ok (w := w) h2 (show k < 5 by omega) h
    obtain ⟨g1, g2⟩ := gd_at (show k < 5 by omega) c2
    obtain ⟨b1, b2, b3, b4⟩ := ih (u + usN (chN S w (4 - k) u)) (by omega) (by omega)
    obtain ⟨c, hc⟩ : ∃ c, c = chN S w (4 - k) u := ⟨_, rfl⟩
    have eb : bwN S w (k + 1) u = c * 4 ^ k + bwN S w k (u + usN c) := by rw [hc]; rfl
    rw [← hc] at c1 c2 c3 g1 g2 b1 b2 b3 b4
    obtain ⟨r, hr⟩ : ∃ r, r = bwN S w k (u + usN c) := ⟨_, rfl⟩
    rw [← hr] at b1 b2 b3 b4 eb
    obtain ⟨d1, d2⟩ := dig (s := c) (p4 k) b1
    rw [eb]
    refine ⟨?_, ?_, ?_, fun y hy hf => ?_⟩
    · rw [Nat.pow_succ]
      have := Nat.mul_le_mul_right (4 ^ k) (show c ≤ 3 by omega)
      omega
    · show (givB S ((c * 4 ^ k + r) / 4 ^ k) (4 - k) u (shN S w (4 - k)) && wyB S w k (u + usN ((c * 4 ^ k + r) / 4 ^ k)) ((c * 4 ^ k + r) % 4 ^ k)) = true
      rw [d1, d2, g1, b2]
      rfl
    · show cstN S ((c * 4 ^ k + r) / 4 ^ k) + wyC S k ((c * 4 ^ k + r) % 4 ^ k) = _
      rw [d1, d2, b3, g2]
    · have hf : (givB S (y / 4 ^ k) (4 - k) u (shN S w (4 - k)) && wyB S w k (u + usN (y / 4 ^ k)) (y % 4 ^ k)) = true := hf
      rw [Bool.and_eq_true] at hf
      show _ < cstN S (y / 4 ^ k) + wyC S k (y % 4 ^ k)
      have e1 : 4 ^ k * (c + 1) = c * 4 ^ k + 4 ^ k := by rw [Nat.mul_add, Nat.mul_comm, Nat.mul_one]
      have hle : y / 4 ^ k < c + 1 := Nat.div_lt_of_lt_mul (by omega)
      have hm := Nat.mod_lt y (p4 k)
      have hy2 := Nat.div_add_mod y (4 ^ k)
      by_cases q : y / 4 ^ k = c
      · rw [q, Nat.mul_comm] at hy2
        rw [q] at hf
        have := b4 (y % 4 ^ k) (by omega) hf.2
        rw [q]
        omega
      · have hno := c3 (y / 4 ^ k) (by omega)
        have hge := cv_at (k := k) (u := u) (s := y / 4 ^ k) (by omega) hf.1
        have hlo := pf_lo k _ (y % 4 ^ k) hm hf.2
        have hne : cstN S (y / 4 ^ k) + cvN S w k (u + usN (y / 4 ^ k)) ≠ cvN S w (k + 1) u := by
          intro z
          unfold gdB at hno
          rw [hf.1, show 4 - (4 - k) = k by omega, show 5 - (4 - k) = k + 1 by omega, decide_eq_true z] at hno
          cases hno
        omega
end
/-! the law's ways: two bits a day -/
def ow (x d : Nat) : Nat := x / 2 ^ (2 * (4 - d)) % 4
def dyW (x k : Nat) : Nat := sm (fun d => bitN (ow x d) k) 5
def dOk (S : MS) (x k d : Nat) : Bool := decide (bitN (ow x d) k ≠ 1) || (decide (k < S 21 2) && decide (bitN (S 13 k) d = 1))
def kOk (S : MS) (x k : Nat) : Bool := andN (dOk S x k) 5 && decide (dyW x k ≤ S 14 k)
def nOk (S : MS) (w x : Nat) : Bool := andN (fun d => decide (ow x d % 2 + ow x d / 2 = shN S w d)) 5
def okW (S : MS) (w x : Nat) : Bool := nOk S w x && andN (kOk S x) 2
def cW (S : MS) (x : Nat) : Nat := sm (fun k => dyW x k * S 15 k) 2
theorem ow_lt (x d : Nat) : ow x d < 4 := Nat.mod_lt _ (by decide)
theorem bit4 {s : Nat} (hs : s < 4) : bitN s 0 = s % 2 ∧ bitN s 1 = s / 2 ∧ bitN s 2 = 0 ∧ bitN s 3 = 0 := by
  have : ∀ s, s < 4 → bitN s 0 = s % 2 ∧ bitN s 1 = s / 2 ∧ bitN s 2 = 0 ∧ bitN s 3 = 0 := by decide
  exact this s hs
theorem us4 {s : Nat} (hs : s < 4) : usN s = s % 2 + 6 * (s / 2) := by
  have : ∀ s, s < 4 → usN s = s % 2 + 6 * (s / 2) := by decide
  exact this s hs
theorem sz4 {s : Nat} (hs : s < 4) : szN s = s % 2 + s / 2 := by
  have : ∀ s, s < 4 → szN s = s % 2 + s / 2 := by decide
  exact this s hs
theorem cst4 {S : MS} {s : Nat} (hs : s < 4) : cstN S s = s % 2 * S 15 0 + s / 2 * S 15 1 := by
  obtain ⟨b0, b1, b2, b3⟩ := bit4 hs
  show 0 + bitN s 0 * S 15 0 + bitN s 1 * S 15 1 + bitN s 2 * S 15 2 + bitN s 3 * S 15 3 = _
  rw [b0, b1, b2, b3, Nat.zero_mul, Nat.zero_mul]
  simp
/-- a substitute's availability on a day -/
def avP (S : MS) (k d : Nat) : Prop := k < S 21 2 ∧ bitN (S 13 k) d = 1
theorem giv4 {S : MS} {s d u m : Nat} (hs : s < 4) : givB S s d u m = true ↔ ((s % 2 ≠ 1 ∨ avP S 0 d ∧ u % 6 < S 14 0) ∧ (s / 2 ≠ 1 ∨ avP S 1 d ∧ u / 6 % 6 < S 14 1)) ∧ s % 2 + s / 2 = m := by
  obtain ⟨b0, b1, b2, b3⟩ := bit4 hs
  unfold givB avP
  rw [sz4 hs]
  show (((((true && canK S s d u 0) && canK S s d u 1) && canK S s d u 2) && canK S s d u 3) && _) = true ↔ _
  unfold canK
  rw [b0, b1, b2, b3, show pwN 0 = 1 from rfl, show pwN 1 = 6 from rfl, Nat.div_one]
  simp [and_assoc]
theorem fivE {b0 b1 b2 b3 b4 M : Nat} {p0 p1 p2 p3 p4 : Prop} (h0 : b0 ≤ 1) (h1 : b1 ≤ 1) (h2 : b2 ≤ 1) (h3 : b3 ≤ 1) (h4 : b4 ≤ 1) : ((b0 ≠ 1 ∨ p0 ∧ 0 < M) ∧ (b1 ≠ 1 ∨ p1 ∧ b0 < M) ∧ (b2 ≠ 1 ∨ p2 ∧ b0 + b1 < M) ∧ (b3 ≠ 1 ∨ p3 ∧ b0 + b1 + b2 < M) ∧ (b4 ≠ 1 ∨ p4 ∧ b0 + b1 + b2 + b3 < M)) ↔ ((b0 ≠ 1 ∨ p0) ∧ (b1 ≠ 1 ∨ p1) ∧ (b2 ≠ 1 ∨ p2) ∧ (b3 ≠ 1 ∨ p3) ∧ (b4 ≠ 1 ∨ p4)) ∧ b0 + b1 + b2 + b3 + b4 ≤ M := by
  constructor
  · rintro ⟨a0, a1, a2, a3, a4⟩
    refine ⟨⟨a0.imp_right And.left, a1.imp_right And.left, a2.imp_right And.left, a3.imp_right And.left, a4.imp_right And.left⟩, ?_⟩
    have q0 := a0.imp_right And.right
    have q1 := a1.imp_right And.right
    have q2 := a2.imp_right And.right
    have q3 := a3.imp_right And.right
    have q4 := a4.imp_right And.right
    omega
  · rintro ⟨⟨a0, a1, a2, a3, a4⟩, hs⟩
    refine ⟨?_, ?_, ?_, ?_, ?_⟩
    · rcases a0 with h | h
      · exact Or.inl h
      · by_cases q : b0 = 1
        · exact Or.inr ⟨h, by omega⟩
        · exact Or.inl q
    · rcases a1 with h | h
      · exact Or.inl h
      · by_cases q : b1 = 1
        · exact Or.inr ⟨h, by omega⟩
        · exact Or.inl q
    · rcases a2 with h | h
      · exact Or.inl h
      · by_cases q : b2 = 1
        · exact Or.inr ⟨h, by omega⟩
        · exact Or.inl q
    · rcases a3 with h | h
      · exact Or.inl h
      · by_cases q : b3 = 1
        · exact Or.inr ⟨h, by omega⟩
        · exact Or.inl q
    · rcases a4 with h | h
      · exact Or.inl h
      · by_cases q : b4 = 1
        · exact Or.inr ⟨h, by omega⟩
        · exact Or.inl q
theorem wyB5 (S : MS) (w : Nat) {y : Nat} (hy : y < 1024) : wyB S w 5 0 y = (givB S (ow y 0) 0 0 (shN S w 0) && (givB S (ow y 1) 1 (0 + usN (ow y 0)) (shN S w 1) && (givB S (ow y 2) 2 (0 + usN (ow y 0) + usN (ow y 1)) (shN S w 2) && (givB S (ow y 3) 3 (0 + usN (ow y 0) + usN (ow y 1) + usN (ow y 2)) (shN S w 3) && (givB S (ow y 4) 4 (0 + usN (ow y 0) + usN (ow y 1) + usN (ow y 2) + usN (ow y 3)) (shN S w 4) && true))))) := by
  have e0 : y / 256 = ow y 0 := by show y / 256 = y / 256 % 4; omega
  have e1 : y % 256 / 64 = ow y 1 := by show _ = y / 64 % 4; omega
  have e2 : y % 256 % 64 / 16 = ow y 2 := by show _ = y / 16 % 4; omega
  have e3 : y % 256 % 64 % 16 / 4 = ow y 3 := by show _ = y / 4 % 4; omega
  have e4 : y % 256 % 64 % 16 % 4 / 1 = ow y 4 := by show _ = y / 1 % 4; omega
  rw [← e0, ← e1, ← e2, ← e3, ← e4]
  rfl
theorem wyC5 (S : MS) {y : Nat} (hy : y < 1024) : wyC S 5 y = cstN S (ow y 0) + (cstN S (ow y 1) + (cstN S (ow y 2) + (cstN S (ow y 3) + (cstN S (ow y 4) + 0)))) := by
  have e0 : y / 256 = ow y 0 := by show y / 256 = y / 256 % 4; omega
  have e1 : y % 256 / 64 = ow y 1 := by show _ = y / 64 % 4; omega
  have e2 : y % 256 % 64 / 16 = ow y 2 := by show _ = y / 16 % 4; omega
  have e3 : y % 256 % 64 % 16 / 4 = ow y 3 := by show _ = y / 4 % 4; omega
  have e4 : y % 256 % 64 % 16 % 4 / 1 = ow y 4 := by show _ = y / 1 % 4; omega
  rw [← e0, ← e1, ← e2, ← e3, ← e4]
  rfl
theorem cW_is (S : MS) {y : Nat} (hy : y < 1024) : wyC S 5 y = cW S y := by
  rw [wyC5 S hy]
  have b : ∀ d, bitN (ow y d) 0 = ow y d % 2 ∧ bitN (ow y d) 1 = ow y d / 2 := fun d => ⟨(bit4 (ow_lt y d)).1, (bit4 (ow_lt y d)).2.1⟩
  have e0 : dyW y 0 = 0 + ow y 0 % 2 + ow y 1 % 2 + ow y 2 % 2 + ow y 3 % 2 + ow y 4 % 2 := by
    show 0 + bitN (ow y 0) 0 + bitN (ow y 1) 0 + bitN (ow y 2) 0 + bitN (ow y 3) 0 + bitN (ow y 4) 0 = _
    simp only [(b _).1]
  have e1 : dyW y 1 = 0 + ow y 0 / 2 + ow y 1 / 2 + ow y 2 / 2 + ow y 3 / 2 + ow y 4 / 2 := by
    show 0 + bitN (ow y 0) 1 + bitN (ow y 1) 1 + bitN (ow y 2) 1 + bitN (ow y 3) 1 + bitN (ow y 4) 1 = _
    simp only [(b _).2]
  show _ = 0 + dyW y 0 * S 15 0 + dyW y 1 * S 15 1
  rw [cst4 (ow_lt y 0), cst4 (ow_lt y 1), cst4 (ow_lt y 2), cst4 (ow_lt y 3), cst4 (ow_lt y 4), e0, e1]
  simp only [Nat.add_mul, Nat.zero_mul]
  omega
theorem okW_is (S : MS) (w : Nat) {y : Nat} (hy : y < 1024) : wyB S w 5 0 y = okW S w y := by
  have hb : ∀ d, ow y d % 2 ≤ 1 ∧ ow y d / 2 ≤ 1 := fun d => by have := ow_lt y d; omega
  have b : ∀ d, bitN (ow y d) 0 = ow y d % 2 ∧ bitN (ow y d) 1 = ow y d / 2 := fun d => ⟨(bit4 (ow_lt y d)).1, (bit4 (ow_lt y d)).2.1⟩
  have e0 : dyW y 0 = ow y 0 % 2 + ow y 1 % 2 + ow y 2 % 2 + ow y 3 % 2 + ow y 4 % 2 := by
    show 0 + bitN (ow y 0) 0 + bitN (ow y 1) 0 + bitN (ow y 2) 0 + bitN (ow y 3) 0 + bitN (ow y 4) 0 = _
    simp only [(b _).1, Nat.zero_add]
  have e1 : dyW y 1 = ow y 0 / 2 + ow y 1 / 2 + ow y 2 / 2 + ow y 3 / 2 + ow y 4 / 2 := by
    show 0 + bitN (ow y 0) 1 + bitN (ow y 1) 1 + bitN (ow y 2) 1 + bitN (ow y 3) 1 + bitN (ow y 4) 1 = _
    simp only [(b _).2, Nat.zero_add]
  have k0 := fivE (M := S 14 0) (p0 := avP S 0 0) (p1 := avP S 0 1) (p2 := avP S 0 2) (p3 := avP S 0 3) (p4 := avP S 0 4) (hb 0).1 (hb 1).1 (hb 2).1 (hb 3).1 (hb 4).1
  have k1 := fivE (M := S 14 1) (p0 := avP S 1 0) (p1 := avP S 1 1) (p2 := avP S 1 2) (p3 := avP S 1 3) (p4 := avP S 1 4) (hb 0).2 (hb 1).2 (hb 2).2 (hb 3).2 (hb 4).2
  have hW : okW S w y = true ↔ ((ow y 0 % 2 + ow y 0 / 2 = shN S w 0 ∧ ow y 1 % 2 + ow y 1 / 2 = shN S w 1 ∧ ow y 2 % 2 + ow y 2 / 2 = shN S w 2 ∧ ow y 3 % 2 + ow y 3 / 2 = shN S w 3 ∧ ow y 4 % 2 + ow y 4 / 2 = shN S w 4) ∧ (((ow y 0 % 2 ≠ 1 ∨ avP S 0 0) ∧ (ow y 1 % 2 ≠ 1 ∨ avP S 0 1) ∧ (ow y 2 % 2 ≠ 1 ∨ avP S 0 2) ∧ (ow y 3 % 2 ≠ 1 ∨ avP S 0 3) ∧ (ow y 4 % 2 ≠ 1 ∨ avP S 0 4)) ∧ dyW y 0 ≤ S 14 0) ∧ (((ow y 0 / 2 ≠ 1 ∨ avP S 1 0) ∧ (ow y 1 / 2 ≠ 1 ∨ avP S 1 1) ∧ (ow y 2 / 2 ≠ 1 ∨ avP S 1 2) ∧ (ow y 3 / 2 ≠ 1 ∨ avP S 1 3) ∧ (ow y 4 / 2 ≠ 1 ∨ avP S 1 4)) ∧ dyW y 1 ≤ S 14 1)) := by
    unfold okW nOk kOk avP
    simp only [andN, dOk, (b _).1, (b _).2, Bool.true_and, Bool.and_eq_true, Bool.or_eq_true, decide_eq_true_eq, and_assoc]
  have hF : wyB S w 5 0 y = true ↔ okW S w y = true := by
    rw [hW, wyB5 S w hy, e0, e1, ← k0, ← k1, us4 (ow_lt y 0), us4 (ow_lt y 1), us4 (ow_lt y 2), us4 (ow_lt y 3)]
    simp only [Bool.and_eq_true, and_true, giv4 (ow_lt y 0), giv4 (ow_lt y 1), giv4 (ow_lt y 2), giv4 (ow_lt y 3), giv4 (ow_lt y 4)]
    have h0 := hb 0
    have h1 := hb 1
    have h2 := hb 2
    have h3 := hb 3
    rw [show (0 + (ow y 0 % 2 + 6 * (ow y 0 / 2))) % 6 = ow y 0 % 2 by omega, show (0 + (ow y 0 % 2 + 6 * (ow y 0 / 2))) / 6 % 6 = ow y 0 / 2 by omega,
      show (0 + (ow y 0 % 2 + 6 * (ow y 0 / 2)) + (ow y 1 % 2 + 6 * (ow y 1 / 2))) % 6 = ow y 0 % 2 + ow y 1 % 2 by omega, show (0 + (ow y 0 % 2 + 6 * (ow y 0 / 2)) + (ow y 1 % 2 + 6 * (ow y 1 / 2))) / 6 % 6 = ow y 0 / 2 + ow y 1 / 2 by omega,
      show (0 + (ow y 0 % 2 + 6 * (ow y 0 / 2)) + (ow y 1 % 2 + 6 * (ow y 1 / 2)) + (ow y 2 % 2 + 6 * (ow y 2 / 2))) % 6 = ow y 0 % 2 + ow y 1 % 2 + ow y 2 % 2 by omega, show (0 + (ow y 0 % 2 + 6 * (ow y 0 / 2)) + (ow y 1 % 2 + 6 * (ow y 1 / 2)) + (ow y 2 % 2 + 6 * (ow y 2 / 2))) / 6 % 6 = ow y 0 / 2 + ow y 1 / 2 + ow y 2 / 2 by omega,
      show (0 + (ow y 0 % 2 + 6 * (ow y 0 / 2)) + (ow y 1 % 2 + 6 * (ow y 1 / 2)) + (ow y 2 % 2 + 6 * (ow y 2 / 2)) + (ow y 3 % 2 + 6 * (ow y 3 / 2))) % 6 = ow y 0 % 2 + ow y 1 % 2 + ow y 2 % 2 + ow y 3 % 2 by omega, show (0 + (ow y 0 % 2 + 6 * (ow y 0 / 2)) + (ow y 1 % 2 + 6 * (ow y 1 / 2)) + (ow y 2 % 2 + 6 * (ow y 2 / 2)) + (ow y 3 % 2 + 6 * (ow y 3 / 2))) / 6 % 6 = ow y 0 / 2 + ow y 1 / 2 + ow y 2 / 2 + ow y 3 / 2 by omega, Nat.zero_mod]
    constructor
    · rintro ⟨⟨⟨a0, a1⟩, a2⟩, ⟨⟨b0, b1⟩, b2⟩, ⟨⟨c0, c1⟩, c2⟩, ⟨⟨d0, d1⟩, d2⟩, ⟨⟨f0, f1⟩, f2⟩⟩
      exact ⟨⟨a2, b2, c2, d2, f2⟩, ⟨a0, b0, c0, d0, f0⟩, ⟨a1, b1, c1, d1, f1⟩⟩
    · rintro ⟨⟨a2, b2, c2, d2, f2⟩, ⟨a0, b0, c0, d0, f0⟩, ⟨a1, b1, c1, d1, f1⟩⟩
      exact ⟨⟨⟨a0, a1⟩, a2⟩, ⟨⟨b0, b1⟩, b2⟩, ⟨⟨c0, c1⟩, c2⟩, ⟨⟨d0, d1⟩, d2⟩, ⟨⟨f0, f1⟩, f2⟩⟩
  cases h1 : wyB S w 5 0 y with
  | true => exact (hF.mp h1).symm
  | false =>
    cases h2 : okW S w y with
    | true => rw [hF.mpr h2] at h1; cases h1
    | false => rfl
/-! the first best way -/
def lwI (S : MS) : Option Nat → Int32
  | none => -1
  | some y => nI (cW S y)
def BWY (S : MS) (w x : Nat) : Option Nat → Prop
  | none => ∀ y, y < x → okW S w y = false
  | some y0 => y0 < x ∧ okW S w y0 = true ∧ (∀ y, y < x → okW S w y = true → cW S y0 ≤ cW S y) ∧ ∀ y, y < y0 → okW S w y = true → cW S y0 < cW S y
theorem BWY.no {S : MS} {w x : Nat} {o : Option Nat} (h : BWY S w x o) (hn : okW S w x = false) : BWY S w (x + 1) o := by
  cases o with
  | none =>
    intro y hy
    by_cases q : y = x
    · rw [q]; exact hn
    · exact h y (by omega)
  | some y0 =>
    obtain ⟨h1, h2, h3, h4⟩ := h
    refine ⟨by omega, h2, fun y hy hok => ?_, h4⟩
    by_cases q : y = x
    · rw [q, hn] at hok; cases hok
    · exact h3 y (by omega) hok
theorem BWY.keep {S : MS} {w x y0 : Nat} (h : BWY S w x (some y0)) (hc : cW S y0 ≤ cW S x) : BWY S w (x + 1) (some y0) := by
  obtain ⟨h1, h2, h3, h4⟩ := h
  refine ⟨by omega, h2, fun y hy hok => ?_, h4⟩
  by_cases q : y = x
  · rw [q]; exact hc
  · exact h3 y (by omega) hok
theorem BWY.take {S : MS} {w x : Nat} {o : Option Nat} (h : BWY S w x o) (hok : okW S w x = true) (hc : ∀ y, o = some y → cW S x < cW S y) : BWY S w (x + 1) (some x) := by
  refine ⟨by omega, hok, fun y hy hoy => ?_, fun y hy hoy => ?_⟩
  · by_cases q : y = x
    · rw [q]; exact Nat.le_refl _
    · cases o with
      | none => rw [h y (by omega)] at hoy; cases hoy
      | some y0 =>
        have := h.2.2.1 y (by omega) hoy
        have := hc y0 rfl
        omega
  · cases o with
    | none => rw [h y hy] at hoy; cases hoy
    | some y0 =>
      have := h.2.2.1 y hy hoy
      have := hc y0 rfl
      omega
def cvR (S : MS) (w : Nat) : Int32 := if cvN S w 5 0 < 1000000 then nI (cvN S w 5 0) else -1
theorem cW_le {S : MS} (hI : IV S) (y : Nat) : cW S y ≤ 10000 := by
  have h15 := fun k hk => (hI.2.2.2.2.2.2.2.2.1 k hk).2.2
  have hd : ∀ k, dyW y k ≤ 5 * 1 := fun k => sm_le (fun d _ => bitN_le _ _)
  have h0 := Nat.mul_le_mul (hd 0) (h15 0 (by omega))
  have h1 := Nat.mul_le_mul (hd 1) (h15 1 (by omega))
  show 0 + dyW y 0 * S 15 0 + dyW y 1 * S 15 1 ≤ _
  omega
theorem bw_dig {S : MS} {w : Nat} (h2 : S 21 2 ≤ 2) (h : cvN S w 5 0 < 1000000) : ∀ d, d < 5 → ow (bwN S w 5 0) d = chN S w d (usA S w d) := by
  have s4 := ch_ok (w := w) (k := 4) (u := 0) h2 (by omega) h
  have g4 := (gd_at (k := 4) (by omega) s4.2.1).2
  have s3 := ch_ok (w := w) (k := 3) (u := 0 + usN (chN S w 0 0)) h2 (by omega) (by have : cstN S (chN S w 0 0) + cvN S w 4 (0 + usN (chN S w 0 0)) = cvN S w 5 0 := g4; show cvN S w 4 _ < _; omega)
  have g3 := (gd_at (k := 3) (by omega) s3.2.1).2
  have u1 : usA S w 1 = 0 + usN (chN S w 0 0) := rfl
  have t3 : cvN S w 4 (usA S w 1) < 1000000 := by have : cstN S (chN S w 0 0) + cvN S w 4 (usA S w 1) = cvN S w 5 0 := g4; omega
  have t2 : cvN S w 3 (usA S w 2) < 1000000 := by have : cstN S (chN S w 1 (usA S w 1)) + cvN S w 3 (usA S w 2) = cvN S w 4 (usA S w 1) := g3; omega
  have s2 := ch_ok (w := w) (k := 2) (u := usA S w 2) h2 (by omega) t2
  have g2 := (gd_at (k := 2) (by omega) s2.2.1).2
  have t1 : cvN S w 2 (usA S w 3) < 1000000 := by have : cstN S (chN S w 2 (usA S w 2)) + cvN S w 2 (usA S w 3) = cvN S w 3 (usA S w 2) := g2; omega
  have s1 := ch_ok (w := w) (k := 1) (u := usA S w 3) h2 (by omega) t1
  have g1 := (gd_at (k := 1) (by omega) s1.2.1).2
  have t0 : cvN S w 1 (usA S w 4) < 1000000 := by have : cstN S (chN S w 3 (usA S w 3)) + cvN S w 1 (usA S w 4) = cvN S w 2 (usA S w 3) := g1; omega
  have s0 := ch_ok (w := w) (k := 0) (u := usA S w 4) h2 (by omega) t0
  have eb : bwN S w 5 0 = chN S w 0 (usA S w 0) * 256 + (chN S w 1 (usA S w 1) * 64 + (chN S w 2 (usA S w 2) * 16 + (chN S w 3 (usA S w 3) * 4 + (chN S w 4 (usA S w 4) * 1 + 0)))) := rfl
  have c0 : chN S w 0 (usA S w 0) < 4 := s4.1
  have c1 : chN S w 1 (usA S w 1) < 4 := s3.1
  have c2 : chN S w 2 (usA S w 2) < 4 := s2.1
  have c3 : chN S w 3 (usA S w 3) < 4 := s1.1
  have c4 : chN S w 4 (usA S w 4) < 4 := s0.1
  intro d hd
  rw [eb]
  rcases (show d = 0 ∨ d = 1 ∨ d = 2 ∨ d = 3 ∨ d = 4 by omega) with q | q | q | q | q <;> subst q
  · show _ / 256 % 4 = _
    omega
  · show _ / 64 % 4 = _
    omega
  · show _ / 16 % 4 = _
    omega
  · show _ / 4 % 4 = _
    omega
  · show _ / 1 % 4 = _
    omega
/-- after all ways: the answer, and the sets -/
theorem BWY.fin {S : MS} {w : Nat} (hI : IV S) (h2 : S 21 2 ≤ 2) {o : Option Nat} (h : BWY S w 1024 o) : lwI S o = cvR S w ∧ (cvN S w 5 0 < 1000000 → ∃ y, o = some y ∧ ∀ d, d < 5 → ow y d = chN S w d (usA S w d)) := by
  have e4 : (4 : Nat) ^ 5 = 1024 := by decide
  by_cases hc : cvN S w 5 0 < 1000000
  · obtain ⟨b1, b2, b3, b4⟩ := bw_ok (w := w) h2 5 0 (Nat.le_refl _) hc
    rw [e4] at b1
    have hok : okW S w (bwN S w 5 0) = true := by rw [← okW_is S w b1]; exact b2
    have hcb : cW S (bwN S w 5 0) = cvN S w 5 0 := by rw [← cW_is S b1]; exact b3
    cases o with
    | none => rw [h _ b1] at hok; cases hok
    | some y =>
      obtain ⟨h1, h3, h5, h6⟩ := h
      have hf : wyB S w 5 0 y = true := by rw [okW_is S w h1]; exact h3
      have l1 := pf_lo (S := S) (w := w) 5 0 y (by rw [e4]; exact h1) hf
      rw [cW_is S h1] at l1
      have l2 := h5 _ b1 hok
      have hce : cW S y = cvN S w 5 0 := by omega
      have hy : y = bwN S w 5 0 := by
        rcases Nat.lt_trichotomy y (bwN S w 5 0) with q | q | q
        · have := b4 y q hf
          rw [cW_is S h1] at this
          omega
        · exact q
        · have := h6 _ q hok
          omega
      refine ⟨?_, fun _ => ⟨y, rfl, ?_⟩⟩
      · show nI (cW S y) = _
        unfold cvR
        rw [if_pos hc, hce]
      · rw [hy]
        exact bw_dig h2 hc
  · refine ⟨?_, fun q => absurd q hc⟩
    cases o with
    | none => unfold cvR; rw [if_neg hc]; rfl
    | some y =>
      obtain ⟨h1, h3, h5, h6⟩ := h
      have hf : wyB S w 5 0 y = true := by rw [okW_is S w h1]; exact h3
      have l1 := pf_lo (S := S) (w := w) 5 0 y (by rw [e4]; exact h1) hf
      rw [cW_is S h1] at l1
      have := cW_le hI y
      omega

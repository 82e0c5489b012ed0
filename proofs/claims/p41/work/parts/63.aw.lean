/-! shortages: the week's holidays, one more of them -/
/-- the state in which the educator g (-1: none) has a holiday in the week w -/
def AW (S : MS) (w : Nat) (g : Int32) (S' : MS) : Prop := (g = -1 ∧ S' = S) ∨ ∃ x : Nat, x < 8 ∧ g = nI x ∧ S' = uM S 10 (52 * x + w) 1
theorem AW.no (S : MS) (w : Nat) : AW S w (-1) S := Or.inl ⟨rfl, rfl⟩
theorem AW.is {S : MS} {x w : Nat} (hx : x < 8) : AW S w (nI x) (uM S 10 (52 * x + w) 1) := Or.inr ⟨x, hx, rfl, rfl⟩
theorem AW.off {S S' : MS} {w : Nat} {g : Int32} (h : AW S w g S') {a j : Nat} (ha : a ≠ 10) : S' a j = S a j := by
  rcases h with ⟨rfl, rfl⟩ | ⟨x, hx, rfl, rfl⟩
  · rfl
  · exact uM_nk ha
theorem AW.hol {S S' : MS} {w : Nat} {g : Int32} (h : AW S w g S') {x : Nat} (hI : IV S) (hx : x < 8) (hw : w < 52) : decide (S' 10 (52 * x + w) = 0) = (!decide (nI x = g) && !hoP S x w) := by
  have h1 := hI.2.2.2.2.1 (52 * x + w) (by omega)
  unfold hoP
  rcases h with ⟨rfl, rfl⟩ | ⟨y, hy, rfl, rfl⟩
  · rw [decide_eq_false (nI_nm1 (show x < 16777216 by omega))]
    rcases (show S' 10 (52 * x + w) = 0 ∨ S' 10 (52 * x + w) = 1 by omega) with q | q <;> rw [q] <;> rfl
  · rw [decide_eq_decide.mpr (nI_eq (show x < 2147483648 by omega) (show y < 2147483648 by omega))]
    by_cases q : x = y
    · subst q
      rw [uM_eq]
      simp
    · rw [uM_ni (by omega), decide_eq_false q]
      rcases (show S 10 (52 * x + w) = 0 ∨ S 10 (52 * x + w) = 1 by omega) with z | z <;> rw [z] <;> rfl
theorem AW.thr {S S' : MS} {w : Nat} {g : Int32} (h : AW S w g S') {x : Nat} (hI : IV S) (hx : x < 8) (hw : w < 52) (q : Nat) : thrB S' w (q / 10) (q % 10) x = (decide (S 7 x = 1) && (!decide (nI x = g) && !hoP S x w) && spP S 8 x q) := by
  unfold thrB spP
  rw [h.hol hI hx hw, h.off (a := 7) (by omega), h.off (a := 8) (by omega), h.off (a := 9) (by omega)]
def cutw (S : MS) : MS := fun a j => if a = 10 then 0 else S a j
theorem AW.cut {S S' : MS} {w : Nat} {g : Int32} (h : AW S w g S') : cutw S' = cutw S := by
  funext a j
  unfold cutw
  split
  · rfl
  · rename_i q
    exact h.off q
theorem need_cutw (S : MS) (d h : Nat) (m : Int32) : needN S d h m = needN (cutw S) d h m := rfl
theorem AW.need {S S' : MS} {w : Nat} {g : Int32} (h : AW S w g S') (d q : Nat) (m : Int32) : needN S' d q m = needN S d q m := by rw [need_cutw, need_cutw S, h.cut]
theorem AW.sh {S S' : MS} {w : Nat} {g : Int32} (h : AW S w g S') (d : Nat) : shN S' w d = mxN (fun q => needN S d q (-9) - thrN S' w d q) 10 := by
  have e : (fun q => needN S' d q (-9) - thrN S' w d q) = (fun q => needN S d q (-9) - thrN S' w d q) := funext fun q => by rw [h.need]
  show mxN (fun q => needN S' d q (-9) - thrN S' w d q) 10 = _
  rw [e]
theorem AW.iv {S S' : MS} {w : Nat} {g : Int32} (h : AW S w g S') (hI : IV S) : IV S' := by
  rcases h with ⟨rfl, rfl⟩ | ⟨x, hx, rfl, rfl⟩
  · exact hI
  · exact IV_hol hI (by omega)
theorem thr_le (S : MS) (w d h : Nat) : thrN S w d h ≤ 8 := by
  have : thrN S w d h ≤ 8 * 1 := sm_le (fun i _ => ct_le _)
  omega
theorem mx_le {f : Nat → Nat} {b : Nat} : ∀ {n : Nat}, (∀ i, i < n → f i ≤ b) → mxN f n ≤ b
  | 0, _ => Nat.zero_le _
  | n + 1, h => by
    have h1 := mx_le (f := f) (b := b) (n := n) (fun i hi => h i (by omega))
    have h2 := h n (by omega)
    rw [mxN_s]
    split <;> omega
theorem AW.shle {S S' : MS} {w : Nat} {g : Int32} (h : AW S w g S') (hI : IV S) (d : Nat) : shN S' w d ≤ 40000 := by
  rw [h.sh]
  exact mx_le (fun i _ => Nat.le_trans (Nat.sub_le _ _) (need_le hI _ _ _))
theorem mx_sub {s a b : Nat} (hs : s < 1073741824) (ha : a < 1073741824) (hb : b < 1073741824) : (if nI s < nI a - nI b then nI a - nI b else nI s) = nI (if s < a - b then a - b else s) := by
  have h : nI s < nI a - nI b ↔ s < a - b := by
    rw [Int32.lt_iff_toInt_lt, pk_sub_toInt ha hb, nI_toInt (by omega)]
    omega
  by_cases q : s < a - b
  · rw [if_pos (h.mpr q), if_pos q, pk_sub (by omega)]
  · rw [if_neg (fun z => q (h.mp z)), if_neg q]

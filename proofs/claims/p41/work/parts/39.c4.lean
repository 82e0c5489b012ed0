/-! the class's numbers are the reference's -/
theorem i_nlt {x y : Int32} (h : ¬ x < y) : y ≤ x := by
  rw [Int32.lt_iff_toInt_lt] at h
  rw [Int32.le_iff_toInt_le]
  omega
theorem nat_in {x : Int32} {n : Nat} (hn : n < 1000000) (h0 : ¬ x < 0) (h1 : ¬ nI n ≤ x) : ∃ j : Nat, j < n ∧ x = nI j := by
  rcases pk_ix x (n := n) (by omega) with q | q | ⟨c, hc, q⟩
  · exact absurd q h0
  · exact absurd q h1
  · exact ⟨c, hc, q⟩
theorem i_lt_n {x y : Int32} (h : x < y) : ¬ y ≤ x := by
  rw [Int32.lt_iff_toInt_lt] at h
  rw [Int32.le_iff_toInt_le]
  omega
theorem hasC_t {S : MS} {c : Nat} (hc : c < 24) (h : S 0 c = 1) : hasC S (nI c) = true := by
  unfold hasC
  rw [within_N (by omega) (by omega) (by omega), nI_clamp (by omega), decide_eq_true h, decide_eq_true (Nat.zero_le c), decide_eq_true (show c ≤ 23 by omega)]
  rfl
theorem hasC_f {S : MS} {c : Nat} (hc : c < 24) (h : S 0 c = 0) : hasC S (nI c) = false := by
  unfold hasC
  rw [nI_clamp (by omega), decide_eq_false (by omega), Bool.and_false]
theorem hasE_t {S : MS} {c : Nat} (hc : c < 8) (h : S 7 c = 1) : hasE S (nI c) = true := by
  unfold hasE
  rw [within_N (by omega) (by omega) (by omega), nI_clamp (by omega), decide_eq_true h, decide_eq_true (Nat.zero_le c), decide_eq_true (show c ≤ 7 by omega)]
  rfl
theorem hasE_f {S : MS} {c : Nat} (hc : c < 8) (h : S 7 c = 0) : hasE S (nI c) = false := by
  unfold hasE
  rw [nI_clamp (by omega), decide_eq_false (by omega), Bool.and_false]
def OCp (S : MS) (e : CE) (x : Int32) (r : Option Nat) : Prop := (∃ c a : Nat, c < 24 ∧ x = nI c ∧ hasC S x = true ∧ S 0 c = 1 ∧ eR e 0 c = some a ∧ a ∈ eL e ∧ eP e a = chE S c ∧ r = some a) ∨ (hasC S x = false ∧ r = none)
def OEp (S : MS) (e : CE) (x : Int32) (r : Option Nat) : Prop := (∃ c a : Nat, c < 8 ∧ x = nI c ∧ hasE S x = true ∧ S 7 c = 1 ∧ eR e 1 c = some a ∧ a ∈ eL e ∧ eP e a = edE S c ∧ r = some a) ∨ (hasE S x = false ∧ r = none)
def OCn (S : MS) (e : CE) (i : Nat) (r : Option Nat) : Prop := (∃ a : Nat, S 0 i = 1 ∧ eR e 0 i = some a ∧ a ∈ eL e ∧ eP e a = chE S i ∧ r = some a) ∨ (S 0 i = 0 ∧ eR e 0 i = none ∧ r = none)
theorem orN_congr {f g : Nat → Bool} : ∀ {n : Nat}, (∀ i, i < n → f i = g i) → orN f n = orN g n
  | 0, _ => rfl
  | n + 1, h => by rw [orN, orN, orN_congr (n := n) (fun i hi => h i (Nat.lt_succ_of_lt hi)), h n (Nat.lt_succ_self n)]
theorem andN_congr {f g : Nat → Bool} : ∀ {n : Nat}, (∀ i, i < n → f i = g i) → andN f n = andN g n
  | 0, _ => rfl
  | n + 1, h => by rw [andN, andN, andN_congr (n := n) (fun i hi => h i (Nat.lt_succ_of_lt hi)), h n (Nat.lt_succ_self n)]
def famB (S : MS) (f k : Nat) : Bool := isIn S k && decide (S 2 k = f)
theorem sib_fam {S : MS} {c : Nat} (h : S 3 c = 0) : orN (sibB S c) 24 = orN (famB S (S 2 c)) 24 := orN_congr (fun k _ => by
  unfold sibB famB
  by_cases q : k = c
  · subst q
    have : isIn S k = false := by unfold isIn; rw [decide_eq_false (show ¬ S 3 k = 1 by omega), Bool.and_false]
    rw [this]
    simp
  · simp [q])
theorem pres_g {S : MS} {d h g c : Nat} (hg : g < 3) : presB S d h (nI g) c = (isIn S c && isBkd S c d h && decide (grpN S c = g)) := by
  have := grpN_le S c
  unfold presB
  rw [decide_eq_false (nI_n9 (show g < 16777216 by omega)), Bool.false_or, decide_eq_decide.mpr (nI_eq (show grpN S c < 2147483648 by omega) (show g < 2147483648 by omega))]
theorem pres_9 {S : MS} {d h c : Nat} : presB S d h (-9) c = (isIn S c && isBkd S c d h) := by
  unfold presB
  simp
theorem sm_add (f g : Nat → Nat) : ∀ n, sm (fun i => f i + g i) n = sm f n + sm g n
  | 0 => rfl
  | n + 1 => by rw [sm_s, sm_s, sm_s, sm_add f g n]; omega
theorem pres_sum (S : MS) (d h : Nat) : presN S d h (-9) = presN S d h (nI 0) + presN S d h (nI 1) + presN S d h (nI 2) := by
  unfold presN
  rw [← sm_add, ← sm_add]
  refine sm_congr (fun c _ => ?_)
  rw [pres_9, pres_g (by omega), pres_g (by omega), pres_g (by omega)]
  have := grpN_le S c
  rcases (show grpN S c = 0 ∨ grpN S c = 1 ∨ grpN S c = 2 by omega) with q | q | q <;> rw [q] <;> cases isIn S c <;> cases isBkd S c d h <;> rfl
theorem pres_le (S : MS) (d h : Nat) (g : Int32) : presN S d h g ≤ 24 := by
  have : presN S d h g ≤ 24 * 1 := sm_le (fun i _ => ct_le _)
  omega
theorem staff_le (S : MS) (d h : Nat) : staffN S d h ≤ 8 := by
  have : staffN S d h ≤ 8 * 1 := sm_le (fun i _ => ct_le _)
  omega
theorem add_sum {S : MS} {m : Int32} : addN S m 0 + addN S m 1 + addN S m 2 = moreN m := by
  unfold addN moreN
  have := grpN_le S m.toNatClampNeg
  rcases (show grpN S m.toNatClampNeg = 0 ∨ grpN S m.toNatClampNeg = 1 ∨ grpN S m.toNatClampNeg = 2 by omega) with q | q | q <;> rw [q] <;> cases decide (m ≠ -9) <;> rfl
theorem add_c {S : MS} {c g : Nat} (hc : c < 24) : addN S (nI c) g = ct (decide (g = grpN S c)) := by
  unfold addN
  rw [nI_clamp (by omega), decide_eq_true (nI_n9 (show c < 16777216 by omega)), Bool.true_and]
  congr 1
  exact decide_eq_decide.mpr ⟨Eq.symm, Eq.symm⟩
theorem add_9 {S : MS} {g : Nat} : addN S (-9) g = 0 := by
  unfold addN
  rfl
theorem cnt_9 {S : MS} {d h g : Nat} : cntN S d h (-9) g = presN S d h (nI g) := by
  unfold cntN
  rw [add_9, Nat.add_zero]
theorem cnt_le {S : MS} {d h g : Nat} {m : Int32} : cntN S d h m g ≤ 25 := by
  have := pres_le S d h (nI g)
  have : addN S m g ≤ 1 := ct_le _
  unfold cntN
  omega
theorem cnt_sum {S : MS} {d h : Nat} {m : Int32} : cntN S d h m 0 + cntN S d h m 1 + cntN S d h m 2 = presN S d h (-9) + moreN m := by
  have h1 := pres_sum S d h
  have h2 := add_sum (S := S) (m := m)
  unfold cntN
  omega
theorem need_is {S : MS} (hI : IV S) (d h : Nat) (m : Int32) : (cntN S d h m 0 * S 11 1 * S 11 2 + cntN S d h m 1 * S 11 0 * S 11 2 + cntN S d h m 2 * S 11 0 * S 11 1 + S 11 0 * S 11 1 * S 11 2 - 1) / (S 11 0 * S 11 1 * S 11 2) = needN S d h m := by
  have r := hI.2.2.2.2.2.1
  have r0 := r 0 (by omega)
  have r1 := r 1 (by omega)
  have r2 := r 2 (by omega)
  unfold needN allN
  rw [sm_s, sm_s, sm_s, sm_0, Nat.zero_add, need_eq (by omega) (by omega) (by omega)]
theorem need_le {S : MS} (hI : IV S) (d h : Nat) (m : Int32) : needN S d h m ≤ 40000 := by
  rw [← need_is hI]
  have r := hI.2.2.2.2.2.1
  have r0 := r 0 (by omega)
  have r1 := r 1 (by omega)
  have r2 := r 2 (by omega)
  have b0 : cntN S d h m 0 * S 11 1 * S 11 2 ≤ 25 * 20 * 20 := Nat.mul_le_mul (Nat.mul_le_mul cnt_le r1.2) r2.2
  have b1 : cntN S d h m 1 * S 11 0 * S 11 2 ≤ 25 * 20 * 20 := Nat.mul_le_mul (Nat.mul_le_mul cnt_le r0.2) r2.2
  have b2 : cntN S d h m 2 * S 11 0 * S 11 1 ≤ 25 * 20 * 20 := Nat.mul_le_mul (Nat.mul_le_mul cnt_le r0.2) r1.2
  have b3 : S 11 0 * S 11 1 * S 11 2 ≤ 20 * 20 * 20 := Nat.mul_le_mul (Nat.mul_le_mul r0.2 r1.2) r2.2
  exact Nat.le_trans (Nat.div_le_self _ _) (by omega)
theorem bkd_sp (S : MS) (c q : Nat) : isBkd S c (q / 10) (q % 10) = spP S 5 c q := rfl
theorem wrk_sp (S : MS) (x q : Nat) : wrkB S (q / 10) (q % 10) x = (decide (S 7 x = 1) && spP S 8 x q) := rfl
def sfB (S : MS) (c q : Nat) : Bool := safeB S (q / 10) (q % 10) (nI c)
theorem and50 (f : Nat → Nat → Bool) : andN (fun d => andN (fun h => f d h) 10) 5 = andN (fun q => f (q / 10) (q % 10)) 50 := by
  apply Bool.eq_iff_iff.mpr
  rw [andN_iff, andN_iff]
  constructor
  · intro h q hq
    exact (andN_iff.mp (h (q / 10) (by omega))) (q % 10) (by omega)
  · intro h d hd
    refine andN_iff.mpr (fun k hk => ?_)
    have := h (10 * d + k) (by omega)
    rwa [show (10 * d + k) / 10 = d by omega, show (10 * d + k) % 10 = k by omega] at this
theorem adm_is {S : MS} (hI : IV S) {c : Nat} (hc : c < 24) : admB S c = (decide (0 < hoursN S c) && andN (fun q => !spP S 5 c q || sfB S c q) 50) := by
  unfold admB
  rw [and50]
  rfl
theorem hours_0 {S : MS} (hI : IV S) {c : Nat} (hc : c < 24) : msk (spP S 5 c) 50 = lN 0 ↔ hoursN S c = 0 := by
  rw [← hours_cnt hI hc]
  unfold msk
  constructor
  · intro h
    have h2 := lN_inj (Nat.lt_of_lt_of_le (ofB_lt _ _) (by decide)) (by decide) h
    have : sm (fun q => ct (spP S 5 c q)) 50 ≤ 50 * 0 := sm_le (fun i hi => by
      have hb := bitN_ofB (spP S 5 c) 50 i
      rw [h2, decide_eq_true hi, Bool.true_and] at hb
      rw [← hb]
      unfold bitN
      simp)
    omega
  · intro h
    have hz : ∀ i, i < 50 → spP S 5 c i = false := by
      intro i hi
      cases q : spP S 5 c i with
      | false => rfl
      | true =>
        have h2 : sm (fun _ => 0) 50 < sm (fun q => ct (spP S 5 c q)) 50 := sm_lt (fun _ _ => Nat.zero_le _) ⟨i, hi, by show 0 < ct (spP S 5 c i); rw [q]; decide⟩
        omega
    rw [ofB_congr (q := fun _ => false) hz]
    decide
def pZs (l : List Nat) (T : CT) (e : CE) (x : Int32) : Option Value → CS → Prop := pI (fun r u => ∃ T' : CT, x = r ∧ (T', e) = u ∧ SM l T T')
theorem hw_d {d h : Nat} (hh : h < 10) : (10 * d + h) / 10 = d := by omega
theorem hw_h {d h : Nat} (hh : h < 10) : (10 * d + h) % 10 = h := by omega
theorem isHour_of {x y : Int32} (h1 : isDayI x = true) (h2 : withinI y (nI 0) (nI 9) = true) : ∃ d h : Nat, d < 5 ∧ h < 10 ∧ x = nI d ∧ y = nI h := by
  obtain ⟨d, hd, rfl⟩ := within_0 (by decide) h1
  obtain ⟨h, hh, rfl⟩ := within_0 (by decide) h2
  exact ⟨d, h, by omega, by omega, rfl, rfl⟩
theorem isHour_n {d h : Nat} (hd : d < 5) (hh : h < 10) : isHourI (nI d) (nI h) = true := by
  unfold isHourI isDayI
  rw [within_N (by omega) (by omega) (by omega), within_N (by omega) (by omega) (by omega)]
  simp
  omega
theorem isDay_n {d : Nat} (hd : d < 5) : isDayI (nI d) = true := by
  unfold isDayI
  rw [within_N (by omega) (by omega) (by omega)]
  simp
  omega
theorem isWeek_n {d : Nat} (hd : d < 52) : isWeekI (nI d) = true := by
  unfold isWeekI
  rw [within_N (by omega) (by omega) (by omega)]
  simp
  omega
theorem isGroup_n {d : Nat} (hd : d < 3) : isGroupI (nI d) = true := by
  unfold isGroupI
  rw [within_N (by omega) (by omega) (by omega)]
  simp
  omega
theorem safe_is (S : MS) (d h : Nat) (m : Int32) : safeB S d h m = (decide (cntN S d h m 0 + cntN S d h m 1 + cntN S d h m 2 ≤ S 21 1) && decide (needN S d h m ≤ staffN S d h)) := by
  rw [cnt_sum]
  rfl
theorem cmp_0 {x : Int64} (h : lg_cmp x (lN 0) = 0) : x = lN 0 := by
  unfold lg_cmp at h
  split at h
  · exact absurd h (by decide)
  · split at h
    · assumption
    · exact absurd h (by decide)
theorem cmp_n {x : Int64} (h : ¬ lg_cmp x (lN 0) = 0) : ¬ x = lN 0 := fun q => h (by rw [q]; decide)
theorem h9_n {h : Nat} (hh : h < 10) : withinI (nI h) (nI 0) (nI 9) = true := by
  rw [within_N (by omega) (by omega) (by omega)]
  simp
  omega
theorem sm_mul (f : Nat → Nat → Nat) : ∀ n, sm (fun d => sm (f d) 10) n = sm (fun q => f (q / 10) (q % 10)) (10 * n)
  | 0 => rfl
  | n + 1 => by
    rw [sm_s, sm_mul f n, show 10 * (n + 1) = 10 * n + 10 by omega, sm_split]
    congr 1
    exact sm_congr (fun h hh => by rw [hw_d hh, hw_h hh])
theorem usf_is (S : MS) : usfN S = sm (fun q => ct (!safeB S (q / 10) (q % 10) (-9))) 50 := sm_mul (fun d h => ct (!safeB S d h (-9))) 5

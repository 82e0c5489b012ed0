/-! a waiting child seen as one more, or as admitted; the list's first; the answers of calls over the law's children -/
theorem sm_bmp {f f' : Nat → Nat} {c x : Nat} : ∀ {n : Nat}, c < n → f' c = f c + x → (∀ i, i < n → i ≠ c → f' i = f i) → sm f' n = sm f n + x
  | 0, h, _, _ => absurd h (by omega)
  | n + 1, h, h1, h2 => by
    rw [sm_s, sm_s]
    by_cases q : c = n
    · subst q
      rw [h1, sm_congr (f := f') (g := f) (fun i hi => h2 i (by omega) (by omega))]
      omega
    · rw [sm_bmp (n := n) (by omega) h1 (fun i hi hne => h2 i (by omega) hne), h2 n (by omega) (fun z => q z.symm)]
      omega
section
variable {S : MS} {c : Nat}
theorem adm_bkd (x d k v : Nat) : isBkd (uM S 3 c v) x d k = isBkd S x d k := by
  unfold isBkd
  rw [uM_nk (by omega), uM_nk (by omega)]
theorem adm_grp (x v : Nat) : grpN (uM S 3 c v) x = grpN S x := by
  unfold grpN
  rw [uM_nk (by omega)]
theorem adm_staff (d k v : Nat) : staffN (uM S 3 c v) d k = staffN S d k := sm_congr (fun e _ => by
  unfold wrkB
  rw [uM_nk (by omega), uM_nk (by omega), uM_nk (by omega)])
theorem pres_adm (hc : c < 24) (h0 : S 0 c = 1) (h3 : S 3 c = 0) {d k : Nat} (hb : isBkd S c d k = true) (g : Int32) : presN (uM S 3 c 1) d k g = presN S d k g + ct (decide (g = -9) || decide (nI (grpN S c) = g)) := by
  refine sm_bmp hc ?_ (fun i _ hne => ?_)
  · have e1 : presB (uM S 3 c 1) d k g c = (decide (g = -9) || decide (nI (grpN S c) = g)) := by
      unfold presB isIn
      rw [adm_bkd, adm_grp, uM_eq, uM_nk (by omega), hb, h0]
      simp
    have e2 : presB S d k g c = false := by
      unfold presB isIn
      rw [h3]
      simp
    rw [e1, e2]
    show _ = 0 + _
    omega
  · unfold presB isIn
    rw [adm_bkd, adm_grp, uM_nk (by omega), uM_ni hne]
theorem cnt_adm (hc : c < 24) (h0 : S 0 c = 1) (h3 : S 3 c = 0) {d k : Nat} (hb : isBkd S c d k = true) {g : Nat} (hg : g < 3) : cntN (uM S 3 c 1) d k (-9) g = cntN S d k (nI c) g := by
  rw [cnt_9, pres_adm hc h0 h3 hb]
  unfold cntN addN
  rw [nI_clamp (by omega)]
  have h1 : decide (nI g = -9) = false := decide_eq_false (nI_n9 (by omega))
  have h2 : decide (nI c ≠ -9) = true := decide_eq_true (nI_n9 (by omega))
  have h5 := grpN_le S c
  have h4 : decide (nI (grpN S c) = nI g) = decide (grpN S c = g) := by
    by_cases q : grpN S c = g
    · rw [q]; simp
    · rw [decide_eq_false q, decide_eq_false (fun z => q ((nI_eq (by omega) (by omega)).mp z))]
  rw [h1, h2, h4, Bool.false_or, Bool.true_and]
theorem safe_adm (hc : c < 24) (h0 : S 0 c = 1) (h3 : S 3 c = 0) {d k : Nat} (hb : isBkd S c d k = true) : safeB (uM S 3 c 1) d k (-9) = safeB S d k (nI c) := by
  have e1 : allN (uM S 3 c 1) = allN S := by
    unfold allN
    rw [uM_nk (by omega), uM_nk (by omega), uM_nk (by omega)]
  have e2 : needN (uM S 3 c 1) d k (-9) = needN S d k (nI c) := by
    unfold needN
    rw [e1, sm_congr (fun g hg => by rw [cnt_adm hc h0 h3 hb hg, uM_nk (by omega)])]
  have e3 : moreN (-9) = 0 := by decide
  have e4 : moreN (nI c) = 1 := by
    unfold moreN
    rw [decide_eq_true (nI_n9 (by omega))]
    rfl
  unfold safeB
  rw [e2, e3, e4, adm_staff, pres_adm hc h0 h3 hb, uM_nk (by omega)]
  simp [ct]
end
theorem uQ_back {Q : MS} {k j : Nat} (h : Q k j = 0) : uM (uM Q k j 1) k j 0 = Q := by
  funext a x
  by_cases q : a = k ∧ x = j
  · rw [q.1, q.2, uM_eq, h]
  · rw [uM_ne q, uM_ne q]
section
variable {S : MS} {nc me : Nat} {Q : MS}
theorem LR.n5 (h : LR S nc me Q) : nc ≤ 5 := h.2.1.1
theorem LR.adm1 (h : LR S nc me Q) {c : Nat} (hc : c < nc) (v : Nat) : LR (uM S 3 c v) nc me (uM Q 1 (4 * c + 2) v) := by
  obtain ⟨⟨a1, a2, a3⟩, ⟨b1, b2, b3, b4⟩, d1, d2, d3, d4⟩ := h
  refine ⟨⟨a1, ?_, fun g hg => ?_⟩, ⟨b1, fun x hx => ?_, fun x hx => ?_, fun x d hx hd => ?_⟩, d1, fun x hx => ?_, fun x d hx hd => ?_, fun x w hx hw => ?_⟩
  · simpa only [uM_nk (show (0 : Nat) ≠ 1 by omega), uM_nk (show (21 : Nat) ≠ 3 by omega)] using a2
  · simpa only [uM_nk (show (0 : Nat) ≠ 1 by omega), uM_nk (show (11 : Nat) ≠ 3 by omega), uM_nk (show (12 : Nat) ≠ 3 by omega)] using a3 g hg
  · rw [uM_nk (by omega)]
    exact b2 x hx
  · have := b3 x hx
    rw [uM_ni (show 4 * x ≠ 4 * c + 2 by omega), uM_ni (show 4 * x + 1 ≠ 4 * c + 2 by omega), uM_ni (show 4 * x + 3 ≠ 4 * c + 2 by omega), uM_nk (show (1 : Nat) ≠ 3 by omega), uM_nk (show (2 : Nat) ≠ 3 by omega), uM_nk (show (4 : Nat) ≠ 3 by omega)]
    refine ⟨this.1, this.2.1, ?_, this.2.2.2⟩
    by_cases q : x = c
    · subst q
      rw [uM_eq, uM_eq]
    · rw [uM_ni (show 4 * x + 2 ≠ 4 * c + 2 by omega), uM_ni q]
      exact this.2.2.1
  · have := b4 x d hx hd
    simpa only [uM_nk (show (2 : Nat) ≠ 1 by omega), uM_nk (show (5 : Nat) ≠ 3 by omega), uM_nk (show (6 : Nat) ≠ 3 by omega)] using this
  · rw [uM_nk (by omega)]
    exact d2 x hx
  · have := d3 x d hx hd
    simpa only [uM_nk (show (3 : Nat) ≠ 1 by omega), uM_nk (show (8 : Nat) ≠ 3 by omega), uM_nk (show (9 : Nat) ≠ 3 by omega)] using this
  · have := d4 x w hx hw
    simpa only [uM_nk (show (4 : Nat) ≠ 1 by omega), uM_nk (show (10 : Nat) ≠ 3 by omega)] using this
theorem wt_at (h : LC S nc Q) {i : Nat} (hi : i < nc) : isWt S i = decide (S 3 i = 0) := by
  unfold isWt
  rw [h.in1 hi]
  simp
theorem nxt_ext (h : LC S nc Q) : nxt S 24 = nxt S nc := by
  have hn := h.1
  have key : ∀ k, k ≤ 24 - nc → nxt S (nc + k) = nxt S nc := by
    intro k
    induction k with
    | zero => intro _; rfl
    | succ k ih =>
      intro hk
      have hw : isWt S (nc + k) = false := by
        unfold isWt
        rw [h.out (show nc ≤ nc + k by omega) (by omega)]
        simp
      rw [← Nat.add_assoc, nxt_s, hw]
      exact ih (by omega)
  have := key (24 - nc) (Nat.le_refl _)
  rwa [show nc + (24 - nc) = 24 by omega] at this
/-! the class's answers for a child that is here -/
theorem hasC_at (h : LC S nc Q) {c : Nat} (hc : c < nc) : hasC S (nI c) = true := by
  have hn := h.1
  unfold hasC
  rw [within_N (by omega) (by omega) (by omega), nI_clamp (by omega), h.in1 hc]
  simp
  omega
theorem tn_nI {c : Nat} (hc : c < 2147483648) : tn (nI c) = c := nI_clamp hc
theorem age_at (h : LC S nc Q) {c : Nat} (hc : c < nc) : ageI S (nI c) = nI (S 1 c) := by
  have hn := h.1
  unfold ageI
  rw [hasC_at h hc, tn_nI (by omega)]
  rfl
theorem isAd_at (h : LC S nc Q) {c : Nat} (hc : c < nc) : isAdI S (nI c) = nI (S 3 c) := by
  have hn := h.1
  unfold isAdI
  rw [hasC_at h hc, tn_nI (by omega)]
  rfl
theorem hours_at (h : LC S nc Q) {c : Nat} (hc : c < nc) : hoursI S (nI c) = nI (hoursN S c) := by
  have hn := h.1
  unfold hoursI
  rw [hasC_at h hc, tn_nI (by omega)]
  rfl
theorem points_at (h : LC S nc Q) {c : Nat} (hc : c < nc) : pointsI S (nI c) = if S 3 c = 1 then -2 else nI (ptsN S c) := by
  have hn := h.1
  unfold pointsI
  rw [hasC_at h hc, tn_nI (by omega)]
  rfl
theorem waited_at (h : LC S nc Q) {c : Nat} (hc : c < nc) : waitedI S (nI c) = if S 3 c = 1 then -2 else nI (S 4 c) := by
  have hn := h.1
  unfold waitedI
  rw [hasC_at h hc, tn_nI (by omega)]
  rfl
theorem fee_at (h : LC S nc Q) {c : Nat} (hc : c < nc) : feeI S (nI c) = if S 3 c = 0 then -2 else nI (feeN S c) := by
  have hn := h.1
  unfold feeI
  rw [hasC_at h hc, tn_nI (by omega)]
  rfl
theorem ff_at (h : LC S nc Q) {c : Nat} (hc : c < nc) : ffR S (nI c) = if S 3 c = 1 then -2 else nI (feesN (uM S 3 c 1) (nI (S 2 c))) := by
  have hn := h.1
  unfold ffR
  rw [hasC_at h hc, tn_nI (by omega)]
  rfl
theorem wtg_at (hI : IV S) {c : Nat} (hc : c < 24) (hw : isWt S c = true) {p : Nat} (hp : p = placeN S c) (hp24 : p ≤ 24) : wtgI S (nI p) = nI c := by
  have h0 : (0 : Int32) ≤ nI p := by
    rw [Int32.le_iff_toInt_le, nI_toInt (by omega)]
    show (0 : Int) ≤ _
    omega
  rw [wtg_pos h0]
  refine fd_first (by rw [hw, ← hp]; simp) hc (fun j hj hjp => ?_)
  simp only [Bool.and_eq_true, decide_eq_true_eq] at hjp
  have h1 := (nI_eq (a := placeN S j) (b := p) (by have : placeN S j ≤ 24 * 1 := sm_le (fun i hi => ct_le _); omega) (by omega)).mp hjp.2
  exact place_inj hI hj hc hjp.1 hw (h1.trans hp)
theorem LC.place (h : LC S nc Q) (c : Nat) : placeN S c = sm (fun k => ct (plcB S c k)) nc := sm_ext (by have := h.1; omega) (fun i h1 h2 => by unfold plcB isWt; rw [h.out h1 h2]; simp [ct])
theorem plc_is (h : LC S nc Q) {c k : Nat} (hk : k < nc) : plcB S c k = (decide (k ≠ c) && decide (S 3 k = 0) && befB S k c) := by
  unfold plcB
  rw [wt_at h hk]
theorem LC.fees (h : LC S nc Q) (w : Int32) : feesN S w = sm (payN S w) nc := sm_ext (by have := h.1; omega) (fun i h1 h2 => by unfold payN; rw [h.isout h1 h2]; simp)
theorem pay_9 (h : LC S nc Q) {k : Nat} (hk : k < nc) : payN S (-9) k = if S 3 k = 1 then feeN S k else 0 := by
  unfold payN
  rw [h.isin hk]
  simp
theorem pay_f (h : LC S nc Q) (hB : BD S) {k : Nat} (hk : k < nc) (f : Nat) (hf : f < 16777216) : payN S (nI f) k = if S 3 k = 1 ∧ S 2 k = f then feeN S k else 0 := by
  have h2 := hB 2 k
  unfold payN
  have h4 : decide (nI (S 2 k) = nI f) = decide (S 2 k = f) := by
    by_cases q : S 2 k = f
    · rw [q]; simp
    · rw [decide_eq_false q, decide_eq_false (fun z => q ((nI_eq (by omega) (by omega)).mp z))]
  rw [h.isin hk, decide_eq_false (nI_n9 hf), h4]
  simp
theorem child_at (h : LC S nc Q) : childN S = nc := by
  have hn := h.1
  have e : childN S = sm (S 0) nc := sm_ext (by omega) (fun i h1 h2 => h.out h1 h2)
  rw [e, sm_all1 (fun i hi => h.in1 hi)]
end
theorem dcmp_n64 {x : UInt64} (h : FP.Core.dIsNaN x = false) (op : CmpOp) : Op.cmpValue (FP.dcmp x x) op = 0 := by
  have h1 : FP.Core.dcmp x x = some .eq := FP.Core.dcmp_self (fun q => by
    have := (FP.Core.dIsNaN_iff x).mpr q
    rw [h] at this
    cases this)
  have h2 : FP.dcmp x x = some .eq := h1
  rw [h2]
  rfl
theorem quo_num {a b : Int32} (hb : b ≠ 0) : FP.Core.dIsNaN (FP.ddiv (FP.i2d a) (FP.i2d b)) = false := by
  refine FP.Core.ddiv_out (FP.Core.DFin.notNaN (FP.Core.i2d_fin a)) (FP.Core.i2d_fin b) ?_
  intro q
  exact FP.Core.i2d_ne_zero hb ((FP.Core.zero_bits2 _).mp q)
theorem load_at {S : MS} {d : Nat} (hd : d < 5) {a b : Nat} (ha : a = sm (fun k => presN S d k (-9)) 10) (hb : b = sm (fun k => staffN S d k) 10) : loadI S (nI d) = quoI a b := by
  unfold loadI isDayI
  rw [within_N (by omega) (by omega) (by omega), tn_nI (by omega), ha, hb]
  simp
  omega
theorem hour_at {d k : Nat} (hd : d < 5) (hk : k < 10) : isHourI (nI d) (nI k) = true := by
  unfold isHourI isDayI
  rw [within_N (by omega) (by omega) (by omega), within_N (by omega) (by omega) (by omega)]
  simp
  omega
theorem needI_at {S : MS} {d k : Nat} (hd : d < 5) (hk : k < 10) : needI S (nI d) (nI k) = nI (needN S d k (-9)) := by
  unfold needI
  rw [hour_at hd hk, tn_nI (by omega), tn_nI (by omega)]
  rfl
theorem nx_lt24 {S : MS} {n b : Nat} (hn : n ≤ 24) (h : nxt S n = some b) : b < 24 := by
  have := nxt_lt h
  omega
def nx1 : Option Nat → Int32
  | none => -1
  | some c => nI c
theorem nI_nneg {c : Nat} (hc : c < 16777216) : ¬ nI c < 0 := by
  rw [Int32.lt_iff_toInt_lt, nI_toInt (by omega)]
  show ¬ (c : Int) < 0
  omega
theorem nx1_neg {o : Option Nat} (ho : ∀ b, o = some b → b < 24) (h : nx1 o < 0) : o = none := by
  cases o with
  | none => rfl
  | some b => exact absurd h (nI_nneg (by have := ho b rfl; omega))
theorem nx1_nn {o : Option Nat} (h : ¬ nx1 o < 0) : ∃ b, o = some b := by
  cases o with
  | none => exact absurd (by decide) h
  | some b => exact ⟨b, rfl⟩

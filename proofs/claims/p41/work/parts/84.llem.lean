/-! the class's calls that change it, on the law's arguments -/
section
variable {S : MS}
theorem lim_at {x : Nat} (h1 : 1 ≤ x) (h2 : x ≤ 24) : limR S (nI x) = nI (S 21 1) ∧ limS S (nI x) = uM S 21 1 x := by
  unfold limR limS
  rw [within_N (by omega) (by omega) (by omega), tn_nI (by omega), decide_eq_true h1, decide_eq_true h2]
  exact ⟨rfl, rfl⟩
theorem grp_at {g : Nat} (hg : g < 3) : isGroupI (nI g) = true := by
  unfold isGroupI
  rw [within_N (by omega) (by omega) (by omega)]
  simp
  omega
theorem day_at {d : Nat} (hd : d < 5) : isDayI (nI d) = true := by
  unfold isDayI
  rw [within_N (by omega) (by omega) (by omega)]
  simp
  omega
theorem span_at {b e : Nat} (h1 : b ≤ e) (h2 : e ≤ 10) : isSpanI (nI b) (nI e) = true := by
  unfold isSpanI
  rw [within_N (by omega) (by omega) (by omega), within_N (by omega) (by omega) (by omega)]
  simp
  omega
theorem rat_at {g r : Nat} (hg : g < 3) (h1 : 1 ≤ r) (h2 : r ≤ 20) : ratR S (nI g) (nI r) = nI (S 11 g) ∧ ratS S (nI g) (nI r) = uM S 11 g r := by
  unfold ratR ratS ratOk
  rw [grp_at hg, within_N (by omega) (by omega) (by omega), tn_nI (by omega), tn_nI (by omega), decide_eq_true h1, decide_eq_true h2]
  exact ⟨rfl, rfl⟩
theorem rate_at {g r : Nat} (hg : g < 3) (h2 : r ≤ 5000) : rateR S (nI g) (nI r) = nI (S 12 g) ∧ rateS S (nI g) (nI r) = uM S 12 g r := by
  unfold rateR rateS rateOk
  rw [grp_at hg, within_N (by omega) (by omega) (by omega), tn_nI (by omega), tn_nI (by omega), decide_eq_true (Nat.zero_le r), decide_eq_true h2]
  exact ⟨rfl, rfl⟩
theorem frF_at {f : Nat → Nat} : ∀ n i c, c ≤ i → i < c + n → f i = 0 → (∀ j, c ≤ j → j < i → f j = 1) → frF f n c = i
  | 0, i, c, h1, h2, _, _ => by omega
  | n + 1, i, c, h1, h2, h3, h4 => by
    rw [frF]
    by_cases q : c = i
    · rw [q, if_neg (by omega)]
    · rw [if_pos (h4 c (Nat.le_refl _) (by omega))]
      exact frF_at n i (c + 1) (by omega) (by omega) h3 (fun j j1 j2 => h4 j (by omega) j2)
theorem itS_at {f : MS → Nat → MS} {P : MS → Prop} (hf : ∀ T d, P T → P (f T d)) {T : MS} (h : P T) : ∀ n, P (itS f T n)
  | 0 => h
  | n + 1 => hf _ _ (itS_at hf h n)
end
/-! parts of the relation under changes elsewhere -/
theorem LQ.cg {S S' : MS} {n m : Nat} {Q Q' : MS} (h : LQ S n m Q) (h11 : S' 11 = S 11) (h12 : S' 12 = S 12) (h21 : S' 21 1 = S 21 1) (h0 : Q' 0 = Q 0) : LQ S' n m Q' := by
  unfold LQ
  rw [h11, h12, h21, h0]
  exact h
theorem LE.cg {S S' : MS} {m : Nat} {Q Q' : MS} (h : LE S m Q) (h7 : S' 7 = S 7) (h8 : S' 8 = S 8) (h9 : S' 9 = S 9) (h10 : S' 10 = S 10) (q3 : Q' 3 = Q 3) (q4 : Q' 4 = Q 4) : LE S' m Q' := by
  unfold LE
  rw [h7, h8, h9, h10, q3, q4]
  exact h
theorem LC.cg {S S' : MS} {n : Nat} {Q Q' : MS} (h : LC S n Q) (hs : ∀ k, k < 7 → S' k = S k) (q1 : Q' 1 = Q 1) (q2 : Q' 2 = Q 2) : LC S' n Q' := by
  unfold LC
  rw [hs 0 (by decide), hs 1 (by decide), hs 2 (by decide), hs 3 (by decide), hs 4 (by decide), hs 5 (by decide), hs 6 (by decide), q1, q2]
  exact h
theorem uM_row {S : MS} {k i v a : Nat} (h : a ≠ k) : uM S k i v a = S a := funext fun _ => uM_nk h
theorem sp_row {S : MS} {k c d b e a : Nat} (h : a ≠ k) (h2 : a ≠ k + 1) : setSp S k c d b e a = S a := by
  unfold setSp
  rw [uM_row h2, uM_row h]
theorem sp_b {S : MS} {k c d b e : Nat} : setSp S k c d b e k (5 * c + d) = b := by
  unfold setSp
  rw [uM_nk (by omega), uM_eq]
theorem sp_e {S : MS} {k c d b e : Nat} : setSp S k c d b e (k + 1) (5 * c + d) = e := by
  unfold setSp
  rw [uM_eq]
theorem sp_ni {S : MS} {k c d b e a j : Nat} (h : j ≠ 5 * c + d) : setSp S k c d b e a j = S a j := by
  unfold setSp
  rw [uM_ni h, uM_ni h]
theorem two_row {Q : MS} {k i j b e a : Nat} (h : a ≠ k) : uM (uM Q k i b) k j e a = Q a := by
  rw [uM_row h, uM_row h]
theorem LC.book {S : MS} {n : Nat} {Q : MS} (h : LC S n Q) (c d b e : Nat) (hd : d < 5) : LC (setSp S 5 c d b e) n (uM (uM Q 2 (10 * c + 2 * d) b) 2 (10 * c + 2 * d + 1) e) := by
  obtain ⟨b1, b2, b3, b4⟩ := h
  refine ⟨b1, ?_, ?_, fun x y hx hy => ?_⟩
  · rw [sp_row (by decide) (by decide)]
    exact b2
  · rw [sp_row (by decide) (by decide), sp_row (by decide) (by decide), sp_row (by decide) (by decide), sp_row (by decide) (by decide), two_row (by decide)]
    exact b3
  · by_cases q : x = c ∧ y = d
    · obtain ⟨rfl, rfl⟩ := q
      rw [sp_b, sp_e, uM_eq, uM_ni (by omega), uM_eq]
      exact ⟨rfl, rfl⟩
    · rw [sp_ni (show 5 * x + y ≠ 5 * c + d by omega), sp_ni (show 5 * x + y ≠ 5 * c + d by omega), uM_ni (by omega), uM_ni (by omega), uM_ni (by omega), uM_ni (by omega)]
      exact b4 x y hx hy
theorem LE.work {S : MS} {m : Nat} {Q : MS} (h : LE S m Q) (c d b e : Nat) (hd : d < 5) : LE (setSp S 8 c d b e) m (uM (uM Q 3 (10 * c + 2 * d) b) 3 (10 * c + 2 * d + 1) e) := by
  obtain ⟨b1, b2, b3, b4⟩ := h
  refine ⟨b1, ?_, fun x y hx hy => ?_, ?_⟩
  · rw [sp_row (by decide) (by decide)]
    exact b2
  · by_cases q : x = c ∧ y = d
    · obtain ⟨rfl, rfl⟩ := q
      rw [sp_b, sp_e, uM_eq, uM_ni (by omega), uM_eq]
      exact ⟨rfl, rfl⟩
    · rw [sp_ni (show 5 * x + y ≠ 5 * c + d by omega), sp_ni (show 5 * x + y ≠ 5 * c + d by omega), uM_ni (by omega), uM_ni (by omega), uM_ni (by omega), uM_ni (by omega)]
      exact b3 x y hx hy
  · rw [sp_row (by decide) (by decide), two_row (by decide)]
    exact b4
theorem LE.holv {S : MS} {m : Nat} {Q : MS} (h : LE S m Q) (c w v : Nat) (hw : w < 4) : LE (uM S 10 (52 * c + w) v) m (uM Q 4 (4 * c + w) v) := by
  obtain ⟨b1, b2, b3, b4⟩ := h
  refine ⟨b1, ?_, ?_, fun y u hy hu => ?_⟩
  · rw [uM_row (by decide)]
    exact b2
  · rw [uM_row (by decide), uM_row (by decide), uM_row (by decide)]
    exact b3
  · have h0 := b4 y u hy hu
    by_cases q : y = c ∧ u = w
    · obtain ⟨rfl, rfl⟩ := q
      rw [uM_eq, if_pos hw, uM_eq]
    · rw [uM_ni (show 52 * y + u ≠ 52 * c + w by omega), h0]
      by_cases z : u < 4
      · rw [if_pos z, if_pos z, uM_ni (by omega)]
      · rw [if_neg z, if_neg z]
/-- what else holds of a planner that the law has filled -/
def ZS (S Q : MS) (me : Nat) : Prop := (∀ j, S 16 j = 0) ∧ S 21 2 = 0 ∧ (∀ k j, 13 ≤ k → k ≤ 15 → S k j = 0) ∧ (∀ j, Q 5 j = 0) ∧ ∀ e, e < me → Q 4 (4 * e + 3) = 0
theorem ZS.cg {S S' Q Q' : MS} {me : Nat} (h : ZS S Q me) (hs : ∀ k, 13 ≤ k → S' k = S k) (h4 : Q' 4 = Q 4) (h5 : Q' 5 = Q 5) : ZS S' Q' me := by
  unfold ZS
  rw [hs 16 (by decide), hs 21 (by decide), h4, h5]
  refine ⟨h.1, h.2.1, fun k j h1 h2 => ?_, h.2.2.2⟩
  rw [hs k h1]
  exact h.2.2.1 k j h1 h2
/-- so many educators are in -/
def PB (S : MS) (n m i : Nat) (Q : MS) : Prop := LQ S n m Q ∧ LE S i Q ∧ (∀ k j, k < 7 → S k j = 0) ∧ ZS S Q i ∧ (∀ j, 10 * i ≤ j → Q 3 j = 0) ∧ (∀ j, 4 * i ≤ j → Q 4 j = 0) ∧ ∀ j, Q 1 j = 0 ∧ Q 2 j = 0
theorem PB.add {S : MS} {n m i : Nat} {Q : MS} (h : PB S n m i Q) (hi : i < 3) : PB (newE S i) n m (i + 1) Q := by
  obtain ⟨p1, ⟨b1, b2, b3, b4⟩, p3, p4, p5, p6, p7⟩ := h
  have hr : ∀ k, k < 7 ∨ 10 < k → newE S i k = S k := fun k hk => funext fun j => nwE_nk hk
  refine ⟨p1.cg (hr 11 (by decide)) (hr 12 (by decide)) (by rw [hr 21 (by decide)]) rfl, ⟨by omega, fun e he => ?_, fun e d he hd => ?_, fun e w he hw => ?_⟩, fun k j hk => ?_, ?_, fun j hj => p5 j (by omega), fun j hj => p6 j (by omega), p7⟩
  · rw [nwE_7]
    by_cases q : e = i
    · rw [q, uM_eq, decide_eq_true (by omega)]
      rfl
    · rw [uM_ni q, b2 e he]
      by_cases z : e < i
      · rw [decide_eq_true z, decide_eq_true (by omega)]
      · rw [decide_eq_false z, decide_eq_false (by omega)]
  · rw [nwE_89 (Or.inl rfl), nwE_89 (Or.inr rfl)]
    by_cases q : e = i
    · subst q
      have := zE_at (S := uM S 7 e 1) (c := e) 5 d hd
      rw [this.1, this.2, p5 _ (by omega), p5 _ (by omega)]
      exact ⟨rfl, rfl⟩
    · rw [zE_no (by omega) 5 (Nat.le_refl _), zE_no (by omega) 5 (Nat.le_refl _), uM_nk (by omega), uM_nk (by omega)]
      exact b3 e d (by omega) hd
  · show itS (zH i) (itS (zE i) (uM S 7 i 1) 5) 52 10 (52 * e + w) = _
    by_cases q : e = i
    · subst q
      rw [zH_at 52 w hw]
      by_cases z : w < 4
      · rw [if_pos z, p6 _ (by omega)]
      · rw [if_neg z]
    · rw [zH_no (by omega) 52 (Nat.le_refl _), zE_nk (by omega) (by omega), uM_nk (by omega)]
      exact b4 e w (by omega) hw
  · rw [hr k (Or.inl hk)]
    exact p3 k j hk
  · obtain ⟨z1, z2, z3, z4, z5⟩ := p4
    refine ⟨fun j => by rw [hr 16 (by decide)]; exact z1 j, by rw [hr 21 (by decide)]; exact z2, fun k j h1 h2 => by rw [hr k (Or.inr (by omega))]; exact z3 k j h1 h2, z4, fun e he => ?_⟩
    by_cases q : e = i
    · rw [q]
      exact p6 _ (by omega)
    · exact z5 e (by omega)
theorem PB.work {S : MS} {n m i : Nat} {Q : MS} (h : PB S n m (i + 1) Q) (d b e : Nat) (hd : d < 5) : PB (setSp S 8 i d b e) n m (i + 1) (uM (uM Q 3 (10 * i + 2 * d) b) 3 (10 * i + 2 * d + 1) e) := by
  obtain ⟨p1, p2, p3, p4, p5, p6, p7⟩ := h
  refine ⟨p1.cg (sp_row (by decide) (by decide)) (sp_row (by decide) (by decide)) (by rw [sp_row (by decide) (by decide)]) (two_row (by decide)), p2.work i d b e hd, fun k j hk => ?_, p4.cg (fun k hk => sp_row (by omega) (by omega)) (two_row (by decide)) (two_row (by decide)), fun j hj => ?_, fun j hj => ?_, fun j => ?_⟩
  · rw [sp_row (by omega) (by omega)]
    exact p3 k j hk
  · rw [uM_ni (by omega), uM_ni (by omega)]
    exact p5 j hj
  · rw [two_row (by decide)]
    exact p6 j hj
  · rw [two_row (by decide), two_row (by decide)]
    exact p7 j
theorem PB.hol {S : MS} {n m i : Nat} {Q : MS} (h : PB S n m (i + 1) Q) (w v : Nat) (hw : w < 4) (hv : w = 3 → v = 0) : PB (uM S 10 (52 * i + w) v) n m (i + 1) (uM Q 4 (4 * i + w) v) := by
  obtain ⟨p1, p2, p3, ⟨z1, z2, z3, z4, z5⟩, p5, p6, p7⟩ := h
  refine ⟨p1.cg (uM_row (by decide)) (uM_row (by decide)) (by rw [uM_row (by decide)]) (uM_row (by decide)), p2.holv i w v hw, fun k j hk => ?_, ⟨?_, ?_, fun k j h1 h2 => ?_, ?_, fun e he => ?_⟩, ?_, fun j hj => ?_, ?_⟩
  · rw [uM_row (by omega)]
    exact p3 k j hk
  · rw [uM_row (by decide)]
    exact z1
  · rw [uM_row (by decide)]
    exact z2
  · rw [uM_row (by omega)]
    exact z3 k j h1 h2
  · rw [uM_row (by decide)]
    exact z4
  · by_cases q : 4 * e + 3 = 4 * i + w
    · rw [q, uM_eq]
      exact hv (by omega)
    · rw [uM_ni q]
      exact z5 e he
  · rw [uM_row (by decide)]
    exact p5
  · rw [uM_ni (by omega)]
    exact p6 j hj
  · rw [uM_row (by decide), uM_row (by decide)]
    exact p7
theorem addE_at {S : MS} {n m i : Nat} {Q : MS} (h : PB S n m i Q) (hi : i < 3) : addER S = nI i ∧ addES S = newE S i := by
  have hE := h.2.1
  have e7 : eduN S = i := by
    have e : eduN S = sm (fun x => S 7 x) i := sm_ext (by omega) (fun x h1 h2 => hE.out h1 h2)
    rw [e, sm_all1 (fun x hx => hE.in1 hx)]
  have ef : freeE S = i := frF_at 8 i 0 (Nat.zero_le _) (by omega) (hE.out (Nat.le_refl _) (by omega)) (fun j _ hj => hE.in1 hj)
  unfold addER addES
  rw [e7, ef, if_neg (by omega), if_neg (by omega)]
  exact ⟨rfl, rfl⟩
theorem hasE_at {S : MS} {m : Nat} {Q : MS} (h : LE S m Q) {e : Nat} (he : e < m) : hasE S (nI e) = true := by
  have hm := h.1
  unfold hasE
  rw [within_N (by omega) (by omega) (by omega), nI_clamp (by omega), h.in1 he]
  simp
  omega
theorem work_at {S : MS} {m : Nat} {Q : MS} (h : LE S m Q) {i d b e : Nat} (hi : i < m) (hd : d < 5) (hb : b ≤ e) (he : e ≤ 10) : workR S (nI i) (nI d) (nI b) (nI e) = nI (wkhN (setSp S 8 i d b e) i) ∧ workS S (nI i) (nI d) (nI b) (nI e) = setSp S 8 i d b e := by
  have hm := h.1
  unfold workR workS workOk
  rw [hasE_at h hi, day_at hd, span_at hb he, tn_nI (by omega), tn_nI (by omega), tn_nI (by omega), tn_nI (by omega)]
  exact ⟨rfl, rfl⟩
theorem wk_step {S : MS} {i d b e su : Nat} (hd : d < 5) (hs : su = sm (fun x => S 9 (5 * i + x) - S 8 (5 * i + x)) d) (hz : ∀ x, d ≤ x → x < 5 → S 8 (5 * i + x) = 0 ∧ S 9 (5 * i + x) = 0) : su + (e - b) = sm (fun x => setSp S 8 i d b e 9 (5 * i + x) - setSp S 8 i d b e 8 (5 * i + x)) (d + 1) ∧ (∀ x, d + 1 ≤ x → x < 5 → setSp S 8 i d b e 8 (5 * i + x) = 0 ∧ setSp S 8 i d b e 9 (5 * i + x) = 0) ∧ wkhN (setSp S 8 i d b e) i = su + (e - b) := by
  have h1 : su + (e - b) = sm (fun x => setSp S 8 i d b e 9 (5 * i + x) - setSp S 8 i d b e 8 (5 * i + x)) (d + 1) := by
    rw [sm_s, hs]
    rw [show setSp S 8 i d b e 9 (5 * i + d) = e from sp_e, sp_b]
    congr 1
    exact sm_congr (fun x hx => by rw [sp_ni (by omega), sp_ni (by omega)])
  have h2 : ∀ x, d + 1 ≤ x → x < 5 → setSp S 8 i d b e 8 (5 * i + x) = 0 ∧ setSp S 8 i d b e 9 (5 * i + x) = 0 := fun x hx h5 => by
    rw [sp_ni (by omega), sp_ni (by omega)]
    exact hz x (by omega) h5
  refine ⟨h1, h2, ?_⟩
  rw [h1]
  exact sm_ext (by omega) (fun x hx h5 => by rw [(h2 x hx h5).1, (h2 x hx h5).2])
theorem hol_at {S : MS} {m : Nat} {Q : MS} (h : LE S m Q) {i w : Nat} (hi : i < m) (hw : w < 52) (b : Bool) : holR S (nI i) (nI w) b = nI (holN (uM S 10 (52 * i + w) (ct b)) i) ∧ holS S (nI i) (nI w) b = uM S 10 (52 * i + w) (ct b) := by
  have hm := h.1
  unfold holR holS
  rw [hasE_at h hi, week_at hw, tn_nI (by omega), tn_nI (by omega)]
  exact ⟨rfl, rfl⟩
theorem hol_step {S : MS} {i w v my : Nat} (hw : w < 52) (hs : my = sm (fun x => S 10 (52 * i + x)) w) (hz : ∀ x, w ≤ x → x < 52 → S 10 (52 * i + x) = 0) : my + v = sm (fun x => uM S 10 (52 * i + w) v 10 (52 * i + x)) (w + 1) ∧ (∀ x, w + 1 ≤ x → x < 52 → uM S 10 (52 * i + w) v 10 (52 * i + x) = 0) ∧ holN (uM S 10 (52 * i + w) v) i = my + v := by
  have h1 : my + v = sm (fun x => uM S 10 (52 * i + w) v 10 (52 * i + x)) (w + 1) := by
    rw [sm_s, hs, uM_eq]
    congr 1
    exact sm_congr (fun x hx => by rw [uM_ni (by omega)])
  have h2 : ∀ x, w + 1 ≤ x → x < 52 → uM S 10 (52 * i + w) v 10 (52 * i + x) = 0 := fun x hx h5 => by
    rw [uM_ni (by omega)]
    exact hz x (by omega) h5
  refine ⟨h1, h2, ?_⟩
  rw [h1]
  exact sm_ext (by omega) (fun x hx h5 => h2 x hx h5)
/-- so many children are in -/
def PCh (S : MS) (n m i : Nat) (Q : MS) : Prop := LQ S n m Q ∧ LE S m Q ∧ LC S i Q ∧ ZS S Q m ∧ (∀ j, 4 * i ≤ j → Q 1 j = 0) ∧ ∀ j, 10 * i ≤ j → Q 2 j = 0
theorem PB.ch {S : MS} {n m : Nat} {Q : MS} (h : PB S n m m Q) : PCh S n m 0 Q := by
  obtain ⟨p1, p2, p3, p4, p5, p6, p7⟩ := h
  exact ⟨p1, p2, ⟨by omega, fun c _ => by rw [p3 0 c (by decide)]; rfl, fun c hc => absurd hc (by omega), fun c d hc => absurd hc (by omega)⟩, p4, fun j _ => (p7 j).1, fun j _ => (p7 j).2⟩
theorem PCh.lr {S : MS} {n m : Nat} {Q : MS} (h : PCh S n m n Q) : LR S n m Q := ⟨h.1, h.2.2.1, h.2.1⟩
theorem PCh.add {S : MS} {n m i : Nat} {Q : MS} (h : PCh S n m i Q) (hi : i < 5) (a f : Nat) : PCh (newC S i a f) n m (i + 1) (uM (uM Q 1 (4 * i) a) 1 (4 * i + 1) f) := by
  obtain ⟨p1, p2, ⟨b1, b2, b3, b4⟩, p4, p5, p6⟩ := h
  have hr : ∀ k, 6 < k → newC S i a f k = S k := fun k hk => funext fun j => new_nk hk
  refine ⟨p1.cg (hr 11 (by decide)) (hr 12 (by decide)) (by rw [hr 21 (by decide)]) (two_row (by decide)), p2.cg (hr 7 (by decide)) (hr 8 (by decide)) (hr 9 (by decide)) (hr 10 (by decide)) (two_row (by decide)) (two_row (by decide)), ⟨by omega, fun c hc => ?_, fun c hc => ?_, fun c d hc hd => ?_⟩, p4.cg (fun k hk => hr k (by omega)) (two_row (by decide)) (two_row (by decide)), fun j hj => ?_, fun j hj => ?_⟩
  · by_cases q : c = i
    · rw [q, new_0 (by decide) (by decide), uM_nk (by decide), uM_nk (by decide), uM_nk (by decide), uM_nk (by decide), uM_eq, decide_eq_true (by omega)]
      rfl
    · rw [new_ni (by decide) q, b2 c hc]
      by_cases z : c < i
      · rw [decide_eq_true z, decide_eq_true (by omega)]
      · rw [decide_eq_false z, decide_eq_false (by omega)]
  · by_cases q : c = i
    · subst q
      rw [new_0 (k := 1) (by decide) (by decide), new_0 (k := 2) (by decide) (by decide), new_0 (k := 3) (by decide) (by decide), new_0 (k := 4) (by decide) (by decide)]
      rw [uM_ni (show 4 * c ≠ 4 * c + 1 by omega), uM_eq, uM_eq, uM_ni (show 4 * c + 2 ≠ 4 * c + 1 by omega), uM_ni (show 4 * c + 2 ≠ 4 * c by omega), uM_ni (show 4 * c + 3 ≠ 4 * c + 1 by omega), uM_ni (show 4 * c + 3 ≠ 4 * c by omega), p5 _ (by omega), p5 _ (by omega)]
      simp [uM]
    · rw [new_ni (by decide) q, new_ni (by decide) q, new_ni (by decide) q, new_ni (by decide) q]
      rw [uM_ni (by omega), uM_ni (by omega), uM_ni (by omega), uM_ni (by omega), uM_ni (by omega), uM_ni (by omega), uM_ni (by omega), uM_ni (by omega)]
      exact b3 c (by omega)
  · rw [two_row (by decide)]
    by_cases q : c = i
    · subst q
      have := zC_at (S := uM (uM (uM (uM (uM S 0 c 1) 1 c a) 2 c f) 3 c 0) 4 c 0) (c := c) 5 d hd
      rw [p6 _ (by omega), p6 _ (by omega)]
      exact ⟨this.1.symm, this.2.symm⟩
    · rw [new_n5 (Or.inl rfl) (by omega), new_n5 (Or.inr rfl) (by omega)]
      exact b4 c d (by omega) hd
  · rw [uM_ni (by omega), uM_ni (by omega)]
    exact p5 j (by omega)
  · rw [two_row (by decide)]
    exact p6 j (by omega)
theorem PCh.book {S : MS} {n m i : Nat} {Q : MS} (h : PCh S n m (i + 1) Q) (d b e : Nat) (hd : d < 5) : PCh (setSp S 5 i d b e) n m (i + 1) (uM (uM Q 2 (10 * i + 2 * d) b) 2 (10 * i + 2 * d + 1) e) := by
  obtain ⟨p1, p2, p3, p4, p5, p6⟩ := h
  refine ⟨p1.cg (sp_row (by decide) (by decide)) (sp_row (by decide) (by decide)) (by rw [sp_row (by decide) (by decide)]) (two_row (by decide)), p2.cg (sp_row (by decide) (by decide)) (sp_row (by decide) (by decide)) (sp_row (by decide) (by decide)) (sp_row (by decide) (by decide)) (two_row (by decide)) (two_row (by decide)), p3.book i d b e hd, p4.cg (fun k hk => sp_row (by omega) (by omega)) (two_row (by decide)) (two_row (by decide)), fun j hj => ?_, fun j hj => ?_⟩
  · rw [two_row (by decide)]
    exact p5 j hj
  · rw [uM_ni (by omega), uM_ni (by omega)]
    exact p6 j hj
theorem addC_at {S : MS} {i : Nat} {Q : MS} (h : LC S i Q) (hi : i < 5) {a f : Nat} (ha : 3 ≤ a) (ha2 : a ≤ 77) (hf : f ≤ 11) : addCR S (nI a) (nI f) = nI i ∧ addCS S (nI a) (nI f) = newC S i a f := by
  have ef : freeC S = i := frF_at 24 i 0 (Nat.zero_le _) (by omega) (h.out (Nat.le_refl _) (by omega)) (fun j _ hj => h.in1 hj)
  unfold addCR addCS addOk
  rw [within_N (by omega) (by omega) (by omega), within_N (by omega) (by omega) (by omega), decide_eq_true ha, decide_eq_true ha2, decide_eq_true (Nat.zero_le f), decide_eq_true hf, child_at h, ef, tn_nI (by omega), tn_nI (by omega)]
  have hne : i ≠ 24 := by omega
  simp [hne]
theorem book_at {S : MS} {n : Nat} {Q : MS} (h : LC S n Q) {c d b e : Nat} (hc : c < n) (hd : d < 5) (hb : b ≤ e) (he : e ≤ 10) : bookR S (nI c) (nI d) (nI b) (nI e) = (if bookNo S c d b e then -3 else nI (hoursN (setSp S 5 c d b e) c)) ∧ bookS S (nI c) (nI d) (nI b) (nI e) = (if bookNo S c d b e then S else setSp S 5 c d b e) := by
  have hn := h.1
  unfold bookR bookS bookOk
  rw [hasC_at h hc, day_at hd, span_at hb he, tn_nI (by omega), tn_nI (by omega), tn_nI (by omega), tn_nI (by omega)]
  exact ⟨rfl, rfl⟩
/-! an admitted child books another span -/
section
variable {S : MS} {c d b e : Nat}
theorem bk_sp (x y k : Nat) : isBkd (setSp S 5 c d b e) x y k = if 5 * x + y = 5 * c + d then (decide (b ≤ k) && decide (k < e)) else isBkd S x y k := by
  unfold isBkd
  by_cases q : 5 * x + y = 5 * c + d
  · rw [if_pos q, q, sp_b, show setSp S 5 c d b e 6 (5 * c + d) = e from sp_e]
  · rw [if_neg q, sp_ni q, sp_ni q]
theorem pres_bk (hc : c < 24) (hd : d < 5) (h0 : S 0 c = 1) (h3 : S 3 c = 1) {k : Nat} (ho : isBkd S c d k = false) (hn : (decide (b ≤ k) && decide (k < e)) = true) (g : Int32) : presN (setSp S 5 c d b e) d k g = presN S d k g + ct (decide (g = -9) || decide (nI (grpN S c) = g)) := by
  have hg : ∀ x, grpN (setSp S 5 c d b e) x = grpN S x := fun x => by
    unfold grpN
    rw [sp_row (by decide) (by decide)]
  have hi : ∀ x, isIn (setSp S 5 c d b e) x = isIn S x := fun x => by
    unfold isIn
    rw [sp_row (by decide) (by decide), sp_row (by decide) (by decide)]
  refine sm_bmp hc ?_ (fun i _ hne => ?_)
  · have e1 : presB (setSp S 5 c d b e) d k g c = (decide (g = -9) || decide (nI (grpN S c) = g)) := by
      unfold presB
      rw [hi, hg, bk_sp, if_pos rfl, hn]
      unfold isIn
      rw [h0, h3]
      simp
    have e2 : presB S d k g c = false := by
      unfold presB
      rw [ho]
      simp
    rw [e1, e2]
    show _ = 0 + _
    omega
  · unfold presB
    rw [hi, hg, bk_sp, if_neg (by omega)]
theorem safe_bk (hc : c < 24) (hd : d < 5) (h0 : S 0 c = 1) (h3 : S 3 c = 1) {k : Nat} (ho : isBkd S c d k = false) (hn : (decide (b ≤ k) && decide (k < e)) = true) : safeB (setSp S 5 c d b e) d k (-9) = safeB S d k (nI c) := by
  have e1 : allN (setSp S 5 c d b e) = allN S := by
    unfold allN
    rw [sp_row (by decide) (by decide)]
  have hcnt : ∀ g, g < 3 → cntN (setSp S 5 c d b e) d k (-9) g = cntN S d k (nI c) g := fun g hg => by
    rw [cnt_9, pres_bk hc hd h0 h3 ho hn]
    unfold cntN addN
    rw [nI_clamp (by omega)]
    have h1 : decide (nI g = -9) = false := decide_eq_false (nI_n9 (by omega))
    have h2 : decide (nI c ≠ -9) = true := decide_eq_true (nI_n9 (by omega))
    have h5 := grpN_le S c
    have h4 : decide (nI (grpN S c) = nI g) = decide (grpN S c = g) := by
      by_cases q : grpN S c = g
      · rw [q]; simp
      · rw [decide_eq_false q, decide_eq_false (fun z => q ((nI_eq (by omega) (by omega)).mp z))]
    rw [h1, h2, h4, Bool.false_or, Bool.true_and]
  have e2 : needN (setSp S 5 c d b e) d k (-9) = needN S d k (nI c) := by
    unfold needN
    rw [e1, sp_row (a := 11) (by decide) (by decide), sm_congr (fun g hg => by rw [hcnt g hg])]
  have e3 : moreN (-9) = 0 := by decide
  have e4 : moreN (nI c) = 1 := by
    unfold moreN
    rw [decide_eq_true (nI_n9 (by omega))]
    rfl
  have e5 : staffN (setSp S 5 c d b e) d k = staffN S d k := sm_congr (fun x _ => by
    unfold wrkB
    rw [sp_row (by decide) (by decide), sp_row (by decide) (by decide), sp_row (by decide) (by decide)])
  unfold safeB
  rw [e2, e3, e4, e5, pres_bk hc hd h0 h3 ho hn, sp_row (a := 21) (by decide) (by decide)]
  simp [ct]
/-- the law's check of a new span, hour by hour -/
def canQ (S : MS) (c d b e k : Nat) : Bool := !(decide (b ≤ k) && decide (k < e)) || (isBkd S c d k || safeB (setSp S 5 c d b e) d k (-9))
theorem can_law (hc : c < 24) (hd : d < 5) (he : e ≤ 10) (h0 : S 0 c = 1) (h3 : S 3 c = 1) : andN (canQ S c d b e) 10 = canHaveB S c d b e := by
  have key : andN (canQ S c d b e) 10 = true ↔ canHaveB S c d b e = true := by
    unfold canHaveB
    rw [andN_iff, andN_iff]
    constructor
    · intro h k hk
      have := h (b + k) (by omega)
      unfold canQ at this
      have hn : (decide (b ≤ b + k) && decide (b + k < e)) = true := by
        rw [decide_eq_true (by omega), decide_eq_true (by omega)]
        rfl
      rw [hn] at this
      unfold hvB
      cases ho : isBkd S c d (b + k) with
      | true => rfl
      | false =>
        rw [ho, safe_bk hc hd h0 h3 ho hn] at this
        simpa using this
    · intro h k hk
      unfold canQ
      cases hn : (decide (b ≤ k) && decide (k < e)) with
      | false => rfl
      | true =>
        have hb := hn
        rw [Bool.and_eq_true, decide_eq_true_eq, decide_eq_true_eq] at hb
        have := h (k - b) (by omega)
        rw [show b + (k - b) = k by omega] at this
        unfold hvB at this
        cases ho : isBkd S c d k with
        | true => rfl
        | false =>
          rw [ho] at this
          rw [safe_bk hc hd h0 h3 ho hn]
          simpa using this
  cases h1 : andN (canQ S c d b e) 10 with
  | true => exact (key.mp h1).symm
  | false =>
    cases h2 : canHaveB S c d b e with
    | true => rw [key.mpr h2] at h1; cases h1
    | false => rfl
end
theorem sub_at {S : MS} {x y z : Nat} (h2 : S 21 2 < 4) (hx : 1 ≤ x) (hx2 : x ≤ 31) (hy : 1 ≤ y) (hy2 : y ≤ 5) (hz : 1 ≤ z) (hz2 : z ≤ 1000) : subR S (nI x) (nI y) (nI z) = nI (S 21 2) ∧ subS S (nI x) (nI y) (nI z) = subNew S x y z := by
  unfold subR subS subOk
  rw [within_N (by omega) (by omega) (by omega), within_N (by omega) (by omega) (by omega), within_N (by omega) (by omega) (by omega), decide_eq_true hx, decide_eq_true hx2, decide_eq_true hy, decide_eq_true hy2, decide_eq_true hz, decide_eq_true hz2, tn_nI (by omega), tn_nI (by omega), tn_nI (by omega)]
  have hne : S 21 2 ≠ 4 := by omega
  simp [hne]
/-- a substitute more -/
theorem LU.add {S : MS} {k : Nat} {Q : MS} (h : LU S k Q) (hk : k < 2) (x y z : Nat) : LU (subNew S x y z) (k + 1) (uM (uM (uM Q 5 (3 * k) x) 5 (3 * k + 1) y) 5 (3 * k + 2) z) := by
  obtain ⟨h1, h2, h3⟩ := h
  refine ⟨by omega, by rw [sub_21, h2], fun j hj => ?_⟩
  unfold subNew
  rw [h2]
  by_cases q : j = k
  · subst q
    rw [uM_ni (show 3 * j ≠ 3 * j + 2 by omega), uM_ni (show 3 * j ≠ 3 * j + 1 by omega), uM_eq, uM_ni (show 3 * j + 1 ≠ 3 * j + 2 by omega), uM_eq, uM_eq]
    simp [uM]
  · rw [uM_ni (show 3 * j ≠ 3 * k + 2 by omega), uM_ni (show 3 * j ≠ 3 * k + 1 by omega), uM_ni (show 3 * j ≠ 3 * k by omega), uM_ni (show 3 * j + 1 ≠ 3 * k + 2 by omega), uM_ni (show 3 * j + 1 ≠ 3 * k + 1 by omega), uM_ni (show 3 * j + 1 ≠ 3 * k by omega), uM_ni (show 3 * j + 2 ≠ 3 * k + 2 by omega), uM_ni (show 3 * j + 2 ≠ 3 * k + 1 by omega), uM_ni (show 3 * j + 2 ≠ 3 * k by omega)]
    have e : ∀ a, 13 ≤ a → a ≤ 15 → uM (uM (uM (uM S 13 k x) 14 k y) 15 k z) 21 2 (k + 1) a j = S a j := fun a h4 h5 => by
      rw [uM_nk (by omega), uM_ni q, uM_ni q, uM_ni q]
    rw [e 13 (by decide) (by decide), e 14 (by decide) (by decide), e 15 (by decide) (by decide)]
    exact h3 j hj
theorem LR.sub {S : MS} {nc me : Nat} {Q : MS} (h : LR S nc me Q) (x y z i j l u v w : Nat) : LR (subNew S x y z) nc me (uM (uM (uM Q 5 i u) 5 j v) 5 l w) := by
  have hr : ∀ a, a < 13 → subNew S x y z a = S a := fun a ha => funext fun _ => sub_nk (by omega) (by omega) (by omega) (by omega)
  have hq : ∀ a, a ≠ 5 → uM (uM (uM Q 5 i u) 5 j v) 5 l w a = Q a := fun a ha => by rw [uM_row ha, uM_row ha, uM_row ha]
  have h21 : subNew S x y z 21 1 = S 21 1 := by
    unfold subNew
    rw [uM_ni (by omega), uM_nk (by omega), uM_nk (by omega), uM_nk (by omega)]
  exact ⟨h.1.cg (hr 11 (by decide)) (hr 12 (by decide)) h21 (hq 0 (by decide)), h.2.1.cg (fun a ha => hr a (by omega)) (hq 1 (by decide)) (hq 2 (by decide)), h.2.2.cg (hr 7 (by decide)) (hr 8 (by decide)) (hr 9 (by decide)) (hr 10 (by decide)) (hq 3 (by decide)) (hq 4 (by decide))⟩

/-! the class's calls that change it, on the law's arguments -/
section
variable {S : MS}
theorem lim_at {x : Nat} (h1 : 1 ≤ x) (h2 : x ≤ 24) : limR S (nI x) = nI (S 21 1) ∧ limS S (nI x) = uM S 21 1 x := by
  unfold limR limS
  rw [within_N (by omega) (by omega) (by omega), tn_nI (by omega), decide_eq_true h1, decide_eq_true h2]
  exact ⟨rfl, rfl⟩
theorem grp_at {g : Nat} (hg : g < 3) : isGroupI (nI g) = true := by
  unfold isGroupI
  rw [within_N (by omega) (by omega) (by omega)]
  simp
  omega
theorem day_at {d : Nat} (hd : d < 5) : isDayI (nI d) = true := by
  unfold isDayI
  rw [within_N (by omega) (by omega) (by omega)]
  simp
  omega
theorem span_at {b e : Nat} (h1 : b ≤ e) (h2 : e ≤ 10) : isSpanI (nI b) (nI e) = true := by
  unfold isSpanI
  rw [within_N (by omega) (by omega) (by omega), within_N (by omega) (by omega) (by omega)]
  simp
  omega
theorem rat_at {g r : Nat} (hg : g < 3) (h1 : 1 ≤ r) (h2 : r ≤ 20) : ratR S (nI g) (nI r) = nI (S 11 g) ∧ ratS S (nI g) (nI r) = uM S 11 g r := by
  unfold ratR ratS ratOk
  rw [grp_at hg, within_N (by omega) (by omega) (by omega), tn_nI (by omega), tn_nI (by omega), decide_eq_true h1, decide_eq_true h2]
  exact ⟨rfl, rfl⟩
theorem rate_at {g r : Nat} (hg : g < 3) (h2 : r ≤ 5000) : rateR S (nI g) (nI r) = nI (S 12 g) ∧ rateS S (nI g) (nI r) = uM S 12 g r := by
  unfold rateR rateS rateOk
  rw [grp_at hg, within_N (by omega) (by omega) (by omega), tn_nI (by omega), tn_nI (by omega), decide_eq_true (Nat.zero_le r), decide_eq_true h2]
  exact ⟨rfl, rfl⟩
theorem frF_at {f : Nat → Nat} : ∀ n i c, c ≤ i → i < c + n → f i = 0 → (∀ j, c ≤ j → j < i → f j = 1) → frF f n c = i
  | 0, i, c, h1, h2, _, _ => by omega
  | n + 1, i, c, h1, h2, h3, h4 => by
    rw [frF]
    by_cases q : c = i
    · rw [q, if_neg (by omega)]
    · rw [if_pos (h4 c (Nat.le_refl _) (by omega))]
      exact frF_at n i (c + 1) (by omega) (by omega) h3 (fun j j1 j2 => h4 j (by omega) j2)
theorem itS_at {f : MS → Nat → MS} {P : MS → Prop} (hf : ∀ T d, P T → P (f T d)) {T : MS} (h : P T) : ∀ n, P (itS f T n)
  | 0 => h
  | n + 1 => hf _ _ (itS_at hf h n)
end

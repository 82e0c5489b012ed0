/-! the new educator, the new substitute in place -/
theorem zE_at {S : MS} {c : Nat} : ∀ n d, d < n → (itS (zE c) S n) 8 (5 * c + d) = 0 ∧ (itS (zE c) S n) 9 (5 * c + d) = 0
  | 0, d, h => absurd h (Nat.not_lt_zero _)
  | n + 1, d, h => by
    show (zE c (itS (zE c) S n) n) 8 (5 * c + d) = 0 ∧ (zE c (itS (zE c) S n) n) 9 (5 * c + d) = 0
    unfold zE
    by_cases q : d = n
    · subst q
      exact ⟨by rw [uM_nk (by omega), uM_eq], uM_eq _ _ _ _⟩
    · have := zE_at (S := S) (c := c) n d (by omega)
      exact ⟨by rw [uM_nk (by omega), uM_ni (by omega)]; exact this.1, by rw [uM_ni (by omega), uM_nk (by omega)]; exact this.2⟩
theorem zH_at {S : MS} {c : Nat} : ∀ n d, d < n → (itS (zH c) S n) 10 (52 * c + d) = 0
  | 0, d, h => absurd h (Nat.not_lt_zero _)
  | n + 1, d, h => by
    show (zH c (itS (zH c) S n) n) 10 (52 * c + d) = 0
    unfold zH
    by_cases q : d = n
    · subst q
      exact uM_eq _ _ _ _
    · rw [uM_ni (by omega)]
      exact zH_at (S := S) (c := c) n d (by omega)
theorem zE_nk {S : MS} {c n k j : Nat} (h5 : k ≠ 8) (h6 : k ≠ 9) : itS (zE c) S n k j = S k j := it_nk (fun T d => by unfold zE; rw [uM_nk h6, uM_nk h5]) n
theorem zH_nk {S : MS} {c n k j : Nat} (h5 : k ≠ 10) : itS (zH c) S n k j = S k j := it_nk (fun T d => by unfold zH; rw [uM_nk h5]) n
theorem zE_no {S : MS} {c k j : Nat} (h : j / 5 ≠ c) : ∀ n, n ≤ 5 → itS (zE c) S n k j = S k j
  | 0, _ => rfl
  | n + 1, hn => by
    show (zE c (itS (zE c) S n) n) k j = _
    unfold zE
    rw [uM_ni (by omega), uM_ni (by omega)]
    exact zE_no h n (by omega)
theorem zH_no {S : MS} {c k j : Nat} (h : j / 52 ≠ c) : ∀ n, n ≤ 52 → itS (zH c) S n k j = S k j
  | 0, _ => rfl
  | n + 1, hn => by
    show (zH c (itS (zH c) S n) n) k j = _
    unfold zH
    rw [uM_ni (by omega)]
    exact zH_no h n (by omega)
theorem nwE_nk {S : MS} {c k j : Nat} (h : k < 7 ∨ 10 < k) : newE S c k j = S k j := by
  unfold newE
  rw [zH_nk (by omega), zE_nk (by omega) (by omega), uM_nk (by omega)]
theorem nwE_7 {S : MS} {c j : Nat} : newE S c 7 j = uM S 7 c 1 7 j := by
  unfold newE
  rw [zH_nk (by omega), zE_nk (by omega) (by omega)]
theorem nwE_89 {S : MS} {c k j : Nat} (hk : k = 8 ∨ k = 9) : newE S c k j = itS (zE c) (uM S 7 c 1) 5 k j := by
  unfold newE
  rw [zH_nk (by omega)]
theorem ho_none {S : MS} {c : Nat} (h : ∀ d, d < 52 → S 10 (52 * c + d) = 0) : msk (hoP S c) 52 = 0 := by
  have e : msk (hoP S c) 52 = msk (fun _ => false) 52 := msk_congr (fun q hq => by
    unfold hoP
    rw [h q hq]
    rfl)
  rw [e]
  decide
theorem edE_new {S : MS} {c : Nat} : edE (newE S c) c = .inr (2, z2) := by
  unfold edE
  rw [sp_none (S := newE S c) (k := 8) (fun d hd => by rw [nwE_89 (Or.inl rfl), nwE_89 (Or.inr rfl)]; exact zE_at 5 d hd), ho_none (S := newE S c) (fun d hd => zH_at 52 d hd)]
  rfl
theorem BD_newE {S : MS} (h : BD S) {c : Nat} : BD (newE S c) := BD_it (fun T d hT => BD_u hT (by omega)) (BD_it (fun T d hT => BD_u (BD_u hT (by omega)) (by omega)) (BD_u h (by omega)) 5) 52
theorem IV_nwE {S : MS} (h : IV S) {c : Nat} : IV (newE S c) := IV_it (fun T d hT => IV_zH hT) (IV_it (fun T d hT => IV_zE hT) (IV_newE h) 5) 52
theorem RG.addE {S : MS} {G : Nat → Nat} {T : CT} {e : CE} {a c : Nat} {x0 : va_E} (h : RG S G T e) (ha : a ∉ eL e) (hc : c < 8) (h0 : clsE x0 = some 2) : RG (newE S c) G T (wR (wP (wN e a x0) a (edE (newE S c) c)) 1 c (some a)) := by
  have hm : a ∈ eL (wP (wN e a x0) a (edE (newE S c) c)) := List.mem_append_right _ (List.mem_singleton.mpr rfl)
  have hcl : clsE (eP (wN e a x0) a) = some 2 := by rw [show eP (wN e a x0) a = x0 from if_pos rfl, h0]
  refine ⟨BD_newE h.hB, IV_nwE h.hI, h.2.2.1.off (fun k j hk => nwE_nk (by omega)), ?_, ?_, ?_⟩
  · exact (((h.2.2.2.1.new (x := x0) ha).off (cls_ch S) (by rw [hcl]; decide)).other (by decide)).congr (fun i _ => nwE_nk (by omega)) (fun i _ _ => chE_of (fun k j _ => nwE_nk (by omega)))
  · have p1 : PO (wP (wN e a x0) a (edE (newE S c) c)) 1 8 (S 7) (edE S) := ⟨fun j hj => by
      rcases h.2.2.2.2.1.1 j hj with ⟨q, b, h1, h2, h3⟩ | ⟨q, h1⟩
      · have hb : b ≠ a := fun z => ha (z ▸ h2)
        refine Or.inl ⟨q, b, h1, List.mem_append_left _ h2, ?_⟩
        show va_up (va_up _ _ _) _ _ b = _
        unfold va_up
        rw [if_neg hb, if_neg hb]
        exact h3
      · exact Or.inr ⟨q, h1⟩, h.2.2.2.2.1.2⟩
    refine p1.fresh (fun j hj => h.2.2.2.2.1.nin ha j hj) hm (eP_wP _ _ _) (by rw [nwE_7, uM_eq]) (fun j _ hj => by rw [nwE_7, uM_ni hj]) (fun j _ hj => ?_)
    unfold edE
    rw [msk_congr (q := spP S 8 j) (n := 50) (fun q hq => by
        unfold spP
        rw [nwE_89 (Or.inl rfl), nwE_89 (Or.inr rfl), zE_no (by omega) 5 (Nat.le_refl 5), zE_no (by omega) 5 (Nat.le_refl 5), uM_nk (by omega), uM_nk (by omega)]), msk_congr (q := hoP S j) (n := 52) (fun q hq => by
        unfold hoP newE
        rw [zH_no (by omega) 52 (Nat.le_refl 52), zE_nk (by omega) (by omega), uM_nk (by omega)])]
  · exact (((h.2.2.2.2.2.new (x := x0) ha).off (fun j => cls_su S j (G j)) (by rw [hcl]; decide)).other (by decide)).congr (fun i _ => suH_of (nwE_nk (by omega)) i) (fun i _ _ => suE_of (fun k j _ _ => nwE_nk (by omega)))

/-! the new substitute in place -/
theorem sub_nk {S : MS} {x y z k j : Nat} (h : k ≠ 13) (h2 : k ≠ 14) (h3 : k ≠ 15) (h4 : k ≠ 21) : subNew S x y z k j = S k j := by
  unfold subNew
  rw [uM_nk h4, uM_nk h3, uM_nk h2, uM_nk h]
theorem sub_ni {S : MS} {x y z k j : Nat} (hk : k ≠ 21) (h : j ≠ S 21 2) : subNew S x y z k j = S k j := by
  unfold subNew
  rw [uM_nk hk, uM_ni h, uM_ni h, uM_ni h]
theorem sub_21 {S : MS} {x y z : Nat} : subNew S x y z 21 2 = S 21 2 + 1 := by
  unfold subNew
  rw [uM_eq]
theorem suE_new {S : MS} {x y z : Nat} : suE (subNew S x y z) (S 21 2) 0 = .inr (5, [.int (nI x), .int (nI y), .int (nI z), .int 0]) := by
  unfold suE subNew
  simp [uM]
  decide
theorem BD_sub {S : MS} (h : BD S) {x y z : Nat} (hx : x ≤ 31) (hy : y ≤ 5) (hz : z ≤ 1000) (hc : S 21 2 < 4) : BD (subNew S x y z) := BD_u (BD_u (BD_u (BD_u h (by omega)) (by omega)) (by omega)) (by omega)
theorem RG.addS {S : MS} {T : CT} {e : CE} {a x y z : Nat} {x0 : va_E} (h : RR S T e) (ha : a ∉ eL e) (hc : S 21 2 < 4) (hx : x ≤ 31) (hy : y ≤ 5) (hz : z ≤ 1000) (h0 : clsE x0 = some 5) : RR (subNew S x y z) (uI T 10 3 (nI (S 21 2 + 1))) (wR (wP (wN e a x0) a (suE (subNew S x y z) (S 21 2) 0)) 2 (S 21 2) (some a)) := by
  have hm : a ∈ eL (wP (wN e a x0) a (suE (subNew S x y z) (S 21 2) 0)) := List.mem_append_right _ (List.mem_singleton.mpr rfl)
  have hcl : clsE (eP (wN e a x0) a) = some 5 := by rw [show eP (wN e a x0) a = x0 from if_pos rfl, h0]
  have hT : rowsT (uM (uM (uM S 13 (S 21 2) x) 14 (S 21 2) y) 15 (S 21 2) z) T := h.2.2.1.off (fun k j hk => by rw [uM_nk (by omega), uM_nk (by omega), uM_nk (by omega)])
  refine ⟨BD_sub h.hB hx hy hz hc, IV_sub h.hI hx hy hz hc, rows_21 hT (by decide), ?_, ?_, ?_⟩
  · exact (((h.2.2.2.1.new (x := x0) ha).off (cls_ch S) (by rw [hcl]; decide)).other (by decide)).congr (fun i _ => sub_nk (by omega) (by omega) (by omega) (by omega)) (fun i _ _ => chE_of (fun k j _ => sub_nk (by omega) (by omega) (by omega) (by omega)))
  · exact (((h.2.2.2.2.1.new (x := x0) ha).off (cls_ed S) (by rw [hcl]; decide)).other (by decide)).congr (fun i _ => sub_nk (by omega) (by omega) (by omega) (by omega)) (fun i _ _ => edE_of (fun k j _ _ => sub_nk (by omega) (by omega) (by omega) (by omega)))
  · have p1 : PO (wP (wN e a x0) a (suE (subNew S x y z) (S 21 2) 0)) 2 4 (suH S) (fun k => suE S k 0) := ⟨fun j hj => by
      rcases h.2.2.2.2.2.1 j hj with ⟨q, b, h1, h2, h3⟩ | ⟨q, h1⟩
      · have hb : b ≠ a := fun z => ha (z ▸ h2)
        refine Or.inl ⟨q, b, h1, List.mem_append_left _ h2, ?_⟩
        show va_up (va_up _ _ _) _ _ b = _
        unfold va_up
        rw [if_neg hb, if_neg hb]
        exact h3
      · exact Or.inr ⟨q, h1⟩, h.2.2.2.2.2.2⟩
    refine p1.fresh (fun j hj => h.2.2.2.2.2.nin ha j hj) hm (eP_wP _ _ _) ?_ (fun j _ hj => ?_) (fun j _ hj => ?_)
    · unfold suH
      rw [sub_21, decide_eq_true (by omega)]
      rfl
    · unfold suH
      rw [sub_21]
      congr 1
      apply decide_eq_decide.mpr
      omega
    · unfold suE
      rw [sub_ni (by omega) hj, sub_ni (by omega) hj, sub_ni (by omega) hj]

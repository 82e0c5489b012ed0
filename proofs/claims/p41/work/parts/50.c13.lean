theorem nxt_mem {S : MS} {b : Nat} (h : nxt S 24 = some b) : b < 24 ∧ S 0 b = 1 ∧ S 3 b = 0 := by
  have h1 := nxt_lt h
  have h2 := (nxt_wt h).1
  unfold isWt at h2
  rw [Bool.and_eq_true, decide_eq_true_eq, decide_eq_true_eq] at h2
  exact ⟨h1, h2.1, h2.2⟩
theorem adm_end {S : MS} (h : wtN S = 0) : nxt S 24 = none := by
  cases q : nxt S 24 with
  | none => rfl
  | some b =>
    have h1 := nxt_lt q
    have h2 := (nxt_wt q).1
    have h3 := wtN_adm h1 h2
    omega
set_option maxRecDepth 100000 in
set_option maxHeartbeats 4000000 in
theorem m_X6_admit {S : MS} {T : CT} {e : CE} (hR : RR S T e) : CF zX6_admit 16 7 0 0 [] (T, e) (pR (nI (admC 25 S)) (admF 25 S)) := by
  intro D Y ad
  refine MT.of [(0, .ref (ad 16))] (by decide) rfl (Nat.le_of_ble_eq_true rfl) ?_
  intro K hK X E
  refine j_iconst (v := nI 0) X dX6_admit_0 (by decide) ?_
  refine j_istore_n X [(1, _), (0, _)] dX6_admit_1 rfl (by decide) rfl ?_
  refine j_iconst (v := nI 0) X dX6_admit_2 (by decide) ?_
  refine j_istore_n X [(2, _), (1, _), (0, _)] dX6_admit_3 rfl (by decide) rfl ?_
  have L4 : ∀ (n : Nat) (i : Nat) (S1 : MS) (T1 : CT) (e1 : CE), (i ≤ 24) → (RR S1 T1 e1) → (admF 25 S = admF (25 - i) S1) → (admC 25 S = i + admC (25 - i) S1) → (wtN S1 ≤ 24 - i) → (24 + 1 ≤ i + n) → JJ K D 0 0 (WC ad Y (T1, e1)) [(0, .ref (ad 16)), (1, .int (nI i)), (2, .int (nI i))] 4 [] := by
    intro n
    induction n with
    | zero =>
      intro i S1 T1 e1 hi hR1 hF hC hw hf4
      exact absurd hf4 (by omega)
    | succ n4 ih4 =>
      intro i S1 T1 e1 hi hR1 hF hC hw hf4
      refine j_iload_n X dX6_admit_4 rfl 2 rfl ?_
      refine j_bipush (v := nI 24) X dX6_admit_5 (by decide) ?_
      refine n_icmp_ge (tgt := 36) X dX6_admit_7 (by decide) (by omega) (by omega) (fun c_7 => ?_) (fun c_7 => ?_)
      · have hb : nxt S1 24 = none := adm_end (by omega)
        refine j_iload_n X dX6_admit_36 rfl 1 rfl ?_
        exact j_ireturn X E ((T1, e1)) rfl ⟨_, rfl, by rw [hC, show 25 - i = (24 - i) + 1 by omega, admC_s, hb]; rfl, by rw [hF, show 25 - i = (24 - i) + 1 by omega, admF_s, hb]; exact hR1⟩ dX6_admit_37
      · refine j_aload_n X dX6_admit_10 rfl 0 rfl ?_
        refine jc_call16Q0 (mc := 0) (ms := 0) X hK (m_X6_firstThatCanBeAdmitted hR1) m_X6_128 rfl (by decide) (by decide) (Nat.le_of_ble_eq_true rfl) ⟨by decide, by decide⟩ dX6_admit_11 ?_
        rintro r _ ⟨T_11, rfl, s_11, (⟨hb, rfl⟩ | ⟨b, hb, hb24, hbe⟩)⟩
        · have hR_11 := hR1.sm s_11 (by decide)
          refine j_astore_nN X [(3, _), (0, _), (1, _), (2, _)] dX6_admit_14 rfl (by decide) rfl ?_
          refine j_aload_nN X dX6_admit_15 rfl 0 rfl ?_
          refine j_ifnonnullN X dX6_admit_16 ?_
          refine j_goto (tgt := 36) X dX6_admit_19 (by decide) ?_
          refine j_iload_n X dX6_admit_36 rfl 2 rfl ?_
          exact j_ireturn X E ((T_11, e1)) rfl ⟨_, rfl, by rw [hC, show 25 - i = (24 - i) + 1 by omega, admC_s, hb]; rfl, by rw [hF, show 25 - i = (24 - i) + 1 by omega, admF_s, hb]; exact hR_11⟩ dX6_admit_37
        · have hR_11 := hR1.sm s_11 (by decide)
          obtain ⟨-, hb0, hb3⟩ := nxt_mem hb
          obtain ⟨a_11, r_11, m_11, p_11⟩ : ∃ a, eR e1 0 b = some a ∧ a ∈ eL e1 ∧ eP e1 a = chE S1 b := (hR_11.ch hb24).elim (fun q => q.2) (fun q => absurd q.1 (by omega))
          rw [r_11] at hbe
          subst hbe
          refine j_astore_n X [(3, _), (0, _), (1, _), (2, _)] dX6_admit_14 rfl (by decide) rfl ?_
          refine j_aload_n X dX6_admit_15 rfl 0 rfl ?_
          refine j_ifnonnull (tgt := 22) X dX6_admit_16 (by decide) ?_
          refine j_aload_n X dX6_admit_22 rfl 0 rfl ?_
          refine j_iconst (v := nI 1) X dX6_admit_23 (by decide) ?_
          refine jc_pput X ly_X0 tyX0 tyX0_ok nmX0 m_11 p_11 rfl 3 (by decide) f_X6_78 rfl rfl rfl rfl (Nat.le_of_ble_eq_true rfl) dX6_admit_24 (fun e_24 ee_24 => ?_)
          have m_24 := mem_wP ee_24 m_11
          have p_24 := pos_wP ee_24
          have hc24 : e_24 = wP e1 a_11 (chE (uM S1 3 b 1) b) := by rw [ee_24]; unfold chE; rw [spP_uM (by decide) (by decide)]; simp [uM]
          refine n_iinc X [(1, _), (3, _), (0, _), (2, _)] dX6_admit_27 (q := 2) (b := 1) rfl (by decide) (by decide) rfl ?_
          refine n_iinc X [(2, _), (1, _), (3, _), (0, _)] dX6_admit_30 (q := 3) (b := 1) rfl (by decide) (by decide) rfl ?_
          refine j_goto (tgt := 4) X dX6_admit_33 (by decide) ?_
          exact j_sub [3, 1, 0] rfl (ih4 _ (uM S1 3 b 1) _ _ (by omega) (by rw [hc24]; exact hR_11.adm hb24 r_11 hb0 (by omega)) (by rw [hF, show 25 - i = (24 - i) + 1 by omega, admF_s, hb]; show admF (24 - i) _ = _; congr 1; omega) (by rw [hC, show 25 - i = (24 - i) + 1 by omega, admC_s, hb]; show i + (admC (24 - i) _ + 1) = _; rw [show 25 - (i + 1) = 24 - i by omega]; omega) (by have := wtN_adm hb24 (nxt_wt hb).1; omega) (by omega))
  exact j_sub [2, 1, 0] rfl (L4 25 _ S _ _ (by omega) (by exact hR) (by rfl) (by rw [Nat.zero_add]) (by exact wtN_le S) (by omega))

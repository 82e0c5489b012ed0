set_option maxRecDepth 100000 in
set_option maxHeartbeats 4000000 in
theorem m_X6_waiting {S : MS} {G : Nat → Nat} {T : CT} {e : CE} (hR : RG S G T e) (x : Int32) : CF zX6_waiting 16 6 0 0 [.int x] (T, e) (pZs [8] T e (wtgI S x)) := by
  intro D Y ad
  refine MT.of [(0, .ref (ad 16)), (1, .int x)] (by decide) rfl (Nat.le_of_ble_eq_true rfl) ?_
  intro K hK X E
  refine j_iload_n X dX6_waiting_0 rfl 1 rfl ?_
  refine j_if_ge (tgt := 6) X dX6_waiting_1 (by decide) (fun c_1 => ?_) (fun c_1 => ?_)
  · refine j_aload_n X dX6_waiting_6 rfl 0 rfl ?_
    refine jc_call16V0 (mc := 0) (ms := 0) X hK (m_X6_notePriorities hR) m_X6_121 rfl (by decide) (by decide) (Nat.le_of_ble_eq_true rfl) ⟨by decide, by decide⟩ dX6_waiting_7 ?_
    rintro _ ⟨T_7, rfl, s_7, pr_7⟩
    have hR_7 := hR.sm s_7 (by decide)
    refine j_iconst (v := nI 0) X dX6_waiting_10 (by decide) ?_
    refine j_istore_n X [(2, _), (0, _), (1, _)] dX6_waiting_11 rfl (by decide) rfl ?_
    have L12 : ∀ (n : Nat) (i : Nat), (i ≤ 24) → (∀ c, c < i → (fun c => isWt S c && decide (nI (placeN S c) = x)) c = false) → (24 + 1 ≤ i + n) → JJ K D 0 0 (WC ad Y (T_7, e)) [(0, .ref (ad 16)), (1, .int x), (2, .int (nI i))] 12 [] := by
      intro n
      induction n with
      | zero =>
        intro i hi hn hf12
        exact absurd hf12 (by omega)
      | succ n12 ih12 =>
        intro i hi hn hf12
        refine j_iload_n X dX6_waiting_12 rfl 2 rfl ?_
        refine j_aload_n X dX6_waiting_13 rfl 0 rfl ?_
        refine j_getf X ly_X6 0 rfl rfl 10 (by decide) f_X6_59 rfl dX6_waiting_14 ?_
        refine jc_len X (by decide) (by decide) dX6_waiting_17 ?_
        refine z_as (nI 24) rfl ?_
        refine n_icmp_ge (tgt := 50) X dX6_waiting_18 (by decide) (by omega) (by omega) (fun c_18 => ?_) (fun c_18 => ?_)
        · have hi2 : i = 24 := by omega
          subst hi2
          refine j_bipush (v := (-9)) X dX6_waiting_50 (by decide) ?_
          exact j_ireturn X E ((T_7, e)) rfl ⟨_, rfl, _, by rw [wtg_pos c_1]; exact fd_none hn, rfl, s_7⟩ dX6_waiting_52
        · refine j_aload_n X dX6_waiting_21 rfl 0 rfl ?_
          refine j_getf X ly_X6 0 rfl rfl 10 (by decide) f_X6_59 rfl dX6_waiting_22 ?_
          refine j_iload_n X dX6_waiting_25 rfl 2 rfl ?_
          refine jc_ald X (by decide) (by decide) (by show _ < 24; omega) dX6_waiting_26 ?_
          rw [pr_7 _ (by omega)]
          refine j_istore_n X [(3, _), (0, _), (1, _), (2, _)] dX6_waiting_27 rfl (by decide) rfl ?_
          refine j_iload_n X dX6_waiting_28 rfl 0 rfl ?_
          refine j_iconst (v := (-1)) X dX6_waiting_29 (by decide) ?_
          refine j_icmp_eq (tgt := 44) X dX6_waiting_30 (by decide) (fun c_30 => ?_) (fun c_30 => ?_)
          · have hw := prI_n hR.hI (by omega) c_30
            refine n_iinc X [(2, _), (3, _), (0, _), (1, _)] dX6_waiting_44 (q := 3) (b := 1) rfl (by decide) (by decide) rfl ?_
            refine j_goto (tgt := 12) X dX6_waiting_47 (by decide) ?_
            exact j_sub [2, 3, 0] rfl (ih12 _ (by omega) (by intro c hc; by_cases q : c = i; subst q; show (isWt S c && _) = false; rw [hw]; rfl; exact hn c (by omega)) (by omega))
          · obtain ⟨hw, hpe⟩ := prI_w c_30
            rw [hpe]
            refine j_aload_n X dX6_waiting_33 rfl 1 rfl ?_
            refine j_iload_n X dX6_waiting_34 rfl 0 rfl ?_
            refine jc_call16I1 (mc := 0) (ms := 0) X hK (m_X6_countAbove hR_7 pr_7 _ (pr_lt hR.hI (by omega))) m_X6_124 rfl (by decide) (by decide) (Nat.le_of_ble_eq_true rfl) ⟨by decide, by decide⟩ dX6_waiting_35 ?_
            rintro _ _ ⟨v_35, e_35, b_35, rfl, rfl⟩
            refine j_iload_n X dX6_waiting_38 rfl 2 rfl ?_
            refine j_icmp_ne (tgt := 44) X dX6_waiting_39 (by decide) (fun c_39 => ?_) (fun c_39 => ?_)
            · refine n_iinc X [(2, _), (3, _), (0, _), (1, _)] dX6_waiting_44 (q := 3) (b := 1) rfl (by decide) (by decide) rfl ?_
              refine j_goto (tgt := 12) X dX6_waiting_47 (by decide) ?_
              exact j_sub [2, 3, 0] rfl (ih12 _ (by omega) (by intro c hc; by_cases q : c = i; subst q; show (isWt S c && decide (nI (placeN S c) = x)) = false; rw [hw, place_pr hR.hI (by omega), ← e_35]; simp; exact c_39; exact hn c (by omega)) (by omega))
            · refine j_iload_n X dX6_waiting_42 rfl 3 rfl ?_
              exact j_ireturn X E ((T_7, e)) rfl ⟨_, rfl, _, by rw [wtg_pos c_1]; exact fd_first (p := fun c => isWt S c && decide (nI (placeN S c) = x)) (by show (isWt S i && decide (nI (placeN S i) = x)) = true; rw [hw, place_pr hR.hI (by omega), ← e_35, c_39]; simp) (by omega) (fun j hj q => by rw [Bool.and_eq_true, decide_eq_true_eq] at q; have h1 := place_pr hR.hI (c := i) (by omega); refine place_inj hR.hI hj (by omega) q.1 hw ?_; rw [h1, ← e_35]; have hb : placeN S j ≤ 24 * 1 := sm_le (fun i hi => ct_le _); exact (nI_eq (by omega) (by omega)).mp (q.2.trans c_39.symm)), rfl, s_7⟩ dX6_waiting_43
    exact j_sub [1, 2, 0] rfl (L12 25 _ (by omega) (by intro c hc; omega) (by omega))
  · refine j_iconst (v := (-1)) X dX6_waiting_4 (by decide) ?_
    exact j_ireturn X E ((T, e)) rfl ⟨_, rfl, _, wtg_neg c_1, rfl, SM.refl _ _⟩ dX6_waiting_5
set_option maxRecDepth 100000 in
set_option maxHeartbeats 4000000 in
theorem m_X6_firstThatCanBeAdmitted {S : MS} {G : Nat → Nat} {T : CT} {e : CE} (hR : RG S G T e) : CF zX6_firstThatCanBeAdmitted 16 6 0 0 [] (T, e) (pQ (fun r u => ∃ T' : CT, (T', e) = u ∧ SM [7, 8] T T' ∧ ((nxt S 24 = none ∧ r = none) ∨ ∃ b, nxt S 24 = some b ∧ b < 24 ∧ eR e 0 b = r))) := by
  intro D Y ad
  refine MT.of [(0, .ref (ad 16))] (by decide) rfl (Nat.le_of_ble_eq_true rfl) ?_
  intro K hK X E
  refine j_aload_n X dX6_firstThatCanBeAdmitted_0 rfl 0 rfl ?_
  refine jc_call16V0 (mc := 0) (ms := 0) X hK (m_X6_notePriorities hR) m_X6_121 rfl (by decide) (by decide) (Nat.le_of_ble_eq_true rfl) ⟨by decide, by decide⟩ dX6_firstThatCanBeAdmitted_1 ?_
  rintro _ ⟨T_1, rfl, s_1, pr_1⟩
  have hR_1 := hR.sm s_1 (by decide)
  refine j_aconst_null X dX6_firstThatCanBeAdmitted_4 ?_
  refine j_astore_nN X [(1, _), (0, _)] dX6_firstThatCanBeAdmitted_5 rfl (by decide) rfl ?_
  refine j_iconst (v := (-1)) X dX6_firstThatCanBeAdmitted_6 (by decide) ?_
  refine j_istore_n X [(2, _), (1, _), (0, _)] dX6_firstThatCanBeAdmitted_7 rfl (by decide) rfl ?_
  refine j_iconst (v := nI 0) X dX6_firstThatCanBeAdmitted_8 (by decide) ?_
  refine j_istore_n X [(3, _), (2, _), (1, _), (0, _)] dX6_firstThatCanBeAdmitted_9 rfl (by decide) rfl ?_
  have L10 : ∀ (n : Nat) (i : Nat) (r : Option Nat) (hg : Int32) (T1 : CT), (i ≤ 24) → (SM [7, 8] T T1) → (RG S G T1 e) → (∀ c, c < 24 → T1 8 c = prI S c) → (FrI S e i r hg) → (24 + 1 ≤ i + n) → JJ K D 0 0 (WC ad Y (T1, e)) [(0, .ref (ad 16)), (1, va_rf r), (2, .int hg), (3, .int (nI i))] 10 [] := by
    intro n
    induction n with
    | zero =>
      intro i r hg T1 hi hs hR1 hpr hf hf10
      exact absurd hf10 (by omega)
    | succ n10 ih10 =>
      intro i r hg T1 hi hs hR1 hpr hf hf10
      refine j_iload_n X dX6_firstThatCanBeAdmitted_10 rfl 3 rfl ?_
      refine j_aload_n X dX6_firstThatCanBeAdmitted_11 rfl 0 rfl ?_
      refine j_getf X ly_X6 0 rfl rfl 10 (by decide) f_X6_59 rfl dX6_firstThatCanBeAdmitted_12 ?_
      refine jc_len X (by decide) (by decide) dX6_firstThatCanBeAdmitted_15 ?_
      refine z_as (nI 24) rfl ?_
      refine n_icmp_ge (tgt := 66) X dX6_firstThatCanBeAdmitted_16 (by decide) (by omega) (by omega) (fun c_16 => ?_) (fun c_16 => ?_)
      · have hi2 : i = 24 := by omega
        subst hi2
        obtain ⟨hz, hzz⟩ : SM [7, 8] T T1 ∧ ((nxt S 24 = none ∧ r = none) ∨ ∃ b, nxt S 24 = some b ∧ b < 24 ∧ eR e 0 b = r) := ⟨hs, by rcases hf with ⟨h1, h2, _⟩ | ⟨b, h1, h2, h3, _⟩; exact Or.inl ⟨h1, h2⟩; exact Or.inr ⟨b, h1, h2, h3⟩⟩
        cases r with
        | none =>
          refine j_aload_nN X dX6_firstThatCanBeAdmitted_66 rfl 1 rfl ?_
          exact j_areturnN X E (T1, e) rfl ⟨none, rfl, _, rfl, hz, hzz⟩ dX6_firstThatCanBeAdmitted_67
        | some z =>
          refine j_aload_n X dX6_firstThatCanBeAdmitted_66 rfl 1 rfl ?_
          exact j_areturnR X E (T1, e) rfl ⟨some z, rfl, _, rfl, hz, hzz⟩ dX6_firstThatCanBeAdmitted_67
      · refine j_aload_n X dX6_firstThatCanBeAdmitted_19 rfl 0 rfl ?_
        refine j_iload_n X dX6_firstThatCanBeAdmitted_20 rfl 3 rfl ?_
        refine jc_call16Q1 (mc := 0) (ms := 0) X hK (m_X6_childAtN hR1 _ (by omega)) m_X6_68 rfl (by decide) (by decide) (Nat.le_of_ble_eq_true rfl) ⟨by decide, by decide⟩ dX6_firstThatCanBeAdmitted_21 ?_
        rintro _ _ ⟨rfl, (⟨a_21, q_21, r_21, m_21, p_21, rfl⟩ | ⟨q_21, r_21, rfl⟩)⟩
        · refine j_astore X [(4, _), (0, _), (1, _), (2, _), (3, _)] dX6_firstThatCanBeAdmitted_24 (by decide) rfl ?_
          refine j_aload X dX6_firstThatCanBeAdmitted_26 0 rfl ?_
          refine j_ifnull X dX6_firstThatCanBeAdmitted_28 ?_
          refine j_aload_n X dX6_firstThatCanBeAdmitted_31 rfl 1 rfl ?_
          refine j_getf X ly_X6 0 rfl rfl 10 (by decide) f_X6_59 rfl dX6_firstThatCanBeAdmitted_32 ?_
          refine j_iload_n X dX6_firstThatCanBeAdmitted_35 rfl 4 rfl ?_
          refine jc_ald X (by decide) (by decide) (by show _ < 24; omega) dX6_firstThatCanBeAdmitted_36 ?_
          rw [hpr _ (by omega)]
          refine j_iload_n X dX6_firstThatCanBeAdmitted_37 rfl 3 rfl ?_
          refine j_icmp_le (tgt := 60) X dX6_firstThatCanBeAdmitted_38 (by decide) (fun c_38 => ?_) (fun c_38 => ?_)
          · refine n_iinc X [(3, _), (4, _), (0, _), (1, _), (2, _)] dX6_firstThatCanBeAdmitted_60 (q := 4) (b := 1) rfl (by decide) (by decide) rfl ?_
            refine j_goto (tgt := 10) X dX6_firstThatCanBeAdmitted_63 (by decide) ?_
            exact j_sub [2, 3, 4, 0] rfl (ih10 _ _ _ _ (by omega) (by exact hs) (by exact hR1) (by exact hpr) (by exact fr_skip hR.hI hf (by omega) (Or.inr (Or.inr c_38))) (by omega))
          · refine j_aload_n X dX6_firstThatCanBeAdmitted_41 rfl 1 rfl ?_
            refine j_aload X dX6_firstThatCanBeAdmitted_42 0 rfl ?_
            refine jc_call16I1 (mc := 0) (ms := 0) X hK (m_X6_canBeAdmitted hR1 _ (by omega) m_21 p_21) m_X6_142 rfl (by decide) (by decide) (Nat.le_of_ble_eq_true rfl) ⟨by decide, by decide⟩ dX6_firstThatCanBeAdmitted_44 ?_
            rintro _ _ ⟨T_44, rfl, rfl, s_44⟩
            have hR_44 := hR1.sm s_44 (by decide)
            refine b_if_eq (tgt := 60) X dX6_firstThatCanBeAdmitted_47 (by decide) (fun c_47 => ?_) (fun c_47 => ?_)
            · refine n_iinc X [(3, _), (4, _), (0, _), (1, _), (2, _)] dX6_firstThatCanBeAdmitted_60 (q := 4) (b := 1) rfl (by decide) (by decide) rfl ?_
              refine j_goto (tgt := 10) X dX6_firstThatCanBeAdmitted_63 (by decide) ?_
              exact j_sub [2, 3, 4, 0] rfl (ih10 _ _ _ _ (by omega) (by exact (hs.trans (s_44.mono (by decide)))) (by exact hR_44) (by intro c hc; rw [s_44 8 c (by decide)]; exact hpr c hc) (by exact fr_skip hR.hI hf (by omega) (Or.inr (Or.inl c_47))) (by omega))
            · have hpr2 : ∀ c, c < 24 → T_44 8 c = prI S c := by intro c hc; rw [s_44 8 c (by decide)]; exact hpr c hc
              refine j_aload X dX6_firstThatCanBeAdmitted_50 0 rfl ?_
              refine j_astore_n X [(1, _), (4, _), (0, _), (2, _), (3, _)] dX6_firstThatCanBeAdmitted_52 rfl (by decide) rfl ?_
              refine j_aload_n X dX6_firstThatCanBeAdmitted_53 rfl 2 rfl ?_
              refine j_getf X ly_X6 0 rfl rfl 10 (by decide) f_X6_59 rfl dX6_firstThatCanBeAdmitted_54 ?_
              refine j_iload_n X dX6_firstThatCanBeAdmitted_57 rfl 4 rfl ?_
              refine jc_ald X (by decide) (by decide) (by show _ < 24; omega) dX6_firstThatCanBeAdmitted_58 ?_
              rw [hpr2 _ (by omega)]
              refine j_istore_n X [(2, _), (1, _), (4, _), (0, _), (3, _)] dX6_firstThatCanBeAdmitted_59 rfl (by decide) rfl ?_
              refine n_iinc X [(3, _), (2, _), (1, _), (4, _), (0, _)] dX6_firstThatCanBeAdmitted_60 (q := 4) (b := 1) rfl (by decide) (by decide) rfl ?_
              refine j_goto (tgt := 10) X dX6_firstThatCanBeAdmitted_63 (by decide) ?_
              exact j_sub [4, 2, 1, 0] rfl (ih10 _ (some a_21) _ _ (by omega) (by exact (hs.trans (s_44.mono (by decide)))) (by exact hR_44) (by intro c hc; rw [s_44 8 c (by decide)]; exact hpr c hc) (by exact fr_take hR.hI hf (by omega) c_38 c_47 r_21) (by omega))
        · refine j_astoreN X [(4, _), (0, _), (1, _), (2, _), (3, _)] dX6_firstThatCanBeAdmitted_24 (by decide) rfl ?_
          refine j_aloadN X dX6_firstThatCanBeAdmitted_26 0 rfl ?_
          refine j_ifnullN (tgt := 60) X dX6_firstThatCanBeAdmitted_28 (by decide) ?_
          refine n_iinc X [(3, _), (4, _), (0, _), (1, _), (2, _)] dX6_firstThatCanBeAdmitted_60 (q := 4) (b := 1) rfl (by decide) (by decide) rfl ?_
          refine j_goto (tgt := 10) X dX6_firstThatCanBeAdmitted_63 (by decide) ?_
          exact j_sub [2, 3, 4, 0] rfl (ih10 _ _ _ _ (by omega) (by exact hs) (by exact hR1) (by exact hpr) (by exact fr_skip hR.hI hf (by omega) (Or.inl (by unfold isWt; rw [q_21]; rfl))) (by omega))
  exact j_sub [3, 2, 1, 0] rfl (L10 25 _ none _ _ (by omega) (by exact s_1.mono (by decide)) (by exact hR_1) (by exact pr_1) (by exact Or.inl ⟨rfl, rfl, rfl⟩) (by omega))

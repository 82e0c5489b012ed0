theorem need_m {S : MS} {G : Nat → Nat} {T : CT} {e : CE} (hR : RG S G T e) {d h : Nat} (m : Int32) (hcn : ∀ g, g < 3 → T 7 g = nI (cntN S d h m g)) {r0 r1 r2 : Nat} (e0 : r0 = S 11 0) (e1 : r1 = S 11 1) (e2 : r2 = S 11 2) : CF zX3_needAt 15 1 0 0 [.int (nI r0), .int (nI r1), .int (nI r2)] (T, e) (pNc (T, e) (needN S d h m) 40000) := by
  subst e0 e1 e2
  have r := hR.hI.2.2.2.2.2.1
  rw [← need_is hR.hI]
  exact m_X3_needAt _ hcn (fun g _ => cnt_le) _ _ _ (r 0 (by omega)) (r 1 (by omega)) (r 2 (by omega))
theorem cnt_pres {S : MS} {T : CT} {d h : Nat} (hcn : ∀ g, g < 3 → T 7 g = nI (presN S d h (nI g))) : ∀ g, g < 3 → T 7 g = nI (cntN S d h (-9) g) := fun g hg => by rw [cnt_9]; exact hcn g hg
theorem total_m {S : MS} {T : CT} {e : CE} {d h : Nat} (m : Int32) (hcn : ∀ g, g < 3 → T 7 g = nI (cntN S d h m g)) : CF zX3_total 15 1 0 0 [] (T, e) (pNc (T, e) (presN S d h (-9) + moreN m) 75) := by
  rw [← cnt_sum]
  exact m_X3_total _ hcn (fun g _ => cnt_le)
set_option maxRecDepth 100000 in
set_option maxHeartbeats 4000000 in
theorem m_X6_needIn {S : MS} {G : Nat → Nat} {T : CT} {e : CE} (hR : RG S G T e) (q : Nat) (hq : q < 50) : CF zX6_needIn 16 4 0 0 [.int (nI q)] (T, e) (pI (fun r u => ∃ (n : Nat) (T' : CT), n = needN S (q / 10) (q % 10) (-9) ∧ n ≤ 40000 ∧ nI n = r ∧ (T', e) = u ∧ SM [7] T T' ∧ ∀ g, g < 3 → T' 7 g = nI (presN S (q / 10) (q % 10) (nI g)))) := by
  intro D Y ad
  refine MT.of [(0, .ref (ad 16)), (1, .int (nI q))] (by decide) rfl (Nat.le_of_ble_eq_true rfl) ?_
  intro K hK X E
  refine j_aload_n X dX6_needIn_0 rfl 0 rfl ?_
  refine j_iload_n X dX6_needIn_1 rfl 1 rfl ?_
  refine jc_call16V1 (mc := 0) (ms := 0) X hK (m_X6_countHeads hR _ (by omega)) m_X6_178 rfl (by decide) (by decide) (Nat.le_of_ble_eq_true rfl) ⟨by decide, by decide⟩ dX6_needIn_2 ?_
  rintro _ ⟨T_2, rfl, s_2, h_2⟩
  have hR_2 := hR.sm s_2 (by decide)
  refine j_aload_n X dX6_needIn_5 rfl 0 rfl ?_
  refine j_getf X ly_X6 0 rfl rfl 9 (by decide) f_X6_55 rfl dX6_needIn_6 ?_
  refine j_aload_n X dX6_needIn_9 rfl 0 rfl ?_
  refine j_getf X ly_X6 0 rfl rfl 2 (by decide) f_X6_21 rfl dX6_needIn_10 ?_
  refine j_iconst (v := nI 0) X dX6_needIn_13 (by decide) ?_
  refine jc_ald X (by decide) (by decide) (by show _ < 3; omega) dX6_needIn_14 ?_
  rw [hR_2.t0 (by omega)]
  refine n_name (fun v_14 e_14 => ?_)
  have b_14 : v_14 < 16777216 := by rw [e_14]; exact hR_2.hB _ _
  refine j_aload_n X dX6_needIn_15 rfl 0 rfl ?_
  refine j_getf X ly_X6 0 rfl rfl 2 (by decide) f_X6_21 rfl dX6_needIn_16 ?_
  refine j_iconst (v := nI 1) X dX6_needIn_19 (by decide) ?_
  refine jc_ald X (by decide) (by decide) (by show _ < 3; omega) dX6_needIn_20 ?_
  rw [hR_2.t0 (by omega)]
  refine n_name (fun v_20 e_20 => ?_)
  have b_20 : v_20 < 16777216 := by rw [e_20]; exact hR_2.hB _ _
  refine j_aload_n X dX6_needIn_21 rfl 0 rfl ?_
  refine j_getf X ly_X6 0 rfl rfl 2 (by decide) f_X6_21 rfl dX6_needIn_22 ?_
  refine j_iconst (v := nI 2) X dX6_needIn_25 (by decide) ?_
  refine jc_ald X (by decide) (by decide) (by show _ < 3; omega) dX6_needIn_26 ?_
  rw [hR_2.t0 (by omega)]
  refine n_name (fun v_26 e_26 => ?_)
  have b_26 : v_26 < 16777216 := by rw [e_26]; exact hR_2.hB _ _
  refine jc_call15I3 (mc := 0) (ms := 0) X hK (need_m hR_2 (-9) (cnt_pres h_2) e_14 e_20 e_26) m_X6_215 rfl (by decide) (by decide) (Nat.le_of_ble_eq_true rfl) ⟨by decide, by decide⟩ dX6_needIn_27 ?_
  rintro _ _ ⟨v_27, e_27, b_27, rfl, rfl⟩
  exact j_ireturn X E ((T_2, e)) rfl ⟨_, rfl, _, _, e_27, b_27, rfl, rfl, s_2, h_2⟩ dX6_needIn_30
set_option maxRecDepth 100000 in
set_option maxHeartbeats 4000000 in
theorem m_X6_staffIn {S : MS} {G : Nat → Nat} {T : CT} {e : CE} (hR : RG S G T e) (q : Nat) (hq : q < 50) : CF zX6_staffIn 16 2 0 0 [.int (nI q)] (T, e) (pNc (T, e) (staffN S (q / 10) (q % 10)) 8) := by
  intro D Y ad
  refine MT.of [(0, .ref (ad 16)), (1, .int (nI q))] (by decide) rfl (Nat.le_of_ble_eq_true rfl) ?_
  intro K hK X E
  refine j_iconst (v := nI 0) X dX6_staffIn_0 (by decide) ?_
  refine j_istore_n X [(2, _), (0, _), (1, _)] dX6_staffIn_1 rfl (by decide) rfl ?_
  refine j_aload_n X dX6_staffIn_2 rfl 1 rfl ?_
  refine j_getf X ly_X6 0 rfl rfl 1 (by decide) f_X6_17 rfl dX6_staffIn_3 ?_
  refine j_astore_n X [(3, _), (2, _), (0, _), (1, _)] dX6_staffIn_6 rfl (by decide) rfl ?_
  refine j_aload_n X dX6_staffIn_7 rfl 0 rfl ?_
  refine jc_len_r1 X dX6_staffIn_8 ?_
  refine j_istore X [(4, _), (3, _), (2, _), (0, _), (1, _)] dX6_staffIn_9 (by decide) rfl ?_
  refine j_iconst (v := nI 0) X dX6_staffIn_11 (by decide) ?_
  refine j_istore X [(5, _), (4, _), (3, _), (2, _), (0, _), (1, _)] dX6_staffIn_12 (by decide) rfl ?_
  have L14 : ∀ (n : Nat) (i s : Nat), (i ≤ 8) → (s = sm (fun x => ct (wrkB S (q / 10) (q % 10) x)) i) → (8 + 1 ≤ i + n) → JJ K D 0 0 (WC ad Y (T, e)) [(0, .ref (ad 16)), (1, .int (nI q)), (2, .int (nI s)), (3, .ref (ad 11)), (4, .int (nI 8)), (5, .int (nI i))] 14 [] := by
    intro n
    induction n with
    | zero =>
      intro i s hi hs hf14
      exact absurd hf14 (by omega)
    | succ n14 ih14 =>
      intro i s hi hs hf14
      refine j_iload X dX6_staffIn_14 5 rfl ?_
      refine j_iload X dX6_staffIn_16 4 rfl ?_
      refine n_icmp_ge (tgt := 53) X dX6_staffIn_18 (by decide) (by omega) (by omega) (fun c_18 => ?_) (fun c_18 => ?_)
      · have hi2 : i = 8 := by omega
        subst hi2
        refine j_iload_n X dX6_staffIn_53 rfl 2 rfl ?_
        exact j_ireturn X E ((T, e)) rfl ⟨_, rfl, _, hs, by have := staff_le S (q / 10) (q % 10); rw [hs]; exact this, rfl, rfl⟩ dX6_staffIn_54
      · refine j_aload_n X dX6_staffIn_21 rfl 3 rfl ?_
        refine j_iload X dX6_staffIn_22 5 rfl ?_
        refine jc_ed X hR (by omega) dX6_staffIn_24 (fun a_24 q_24 r_24 m_24 p_24 => ?_) (fun q_24 r_24 => ?_)
        · refine j_astore X [(6, _), (0, _), (1, _), (2, _), (3, _), (4, _), (5, _)] dX6_staffIn_25 (by decide) rfl ?_
          refine j_aload X dX6_staffIn_27 0 rfl ?_
          refine j_ifnull X dX6_staffIn_29 ?_
          refine j_aload X dX6_staffIn_32 0 rfl ?_
          refine jc_pget X ly_X2 m_24 p_24 rfl 0 (by decide) f_X6_153 rfl dX6_staffIn_34 ?_
          refine j_iload_n X dX6_staffIn_37 rfl 2 rfl ?_
          refine jst_call2 X hK (m_X6_hasHour _ _ (by omega)) m_X6_205 (by decide) (by decide) (Nat.le_of_ble_eq_true rfl) ⟨by decide, by decide⟩ dX6_staffIn_38 ?_
          refine b_if_eq (tgt := 47) X dX6_staffIn_41 (by decide) (fun c_41 => ?_) (fun c_41 => ?_)
          · refine n_iinc X [(5, _), (6, _), (0, _), (1, _), (2, _), (3, _), (4, _)] dX6_staffIn_47 (q := 6) (b := 1) rfl (by decide) (by decide) rfl ?_
            refine j_goto (tgt := 14) X dX6_staffIn_50 (by decide) ?_
            exact j_sub [2, 3, 4, 5, 6, 0] rfl (ih14 _ _ (by omega) (by rw [sm_s, wrk_sp, q_24, hs]; rw [c_41]; rfl) (by omega))
          · refine n_iinc X [(2, _), (6, _), (0, _), (1, _), (3, _), (4, _), (5, _)] dX6_staffIn_44 (q := 3) (b := 1) rfl (by decide) (by decide) rfl ?_
            refine n_iinc X [(5, _), (2, _), (6, _), (0, _), (1, _), (3, _), (4, _)] dX6_staffIn_47 (q := 6) (b := 1) rfl (by decide) (by decide) rfl ?_
            refine j_goto (tgt := 14) X dX6_staffIn_50 (by decide) ?_
            exact j_sub [3, 4, 1, 5, 6, 0] rfl (ih14 _ _ (by omega) (by rw [sm_s, wrk_sp, q_24, hs]; rw [c_41]; rfl) (by omega))
        · refine j_astoreN X [(6, _), (0, _), (1, _), (2, _), (3, _), (4, _), (5, _)] dX6_staffIn_25 (by decide) rfl ?_
          refine j_aloadN X dX6_staffIn_27 0 rfl ?_
          refine j_ifnullN (tgt := 47) X dX6_staffIn_29 (by decide) ?_
          refine n_iinc X [(5, _), (6, _), (0, _), (1, _), (2, _), (3, _), (4, _)] dX6_staffIn_47 (q := 6) (b := 1) rfl (by decide) (by decide) rfl ?_
          refine j_goto (tgt := 14) X dX6_staffIn_50 (by decide) ?_
          exact j_sub [2, 3, 4, 5, 6, 0] rfl (ih14 _ _ (by omega) (by rw [sm_s, wrk_sp, q_24, hs]; rfl) (by omega))
  exact j_sub [4, 5, 3, 2, 1, 0] rfl (L14 9 _ _ (by omega) (by rfl) (by omega))
set_option maxRecDepth 100000 in
set_option maxHeartbeats 4000000 in
theorem m_X6_areHeadsSafe {S : MS} {G : Nat → Nat} {T : CT} {e : CE} (hR : RG S G T e) (q : Nat) (hq : q < 50) (m : Int32) (hm : isMore m) (hcn : ∀ g, g < 3 → T 7 g = nI (cntN S (q / 10) (q % 10) m g)) : CF zX6_areHeadsSafe 16 3 0 0 [.int (nI q)] (T, e) (pBc (T, e) (safeB S (q / 10) (q % 10) m)) := by
  intro D Y ad
  refine MT.of [(0, .ref (ad 16)), (1, .int (nI q))] (by decide) rfl (Nat.le_of_ble_eq_true rfl) ?_
  intro K hK X E
  refine j_aload_n X dX6_areHeadsSafe_0 rfl 0 rfl ?_
  refine j_getf X ly_X6 0 rfl rfl 9 (by decide) f_X6_55 rfl dX6_areHeadsSafe_1 ?_
  refine jc_call15I0 (mc := 0) (ms := 0) X hK (total_m m hcn) m_X6_182 rfl (by decide) (by decide) (Nat.le_of_ble_eq_true rfl) ⟨by decide, by decide⟩ dX6_areHeadsSafe_4 ?_
  rintro _ _ ⟨v_4, e_4, b_4, rfl, rfl⟩
  refine j_aload_n X dX6_areHeadsSafe_7 rfl 0 rfl ?_
  refine j_getf X ly_X6 0 rfl rfl 4 (by decide) f_X6_28 rfl dX6_areHeadsSafe_8 ?_
  refine z_as (nI (S 21 1)) hR.room ?_
  refine n_name (fun v_8 e_8 => ?_)
  have b_8 : v_8 < 16777216 := by rw [e_8]; exact hR.hB _ _
  refine n_icmp_gt (tgt := 51) X dX6_areHeadsSafe_11 (by decide) (by omega) (by omega) (fun c_11 => ?_) (fun c_11 => ?_)
  · refine j_iconst (v := bI false) X dX6_areHeadsSafe_51 (by decide) ?_
    exact j_zreturn X E ((T, e)) rfl ⟨_, rfl, by congr 1; symm; unfold safeB; rw [← e_4, ← e_8]; simp <;> omega, rfl⟩ dX6_areHeadsSafe_52
  · refine j_aload_n X dX6_areHeadsSafe_14 rfl 0 rfl ?_
    refine j_getf X ly_X6 0 rfl rfl 9 (by decide) f_X6_55 rfl dX6_areHeadsSafe_15 ?_
    refine j_aload_n X dX6_areHeadsSafe_18 rfl 0 rfl ?_
    refine j_getf X ly_X6 0 rfl rfl 2 (by decide) f_X6_21 rfl dX6_areHeadsSafe_19 ?_
    refine j_iconst (v := nI 0) X dX6_areHeadsSafe_22 (by decide) ?_
    refine jc_ald X (by decide) (by decide) (by show _ < 3; omega) dX6_areHeadsSafe_23 ?_
    rw [hR.t0 (by omega)]
    refine n_name (fun v_23 e_23 => ?_)
    have b_23 : v_23 < 16777216 := by rw [e_23]; exact hR.hB _ _
    refine j_aload_n X dX6_areHeadsSafe_24 rfl 0 rfl ?_
    refine j_getf X ly_X6 0 rfl rfl 2 (by decide) f_X6_21 rfl dX6_areHeadsSafe_25 ?_
    refine j_iconst (v := nI 1) X dX6_areHeadsSafe_28 (by decide) ?_
    refine jc_ald X (by decide) (by decide) (by show _ < 3; omega) dX6_areHeadsSafe_29 ?_
    rw [hR.t0 (by omega)]
    refine n_name (fun v_29 e_29 => ?_)
    have b_29 : v_29 < 16777216 := by rw [e_29]; exact hR.hB _ _
    refine j_aload_n X dX6_areHeadsSafe_30 rfl 0 rfl ?_
    refine j_getf X ly_X6 0 rfl rfl 2 (by decide) f_X6_21 rfl dX6_areHeadsSafe_31 ?_
    refine j_iconst (v := nI 2) X dX6_areHeadsSafe_34 (by decide) ?_
    refine jc_ald X (by decide) (by decide) (by show _ < 3; omega) dX6_areHeadsSafe_35 ?_
    rw [hR.t0 (by omega)]
    refine n_name (fun v_35 e_35 => ?_)
    have b_35 : v_35 < 16777216 := by rw [e_35]; exact hR.hB _ _
    refine jc_call15I3 (mc := 0) (ms := 0) X hK (need_m hR m hcn e_23 e_29 e_35) m_X6_215 rfl (by decide) (by decide) (Nat.le_of_ble_eq_true rfl) ⟨by decide, by decide⟩ dX6_areHeadsSafe_36 ?_
    rintro _ _ ⟨v_36, e_36, b_36, rfl, rfl⟩
    refine j_aload_n X dX6_areHeadsSafe_39 rfl 0 rfl ?_
    refine j_iload_n X dX6_areHeadsSafe_40 rfl 1 rfl ?_
    refine jc_call16I1 (mc := 0) (ms := 0) X hK (m_X6_staffIn hR _ (by omega)) m_X6_188 rfl (by decide) (by decide) (Nat.le_of_ble_eq_true rfl) ⟨by decide, by decide⟩ dX6_areHeadsSafe_41 ?_
    rintro _ _ ⟨v_41, e_41, b_41, rfl, rfl⟩
    refine n_icmp_gt (tgt := 51) X dX6_areHeadsSafe_44 (by decide) (by omega) (by omega) (fun c_44 => ?_) (fun c_44 => ?_)
    · refine j_iconst (v := bI false) X dX6_areHeadsSafe_51 (by decide) ?_
      exact j_zreturn X E ((T, e)) rfl ⟨_, rfl, by congr 1; symm; unfold safeB; rw [← e_4, ← e_8]; simp; rw [← e_36, ← e_41] <;> omega, rfl⟩ dX6_areHeadsSafe_52
    · refine j_iconst (v := bI true) X dX6_areHeadsSafe_47 (by decide) ?_
      refine j_goto (tgt := 52) X dX6_areHeadsSafe_48 (by decide) ?_
      exact j_zreturn X E ((T, e)) rfl ⟨_, rfl, by congr 1; symm; unfold safeB; rw [← e_4, ← e_8]; simp; rw [← e_36, ← e_41] <;> omega, rfl⟩ dX6_areHeadsSafe_52
set_option maxRecDepth 100000 in
set_option maxHeartbeats 4000000 in
theorem m_X6_areSafeWith {S : MS} {G : Nat → Nat} {T : CT} {e : CE} (hR : RG S G T e) (p : Nat → Bool) {a : Nat} (c : Nat) (hc : c < 24) (hm : a ∈ eL e) (hp : eP e a = chE S c) : CF zX6_areSafeWith 16 4 0 0 [.long (msk p 50), .ref a] (T, e) (pBs [7] T e (andN (fun q => !p q || sfB S c q) 50)) := by
  intro D Y ad
  refine MT.of [(0, .ref (ad 16)), (1, .long (msk p 50)), (3, .ref a)] (by decide) rfl (Nat.le_of_ble_eq_true rfl) ?_
  intro K hK X E
  refine j_iconst (v := nI 0) X dX6_areSafeWith_0 (by decide) ?_
  refine j_istore X [(4, _), (0, _), (1, _), (3, _)] dX6_areSafeWith_1 (by decide) rfl ?_
  have L3 : ∀ (n : Nat) (q : Nat) (T1 : CT), (q ≤ 50) → (SM [7] T T1) → (RG S G T1 e) → (andN (fun q => !p q || sfB S c q) q = true) → (50 + 1 ≤ q + n) → JJ K D 0 0 (WC ad Y (T1, e)) [(0, .ref (ad 16)), (1, .long (msk p 50)), (3, .ref a), (4, .int (nI q))] 3 [] := by
    intro n
    induction n with
    | zero =>
      intro q T1 hq hs hR1 hn hf3
      exact absurd hf3 (by omega)
    | succ n3 ih3 =>
      intro q T1 hq hs hR1 hn hf3
      refine j_iload X dX6_areSafeWith_3 3 rfl ?_
      refine j_bipush (v := nI 50) X dX6_areSafeWith_5 (by decide) ?_
      refine n_icmp_ge (tgt := 53) X dX6_areSafeWith_7 (by decide) (by omega) (by omega) (fun c_7 => ?_) (fun c_7 => ?_)
      · have hq2 : q = 50 := by omega
        subst hq2
        refine j_iconst (v := bI true) X dX6_areSafeWith_53 (by decide) ?_
        exact j_zreturn X E ((T1, e)) rfl ⟨_, rfl, _, by rw [hn], rfl, hs⟩ dX6_areSafeWith_54
      · refine j_lload_n X dX6_areSafeWith_10 rfl 1 rfl ?_
        refine j_iload X dX6_areSafeWith_11 3 rfl ?_
        refine jst_call2 X hK (m_X6_hasHour _ _ (by omega)) m_X6_205 (by decide) (by decide) (Nat.le_of_ble_eq_true rfl) ⟨by decide, by decide⟩ dX6_areSafeWith_13 ?_
        refine b_if_eq (tgt := 47) X dX6_areSafeWith_16 (by decide) (fun c_16 => ?_) (fun c_16 => ?_)
        · refine n_iinc X [(4, _), (0, _), (1, _), (3, _)] dX6_areSafeWith_47 (q := 3) (b := 1) rfl (by decide) (by decide) rfl ?_
          refine j_goto (tgt := 3) X dX6_areSafeWith_50 (by decide) ?_
          exact j_sub [1, 2, 3, 0] rfl (ih3 _ _ (by omega) (by exact hs) (by exact hR1) (by rw [andN, hn]; rw [c_16]; rfl) (by omega))
        · refine j_aload_n X dX6_areSafeWith_19 rfl 0 rfl ?_
          refine j_iload X dX6_areSafeWith_20 3 rfl ?_
          refine jc_call16V1 (mc := 0) (ms := 0) X hK (m_X6_countHeads hR1 _ (by omega)) m_X6_178 rfl (by decide) (by decide) (Nat.le_of_ble_eq_true rfl) ⟨by decide, by decide⟩ dX6_areSafeWith_22 ?_
          rintro _ ⟨T_22, rfl, s_22, h_22⟩
          have hR_22 := hR1.sm s_22 (by decide)
          refine j_aload_n X dX6_areSafeWith_25 rfl 0 rfl ?_
          refine j_getf X ly_X6 0 rfl rfl 9 (by decide) f_X6_55 rfl dX6_areSafeWith_26 ?_
          refine j_aload_n X dX6_areSafeWith_29 rfl 2 rfl ?_
          refine jc_callPI0 X hK (m_X0_group hR_22 _ (by omega) hm hp) m_X6_209 hm hp rfl rfl (by decide) (by decide) (Nat.le_of_ble_eq_true rfl) ⟨by decide, by decide⟩ dX6_areSafeWith_30 ?_
          rintro _ _ ⟨v_30, e_30, b_30, rfl, rfl⟩
          refine jc_call15V1 (mc := 0) (ms := 0) X hK (m_X3_add (fun g => presN S (q / 10) (q % 10) (nI g)) h_22 (fun g hg => Nat.le_trans (pres_le _ _ _ _) (by omega)) _ (by omega)) m_X6_212 rfl (by decide) (by decide) (Nat.le_of_ble_eq_true rfl) ⟨by decide, by decide⟩ dX6_areSafeWith_33 ?_
          rintro _ ⟨T_33, rfl, s_33, h_33⟩
          have hR_33 := hR_22.sm s_33 (by decide)
          have hcc : ∀ g, g < 3 → T_33 7 g = nI (cntN S (q / 10) (q % 10) (nI c) g) := fun g hg => by rw [h_33 g hg, e_30]; unfold cntN; rw [add_c hc]
          refine j_aload_n X dX6_areSafeWith_36 rfl 0 rfl ?_
          refine j_iload X dX6_areSafeWith_37 3 rfl ?_
          refine jc_call16I1 (mc := 0) (ms := 0) X hK (m_X6_areHeadsSafe hR_33 _ (by omega) (nI c) (isMore_c hc) hcc) m_X6_191 rfl (by decide) (by decide) (Nat.le_of_ble_eq_true rfl) ⟨by decide, by decide⟩ dX6_areSafeWith_39 ?_
          rintro _ _ ⟨rfl, rfl⟩
          refine b_if_ne (tgt := 47) X dX6_areSafeWith_42 (by decide) (fun c_42 => ?_) (fun c_42 => ?_)
          · refine n_iinc X [(4, _), (0, _), (1, _), (3, _)] dX6_areSafeWith_47 (q := 3) (b := 1) rfl (by decide) (by decide) rfl ?_
            refine j_goto (tgt := 3) X dX6_areSafeWith_50 (by decide) ?_
            exact j_sub [1, 2, 3, 0] rfl (ih3 _ _ (by omega) (by exact ((hs.trans s_22).trans s_33)) (by exact hR_33) (by rw [andN, hn]; rw [c_16]; show (true && (!true || sfB S c q)) = true; unfold sfB; rw [c_42]; rfl) (by omega))
          · refine j_iconst (v := bI false) X dX6_areSafeWith_45 (by decide) ?_
            exact j_zreturn X E ((T_33, e)) rfl ⟨_, rfl, _, by rw [andN_no (k := q + 1) (by omega) (by rw [andN, hn]; show (true && (!p q || sfB S c q)) = false; rw [c_16]; unfold sfB; rw [c_42]; rfl)], rfl, (hs.trans s_22).trans s_33⟩ dX6_areSafeWith_46
  exact j_sub [1, 2, 3, 0] rfl (L3 51 _ _ (by omega) (by exact SM.refl _ _) (by exact hR) (by rfl) (by omega))
set_option maxRecDepth 100000 in
set_option maxHeartbeats 4000000 in
theorem m_X6_canBeAdmitted {S : MS} {G : Nat → Nat} {T : CT} {e : CE} (hR : RG S G T e) {a : Nat} (c : Nat) (hc : c < 24) (hm : a ∈ eL e) (hp : eP e a = chE S c) : CF zX6_canBeAdmitted 16 5 0 0 [.ref a] (T, e) (pBs [7] T e (admB S c)) := by
  intro D Y ad
  refine MT.of [(0, .ref (ad 16)), (1, .ref a)] (by decide) rfl (Nat.le_of_ble_eq_true rfl) ?_
  intro K hK X E
  refine j_aload_n X dX6_canBeAdmitted_0 rfl 1 rfl ?_
  refine jc_pget X ly_X0 hm hp rfl 4 (by decide) f_X6_93 rfl dX6_canBeAdmitted_1 ?_
  refine j_lconst (v := lN 0) X dX6_canBeAdmitted_4 (by decide) ?_
  refine j_lcmp X dX6_canBeAdmitted_5 ?_
  refine j_if_eq (tgt := 25) X dX6_canBeAdmitted_6 (by decide) (fun c_6 => ?_) (fun c_6 => ?_)
  · have h0 : hoursN S c = 0 := (hours_0 hR.hI hc).mp (cmp_0 c_6)
    refine j_iconst (v := bI false) X dX6_canBeAdmitted_25 (by decide) ?_
    exact j_zreturn X E ((T, e)) rfl ⟨_, rfl, _, by rw [adm_is hR.hI hc, h0]; rfl, rfl, SM.refl _ _⟩ dX6_canBeAdmitted_26
  · have h0 : 0 < hoursN S c := Nat.pos_of_ne_zero (fun q => cmp_n c_6 ((hours_0 hR.hI hc).mpr q))
    refine j_aload_n X dX6_canBeAdmitted_9 rfl 0 rfl ?_
    refine j_aload_n X dX6_canBeAdmitted_10 rfl 1 rfl ?_
    refine jc_pget X ly_X0 hm hp rfl 4 (by decide) f_X6_93 rfl dX6_canBeAdmitted_11 ?_
    refine j_aload_n X dX6_canBeAdmitted_14 rfl 1 rfl ?_
    refine jc_call16I2 (mc := 0) (ms := 0) X hK (m_X6_areSafeWith hR _ _ (by omega) hm hp) m_X6_110 rfl (by decide) (by decide) (Nat.le_of_ble_eq_true rfl) ⟨by decide, by decide⟩ dX6_canBeAdmitted_15 ?_
    rintro _ _ ⟨T_15, rfl, rfl, s_15⟩
    have hR_15 := hR.sm s_15 (by decide)
    refine b_if_eq (tgt := 25) X dX6_canBeAdmitted_18 (by decide) (fun c_18 => ?_) (fun c_18 => ?_)
    · refine j_iconst (v := bI false) X dX6_canBeAdmitted_25 (by decide) ?_
      exact j_zreturn X E ((T_15, e)) rfl ⟨_, rfl, _, by rw [adm_is hR.hI hc, decide_eq_true h0, Bool.true_and, c_18], rfl, s_15⟩ dX6_canBeAdmitted_26
    · refine j_iconst (v := bI true) X dX6_canBeAdmitted_21 (by decide) ?_
      refine j_goto (tgt := 26) X dX6_canBeAdmitted_22 (by decide) ?_
      exact j_zreturn X E ((T_15, e)) rfl ⟨_, rfl, _, by rw [adm_is hR.hI hc, decide_eq_true h0, Bool.true_and, c_18], rfl, s_15⟩ dX6_canBeAdmitted_26
set_option maxRecDepth 100000 in
set_option maxHeartbeats 4000000 in
theorem m_X6_presentN {S : MS} {G : Nat → Nat} {T : CT} {e : CE} (hR : RG S G T e) (d h : Nat) (hd : d < 5) (hh : h < 10) : CF zX6_present 16 4 0 0 [.int (nI d), .int (nI h)] (T, e) (pNs [7] T e (presN S d h (-9)) 24) := by
  intro D Y ad
  refine MT.of [(0, .ref (ad 16)), (1, .int (nI d)), (2, .int (nI h))] (by decide) rfl (Nat.le_of_ble_eq_true rfl) ?_
  intro K hK X E
  refine j_iload_n X dX6_present_0 rfl 1 rfl ?_
  refine jst_call1 X hK (m_X6_isDay _) m_X6_85 (by decide) (by decide) (Nat.le_of_ble_eq_true rfl) ⟨by decide, by decide⟩ dX6_present_1 ?_
  refine b_if_eq (tgt := 14) X dX6_present_4 (by decide) (fun c_4 => ?_) (fun c_4 => ?_)
  · exact absurd c_4 (by rw [isDay_n hd]; decide)
  · refine j_iload_n X dX6_present_7 rfl 2 rfl ?_
    refine jst_call1 X hK (m_X6_isHour _) m_X6_171 (by decide) (by decide) (Nat.le_of_ble_eq_true rfl) ⟨by decide, by decide⟩ dX6_present_8 ?_
    refine b_if_ne (tgt := 16) X dX6_present_11 (by decide) (fun c_11 => ?_) (fun c_11 => ?_)
    · refine j_aload_n X dX6_present_16 rfl 0 rfl ?_
      refine j_iload_n X dX6_present_17 rfl 1 rfl ?_
      refine j_iload_n X dX6_present_18 rfl 2 rfl ?_
      refine jst_call2 X hK (m_X6_hourOfWeek _ _) m_X6_174 (by decide) (by decide) (Nat.le_of_ble_eq_true rfl) ⟨by decide, by decide⟩ dX6_present_19 ?_
      refine jc_call16V1 (mc := 0) (ms := 0) X hK (m_X6_countHeads hR _ (by omega)) m_X6_178 rfl (by decide) (by decide) (Nat.le_of_ble_eq_true rfl) ⟨by decide, by decide⟩ dX6_present_22 ?_
      rintro _ ⟨T_22, rfl, s_22, h_22⟩
      have hR_22 := hR.sm s_22 (by decide)
      refine j_aload_n X dX6_present_25 rfl 0 rfl ?_
      refine j_getf X ly_X6 0 rfl rfl 9 (by decide) f_X6_55 rfl dX6_present_26 ?_
      refine jc_call15I0 (mc := 0) (ms := 0) X hK (total_m (-9) (cnt_pres h_22)) m_X6_182 rfl (by decide) (by decide) (Nat.le_of_ble_eq_true rfl) ⟨by decide, by decide⟩ dX6_present_29 ?_
      rintro _ _ ⟨v_29, e_29, b_29, rfl, rfl⟩
      exact j_ireturn X E ((T_22, e)) rfl ⟨_, rfl, _, _, by rw [e_29, hw_d hh, hw_h hh]; rfl, by have := pres_le S d h (-9); rw [e_29, hw_d hh, hw_h hh]; exact this, rfl, rfl, s_22⟩ dX6_present_32
    · exact absurd c_11 (by rw [h9_n hh]; decide)

set_option maxRecDepth 100000 in
set_option maxHeartbeats 4000000 in
theorem m_X6_staffN {S : MS} {G : Nat → Nat} {T : CT} {e : CE} (hR : RG S G T e) (d h : Nat) (hd : d < 5) (hh : h < 10) : CF zX6_staff 16 3 0 0 [.int (nI d), .int (nI h)] (T, e) (pNc (T, e) (staffN S d h) 8) := by
  intro D Y ad
  refine MT.of [(0, .ref (ad 16)), (1, .int (nI d)), (2, .int (nI h))] (by decide) rfl (Nat.le_of_ble_eq_true rfl) ?_
  intro K hK X E
  refine j_iload_n X dX6_staff_0 rfl 1 rfl ?_
  refine jst_call1 X hK (m_X6_isDay _) m_X6_85 (by decide) (by decide) (Nat.le_of_ble_eq_true rfl) ⟨by decide, by decide⟩ dX6_staff_1 ?_
  refine b_if_eq (tgt := 14) X dX6_staff_4 (by decide) (fun c_4 => ?_) (fun c_4 => ?_)
  · exact absurd c_4 (by rw [isDay_n hd]; decide)
  · refine j_iload_n X dX6_staff_7 rfl 2 rfl ?_
    refine jst_call1 X hK (m_X6_isHour _) m_X6_171 (by decide) (by decide) (Nat.le_of_ble_eq_true rfl) ⟨by decide, by decide⟩ dX6_staff_8 ?_
    refine b_if_ne (tgt := 16) X dX6_staff_11 (by decide) (fun c_11 => ?_) (fun c_11 => ?_)
    · refine j_aload_n X dX6_staff_16 rfl 0 rfl ?_
      refine j_iload_n X dX6_staff_17 rfl 1 rfl ?_
      refine j_iload_n X dX6_staff_18 rfl 2 rfl ?_
      refine jst_call2 X hK (m_X6_hourOfWeek _ _) m_X6_174 (by decide) (by decide) (Nat.le_of_ble_eq_true rfl) ⟨by decide, by decide⟩ dX6_staff_19 ?_
      refine jc_call16I1 (mc := 0) (ms := 0) X hK (m_X6_staffIn hR _ (by omega)) m_X6_188 rfl (by decide) (by decide) (Nat.le_of_ble_eq_true rfl) ⟨by decide, by decide⟩ dX6_staff_22 ?_
      rintro _ _ ⟨v_22, e_22, b_22, rfl, rfl⟩
      exact j_ireturn X E ((T, e)) rfl ⟨_, rfl, _, by rw [e_22, hw_d hh, hw_h hh], b_22, rfl, rfl⟩ dX6_staff_25
    · exact absurd c_11 (by rw [h9_n hh]; decide)
set_option maxRecDepth 100000 in
set_option maxHeartbeats 4000000 in
theorem m_X6_present {S : MS} {G : Nat → Nat} {T : CT} {e : CE} (hR : RG S G T e) (x y : Int32) : CF zX6_present 16 4 0 0 [.int x, .int y] (T, e) (pZs [7] T e (presI S x y)) := by
  intro D Y ad
  refine MT.of [(0, .ref (ad 16)), (1, .int x), (2, .int y)] (by decide) rfl (Nat.le_of_ble_eq_true rfl) ?_
  intro K hK X E
  refine j_iload_n X dX6_present_0 rfl 1 rfl ?_
  refine jst_call1 X hK (m_X6_isDay _) m_X6_85 (by decide) (by decide) (Nat.le_of_ble_eq_true rfl) ⟨by decide, by decide⟩ dX6_present_1 ?_
  refine b_if_eq (tgt := 14) X dX6_present_4 (by decide) (fun c_4 => ?_) (fun c_4 => ?_)
  · refine j_iconst (v := (-1)) X dX6_present_14 (by decide) ?_
    exact j_ireturn X E ((T, e)) rfl ⟨_, rfl, _, by unfold presI isHourI; rw [c_4]; rfl, rfl, SM.refl _ _⟩ dX6_present_15
  · refine j_iload_n X dX6_present_7 rfl 2 rfl ?_
    refine jst_call1 X hK (m_X6_isHour _) m_X6_171 (by decide) (by decide) (Nat.le_of_ble_eq_true rfl) ⟨by decide, by decide⟩ dX6_present_8 ?_
    refine b_if_ne (tgt := 16) X dX6_present_11 (by decide) (fun c_11 => ?_) (fun c_11 => ?_)
    · obtain ⟨d, h, hd, hh, rfl, rfl⟩ := isHour_of c_4 c_11
      refine j_aload_n X dX6_present_16 rfl 0 rfl ?_
      refine j_iload_n X dX6_present_17 rfl 1 rfl ?_
      refine j_iload_n X dX6_present_18 rfl 2 rfl ?_
      refine jst_call2 X hK (m_X6_hourOfWeek _ _) m_X6_174 (by decide) (by decide) (Nat.le_of_ble_eq_true rfl) ⟨by decide, by decide⟩ dX6_present_19 ?_
      refine jc_call16V1 (mc := 0) (ms := 0) X hK (m_X6_countHeads hR _ (by omega)) m_X6_178 rfl (by decide) (by decide) (Nat.le_of_ble_eq_true rfl) ⟨by decide, by decide⟩ dX6_present_22 ?_
      rintro _ ⟨T_22, rfl, s_22, h_22⟩
      have hR_22 := hR.sm s_22 (by decide)
      refine j_aload_n X dX6_present_25 rfl 0 rfl ?_
      refine j_getf X ly_X6 0 rfl rfl 9 (by decide) f_X6_55 rfl dX6_present_26 ?_
      refine jc_call15I0 (mc := 0) (ms := 0) X hK (total_m (-9) (cnt_pres h_22)) m_X6_182 rfl (by decide) (by decide) (Nat.le_of_ble_eq_true rfl) ⟨by decide, by decide⟩ dX6_present_29 ?_
      rintro _ _ ⟨v_29, e_29, b_29, rfl, rfl⟩
      exact j_ireturn X E ((T_22, e)) rfl ⟨_, rfl, _, by unfold presI; rw [isHour_n hd hh, if_pos rfl]; rw [show tn (nI d) = d from nI_clamp (by omega), show tn (nI h) = h from nI_clamp (by omega)]; rw [e_29, hw_d hh, hw_h hh]; rfl, rfl, s_22⟩ dX6_present_32
    · refine j_iconst (v := (-1)) X dX6_present_14 (by decide) ?_
      exact j_ireturn X E ((T, e)) rfl ⟨_, rfl, _, by unfold presI isHourI; rw [c_4, c_11]; rfl, rfl, SM.refl _ _⟩ dX6_present_15
set_option maxRecDepth 100000 in
set_option maxHeartbeats 4000000 in
theorem m_X6_need {S : MS} {G : Nat → Nat} {T : CT} {e : CE} (hR : RG S G T e) (x y : Int32) : CF zX6_need 16 5 0 0 [.int x, .int y] (T, e) (pZs [7] T e (needI S x y)) := by
  intro D Y ad
  refine MT.of [(0, .ref (ad 16)), (1, .int x), (2, .int y)] (by decide) rfl (Nat.le_of_ble_eq_true rfl) ?_
  intro K hK X E
  refine j_iload_n X dX6_need_0 rfl 1 rfl ?_
  refine jst_call1 X hK (m_X6_isDay _) m_X6_85 (by decide) (by decide) (Nat.le_of_ble_eq_true rfl) ⟨by decide, by decide⟩ dX6_need_1 ?_
  refine b_if_eq (tgt := 14) X dX6_need_4 (by decide) (fun c_4 => ?_) (fun c_4 => ?_)
  · refine j_iconst (v := (-1)) X dX6_need_14 (by decide) ?_
    exact j_ireturn X E ((T, e)) rfl ⟨_, rfl, _, by unfold needI isHourI; rw [c_4]; rfl, rfl, SM.refl _ _⟩ dX6_need_15
  · refine j_iload_n X dX6_need_7 rfl 2 rfl ?_
    refine jst_call1 X hK (m_X6_isHour _) m_X6_171 (by decide) (by decide) (Nat.le_of_ble_eq_true rfl) ⟨by decide, by decide⟩ dX6_need_8 ?_
    refine b_if_ne (tgt := 16) X dX6_need_11 (by decide) (fun c_11 => ?_) (fun c_11 => ?_)
    · obtain ⟨d, h, hd, hh, rfl, rfl⟩ := isHour_of c_4 c_11
      refine j_aload_n X dX6_need_16 rfl 0 rfl ?_
      refine j_iload_n X dX6_need_17 rfl 1 rfl ?_
      refine j_iload_n X dX6_need_18 rfl 2 rfl ?_
      refine jst_call2 X hK (m_X6_hourOfWeek _ _) m_X6_174 (by decide) (by decide) (Nat.le_of_ble_eq_true rfl) ⟨by decide, by decide⟩ dX6_need_19 ?_
      refine jc_call16I1 (mc := 0) (ms := 0) X hK (m_X6_needIn hR _ (by omega)) m_X6_185 rfl (by decide) (by decide) (Nat.le_of_ble_eq_true rfl) ⟨by decide, by decide⟩ dX6_need_22 ?_
      rintro _ _ ⟨v_22, T_22, e_22, b_22, rfl, rfl, s_22, h_22⟩
      have hR_22 := hR.sm s_22 (by decide)
      exact j_ireturn X E ((T_22, e)) rfl ⟨_, rfl, _, by unfold needI; rw [isHour_n hd hh, if_pos rfl]; rw [show tn (nI d) = d from nI_clamp (by omega), show tn (nI h) = h from nI_clamp (by omega)]; rw [e_22, hw_d hh, hw_h hh], rfl, s_22⟩ dX6_need_25
    · refine j_iconst (v := (-1)) X dX6_need_14 (by decide) ?_
      exact j_ireturn X E ((T, e)) rfl ⟨_, rfl, _, by unfold needI isHourI; rw [c_4, c_11]; rfl, rfl, SM.refl _ _⟩ dX6_need_15
set_option maxRecDepth 100000 in
set_option maxHeartbeats 4000000 in
theorem m_X6_staff {S : MS} {G : Nat → Nat} {T : CT} {e : CE} (hR : RG S G T e) (x y : Int32) : CF zX6_staff 16 3 0 0 [.int x, .int y] (T, e) (pZc (T, e) (stafI S x y)) := by
  intro D Y ad
  refine MT.of [(0, .ref (ad 16)), (1, .int x), (2, .int y)] (by decide) rfl (Nat.le_of_ble_eq_true rfl) ?_
  intro K hK X E
  refine j_iload_n X dX6_staff_0 rfl 1 rfl ?_
  refine jst_call1 X hK (m_X6_isDay _) m_X6_85 (by decide) (by decide) (Nat.le_of_ble_eq_true rfl) ⟨by decide, by decide⟩ dX6_staff_1 ?_
  refine b_if_eq (tgt := 14) X dX6_staff_4 (by decide) (fun c_4 => ?_) (fun c_4 => ?_)
  · refine j_iconst (v := (-1)) X dX6_staff_14 (by decide) ?_
    exact j_ireturn X E ((T, e)) rfl ⟨_, rfl, by unfold stafI isHourI; rw [c_4]; rfl, rfl⟩ dX6_staff_15
  · refine j_iload_n X dX6_staff_7 rfl 2 rfl ?_
    refine jst_call1 X hK (m_X6_isHour _) m_X6_171 (by decide) (by decide) (Nat.le_of_ble_eq_true rfl) ⟨by decide, by decide⟩ dX6_staff_8 ?_
    refine b_if_ne (tgt := 16) X dX6_staff_11 (by decide) (fun c_11 => ?_) (fun c_11 => ?_)
    · obtain ⟨d, h, hd, hh, rfl, rfl⟩ := isHour_of c_4 c_11
      refine j_aload_n X dX6_staff_16 rfl 0 rfl ?_
      refine j_iload_n X dX6_staff_17 rfl 1 rfl ?_
      refine j_iload_n X dX6_staff_18 rfl 2 rfl ?_
      refine jst_call2 X hK (m_X6_hourOfWeek _ _) m_X6_174 (by decide) (by decide) (Nat.le_of_ble_eq_true rfl) ⟨by decide, by decide⟩ dX6_staff_19 ?_
      refine jc_call16I1 (mc := 0) (ms := 0) X hK (m_X6_staffIn hR _ (by omega)) m_X6_188 rfl (by decide) (by decide) (Nat.le_of_ble_eq_true rfl) ⟨by decide, by decide⟩ dX6_staff_22 ?_
      rintro _ _ ⟨v_22, e_22, b_22, rfl, rfl⟩
      exact j_ireturn X E ((T, e)) rfl ⟨_, rfl, by unfold stafI; rw [isHour_n hd hh, if_pos rfl]; rw [show tn (nI d) = d from nI_clamp (by omega), show tn (nI h) = h from nI_clamp (by omega)]; rw [e_22, hw_d hh, hw_h hh], rfl⟩ dX6_staff_25
    · refine j_iconst (v := (-1)) X dX6_staff_14 (by decide) ?_
      exact j_ireturn X E ((T, e)) rfl ⟨_, rfl, by unfold stafI isHourI; rw [c_4, c_11]; rfl, rfl⟩ dX6_staff_15
set_option maxRecDepth 100000 in
set_option maxHeartbeats 4000000 in
theorem m_X6_unsafeHours {S : MS} {G : Nat → Nat} {T : CT} {e : CE} (hR : RG S G T e) : CF zX6_unsafeHours 16 5 0 0 [] (T, e) (pNs [7] T e (usfN S) 50) := by
  intro D Y ad
  refine MT.of [(0, .ref (ad 16))] (by decide) rfl (Nat.le_of_ble_eq_true rfl) ?_
  intro K hK X E
  refine j_iconst (v := nI 0) X dX6_unsafeHours_0 (by decide) ?_
  refine j_istore_n X [(1, _), (0, _)] dX6_unsafeHours_1 rfl (by decide) rfl ?_
  refine j_iconst (v := nI 0) X dX6_unsafeHours_2 (by decide) ?_
  refine j_istore_n X [(2, _), (1, _), (0, _)] dX6_unsafeHours_3 rfl (by decide) rfl ?_
  have L4 : ∀ (n : Nat) (q s : Nat) (T1 : CT), (q ≤ 50) → (SM [7] T T1) → (RG S G T1 e) → (s = sm (fun q => ct (!safeB S (q / 10) (q % 10) (-9))) q) → (50 + 1 ≤ q + n) → JJ K D 0 0 (WC ad Y (T1, e)) [(0, .ref (ad 16)), (1, .int (nI s)), (2, .int (nI q))] 4 [] := by
    intro n
    induction n with
    | zero =>
      intro q s T1 hq hsm hR1 hs hf4
      exact absurd hf4 (by omega)
    | succ n4 ih4 =>
      intro q s T1 hq hsm hR1 hs hf4
      refine j_iload_n X dX6_unsafeHours_4 rfl 2 rfl ?_
      refine j_bipush (v := nI 50) X dX6_unsafeHours_5 (by decide) ?_
      refine n_icmp_ge (tgt := 32) X dX6_unsafeHours_7 (by decide) (by omega) (by omega) (fun c_7 => ?_) (fun c_7 => ?_)
      · have hq2 : q = 50 := by omega
        subst hq2
        have hle : sm (fun q => ct (!safeB S (q / 10) (q % 10) (-9))) 50 ≤ 50 * 1 := sm_le (fun i hi => ct_le _)
        refine j_iload_n X dX6_unsafeHours_32 rfl 1 rfl ?_
        exact j_ireturn X E ((T1, e)) rfl ⟨_, rfl, _, _, by rw [hs, usf_is], by omega, rfl, rfl, hsm⟩ dX6_unsafeHours_33
      · refine j_aload_n X dX6_unsafeHours_10 rfl 0 rfl ?_
        refine j_iload_n X dX6_unsafeHours_11 rfl 2 rfl ?_
        refine jc_call16V1 (mc := 0) (ms := 0) X hK (m_X6_countHeads hR1 _ (by omega)) m_X6_178 rfl (by decide) (by decide) (Nat.le_of_ble_eq_true rfl) ⟨by decide, by decide⟩ dX6_unsafeHours_12 ?_
        rintro _ ⟨T_12, rfl, s_12, h_12⟩
        have hR_12 := hR1.sm s_12 (by decide)
        refine j_aload_n X dX6_unsafeHours_15 rfl 0 rfl ?_
        refine j_iload_n X dX6_unsafeHours_16 rfl 2 rfl ?_
        refine jc_call16I1 (mc := 0) (ms := 0) X hK (m_X6_areHeadsSafe hR_12 _ (by omega) (-9) isMore_9 (cnt_pres h_12)) m_X6_191 rfl (by decide) (by decide) (Nat.le_of_ble_eq_true rfl) ⟨by decide, by decide⟩ dX6_unsafeHours_17 ?_
        rintro _ _ ⟨rfl, rfl⟩
        refine b_if_ne (tgt := 26) X dX6_unsafeHours_20 (by decide) (fun c_20 => ?_) (fun c_20 => ?_)
        · refine n_iinc X [(2, _), (0, _), (1, _)] dX6_unsafeHours_26 (q := 2) (b := 1) rfl (by decide) (by decide) rfl ?_
          refine j_goto (tgt := 4) X dX6_unsafeHours_29 (by decide) ?_
          exact j_sub [1, 2, 0] rfl (ih4 _ _ _ (by omega) (by exact hsm.trans s_12) (by exact hR_12) (by rw [sm_s, hs, c_20]; rfl) (by omega))
        · refine n_iinc X [(1, _), (0, _), (2, _)] dX6_unsafeHours_23 (q := 1) (b := 1) rfl (by decide) (by decide) rfl ?_
          refine n_iinc X [(2, _), (1, _), (0, _)] dX6_unsafeHours_26 (q := 2) (b := 1) rfl (by decide) (by decide) rfl ?_
          refine j_goto (tgt := 4) X dX6_unsafeHours_29 (by decide) ?_
          exact j_sub [2, 1, 0] rfl (ih4 _ _ _ (by omega) (by exact hsm.trans s_12) (by exact hR_12) (by rw [sm_s, hs, c_20]; rfl) (by omega))
  exact j_sub [2, 1, 0] rfl (L4 51 _ _ _ (by omega) (by exact SM.refl _ _) (by exact hR) (by rfl) (by omega))
set_option maxRecDepth 100000 in
set_option maxHeartbeats 4000000 in
theorem m_X6_load {S : MS} {G : Nat → Nat} {T : CT} {e : CE} (hR : RG S G T e) (x : Int32) : CF zX6_load 16 5 0 0 [.int x] (T, e) (pD (fun r u => ∃ T' : CT, loadI S x = r ∧ (T', e) = u ∧ SM [7] T T')) := by
  intro D Y ad
  refine MT.of [(0, .ref (ad 16)), (1, .int x)] (by decide) rfl (Nat.le_of_ble_eq_true rfl) ?_
  intro K hK X E
  refine j_iload_n X dX6_load_0 rfl 1 rfl ?_
  refine jst_call1 X hK (m_X6_isDay _) m_X6_85 (by decide) (by decide) (Nat.le_of_ble_eq_true rfl) ⟨by decide, by decide⟩ dX6_load_1 ?_
  refine b_if_ne (tgt := 11) X dX6_load_4 (by decide) (fun c_4 => ?_) (fun c_4 => ?_)
  · obtain ⟨d, hd5, rfl⟩ := within_0 (by decide) c_4
    have hd : d < 5 := by omega
    refine j_iconst (v := nI 0) X dX6_load_11 (by decide) ?_
    refine j_istore_n X [(2, _), (0, _), (1, _)] dX6_load_12 rfl (by decide) rfl ?_
    refine j_iconst (v := nI 0) X dX6_load_13 (by decide) ?_
    refine j_istore_n X [(3, _), (2, _), (0, _), (1, _)] dX6_load_14 rfl (by decide) rfl ?_
    refine j_iconst (v := nI 0) X dX6_load_15 (by decide) ?_
    refine j_istore X [(4, _), (3, _), (2, _), (0, _), (1, _)] dX6_load_16 (by decide) rfl ?_
    have L18 : ∀ (n : Nat) (h a b : Nat) (T1 : CT), (h ≤ 10) → (SM [7] T T1) → (RG S G T1 e) → (a = sm (fun h => presN S d h (-9)) h) → (b = sm (fun h => staffN S d h) h) → (a ≤ 24 * h ∧ b ≤ 8 * h) → (10 + 1 ≤ h + n) → JJ K D 0 0 (WC ad Y (T1, e)) [(0, .ref (ad 16)), (1, .int (nI d)), (2, .int (nI a)), (3, .int (nI b)), (4, .int (nI h))] 18 [] := by
      intro n
      induction n with
      | zero =>
        intro h a b T1 hh hsm hR1 ha hb hab hf18
        exact absurd hf18 (by omega)
      | succ n18 ih18 =>
        intro h a b T1 hh hsm hR1 ha hb hab hf18
        refine j_iload X dX6_load_18 4 rfl ?_
        refine j_bipush (v := nI 10) X dX6_load_20 (by decide) ?_
        refine n_icmp_ge (tgt := 51) X dX6_load_22 (by decide) (by omega) (by omega) (fun c_22 => ?_) (fun c_22 => ?_)
        · have hh2 : h = 10 := by omega
          subst hh2
          have hld : loadI S (nI d) = quoI a b := by unfold loadI; rw [c_4, if_pos rfl, show tn (nI d) = d from nI_clamp (by omega), ha, hb]
          refine j_iload_n X dX6_load_51 rfl 3 rfl ?_
          refine n_if_ne (tgt := 57) X dX6_load_52 (by decide) (by omega) (fun c_52 => ?_) (fun c_52 => ?_)
          · refine j_iload_n X dX6_load_57 rfl 2 rfl ?_
            refine j_i2d X dX6_load_58 ?_
            refine j_iload_n X dX6_load_59 rfl 3 rfl ?_
            refine j_i2d X dX6_load_60 ?_
            refine j_ddiv X dX6_load_61 (nI_ne0 (by omega) (by omega)) ?_
            exact j_dreturn X E ((T1, e)) rfl ⟨_, rfl, _, by rw [hld]; unfold quoI; rw [if_neg (by omega)], rfl, hsm⟩ dX6_load_62
          · refine j_dconst0 X dX6_load_55 ?_
            exact j_dreturn X E ((T1, e)) rfl ⟨_, rfl, _, by rw [hld]; unfold quoI; rw [if_pos (by omega)], rfl, hsm⟩ dX6_load_56
        · refine j_iload_n X dX6_load_25 rfl 2 rfl ?_
          refine j_aload_n X dX6_load_26 rfl 0 rfl ?_
          refine j_iload_n X dX6_load_27 rfl 1 rfl ?_
          refine j_iload X dX6_load_28 4 rfl ?_
          refine jc_call16I2 (mc := 0) (ms := 0) X hK (m_X6_presentN hR1 _ _ hd (by omega)) m_X6_196 rfl (by decide) (by decide) (Nat.le_of_ble_eq_true rfl) ⟨by decide, by decide⟩ dX6_load_30 ?_
          rintro _ _ ⟨v_30, T_30, e_30, b_30, rfl, rfl, s_30⟩
          have hR_30 := hR1.sm s_30 (by decide)
          refine n_iadd X dX6_load_33 ?_
          refine j_istore_n X [(2, _), (0, _), (1, _), (3, _), (4, _)] dX6_load_34 rfl (by decide) rfl ?_
          refine j_iload_n X dX6_load_35 rfl 3 rfl ?_
          refine j_aload_n X dX6_load_36 rfl 1 rfl ?_
          refine j_iload_n X dX6_load_37 rfl 2 rfl ?_
          refine j_iload X dX6_load_38 4 rfl ?_
          refine jc_call16I2 (mc := 0) (ms := 0) X hK (m_X6_staffN hR_30 _ _ hd (by omega)) m_X6_199 rfl (by decide) (by decide) (Nat.le_of_ble_eq_true rfl) ⟨by decide, by decide⟩ dX6_load_40 ?_
          rintro _ _ ⟨v_40, e_40, b_40, rfl, rfl⟩
          refine n_iadd X dX6_load_43 ?_
          refine j_istore_n X [(3, _), (2, _), (0, _), (1, _), (4, _)] dX6_load_44 rfl (by decide) rfl ?_
          refine n_iinc X [(4, _), (3, _), (2, _), (0, _), (1, _)] dX6_load_45 (q := 4) (b := 1) rfl (by decide) (by decide) rfl ?_
          refine j_goto (tgt := 18) X dX6_load_48 (by decide) ?_
          exact j_sub [3, 4, 2, 1, 0] rfl (ih18 _ _ _ _ (by omega) (by exact hsm.trans s_30) (by exact hR_30) (by rw [sm_s]; omega) (by rw [sm_s]; omega) (by omega) (by omega))
    exact j_sub [3, 4, 2, 1, 0] rfl (L18 11 _ _ _ _ (by omega) (by exact SM.refl _ _) (by exact hR) (by rfl) (by rfl) (by omega) (by omega))
  · refine j_ldc2d X k_X6_194 dX6_load_7 ?_
    exact j_dreturn X E ((T, e)) rfl ⟨_, rfl, _, by unfold loadI; rw [c_4]; rfl, rfl, SM.refl _ _⟩ dX6_load_10

set_option maxRecDepth 100000 in
set_option maxHeartbeats 4000000 in
theorem m_X6_rebook {S : MS} {T : CT} {e : CE} (hR : RR S T e) {a : Nat} (c : Nat) (hc : c < 24) (hm : a ∈ eL e) (hp : eP e a = chE S c) (hr : eR e 0 c = some a) (h0 : S 0 c = 1) (p : Nat → Bool) {S2 : MS} (hp2 : ∀ q, q < 50 → p q = spP S2 5 c q) (hB2 : BD S2) (hI2 : IV S2) (ho : ∀ k j, k ≠ 5 → k ≠ 6 → S2 k j = S k j) (h5 : ∀ k j, k = 5 ∨ k = 6 → j / 5 ≠ c → S2 k j = S k j) : CF zX6_rebook 16 5 0 0 [.ref a, .long (msk p 50)] (T, e) (pI (fun r u => (if (decide (S 3 c = 1) && !andN (fun q => !(p q && !spP S 5 c q) || sfB S c q) 50) then -3 else nI (hoursN S2 c)) = r ∧ RR (if (decide (S 3 c = 1) && !andN (fun q => !(p q && !spP S 5 c q) || sfB S c q) 50) then S else S2) u.1 u.2)) := by
  intro D Y ad
  refine MT.of [(0, .ref (ad 16)), (1, .ref a), (2, .long (msk p 50))] (by decide) rfl (Nat.le_of_ble_eq_true rfl) ?_
  intro K hK X E
  refine j_lload_n X dX6_rebook_0 rfl 2 rfl ?_
  refine j_aload_n X dX6_rebook_1 rfl 1 rfl ?_
  refine jc_pget X ly_X0 hm hp rfl 4 (by decide) f_X6_93 rfl dX6_rebook_2 ?_
  refine j_ldc2 X k_X6_108 dX6_rebook_5 ?_
  refine j_lxor X dX6_rebook_8 ?_
  refine j_land X dX6_rebook_9 ?_
  rw [msk_less (by decide)]
  refine j_lstore X [(4, _), (0, _), (1, _), (2, _)] dX6_rebook_10 (by decide) rfl ?_
  refine j_aload_n X dX6_rebook_12 rfl 2 rfl ?_
  refine jc_pget X ly_X0 hm hp rfl 3 (by decide) f_X6_78 rfl dX6_rebook_13 ?_
  refine n_name (fun v_13 e_13 => ?_)
  have b_13 : v_13 < 16777216 := by rw [e_13]; exact hR.hB _ _
  refine n_if_eq (tgt := 32) X dX6_rebook_16 (by decide) (by omega) (fun c_16 => ?_) (fun c_16 => ?_)
  · have hno : (decide (S 3 c = 1) && !andN (fun q => !(p q && !spP S 5 c q) || sfB S c q) 50) = false := by rw [decide_eq_false (show ¬ S 3 c = 1 by omega)]; rfl
    refine j_aload_n X dX6_rebook_32 rfl 2 rfl ?_
    refine j_lload_n X dX6_rebook_33 rfl 3 rfl ?_
    refine jc_pput X ly_X0 tyX0 tyX0_ok nmX0 hm hp rfl 4 (by decide) f_X6_93 rfl rfl rfl rfl (Nat.le_of_ble_eq_true rfl) dX6_rebook_34 (fun e_34 ee_34 => ?_)
    have m_34 := mem_wP ee_34 hm
    have p_34 := pos_wP ee_34
    have hce : e_34 = wP e a (chE S2 c) := by rw [ee_34]; unfold chE; rw [ho 2 c (by omega) (by omega), ho 1 c (by omega) (by omega), ho 4 c (by omega) (by omega), ho 3 c (by omega) (by omega), ← msk_congr hp2]; rfl
    have hR2 : RR S2 T e_34 := by rw [hce]; exact hR.child hc hr h0 hB2 hI2 (fun k j hk => ho k j (by omega) (by omega)) (fun k j hk hj => ho k j (by omega) (by omega)) h5
    have hpn : eP e_34 a = chE S2 c := by rw [hce]; exact eP_wP _ _ _
    refine j_aload_n X dX6_rebook_37 rfl 2 rfl ?_
    refine jc_callPI0 X hK (m_X0_bookedHours hR2 c hc m_34 hpn) m_X6_82 m_34 p_34 rfl rfl (by decide) (by decide) (Nat.le_of_ble_eq_true rfl) ⟨by decide, by decide⟩ dX6_rebook_38 ?_
    rintro _ _ ⟨v_38, e_38, b_38, rfl, rfl⟩
    exact j_ireturn X E ((T, e_34)) rfl ⟨_, rfl, by rw [hno, e_38]; rfl, by rw [hno]; exact hR2⟩ dX6_rebook_41
  · have h31 : S 3 c = 1 := by have := (hR.hI.2.2.1 c hc).2; omega
    refine j_aload_n X dX6_rebook_19 rfl 1 rfl ?_
    refine j_lload X dX6_rebook_20 0 rfl ?_
    refine j_aload_n X dX6_rebook_22 rfl 2 rfl ?_
    refine jc_call16I2 (mc := 0) (ms := 0) X hK (m_X6_areSafeWith hR (fun q => p q && !spP S 5 c q) c hc hm hp) m_X6_110 rfl (by decide) (by decide) (Nat.le_of_ble_eq_true rfl) ⟨by decide, by decide⟩ dX6_rebook_23 ?_
    rintro _ _ ⟨T_23, rfl, rfl, s_23⟩
    have hR_23 := hR.sm s_23 (by decide)
    refine b_if_ne (tgt := 32) X dX6_rebook_26 (by decide) (fun c_26 => ?_) (fun c_26 => ?_)
    · have hno : (decide (S 3 c = 1) && !andN (fun q => !(p q && !spP S 5 c q) || sfB S c q) 50) = false := by rw [c_26, Bool.not_true, Bool.and_false]
      refine j_aload_n X dX6_rebook_32 rfl 2 rfl ?_
      refine j_lload_n X dX6_rebook_33 rfl 3 rfl ?_
      refine jc_pput X ly_X0 tyX0 tyX0_ok nmX0 hm hp rfl 4 (by decide) f_X6_93 rfl rfl rfl rfl (Nat.le_of_ble_eq_true rfl) dX6_rebook_34 (fun e_34 ee_34 => ?_)
      have m_34 := mem_wP ee_34 hm
      have p_34 := pos_wP ee_34
      have hce : e_34 = wP e a (chE S2 c) := by rw [ee_34]; unfold chE; rw [ho 2 c (by omega) (by omega), ho 1 c (by omega) (by omega), ho 4 c (by omega) (by omega), ho 3 c (by omega) (by omega), ← msk_congr hp2]; rfl
      have hR2 : RR S2 T_23 e_34 := by rw [hce]; exact hR_23.child hc hr h0 hB2 hI2 (fun k j hk => ho k j (by omega) (by omega)) (fun k j hk hj => ho k j (by omega) (by omega)) h5
      have hpn : eP e_34 a = chE S2 c := by rw [hce]; exact eP_wP _ _ _
      refine j_aload_n X dX6_rebook_37 rfl 2 rfl ?_
      refine jc_callPI0 X hK (m_X0_bookedHours hR2 c hc m_34 hpn) m_X6_82 m_34 p_34 rfl rfl (by decide) (by decide) (Nat.le_of_ble_eq_true rfl) ⟨by decide, by decide⟩ dX6_rebook_38 ?_
      rintro _ _ ⟨v_38, e_38, b_38, rfl, rfl⟩
      exact j_ireturn X E ((T_23, e_34)) rfl ⟨_, rfl, by rw [hno, e_38]; rfl, by rw [hno]; exact hR2⟩ dX6_rebook_41
    · have hno : (decide (S 3 c = 1) && !andN (fun q => !(p q && !spP S 5 c q) || sfB S c q) 50) = true := by rw [c_26, decide_eq_true h31]; rfl
      refine j_bipush (v := (-3)) X dX6_rebook_29 (by decide) ?_
      exact j_ireturn X E ((T_23, e)) rfl ⟨_, rfl, by rw [hno]; rfl, by rw [hno]; exact hR_23⟩ dX6_rebook_31

set_option maxRecDepth 100000 in
set_option maxHeartbeats 4000000 in
theorem m_X7_type (S : MS) (hB : BD S) (hI : IV S) (x : Int32) : MM zX7_type 1 [.int x] S (pS (typR S x) (typS S x)) := by
  intro D Y h0 ad
  refine MT.of [(0, .ref h0), (1, .int x)] (by decide) rfl (Nat.le_of_ble_eq_true rfl) ?_
  intro K hR X E
  refine j_iload_n X dX7_type_0 rfl 1 rfl ?_
  refine j_bipush (v := nI 32) X dX7_type_1 (by decide) ?_
  refine j_bipush (v := nI 126) X dX7_type_3 (by decide) ?_
  refine jst_call3 X hR (m_X7_within _ _ _) m_X7_77 (by decide) (by decide) (Nat.le_of_ble_eq_true rfl) ⟨by decide, by decide⟩ dX7_type_5 ?_
  refine b_if_ne (tgt := 13) X dX7_type_8 (by decide) (fun c_8 => ?_) (fun c_8 => ?_)
  · obtain ⟨k, hk0, hk, rfl⟩ := within_of (lo := 32) (n := 126) (by decide) (by decide) c_8
    have kl := nI_clamp (n := k) (by omega)
    refine j_aload_n X dX7_type_13 rfl 0 rfl ?_
    refine jm_get X 21 (by decide) rfl f_X7_190 dX7_type_14 ?_
    refine n_name (fun v_14 e_14 => ?_)
    have b_14 : v_14 < 16777216 := by rw [e_14]; exact hB _ _
    refine j_bipush (v := nI 60) X dX7_type_17 (by decide) ?_
    refine n_icmp_ne (tgt := 25) X dX7_type_19 (by decide) (by omega) (by omega) (fun c_19 => ?_) (fun c_19 => ?_)
    · have hl60 := hI.2.2.2.2.2.2.2.2.2.2.2
      have c19 : ¬ S 21 3 = 60 := by omega
      refine j_aload_n X dX7_type_25 rfl 0 rfl ?_
      refine jm_get X 20 (by decide) rfl f_X7_65 dX7_type_26 ?_
      refine j_aload_n X dX7_type_29 rfl 0 rfl ?_
      refine jm_get X 21 (by decide) rfl f_X7_190 dX7_type_30 ?_
      refine n_name (fun v_30 e_30 => ?_)
      have b_30 : v_30 < 16777216 := by rw [e_30]; exact hB _ _
      refine j_iload_n X dX7_type_33 rfl 1 rfl ?_
      refine jm_ast2 X hB (by decide) (by show _ < 60; omega) (by omega) dX7_type_34 (fun S_34 eS_34 hB_34 => ?_)
      have hl60 := hI.2.2.2.2.2.2.2.2.2.2.2
      refine j_aload_n X dX7_type_35 rfl 0 rfl ?_
      refine j_dup X dX7_type_36 rfl ?_
      refine jm_get X 21 (by decide) rfl f_X7_190 dX7_type_37 ?_
      refine n_name (fun v_37 e_37 => ?_)
      have b_37 : v_37 < 16777216 := by rw [e_37]; exact hB_34 _ _
      refine j_iconst (v := nI 1) X dX7_type_40 (by decide) ?_
      have f37 : v_37 = S 21 3 := by rw [e_37, eS_34]; exact uM_nk (by omega)
      refine n_iadd X dX7_type_41 ?_
      refine jm_put2 X hB_34 21 3 (by decide) WM_s3 f_X7_190 rfl (by decide) (by omega) dX7_type_42 (fun S_42 eS_42 hB_42 => ?_)
      have hnew : S_42 = uM (uM S 17 (S 21 3) k) 21 3 (S 21 3 + 1) := by rw [eS_42, eS_34, f37, e_30]
      have hI2 : IV S_42 := by rw [hnew]; exact IV_len (IV_text hI) (by omega)
      refine j_aload_n X dX7_type_45 rfl 0 rfl ?_
      refine jm_get X 21 (by decide) rfl f_X7_190 dX7_type_46 ?_
      refine n_name (fun v_46 e_46 => ?_)
      have b_46 : v_46 < 16777216 := by rw [e_46]; exact hB_42 _ _
      have f46 : v_46 = S 21 3 + 1 := by rw [e_46, hnew, uM_eq]
      exact j_ireturn X E (S_42) rfl ⟨_, rfl, by rw [f46]; simp [typR, c_8, c19], by rw [hnew]; simp [typS, tn, c_8, c19, kl], hB_42, hI2⟩ dX7_type_49
    · have c19 : S 21 3 = 60 := by omega
      refine j_bipush (v := (-3)) X dX7_type_22 (by decide) ?_
      exact j_ireturn X E (S) rfl ⟨_, rfl, by simp [typR, c_8, c19], by simp [typS, c_8, c19], hB, hI⟩ dX7_type_24
  · refine j_iconst (v := (-1)) X dX7_type_11 (by decide) ?_
    exact j_ireturn X E (S) rfl ⟨_, rfl, by simp [typR, c_8], by simp [typS, c_8], hB, hI⟩ dX7_type_12
set_option maxRecDepth 100000 in
set_option maxHeartbeats 4000000 in
theorem m_X7_clearText (S : MS) (hB : BD S) (hI : IV S) : MM zX7_clearText 0 [] S (pS (nI (S 21 3)) (uM S 21 3 0)) := by
  intro D Y h0 ad
  refine MT.of [(0, .ref h0)] (by decide) rfl (Nat.le_of_ble_eq_true rfl) ?_
  intro K hR X E
  refine j_aload_n X dX7_clearText_0 rfl 0 rfl ?_
  refine jm_get X 21 (by decide) rfl f_X7_190 dX7_clearText_1 ?_
  refine n_name (fun v_1 e_1 => ?_)
  have b_1 : v_1 < 16777216 := by rw [e_1]; exact hB _ _
  refine j_istore_n X [(1, _), (0, _)] dX7_clearText_4 rfl (by decide) rfl ?_
  refine j_aload_n X dX7_clearText_5 rfl 1 rfl ?_
  refine j_iconst (v := nI 0) X dX7_clearText_6 (by decide) ?_
  refine jm_put2 X hB 21 3 (by decide) WM_s3 f_X7_190 rfl (by decide) (by omega) dX7_clearText_7 (fun S_7 eS_7 hB_7 => ?_)
  have hI2 : IV S_7 := by rw [eS_7]; exact IV_len hI (by omega)
  refine j_iload_n X dX7_clearText_10 rfl 0 rfl ?_
  exact j_ireturn X E (S_7) rfl ⟨_, rfl, by rw [e_1], by rw [eS_7], hB_7, hI2⟩ dX7_clearText_11
set_option maxRecDepth 100000 in
set_option maxHeartbeats 4000000 in
theorem m_X7_character (S : MS) (hB : BD S) (hI : IV S) (p l : Nat) (hp : p < 16777216) (hl : l < 16777216) : MM zX7_character 0 [.int (nI p), .int (nI l)] S (pZ S (chI S p l)) := by
  intro D Y h0 ad
  refine MT.of [(0, .ref h0), (1, .int (nI p)), (2, .int (nI l))] (by decide) rfl (Nat.le_of_ble_eq_true rfl) ?_
  intro K hR X E
  refine j_iload_n X dX7_character_0 rfl 1 rfl ?_
  refine j_aload_n X dX7_character_1 rfl 0 rfl ?_
  refine jm_get X 21 (by decide) rfl f_X7_190 dX7_character_2 ?_
  refine n_name (fun v_2 e_2 => ?_)
  have b_2 : v_2 < 16777216 := by rw [e_2]; exact hB _ _
  refine n_icmp_ge (tgt := 29) X dX7_character_5 (by decide) (by omega) (by omega) (fun c_5 => ?_) (fun c_5 => ?_)
  · refine j_iconst (v := (-1)) X dX7_character_29 (by decide) ?_
    exact j_ireturn X E (S) rfl ⟨_, rfl, by unfold chI; rw [if_neg (by omega)], rfl⟩ dX7_character_30
  · have hl60 := hI.2.2.2.2.2.2.2.2.2.2.2
    refine j_aload_n X dX7_character_8 rfl 0 rfl ?_
    refine jm_get X 20 (by decide) rfl f_X7_65 dX7_character_9 ?_
    refine j_iload_n X dX7_character_12 rfl 1 rfl ?_
    refine jm_ald X hB (by decide) (by show _ < 60; omega) dX7_character_13 (fun v_13 e_13 b_13 => ?_)
    refine j_iload_n X dX7_character_14 rfl 2 rfl ?_
    refine n_icmp_lt (tgt := 29) X dX7_character_15 (by decide) (by omega) (by omega) (fun c_15 => ?_) (fun c_15 => ?_)
    · refine j_iconst (v := (-1)) X dX7_character_29 (by decide) ?_
      exact j_ireturn X E (S) rfl ⟨_, rfl, by unfold chI; rw [if_neg (by omega)], rfl⟩ dX7_character_30
    · refine j_aload_n X dX7_character_18 rfl 0 rfl ?_
      refine jm_get X 20 (by decide) rfl f_X7_65 dX7_character_19 ?_
      refine j_iload_n X dX7_character_22 rfl 1 rfl ?_
      refine jm_ald X hB (by decide) (by show _ < 60; omega) dX7_character_23 (fun v_23 e_23 b_23 => ?_)
      refine j_iload_n X dX7_character_24 rfl 2 rfl ?_
      refine n_isub X dX7_character_25 (by omega) ?_
      refine j_goto (tgt := 30) X dX7_character_26 (by decide) ?_
      exact j_ireturn X E (S) rfl ⟨_, rfl, by unfold chI; rw [if_pos (by omega)]; congr 2; omega, rfl⟩ dX7_character_30

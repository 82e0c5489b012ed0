set_option maxRecDepth 100000 in
set_option maxHeartbeats 4000000 in
theorem m_X7_load (S : MS) (hB : BD S) (hI : IV S) (x : Int32) : MM zX7_load 3 [.int x] S (pDS S (loadI S x)) := by
  intro D Y h0 ad
  refine MT.of [(0, .ref h0), (1, .int x)] (by decide) rfl (Nat.le_of_ble_eq_true rfl) ?_
  intro K hR X E
  refine j_iload_n X dX7_load_0 rfl 1 rfl ?_
  refine jst_call1 X hR (m_X7_isDay _) m_X7_116 (by decide) (by decide) (Nat.le_of_ble_eq_true rfl) ⟨by decide, by decide⟩ dX7_load_1 ?_
  refine b_if_ne (tgt := 11) X dX7_load_4 (by decide) (fun c_4 => ?_) (fun c_4 => ?_)
  · obtain ⟨d, hd, rfl⟩ := within_0 (n := 4) (by decide) c_4
    have hdl := nI_clamp (n := d) (by omega)
    refine j_iconst (v := nI 0) X dX7_load_11 (by decide) ?_
    refine j_istore_n X [(2, _), (0, _), (1, _)] dX7_load_12 rfl (by decide) rfl ?_
    refine j_iconst (v := nI 0) X dX7_load_13 (by decide) ?_
    refine j_istore_n X [(3, _), (2, _), (0, _), (1, _)] dX7_load_14 rfl (by decide) rfl ?_
    refine j_iconst (v := nI 0) X dX7_load_15 (by decide) ?_
    refine j_istore X [(4, _), (3, _), (2, _), (0, _), (1, _)] dX7_load_16 (by decide) rfl ?_
    have L18 : ∀ (n : Nat) (h a b : Nat), (h ≤ 10) → (a = sm (fun h => presN S d h (-9)) h) → (b = sm (fun h => staffN S d h) h) → (b ≤ h * 8) → (10 + 1 ≤ h + n) → JJ K D 0 0 (WM h0 ad Y S) [(0, .ref h0), (1, .int (nI d)), (2, .int (nI a)), (3, .int (nI b)), (4, .int (nI h))] 18 [] := by
      intro n
      induction n with
      | zero =>
        intro h a b hh ha hb hb2 hf18
        exact absurd hf18 (by omega)
      | succ n18 ih18 =>
        intro h a b hh ha hb hb2 hf18
        refine j_iload X dX7_load_18 4 rfl ?_
        refine j_bipush (v := nI 10) X dX7_load_20 (by decide) ?_
        refine n_icmp_ge (tgt := 53) X dX7_load_22 (by decide) (by omega) (by omega) (fun c_22 => ?_) (fun c_22 => ?_)
        · have hh10 : h = 10 := by omega
          subst hh10
          refine j_iload_n X dX7_load_53 rfl 3 rfl ?_
          refine n_if_ne (tgt := 61) X dX7_load_54 (by decide) (by omega) (fun c_54 => ?_) (fun c_54 => ?_)
          · refine j_iload_n X dX7_load_61 rfl 2 rfl ?_
            refine j_i2d X dX7_load_62 ?_
            refine j_iload_n X dX7_load_63 rfl 3 rfl ?_
            refine j_i2d X dX7_load_64 ?_
            refine j_ddiv X dX7_load_65 (nI_ne0 (by omega) (by omega)) ?_
            exact j_dreturn X E (S) rfl ⟨_, rfl, by simp only [loadI, tn, quoI, c_4, hdl, ← ha, ← hb]; simp [c_54], rfl⟩ dX7_load_66
          · refine j_dconst0 X dX7_load_57 ?_
            refine j_goto (tgt := 66) X dX7_load_58 (by decide) ?_
            exact j_dreturn X E (S) rfl ⟨_, rfl, by simp only [loadI, tn, quoI, c_4, hdl, ← ha, ← hb]; simp [c_54], rfl⟩ dX7_load_66
        · refine j_iload_n X dX7_load_25 rfl 2 rfl ?_
          refine j_aload_n X dX7_load_26 rfl 0 rfl ?_
          refine j_iload_n X dX7_load_27 rfl 1 rfl ?_
          refine j_iload X dX7_load_28 4 rfl ?_
          refine j_bipush (v := (-9)) X dX7_load_30 (by decide) ?_
          refine jm_callI3 X hR (m_X7_presentOf S hB _ _ _ (by omega) (by omega)) m_X7_102 rfl (by decide) (by decide) (Nat.le_of_ble_eq_true rfl) ⟨by decide, by decide⟩ dX7_load_32 ?_
          rintro _ _ ⟨v_32, e_32, b_32, rfl, rfl⟩
          refine n_iadd X dX7_load_35 ?_
          refine j_istore_n X [(2, _), (0, _), (1, _), (3, _), (4, _)] dX7_load_36 rfl (by decide) rfl ?_
          refine j_iload_n X dX7_load_37 rfl 3 rfl ?_
          refine j_aload_n X dX7_load_38 rfl 1 rfl ?_
          refine j_iload_n X dX7_load_39 rfl 2 rfl ?_
          refine j_iload X dX7_load_40 4 rfl ?_
          refine jm_callI2 X hR (m_X7_staffOf S hB _ _ (by omega) (by omega)) m_X7_109 rfl (by decide) (by decide) (Nat.le_of_ble_eq_true rfl) ⟨by decide, by decide⟩ dX7_load_42 ?_
          rintro _ _ ⟨v_42, e_42, b_42, rfl, rfl⟩
          refine n_iadd X dX7_load_45 ?_
          refine j_istore_n X [(3, _), (2, _), (0, _), (1, _), (4, _)] dX7_load_46 rfl (by decide) rfl ?_
          refine n_iinc X [(4, _), (3, _), (2, _), (0, _), (1, _)] dX7_load_47 (q := 4) (b := 1) rfl (by decide) (by decide) rfl ?_
          refine j_goto (tgt := 18) X dX7_load_50 (by decide) ?_
          exact j_sub [3, 4, 2, 1, 0] rfl (ih18 _ _ _ (by omega) (by rw [sm_s]; omega) (by rw [sm_s]; omega) (by omega) (by omega))
    exact j_sub [3, 4, 2, 1, 0] rfl (L18 11 _ _ _ (by omega) (by rfl) (by rfl) (by omega) (by omega))
  · refine j_ldc2d X k_X7_163 dX7_load_7 ?_
    exact j_dreturn X E (S) rfl ⟨_, rfl, by simp [loadI, c_4], rfl⟩ dX7_load_10

set_option maxRecDepth 100000 in
set_option maxHeartbeats 4000000 in
theorem m_X6_mixChildren {S : MS} {G : Nat → Nat} {T : CT} {e : CE} (hR : RG S G T e) (g : Int64) : CF zX6_mixChildren 16 5 0 0 [.long g] (T, e) (pLc (T, e) (dgC S (mixL g (childN S)) 24)) := by
  intro D Y ad
  refine MT.of [(0, .ref (ad 16)), (1, .long g)] (by decide) rfl (Nat.le_of_ble_eq_true rfl) ?_
  intro K hK X E
  refine j_lload_n X dX6_mixChildren_0 rfl 1 rfl ?_
  refine j_aload_n X dX6_mixChildren_1 rfl 0 rfl ?_
  refine jc_call16I0 (mc := 0) (ms := 0) X hK (m_X6_children hR) m_X6_72 rfl (by decide) (by decide) (Nat.le_of_ble_eq_true rfl) ⟨by decide, by decide⟩ dX6_mixChildren_2 ?_
  rintro _ _ ⟨v_2, e_2, b_2, rfl, rfl⟩
  refine jst_call2 X hK (m_X6_mix _ _) m_X6_281 (by decide) (by decide) (Nat.le_of_ble_eq_true rfl) ⟨by decide, by decide⟩ dX6_mixChildren_5 ?_
  refine j_lstore_n X [(3, _), (0, _), (1, _)] dX6_mixChildren_8 rfl (by decide) rfl ?_
  refine j_iconst (v := nI 0) X dX6_mixChildren_9 (by decide) ?_
  refine j_istore X [(5, _), (3, _), (0, _), (1, _)] dX6_mixChildren_10 (by decide) rfl ?_
  have L12 : ∀ (n : Nat) (i : Nat) (h : Int64), (i ≤ 24) → (h = dgC S (mixL g (childN S)) i) → (24 + 1 ≤ i + n) → JJ K D 0 0 (WC ad Y (T, e)) [(0, .ref (ad 16)), (3, .long h), (5, .int (nI i))] 12 [] := by
    intro n
    induction n with
    | zero =>
      intro i h hi hg hf12
      exact absurd hf12 (by omega)
    | succ n12 ih12 =>
      intro i h hi hg hf12
      refine j_iload X dX6_mixChildren_12 2 rfl ?_
      refine j_aload_n X dX6_mixChildren_14 rfl 0 rfl ?_
      refine j_getf X ly_X6 0 rfl rfl 0 (by decide) f_X6_11 rfl dX6_mixChildren_15 ?_
      refine jc_len_r0 X dX6_mixChildren_18 ?_
      refine n_icmp_ge (tgt := 118) X dX6_mixChildren_19 (by decide) (by omega) (by omega) (fun c_19 => ?_) (fun c_19 => ?_)
      · have hi2 : i = 24 := by omega
        subst hi2
        refine j_lload_n X dX6_mixChildren_118 rfl 1 rfl ?_
        exact j_lreturn X E ((T, e)) rfl ⟨_, rfl, hg.symm, rfl⟩ dX6_mixChildren_119
      · refine j_aload_n X dX6_mixChildren_22 rfl 0 rfl ?_
        refine j_getf X ly_X6 0 rfl rfl 0 (by decide) f_X6_11 rfl dX6_mixChildren_23 ?_
        refine j_iload X dX6_mixChildren_26 2 rfl ?_
        refine jc_ch X hR (by omega) dX6_mixChildren_28 (fun a_28 q_28 r_28 m_28 p_28 => ?_) (fun q_28 r_28 => ?_)
        · refine j_astore X [(6, _), (0, _), (3, _), (5, _)] dX6_mixChildren_29 (by decide) rfl ?_
          refine j_aload X dX6_mixChildren_31 0 rfl ?_
          refine j_ifnull X dX6_mixChildren_33 ?_
          refine j_lload_n X dX6_mixChildren_36 rfl 2 rfl ?_
          refine j_iload X dX6_mixChildren_37 3 rfl ?_
          refine jst_call2 X hK (m_X6_mix _ _) m_X6_281 (by decide) (by decide) (Nat.le_of_ble_eq_true rfl) ⟨by decide, by decide⟩ dX6_mixChildren_39 ?_
          refine j_lstore_n X [(3, _), (6, _), (0, _), (5, _)] dX6_mixChildren_42 rfl (by decide) rfl ?_
          refine j_lload_n X dX6_mixChildren_43 rfl 0 rfl ?_
          refine j_aload X dX6_mixChildren_44 1 rfl ?_
          refine jc_pget X ly_X0 m_28 p_28 rfl 1 (by decide) f_X6_75 rfl dX6_mixChildren_46 ?_
          refine n_name (fun v_46 e_46 => ?_)
          have b_46 : v_46 < 16777216 := by rw [e_46]; exact hR.hB _ _
          refine jst_call2 X hK (m_X6_mix _ _) m_X6_281 (by decide) (by decide) (Nat.le_of_ble_eq_true rfl) ⟨by decide, by decide⟩ dX6_mixChildren_49 ?_
          refine j_lstore_n X [(3, _), (6, _), (0, _), (5, _)] dX6_mixChildren_52 rfl (by decide) rfl ?_
          refine j_lload_n X dX6_mixChildren_53 rfl 0 rfl ?_
          refine j_aload X dX6_mixChildren_54 1 rfl ?_
          refine jc_pget X ly_X0 m_28 p_28 rfl 3 (by decide) f_X6_78 rfl dX6_mixChildren_56 ?_
          refine n_name (fun v_56 e_56 => ?_)
          have b_56 : v_56 < 16777216 := by rw [e_56]; exact hR.hB _ _
          refine n_if_eq (tgt := 66) X dX6_mixChildren_59 (by decide) (by omega) (fun c_59 => ?_) (fun c_59 => ?_)
          · have h3 : S 3 i = 0 := by omega
            refine j_iconst (v := nI 0) X dX6_mixChildren_66 (by decide) ?_
            refine jst_call2 X hK (m_X6_mix _ _) m_X6_281 (by decide) (by decide) (Nat.le_of_ble_eq_true rfl) ⟨by decide, by decide⟩ dX6_mixChildren_67 ?_
            refine j_lstore_n X [(3, _), (6, _), (0, _), (5, _)] dX6_mixChildren_70 rfl (by decide) rfl ?_
            refine j_lload_n X dX6_mixChildren_71 rfl 0 rfl ?_
            refine j_aload X dX6_mixChildren_72 1 rfl ?_
            refine jc_callPI0 X hK (m_X0_bookedHours hR _ (by omega) m_28 p_28) m_X6_82 m_28 p_28 rfl rfl (by decide) (by decide) (Nat.le_of_ble_eq_true rfl) ⟨by decide, by decide⟩ dX6_mixChildren_74 ?_
            rintro _ _ ⟨v_74, e_74, b_74, rfl, rfl⟩
            refine jst_call2 X hK (m_X6_mix _ _) m_X6_281 (by decide) (by decide) (Nat.le_of_ble_eq_true rfl) ⟨by decide, by decide⟩ dX6_mixChildren_77 ?_
            refine j_lstore_n X [(3, _), (6, _), (0, _), (5, _)] dX6_mixChildren_80 rfl (by decide) rfl ?_
            refine j_lload_n X dX6_mixChildren_81 rfl 0 rfl ?_
            refine j_aload X dX6_mixChildren_82 1 rfl ?_
            refine jc_pget X ly_X0 m_28 p_28 rfl 3 (by decide) f_X6_78 rfl dX6_mixChildren_84 ?_
            refine n_name (fun v_84 e_84 => ?_)
            have b_84 : v_84 < 16777216 := by rw [e_84]; exact hR.hB _ _
            refine n_if_eq (tgt := 102) X dX6_mixChildren_87 (by decide) (by omega) (fun c_87 => ?_) (fun c_87 => ?_)
            · refine j_aload_n X dX6_mixChildren_102 rfl 2 rfl ?_
              refine j_aload X dX6_mixChildren_103 1 rfl ?_
              refine jc_call16I1 (mc := 0) (ms := 0) X hK (m_X6_pointsOf hR _ (by omega) m_28 p_28 h3) m_X6_117 rfl (by decide) (by decide) (Nat.le_of_ble_eq_true rfl) ⟨by decide, by decide⟩ dX6_mixChildren_105 ?_
              rintro _ _ ⟨v_105, e_105, b_105, rfl, rfl⟩
              refine jst_call2 X hK (m_X6_mix _ _) m_X6_281 (by decide) (by decide) (Nat.le_of_ble_eq_true rfl) ⟨by decide, by decide⟩ dX6_mixChildren_108 ?_
              refine j_lstore_n X [(3, _), (6, _), (0, _), (5, _)] dX6_mixChildren_111 rfl (by decide) rfl ?_
              refine n_iinc X [(5, _), (3, _), (6, _), (0, _)] dX6_mixChildren_112 (q := 3) (b := 1) rfl (by decide) (by decide) rfl ?_
              refine j_goto (tgt := 12) X dX6_mixChildren_115 (by decide) ?_
              exact j_sub [3, 1, 0] rfl (ih12 _ _ (by omega) (by rw [dgC_s, if_pos q_28, if_neg (by omega), ← hg, e_46, e_74, e_105, h3]) (by omega))
            · exact absurd c_87 (by omega)
          · have h3 : S 3 i = 1 := by have := (hR.hI.2.2.1 i (by omega)).2; omega
            refine j_iconst (v := nI 1) X dX6_mixChildren_62 (by decide) ?_
            refine j_goto (tgt := 67) X dX6_mixChildren_63 (by decide) ?_
            refine jst_call2 X hK (m_X6_mix _ _) m_X6_281 (by decide) (by decide) (Nat.le_of_ble_eq_true rfl) ⟨by decide, by decide⟩ dX6_mixChildren_67 ?_
            refine j_lstore_n X [(3, _), (6, _), (0, _), (5, _)] dX6_mixChildren_70 rfl (by decide) rfl ?_
            refine j_lload_n X dX6_mixChildren_71 rfl 0 rfl ?_
            refine j_aload X dX6_mixChildren_72 1 rfl ?_
            refine jc_callPI0 X hK (m_X0_bookedHours hR _ (by omega) m_28 p_28) m_X6_82 m_28 p_28 rfl rfl (by decide) (by decide) (Nat.le_of_ble_eq_true rfl) ⟨by decide, by decide⟩ dX6_mixChildren_74 ?_
            rintro _ _ ⟨v_74, e_74, b_74, rfl, rfl⟩
            refine jst_call2 X hK (m_X6_mix _ _) m_X6_281 (by decide) (by decide) (Nat.le_of_ble_eq_true rfl) ⟨by decide, by decide⟩ dX6_mixChildren_77 ?_
            refine j_lstore_n X [(3, _), (6, _), (0, _), (5, _)] dX6_mixChildren_80 rfl (by decide) rfl ?_
            refine j_lload_n X dX6_mixChildren_81 rfl 0 rfl ?_
            refine j_aload X dX6_mixChildren_82 1 rfl ?_
            refine jc_pget X ly_X0 m_28 p_28 rfl 3 (by decide) f_X6_78 rfl dX6_mixChildren_84 ?_
            refine n_name (fun v_84 e_84 => ?_)
            have b_84 : v_84 < 16777216 := by rw [e_84]; exact hR.hB _ _
            refine n_if_eq (tgt := 102) X dX6_mixChildren_87 (by decide) (by omega) (fun c_87 => ?_) (fun c_87 => ?_)
            · exact absurd c_87 (by omega)
            · refine j_aload_n X dX6_mixChildren_90 rfl 2 rfl ?_
              refine j_aload X dX6_mixChildren_91 1 rfl ?_
              refine j_iload X dX6_mixChildren_93 3 rfl ?_
              refine j_iconst (v := (-1)) X dX6_mixChildren_95 (by decide) ?_
              refine jc_call16I3 (mc := 0) (ms := 0) X hK (m_X6_feeOf hR _ (by omega) m_28 p_28 _ (GU.no S)) m_X6_219 rfl (by decide) (by decide) (Nat.le_of_ble_eq_true rfl) ⟨by decide, by decide⟩ dX6_mixChildren_96 ?_
              rintro _ _ ⟨v_96, e_96, b_96, rfl, rfl⟩
              refine j_goto (tgt := 108) X dX6_mixChildren_99 (by decide) ?_
              refine jst_call2 X hK (m_X6_mix _ _) m_X6_281 (by decide) (by decide) (Nat.le_of_ble_eq_true rfl) ⟨by decide, by decide⟩ dX6_mixChildren_108 ?_
              refine j_lstore_n X [(3, _), (6, _), (0, _), (5, _)] dX6_mixChildren_111 rfl (by decide) rfl ?_
              refine n_iinc X [(5, _), (3, _), (6, _), (0, _)] dX6_mixChildren_112 (q := 3) (b := 1) rfl (by decide) (by decide) rfl ?_
              refine j_goto (tgt := 12) X dX6_mixChildren_115 (by decide) ?_
              exact j_sub [3, 1, 0] rfl (ih12 _ _ (by omega) (by rw [dgC_s, if_pos q_28, if_pos h3, ← hg, e_46, e_74, e_96, h3]) (by omega))
        · refine j_astoreN X [(6, _), (0, _), (3, _), (5, _)] dX6_mixChildren_29 (by decide) rfl ?_
          refine j_aloadN X dX6_mixChildren_31 0 rfl ?_
          refine j_ifnullN (tgt := 112) X dX6_mixChildren_33 (by decide) ?_
          refine n_iinc X [(5, _), (6, _), (0, _), (3, _)] dX6_mixChildren_112 (q := 3) (b := 1) rfl (by decide) (by decide) rfl ?_
          refine j_goto (tgt := 12) X dX6_mixChildren_115 (by decide) ?_
          exact j_sub [2, 3, 0] rfl (ih12 _ _ (by omega) (by rw [dgC_s, if_neg (by omega)]; exact hg) (by omega))
  exact j_sub [2, 1, 0] rfl (L12 25 _ _ (by omega) (by rw [e_2]; rfl) (by omega))
set_option maxRecDepth 100000 in
set_option maxHeartbeats 4000000 in
theorem m_X6_mixHours {S : MS} {G : Nat → Nat} {T : CT} {e : CE} (hR : RG S G T e) (g : Int64) : CF zX6_mixHours 16 5 0 0 [.long g] (T, e) (pL (fun r u => ∃ T' : CT, dgH S g 50 = r ∧ (T', e) = u ∧ SM [7] T T')) := by
  intro D Y ad
  refine MT.of [(0, .ref (ad 16)), (1, .long g)] (by decide) rfl (Nat.le_of_ble_eq_true rfl) ?_
  intro K hK X E
  refine j_lload_n X dX6_mixHours_0 rfl 1 rfl ?_
  refine j_lstore_n X [(3, _), (0, _), (1, _)] dX6_mixHours_1 rfl (by decide) rfl ?_
  refine j_iconst (v := nI 0) X dX6_mixHours_2 (by decide) ?_
  refine j_istore X [(5, _), (3, _), (0, _), (1, _)] dX6_mixHours_3 (by decide) rfl ?_
  have L5 : ∀ (n : Nat) (q : Nat) (h : Int64) (T1 : CT), (q ≤ 50) → (SM [7] T T1) → (RG S G T1 e) → (h = dgH S g q) → (50 + 1 ≤ q + n) → JJ K D 0 0 (WC ad Y (T1, e)) [(0, .ref (ad 16)), (3, .long h), (5, .int (nI q))] 5 [] := by
    intro n
    induction n with
    | zero =>
      intro q h T1 hq hs hR1 hg hf5
      exact absurd hf5 (by omega)
    | succ n5 ih5 =>
      intro q h T1 hq hs hR1 hg hf5
      refine j_iload X dX6_mixHours_5 2 rfl ?_
      refine j_bipush (v := nI 50) X dX6_mixHours_7 (by decide) ?_
      refine n_icmp_ge (tgt := 56) X dX6_mixHours_9 (by decide) (by omega) (by omega) (fun c_9 => ?_) (fun c_9 => ?_)
      · have hq2 : q = 50 := by omega
        subst hq2
        refine j_lload_n X dX6_mixHours_56 rfl 1 rfl ?_
        exact j_lreturn X E ((T1, e)) rfl ⟨_, rfl, _, hg.symm, rfl, hs⟩ dX6_mixHours_57
      · refine j_aload_n X dX6_mixHours_12 rfl 0 rfl ?_
        refine j_iload X dX6_mixHours_13 2 rfl ?_
        refine jc_call16I1 (mc := 0) (ms := 0) X hK (m_X6_needIn hR1 _ (by omega)) m_X6_185 rfl (by decide) (by decide) (Nat.le_of_ble_eq_true rfl) ⟨by decide, by decide⟩ dX6_mixHours_15 ?_
        rintro _ _ ⟨v_15, T_15, e_15, b_15, rfl, rfl, s_15, h_15⟩
        have hR_15 := hR1.sm s_15 (by decide)
        refine j_istore X [(6, _), (0, _), (3, _), (5, _)] dX6_mixHours_18 (by decide) rfl ?_
        refine j_lload_n X dX6_mixHours_20 rfl 2 rfl ?_
        refine j_aload_n X dX6_mixHours_21 rfl 1 rfl ?_
        refine j_getf X ly_X6 0 rfl rfl 9 (by decide) f_X6_55 rfl dX6_mixHours_22 ?_
        refine jc_call15I0 (mc := 0) (ms := 0) X hK (total_m (-9) (cnt_pres h_15)) m_X6_182 rfl (by decide) (by decide) (Nat.le_of_ble_eq_true rfl) ⟨by decide, by decide⟩ dX6_mixHours_25 ?_
        rintro _ _ ⟨v_25, e_25, b_25, rfl, rfl⟩
        refine jst_call2 X hK (m_X6_mix _ _) m_X6_281 (by decide) (by decide) (Nat.le_of_ble_eq_true rfl) ⟨by decide, by decide⟩ dX6_mixHours_28 ?_
        refine j_lstore_n X [(3, _), (6, _), (0, _), (5, _)] dX6_mixHours_31 rfl (by decide) rfl ?_
        refine j_lload_n X dX6_mixHours_32 rfl 0 rfl ?_
        refine j_iload X dX6_mixHours_33 1 rfl ?_
        refine jst_call2 X hK (m_X6_mix _ _) m_X6_281 (by decide) (by decide) (Nat.le_of_ble_eq_true rfl) ⟨by decide, by decide⟩ dX6_mixHours_35 ?_
        refine j_lstore_n X [(3, _), (6, _), (0, _), (5, _)] dX6_mixHours_38 rfl (by decide) rfl ?_
        refine j_lload_n X dX6_mixHours_39 rfl 0 rfl ?_
        refine j_aload_n X dX6_mixHours_40 rfl 2 rfl ?_
        refine j_iload X dX6_mixHours_41 3 rfl ?_
        refine jc_call16I1 (mc := 0) (ms := 0) X hK (m_X6_staffIn hR_15 _ (by omega)) m_X6_188 rfl (by decide) (by decide) (Nat.le_of_ble_eq_true rfl) ⟨by decide, by decide⟩ dX6_mixHours_43 ?_
        rintro _ _ ⟨v_43, e_43, b_43, rfl, rfl⟩
        refine jst_call2 X hK (m_X6_mix _ _) m_X6_281 (by decide) (by decide) (Nat.le_of_ble_eq_true rfl) ⟨by decide, by decide⟩ dX6_mixHours_46 ?_
        refine j_lstore_n X [(3, _), (6, _), (0, _), (5, _)] dX6_mixHours_49 rfl (by decide) rfl ?_
        refine n_iinc X [(5, _), (3, _), (6, _), (0, _)] dX6_mixHours_50 (q := 3) (b := 1) rfl (by decide) (by decide) rfl ?_
        refine j_goto (tgt := 5) X dX6_mixHours_53 (by decide) ?_
        exact j_sub [3, 1, 0] rfl (ih5 _ _ _ (by omega) (by exact hs.trans s_15) (by exact hR_15) (by rw [hg, e_25, e_15, e_43]; rfl) (by omega))
  exact j_sub [2, 1, 0] rfl (L5 51 _ _ _ (by omega) (by exact SM.refl _ _) (by exact hR) (by rfl) (by omega))
set_option maxRecDepth 100000 in
set_option maxHeartbeats 4000000 in
theorem m_X6_digest {S : MS} {G : Nat → Nat} {T : CT} {e : CE} (hR : RG S G T e) : CF zX6_digest 16 7 0 0 [] (T, e) (pL (fun r u => ∃ T' : CT, digL S = r ∧ (T', e) = u ∧ SM [7, 9] T T')) := by
  intro D Y ad
  refine MT.of [(0, .ref (ad 16))] (by decide) rfl (Nat.le_of_ble_eq_true rfl) ?_
  intro K hK X E
  refine j_ldc2 X k_X6_279 dX6_digest_0 ?_
  refine j_lstore_n X [(1, _), (0, _)] dX6_digest_3 rfl (by decide) rfl ?_
  refine j_lload_n X dX6_digest_4 rfl 0 rfl ?_
  refine j_aload_n X dX6_digest_5 rfl 1 rfl ?_
  refine j_getf X ly_X6 0 rfl rfl 5 (by decide) f_X6_32 rfl dX6_digest_6 ?_
  refine z_as (nI (S 21 0)) hR.month ?_
  refine n_name (fun v_6 e_6 => ?_)
  have b_6 : v_6 < 16777216 := by rw [e_6]; exact hR.hB _ _
  refine jst_call2 X hK (m_X6_mix _ _) m_X6_281 (by decide) (by decide) (Nat.le_of_ble_eq_true rfl) ⟨by decide, by decide⟩ dX6_digest_9 ?_
  refine j_lstore_n X [(1, _), (0, _)] dX6_digest_12 rfl (by decide) rfl ?_
  refine j_aload_n X dX6_digest_13 rfl 1 rfl ?_
  refine j_lload_n X dX6_digest_14 rfl 0 rfl ?_
  refine jc_call16L1 (mc := 0) (ms := 0) X hK (m_X6_mixChildren hR _) m_X6_285 rfl (by decide) (by decide) (Nat.le_of_ble_eq_true rfl) ⟨by decide, by decide⟩ dX6_digest_15 ?_
  rintro _ _ ⟨rfl, rfl⟩
  refine j_lstore_n X [(1, _), (0, _)] dX6_digest_18 rfl (by decide) rfl ?_
  refine j_lload_n X dX6_digest_19 rfl 0 rfl ?_
  refine j_aload_n X dX6_digest_20 rfl 1 rfl ?_
  refine jc_call16I0 (mc := 0) (ms := 0) X hK (m_X6_educators hR) m_X6_151 rfl (by decide) (by decide) (Nat.le_of_ble_eq_true rfl) ⟨by decide, by decide⟩ dX6_digest_21 ?_
  rintro _ _ ⟨v_21, e_21, b_21, rfl, rfl⟩
  refine jst_call2 X hK (m_X6_mix _ _) m_X6_281 (by decide) (by decide) (Nat.le_of_ble_eq_true rfl) ⟨by decide, by decide⟩ dX6_digest_24 ?_
  refine j_lstore_n X [(1, _), (0, _)] dX6_digest_27 rfl (by decide) rfl ?_
  refine j_aload_n X dX6_digest_28 rfl 1 rfl ?_
  refine j_lload_n X dX6_digest_29 rfl 0 rfl ?_
  refine jc_call16L1 (mc := 0) (ms := 0) X hK (m_X6_mixHours hR _) m_X6_289 rfl (by decide) (by decide) (Nat.le_of_ble_eq_true rfl) ⟨by decide, by decide⟩ dX6_digest_30 ?_
  rintro _ _ ⟨T_30, rfl, rfl, s_30⟩
  have hR_30 := hR.sm s_30 (by decide)
  refine j_lstore_n X [(1, _), (0, _)] dX6_digest_33 rfl (by decide) rfl ?_
  refine j_lload_n X dX6_digest_34 rfl 0 rfl ?_
  refine j_aload_n X dX6_digest_35 rfl 1 rfl ?_
  refine jc_call16I0 (mc := 0) (ms := 0) X hK (m_X6_unsafeHours hR_30) m_X6_292 rfl (by decide) (by decide) (Nat.le_of_ble_eq_true rfl) ⟨by decide, by decide⟩ dX6_digest_36 ?_
  rintro _ _ ⟨v_36, T_36, e_36, b_36, rfl, rfl, s_36⟩
  have hR_36 := hR_30.sm s_36 (by decide)
  refine jst_call2 X hK (m_X6_mix _ _) m_X6_281 (by decide) (by decide) (Nat.le_of_ble_eq_true rfl) ⟨by decide, by decide⟩ dX6_digest_39 ?_
  refine j_lstore_n X [(1, _), (0, _)] dX6_digest_42 rfl (by decide) rfl ?_
  refine j_lload_n X dX6_digest_43 rfl 0 rfl ?_
  refine j_aload_n X dX6_digest_44 rfl 1 rfl ?_
  refine jc_call16I0 (mc := 0) (ms := 0) X hK (m_X6_income hR_36) m_X6_295 rfl (by decide) (by decide) (Nat.le_of_ble_eq_true rfl) ⟨by decide, by decide⟩ dX6_digest_45 ?_
  rintro _ _ ⟨v_45, e_45, b_45, rfl, rfl⟩
  refine jst_call2 X hK (m_X6_mix _ _) m_X6_281 (by decide) (by decide) (Nat.le_of_ble_eq_true rfl) ⟨by decide, by decide⟩ dX6_digest_48 ?_
  refine j_lstore_n X [(1, _), (0, _)] dX6_digest_51 rfl (by decide) rfl ?_
  refine j_iconst (v := nI 0) X dX6_digest_52 (by decide) ?_
  refine j_istore_n X [(3, _), (1, _), (0, _)] dX6_digest_53 rfl (by decide) rfl ?_
  have L54 : ∀ (n : Nat) (d : Nat) (h : Int64), (d ≤ 5) → (h = dgF (fun d => S 16 d) (dg3 S) d) → (5 + 1 ≤ d + n) → JJ K D 0 0 (WC ad Y (T_36, e)) [(0, .ref (ad 16)), (1, .long h), (3, .int (nI d))] 54 [] := by
    intro n
    induction n with
    | zero =>
      intro d h hd hg hf54
      exact absurd hf54 (by omega)
    | succ n54 ih54 =>
      intro d h hd hg hf54
      refine j_iload_n X dX6_digest_54 rfl 2 rfl ?_
      refine j_iconst (v := nI 5) X dX6_digest_55 (by decide) ?_
      refine n_icmp_ge (tgt := 75) X dX6_digest_56 (by decide) (by omega) (by omega) (fun c_56 => ?_) (fun c_56 => ?_)
      · have hd2 : d = 5 := by omega
        subst hd2
        refine j_iconst (v := nI 0) X dX6_digest_75 (by decide) ?_
        refine j_istore_n X [(3, _), (0, _), (1, _)] dX6_digest_76 rfl (by decide) rfl ?_
        have L77 : ∀ (n : Nat) (d : Nat) (h : Int64) (T1 : CT), (d ≤ 5) → (SM [7, 9] T T1) → (RG S G T1 e) → (h = dgF (fun d => shN S 0 d) (dgF (fun d => S 16 d) (dg3 S) 5) d) → (5 + 1 ≤ d + n) → JJ K D 0 0 (WC ad Y (T1, e)) [(0, .ref (ad 16)), (1, .long h), (3, .int (nI d))] 77 [] := by
          intro n
          induction n with
          | zero =>
            intro d h T1 hd hs hR1 hg hf77
            exact absurd hf77 (by omega)
          | succ n77 ih77 =>
            intro d h T1 hd hs hR1 hg hf77
            refine j_iload_n X dX6_digest_77 rfl 2 rfl ?_
            refine j_iconst (v := nI 5) X dX6_digest_78 (by decide) ?_
            refine n_icmp_ge (tgt := 99) X dX6_digest_79 (by decide) (by omega) (by omega) (fun c_79 => ?_) (fun c_79 => ?_)
            · have hd2 : d = 5 := by omega
              subst hd2
              refine j_lload_n X dX6_digest_99 rfl 1 rfl ?_
              refine j_aload_n X dX6_digest_100 rfl 0 rfl ?_
              refine j_getf X ly_X6 0 rfl rfl 7 (by decide) f_X6_41 rfl dX6_digest_101 ?_
              refine j_getf X ly_X4 4 rfl rfl 1 (by decide) f_X6_272 rfl dX6_digest_104 ?_
              refine z_as (nI (S 21 3)) hR1.len ?_
              refine n_name (fun v_104 e_104 => ?_)
              have b_104 : v_104 < 16777216 := by rw [e_104]; exact hR1.hB _ _
              refine jst_call2 X hK (m_X6_mix _ _) m_X6_281 (by decide) (by decide) (Nat.le_of_ble_eq_true rfl) ⟨by decide, by decide⟩ dX6_digest_107 ?_
              exact j_lreturn X E ((T1, e)) rfl ⟨_, rfl, _, by rw [hg, e_104]; rfl, rfl, hs⟩ dX6_digest_110
            · refine j_lload_n X dX6_digest_82 rfl 1 rfl ?_
              refine j_aload_n X dX6_digest_83 rfl 0 rfl ?_
              refine j_iconst (v := nI 0) X dX6_digest_84 (by decide) ?_
              refine j_iload_n X dX6_digest_85 rfl 2 rfl ?_
              refine jc_call16I2 (mc := 0) (ms := 0) X hK (m_X6_shortage hR1 (nI 0) (nI d)) m_X6_301 rfl (by decide) (by decide) (Nat.le_of_ble_eq_true rfl) ⟨by decide, by decide⟩ dX6_digest_86 ?_
              rintro _ _ ⟨T_86, rfl, rfl, s_86⟩
              have hR_86 := hR1.sm s_86 (by decide)
              refine z_as (nI (shN S 0 d)) (by unfold shrtI; rw [isWeek_n (show 0 < 52 by omega), isDay_n (show d < 5 by omega), show tn (nI 0) = 0 from nI_clamp (by omega), show tn (nI d) = d from nI_clamp (by omega)]; rfl) ?_
              refine jst_call2 X hK (m_X6_mix _ _) m_X6_281 (by decide) (by decide) (Nat.le_of_ble_eq_true rfl) ⟨by decide, by decide⟩ dX6_digest_89 ?_
              refine j_lstore_n X [(1, _), (0, _), (3, _)] dX6_digest_92 rfl (by decide) rfl ?_
              refine n_iinc X [(3, _), (1, _), (0, _)] dX6_digest_93 (q := 2) (b := 1) rfl (by decide) (by decide) rfl ?_
              refine j_goto (tgt := 77) X dX6_digest_96 (by decide) ?_
              exact j_sub [2, 1, 0] rfl (ih77 _ _ _ (by omega) (by exact hs.trans s_86) (by exact hR_86) (by rw [hg]; rfl) (by omega))
        exact j_sub [1, 2, 0] rfl (L77 6 _ _ _ (by omega) (by exact (s_30.trans s_36).mono (by decide)) (by exact hR_36) (by rw [hg]; rfl) (by omega))
      · refine j_lload_n X dX6_digest_59 rfl 1 rfl ?_
        refine j_aload_n X dX6_digest_60 rfl 0 rfl ?_
        refine j_iload_n X dX6_digest_61 rfl 2 rfl ?_
        refine jc_call16I1 (mc := 0) (ms := 0) X hK (m_X6_coverOfN hR_36 _ (by omega)) m_X6_298 rfl (by decide) (by decide) (Nat.le_of_ble_eq_true rfl) ⟨by decide, by decide⟩ dX6_digest_62 ?_
        rintro _ _ ⟨v_62, e_62, b_62, rfl, rfl⟩
        refine jst_call2 X hK (m_X6_mix _ _) m_X6_281 (by decide) (by decide) (Nat.le_of_ble_eq_true rfl) ⟨by decide, by decide⟩ dX6_digest_65 ?_
        refine j_lstore_n X [(1, _), (0, _), (3, _)] dX6_digest_68 rfl (by decide) rfl ?_
        refine n_iinc X [(3, _), (1, _), (0, _)] dX6_digest_69 (q := 2) (b := 1) rfl (by decide) (by decide) rfl ?_
        refine j_goto (tgt := 54) X dX6_digest_72 (by decide) ?_
        exact j_sub [2, 1, 0] rfl (ih54 _ _ (by omega) (by rw [hg, e_62]; rfl) (by omega))
  exact j_sub [2, 1, 0] rfl (L54 6 _ _ (by omega) (by rw [e_45, e_36, e_21, e_6]; rfl) (by omega))

set_option maxRecDepth 100000 in
set_option maxHeartbeats 4000000 in
theorem m_X7_removeEducator (S : MS) (hB : BD S) (hI : IV S) (x : Int32) : MM zX7_removeEducator 2 [.int x] S (pS (rmER S x) (rmES S x)) := by
  intro D Y h0 ad
  refine MT.of [(0, .ref h0), (1, .int x)] (by decide) rfl (Nat.le_of_ble_eq_true rfl) ?_
  intro K hR X E
  refine j_aload_n X dX7_removeEducator_0 rfl 0 rfl ?_
  refine j_iload_n X dX7_removeEducator_1 rfl 1 rfl ?_
  refine jm_callI1 X hR (m_X7_hasEducator S hB _) m_X7_148 rfl (by decide) (by decide) (Nat.le_of_ble_eq_true rfl) ⟨by decide, by decide⟩ dX7_removeEducator_2 ?_
  rintro _ _ ⟨rfl, rfl⟩
  refine b_if_ne (tgt := 10) X dX7_removeEducator_5 (by decide) (fun c_5 => ?_) (fun c_5 => ?_)
  · obtain ⟨c, hc, rfl, h7c⟩ := hasE_of c_5
    have hcl := nI_clamp (n := c) (by omega)
    refine j_aload_n X dX7_removeEducator_10 rfl 0 rfl ?_
    refine jm_get X 8 (by decide) rfl f_X7_31 dX7_removeEducator_11 ?_
    refine j_iload_n X dX7_removeEducator_14 rfl 1 rfl ?_
    refine j_iconst (v := nI 0) X dX7_removeEducator_15 (by decide) ?_
    refine jm_ast2 X hB (by decide) (by show _ < 8; omega) (by omega) dX7_removeEducator_16 (fun S_16 eS_16 hB_16 => ?_)
    have hI2 : IV S_16 := by rw [eS_16]; exact IV_rmE hI
    refine j_aload_n X dX7_removeEducator_17 rfl 0 rfl ?_
    refine jm_callI0 X hR (m_X7_educatorMany S_16 hB_16 hI2) m_X7_145 rfl (by decide) (by decide) (Nat.le_of_ble_eq_true rfl) ⟨by decide, by decide⟩ dX7_removeEducator_18 ?_
    rintro _ _ ⟨v_18, e_18, b_18, rfl, rfl⟩
    exact j_ireturn X E (S_16) rfl ⟨_, rfl, by simp [rmER, tn, c_5, *], by simp [rmES, tn, c_5, *], hB_16, hI2⟩ dX7_removeEducator_21
  · refine j_iconst (v := (-1)) X dX7_removeEducator_8 (by decide) ?_
    exact j_ireturn X E (S) rfl ⟨_, rfl, by simp [rmER, tn, c_5, *], by simp [rmES, tn, c_5, *], hB, hI⟩ dX7_removeEducator_9
set_option maxRecDepth 100000 in
set_option maxHeartbeats 4000000 in
theorem m_X7_work (S : MS) (hB : BD S) (hI : IV S) (x y z w : Int32) : MM zX7_work 2 [.int x, .int y, .int z, .int w] S (pS (workR S x y z w) (workS S x y z w)) := by
  intro D Y h0 ad
  refine MT.of [(0, .ref h0), (1, .int x), (2, .int y), (3, .int z), (4, .int w)] (by decide) rfl (Nat.le_of_ble_eq_true rfl) ?_
  intro K hR X E
  refine j_aload_n X dX7_work_0 rfl 0 rfl ?_
  refine j_iload_n X dX7_work_1 rfl 1 rfl ?_
  refine jm_callI1 X hR (m_X7_hasEducator S hB _) m_X7_148 rfl (by decide) (by decide) (Nat.le_of_ble_eq_true rfl) ⟨by decide, by decide⟩ dX7_work_2 ?_
  rintro _ _ ⟨rfl, rfl⟩
  refine b_if_eq (tgt := 24) X dX7_work_5 (by decide) (fun c_5 => ?_) (fun c_5 => ?_)
  · refine j_iconst (v := (-1)) X dX7_work_24 (by decide) ?_
    exact j_ireturn X E (S) rfl ⟨_, rfl, by simp [workR, workS, workOk, tn, setSp, c_5, *], by simp [workR, workS, workOk, tn, setSp, c_5, *], hB, hI⟩ dX7_work_25
  · obtain ⟨c, hc, rfl, h7c⟩ := hasE_of c_5
    have hcl := nI_clamp (n := c) (by omega)
    refine j_iload_n X dX7_work_8 rfl 2 rfl ?_
    refine jst_call1 X hR (m_X7_isDay _) m_X7_116 (by decide) (by decide) (Nat.le_of_ble_eq_true rfl) ⟨by decide, by decide⟩ dX7_work_9 ?_
    refine b_if_eq (tgt := 24) X dX7_work_12 (by decide) (fun c_12 => ?_) (fun c_12 => ?_)
    · refine j_iconst (v := (-1)) X dX7_work_24 (by decide) ?_
      exact j_ireturn X E (S) rfl ⟨_, rfl, by simp [workR, workS, workOk, tn, setSp, c_5, c_12, *], by simp [workR, workS, workOk, tn, setSp, c_5, c_12, *], hB, hI⟩ dX7_work_25
    · obtain ⟨d, hd, rfl⟩ := within_0 (n := 4) (by decide) c_12
      have hdl := nI_clamp (n := d) (by omega)
      refine j_iload_n X dX7_work_15 rfl 3 rfl ?_
      refine j_iload X dX7_work_16 4 rfl ?_
      refine jst_call2 X hR (m_X7_isSpan _ _) m_X7_119 (by decide) (by decide) (Nat.le_of_ble_eq_true rfl) ⟨by decide, by decide⟩ dX7_work_18 ?_
      refine b_if_ne (tgt := 26) X dX7_work_21 (by decide) (fun c_21 => ?_) (fun c_21 => ?_)
      · obtain ⟨b, e, hbe, he, rfl, rfl⟩ := isSpan_of c_21
        have hbl := nI_clamp (n := b) (by omega)
        have hel := nI_clamp (n := e) (by omega)
        refine j_aload_n X dX7_work_26 rfl 0 rfl ?_
        refine jm_get X 9 (by decide) rfl f_X7_34 dX7_work_27 ?_
        refine j_iconst (v := nI 5) X dX7_work_30 (by decide) ?_
        refine j_iload_n X dX7_work_31 rfl 1 rfl ?_
        refine n_imul X dX7_work_32 ?_
        refine j_iload_n X dX7_work_33 rfl 2 rfl ?_
        refine n_iadd X dX7_work_34 ?_
        refine j_iload_n X dX7_work_35 rfl 3 rfl ?_
        refine jm_ast2 X hB (by decide) (by show _ < 40; omega) (by omega) dX7_work_36 (fun S_36 eS_36 hB_36 => ?_)
        refine j_aload_n X dX7_work_37 rfl 0 rfl ?_
        refine jm_get X 10 (by decide) rfl f_X7_37 dX7_work_38 ?_
        refine j_iconst (v := nI 5) X dX7_work_41 (by decide) ?_
        refine j_iload_n X dX7_work_42 rfl 1 rfl ?_
        refine n_imul X dX7_work_43 ?_
        refine j_iload_n X dX7_work_44 rfl 2 rfl ?_
        refine n_iadd X dX7_work_45 ?_
        refine j_iload X dX7_work_46 4 rfl ?_
        refine jm_ast2 X hB_36 (by decide) (by show _ < 40; omega) (by omega) dX7_work_48 (fun S_48 eS_48 hB_48 => ?_)
        have hI2 : IV S_48 := by rw [eS_48, eS_36]; exact IV_work hI hbe he
        refine j_iconst (v := nI 0) X dX7_work_49 (by decide) ?_
        refine j_istore X [(5, _), (0, _), (1, _), (2, _), (3, _), (4, _)] dX7_work_50 (by decide) rfl ?_
        refine j_iconst (v := nI 0) X dX7_work_52 (by decide) ?_
        refine j_istore X [(6, _), (5, _), (0, _), (1, _), (2, _), (3, _), (4, _)] dX7_work_53 (by decide) rfl ?_
        have L55 : ∀ (n : Nat) (i s : Nat), (i ≤ 5) → (s = sm (fun d => S_48 9 (5 * c + d) - S_48 8 (5 * c + d)) i) → (5 + 1 ≤ i + n) → JJ K D 0 0 (WM h0 ad Y S_48) [(0, .ref h0), (1, .int (nI c)), (5, .int (nI s)), (6, .int (nI i))] 55 [] := by
          intro n
          induction n with
          | zero =>
            intro i s hi hs hf55
            exact absurd hf55 (by omega)
          | succ n55 ih55 =>
            intro i s hi hs hf55
            refine j_iload X dX7_work_55 3 rfl ?_
            refine j_iconst (v := nI 5) X dX7_work_57 (by decide) ?_
            refine n_icmp_ge (tgt := 95) X dX7_work_58 (by decide) (by omega) (by omega) (fun c_58 => ?_) (fun c_58 => ?_)
            · have hle : sm (fun d => S_48 9 (5 * c + d) - S_48 8 (5 * c + d)) 5 ≤ 5 * 10 := sm_le (fun i hi => by have := hI2.2.1 (5 * c + i) (by omega); omega)
              have hi5 : i = 5 := by omega
              subst hi5
              have hs2 : s = wkhN (setSp S 8 c d b e) c := by rw [hs, eS_48, eS_36]; rfl
              refine j_iload X dX7_work_95 2 rfl ?_
              exact j_ireturn X E (S_48) rfl ⟨_, rfl, by rw [hs2]; simp [workR, workOk, tn, c_58, *], by rw [eS_48, eS_36]; simp [workS, workOk, tn, setSp, c_58, *], hB_48, hI2⟩ dX7_work_97
            · have hb1 := hI2.2.1 (5 * c + i) (by omega)
              refine j_iload X dX7_work_61 2 rfl ?_
              refine j_aload_n X dX7_work_63 rfl 0 rfl ?_
              refine jm_get X 10 (by decide) rfl f_X7_37 dX7_work_64 ?_
              refine j_iconst (v := nI 5) X dX7_work_67 (by decide) ?_
              refine j_iload_n X dX7_work_68 rfl 1 rfl ?_
              refine n_imul X dX7_work_69 ?_
              refine j_iload X dX7_work_70 3 rfl ?_
              refine n_iadd X dX7_work_72 ?_
              refine jm_ald X hB_48 (by decide) (by show _ < 40; omega) dX7_work_73 (fun v_73 e_73 b_73 => ?_)
              refine j_aload_n X dX7_work_74 rfl 0 rfl ?_
              refine jm_get X 9 (by decide) rfl f_X7_34 dX7_work_75 ?_
              refine j_iconst (v := nI 5) X dX7_work_78 (by decide) ?_
              refine j_iload_n X dX7_work_79 rfl 1 rfl ?_
              refine n_imul X dX7_work_80 ?_
              refine j_iload X dX7_work_81 3 rfl ?_
              refine n_iadd X dX7_work_83 ?_
              refine jm_ald X hB_48 (by decide) (by show _ < 40; omega) dX7_work_84 (fun v_84 e_84 b_84 => ?_)
              refine n_isub X dX7_work_85 (by omega) ?_
              refine n_iadd X dX7_work_86 ?_
              refine j_istore X [(5, _), (0, _), (1, _), (6, _)] dX7_work_87 (by decide) rfl ?_
              refine n_iinc X [(6, _), (5, _), (0, _), (1, _)] dX7_work_89 (q := 3) (b := 1) rfl (by decide) (by decide) rfl ?_
              refine j_goto (tgt := 55) X dX7_work_92 (by decide) ?_
              exact j_sub [2, 3, 1, 0] rfl (ih55 _ _ (by omega) (by rw [sm_s]; omega) (by omega))
        exact j_sub [2, 3, 1, 0] rfl (L55 6 _ _ (by omega) (by rfl) (by omega))
      · refine j_iconst (v := (-1)) X dX7_work_24 (by decide) ?_
        exact j_ireturn X E (S) rfl ⟨_, rfl, by simp [workR, workS, workOk, tn, setSp, c_5, c_12, c_21, *], by simp [workR, workS, workOk, tn, setSp, c_5, c_12, c_21, *], hB, hI⟩ dX7_work_25
set_option maxRecDepth 100000 in
set_option maxHeartbeats 4000000 in
theorem m_X7_setHoliday (S : MS) (hB : BD S) (hI : IV S) (x y : Int32) (b : Bool) : MM zX7_setHoliday 2 [.int x, .int y, .int (bI b)] S (pS (holR S x y b) (holS S x y b)) := by
  intro D Y h0 ad
  refine MT.of [(0, .ref h0), (1, .int x), (2, .int y), (3, .int (bI b))] (by decide) rfl (Nat.le_of_ble_eq_true rfl) ?_
  intro K hR X E
  refine j_aload_n X dX7_setHoliday_0 rfl 0 rfl ?_
  refine j_iload_n X dX7_setHoliday_1 rfl 1 rfl ?_
  refine jm_callI1 X hR (m_X7_hasEducator S hB _) m_X7_148 rfl (by decide) (by decide) (Nat.le_of_ble_eq_true rfl) ⟨by decide, by decide⟩ dX7_setHoliday_2 ?_
  rintro _ _ ⟨rfl, rfl⟩
  refine b_if_eq (tgt := 15) X dX7_setHoliday_5 (by decide) (fun c_5 => ?_) (fun c_5 => ?_)
  · refine j_iconst (v := (-1)) X dX7_setHoliday_15 (by decide) ?_
    exact j_ireturn X E (S) rfl ⟨_, rfl, by simp [holR, holS, tn, c_5, *], by simp [holR, holS, tn, c_5, *], hB, hI⟩ dX7_setHoliday_16
  · obtain ⟨c, hc, rfl, h7c⟩ := hasE_of c_5
    have hcl := nI_clamp (n := c) (by omega)
    refine j_iload_n X dX7_setHoliday_8 rfl 2 rfl ?_
    refine jst_call1 X hR (m_X7_isWeek _) m_X7_151 (by decide) (by decide) (Nat.le_of_ble_eq_true rfl) ⟨by decide, by decide⟩ dX7_setHoliday_9 ?_
    refine b_if_ne (tgt := 17) X dX7_setHoliday_12 (by decide) (fun c_12 => ?_) (fun c_12 => ?_)
    · obtain ⟨w, hw, rfl⟩ := within_0 (n := 51) (by decide) c_12
      have hwl := nI_clamp (n := w) (by omega)
      refine j_aload_n X dX7_setHoliday_17 rfl 0 rfl ?_
      refine jm_get X 11 (by decide) rfl f_X7_40 dX7_setHoliday_18 ?_
      refine j_bipush (v := nI 52) X dX7_setHoliday_21 (by decide) ?_
      refine j_iload_n X dX7_setHoliday_23 rfl 1 rfl ?_
      refine n_imul X dX7_setHoliday_24 ?_
      refine j_iload_n X dX7_setHoliday_25 rfl 2 rfl ?_
      refine n_iadd X dX7_setHoliday_26 ?_
      have L36 : ∀ (k : Nat), (k = ct b) → JJ K D 0 0 (WM h0 ad Y S) [(0, .ref h0), (1, .int (nI c)), (2, .int (nI w))] 36 [.int (nI k), .int (nI (52 * c + w)), .ref (ad 10)] := by
        intro k hk
        have hk1 : k ≤ 1 := by rw [hk]; exact ct_le _
        refine jm_ast2 X hB (by decide) (by show _ < 416; omega) (by omega) dX7_setHoliday_36 (fun S_36 eS_36 hB_36 => ?_)
        have hI2 : IV S_36 := by rw [eS_36]; exact IV_hol hI hk1
        refine j_iconst (v := nI 0) X dX7_setHoliday_37 (by decide) ?_
        refine j_istore X [(4, _), (0, _), (1, _), (2, _)] dX7_setHoliday_38 (by decide) rfl ?_
        refine j_iconst (v := nI 0) X dX7_setHoliday_40 (by decide) ?_
        refine j_istore X [(5, _), (4, _), (0, _), (1, _), (2, _)] dX7_setHoliday_41 (by decide) rfl ?_
        have L43 : ∀ (n : Nat) (i s : Nat), (i ≤ 52) → (s = sm (fun w => S_36 10 (52 * c + w)) i) → (52 + 1 ≤ i + n) → JJ K D 0 0 (WM h0 ad Y S_36) [(0, .ref h0), (1, .int (nI c)), (4, .int (nI s)), (5, .int (nI i))] 43 [] := by
          intro n
          induction n with
          | zero =>
            intro i s hi hs hf43
            exact absurd hf43 (by omega)
          | succ n43 ih43 =>
            intro i s hi hs hf43
            refine j_iload X dX7_setHoliday_43 3 rfl ?_
            refine j_bipush (v := nI 52) X dX7_setHoliday_45 (by decide) ?_
            refine n_icmp_ge (tgt := 73) X dX7_setHoliday_47 (by decide) (by omega) (by omega) (fun c_47 => ?_) (fun c_47 => ?_)
            · have hle : sm (fun w => S_36 10 (52 * c + w)) 52 ≤ 52 * 1 := sm_le (fun i hi => hI2.2.2.2.2.1 _ (by omega))
              have hi52 : i = 52 := by omega
              subst hi52
              have hs2 : s = holN (uM S 10 (52 * c + w) (ct b)) c := by rw [hs, eS_36, hk]; rfl
              refine j_iload X dX7_setHoliday_73 2 rfl ?_
              exact j_ireturn X E (S_36) rfl ⟨_, rfl, by rw [hs2]; simp [holR, tn, c_47, *], by rw [eS_36, hk]; simp [holS, tn, c_47, *], hB_36, hI2⟩ dX7_setHoliday_75
            · refine j_iload X dX7_setHoliday_50 2 rfl ?_
              refine j_aload_n X dX7_setHoliday_52 rfl 0 rfl ?_
              refine jm_get X 11 (by decide) rfl f_X7_40 dX7_setHoliday_53 ?_
              refine j_bipush (v := nI 52) X dX7_setHoliday_56 (by decide) ?_
              refine j_iload_n X dX7_setHoliday_58 rfl 1 rfl ?_
              refine n_imul X dX7_setHoliday_59 ?_
              refine j_iload X dX7_setHoliday_60 3 rfl ?_
              refine n_iadd X dX7_setHoliday_62 ?_
              refine jm_ald X hB_36 (by decide) (by show _ < 416; omega) dX7_setHoliday_63 (fun v_63 e_63 b_63 => ?_)
              refine n_iadd X dX7_setHoliday_64 ?_
              refine j_istore X [(4, _), (0, _), (1, _), (5, _)] dX7_setHoliday_65 (by decide) rfl ?_
              refine n_iinc X [(5, _), (4, _), (0, _), (1, _)] dX7_setHoliday_67 (q := 3) (b := 1) rfl (by decide) (by decide) rfl ?_
              refine j_goto (tgt := 43) X dX7_setHoliday_70 (by decide) ?_
              exact j_sub [2, 3, 1, 0] rfl (ih43 _ _ (by omega) (by rw [sm_s]; omega) (by omega))
        exact j_sub [2, 3, 1, 0] rfl (L43 53 _ _ (by omega) (by rfl) (by omega))
      refine j_iload_n X dX7_setHoliday_27 rfl 3 rfl ?_
      refine b_if_eq (tgt := 35) X dX7_setHoliday_28 (by decide) (fun c_28 => ?_) (fun c_28 => ?_)
      · refine j_iconst (v := nI 0) X dX7_setHoliday_35 (by decide) ?_
        exact j_sub [0, 1, 2] rfl (L36 _ (by simp [ct, c_5, c_12, c_28]) )
      · refine j_iconst (v := nI 1) X dX7_setHoliday_31 (by decide) ?_
        refine j_goto (tgt := 36) X dX7_setHoliday_32 (by decide) ?_
        exact j_sub [0, 1, 2] rfl (L36 _ (by simp [ct, c_5, c_12, c_28]) )
    · refine j_iconst (v := (-1)) X dX7_setHoliday_15 (by decide) ?_
      exact j_ireturn X E (S) rfl ⟨_, rfl, by simp [holR, holS, tn, c_5, c_12, *], by simp [holR, holS, tn, c_5, c_12, *], hB, hI⟩ dX7_setHoliday_16
set_option maxRecDepth 100000 in
set_option maxHeartbeats 4000000 in
theorem m_X7_setRatio (S : MS) (hB : BD S) (hI : IV S) (x y : Int32) : MM zX7_setRatio 2 [.int x, .int y] S (pS (ratR S x y) (ratS S x y)) := by
  intro D Y h0 ad
  refine MT.of [(0, .ref h0), (1, .int x), (2, .int y)] (by decide) rfl (Nat.le_of_ble_eq_true rfl) ?_
  intro K hR X E
  refine j_iload_n X dX7_setRatio_0 rfl 1 rfl ?_
  refine jst_call1 X hR (m_X7_isAgeGroup _) m_X7_154 (by decide) (by decide) (Nat.le_of_ble_eq_true rfl) ⟨by decide, by decide⟩ dX7_setRatio_1 ?_
  refine b_if_eq (tgt := 17) X dX7_setRatio_4 (by decide) (fun c_4 => ?_) (fun c_4 => ?_)
  · refine j_iconst (v := (-1)) X dX7_setRatio_17 (by decide) ?_
    exact j_ireturn X E (S) rfl ⟨_, rfl, by simp [ratR, ratOk, tn, c_4, *], by simp [ratS, ratOk, tn, c_4, *], hB, hI⟩ dX7_setRatio_18
  · obtain ⟨g, hg, rfl⟩ := within_0 (n := 2) (by decide) c_4
    have hgl := nI_clamp (n := g) (by omega)
    refine j_iload_n X dX7_setRatio_7 rfl 2 rfl ?_
    refine j_iconst (v := nI 1) X dX7_setRatio_8 (by decide) ?_
    refine j_bipush (v := nI 20) X dX7_setRatio_9 (by decide) ?_
    refine jst_call3 X hR (m_X7_within _ _ _) m_X7_77 (by decide) (by decide) (Nat.le_of_ble_eq_true rfl) ⟨by decide, by decide⟩ dX7_setRatio_11 ?_
    refine b_if_ne (tgt := 19) X dX7_setRatio_14 (by decide) (fun c_14 => ?_) (fun c_14 => ?_)
    · obtain ⟨r, hr0, hr, rfl⟩ := within_of (lo := 1) (n := 20) (by decide) (by decide) c_14
      have rl := nI_clamp (n := r) (by omega)
      refine j_aload_n X dX7_setRatio_19 rfl 0 rfl ?_
      refine jm_get X 12 (by decide) rfl f_X7_43 dX7_setRatio_20 ?_
      refine j_iload_n X dX7_setRatio_23 rfl 1 rfl ?_
      refine jm_ald X hB (by decide) (by show _ < 3; omega) dX7_setRatio_24 (fun v_24 e_24 b_24 => ?_)
      refine j_istore_n X [(3, _), (0, _), (1, _), (2, _)] dX7_setRatio_25 rfl (by decide) rfl ?_
      refine j_aload_n X dX7_setRatio_26 rfl 1 rfl ?_
      refine jm_get X 12 (by decide) rfl f_X7_43 dX7_setRatio_27 ?_
      refine j_iload_n X dX7_setRatio_30 rfl 2 rfl ?_
      refine j_iload_n X dX7_setRatio_31 rfl 3 rfl ?_
      refine jm_ast2 X hB (by decide) (by show _ < 3; omega) (by omega) dX7_setRatio_32 (fun S_32 eS_32 hB_32 => ?_)
      have hI2 : IV S_32 := by rw [eS_32]; exact IV_rat hI (by omega)
      refine j_iload_n X dX7_setRatio_33 rfl 0 rfl ?_
      exact j_ireturn X E (S_32) rfl ⟨_, rfl, by simp [ratR, ratOk, tn, c_4, c_14, *], by simp [ratS, ratOk, tn, c_4, c_14, *], hB_32, hI2⟩ dX7_setRatio_34
    · refine j_iconst (v := (-1)) X dX7_setRatio_17 (by decide) ?_
      exact j_ireturn X E (S) rfl ⟨_, rfl, by simp [ratR, ratOk, tn, c_4, c_14, *], by simp [ratS, ratOk, tn, c_4, c_14, *], hB, hI⟩ dX7_setRatio_18
set_option maxRecDepth 100000 in
set_option maxHeartbeats 4000000 in
theorem m_X7_setRate (S : MS) (hB : BD S) (hI : IV S) (x y : Int32) : MM zX7_setRate 2 [.int x, .int y] S (pS (rateR S x y) (rateS S x y)) := by
  intro D Y h0 ad
  refine MT.of [(0, .ref h0), (1, .int x), (2, .int y)] (by decide) rfl (Nat.le_of_ble_eq_true rfl) ?_
  intro K hR X E
  refine j_iload_n X dX7_setRate_0 rfl 1 rfl ?_
  refine jst_call1 X hR (m_X7_isAgeGroup _) m_X7_154 (by decide) (by decide) (Nat.le_of_ble_eq_true rfl) ⟨by decide, by decide⟩ dX7_setRate_1 ?_
  refine b_if_eq (tgt := 18) X dX7_setRate_4 (by decide) (fun c_4 => ?_) (fun c_4 => ?_)
  · refine j_iconst (v := (-1)) X dX7_setRate_18 (by decide) ?_
    exact j_ireturn X E (S) rfl ⟨_, rfl, by simp [rateR, rateOk, tn, c_4, *], by simp [rateS, rateOk, tn, c_4, *], hB, hI⟩ dX7_setRate_19
  · obtain ⟨g, hg, rfl⟩ := within_0 (n := 2) (by decide) c_4
    have hgl := nI_clamp (n := g) (by omega)
    refine j_iload_n X dX7_setRate_7 rfl 2 rfl ?_
    refine j_iconst (v := nI 0) X dX7_setRate_8 (by decide) ?_
    refine j_sipush (v := nI 5000) X dX7_setRate_9 (by decide) ?_
    refine jst_call3 X hR (m_X7_within _ _ _) m_X7_77 (by decide) (by decide) (Nat.le_of_ble_eq_true rfl) ⟨by decide, by decide⟩ dX7_setRate_12 ?_
    refine b_if_ne (tgt := 20) X dX7_setRate_15 (by decide) (fun c_15 => ?_) (fun c_15 => ?_)
    · obtain ⟨r, hr0, hr, rfl⟩ := within_of (lo := 0) (n := 5000) (by decide) (by decide) c_15
      have rl := nI_clamp (n := r) (by omega)
      refine j_aload_n X dX7_setRate_20 rfl 0 rfl ?_
      refine jm_get X 13 (by decide) rfl f_X7_46 dX7_setRate_21 ?_
      refine j_iload_n X dX7_setRate_24 rfl 1 rfl ?_
      refine jm_ald X hB (by decide) (by show _ < 3; omega) dX7_setRate_25 (fun v_25 e_25 b_25 => ?_)
      refine j_istore_n X [(3, _), (0, _), (1, _), (2, _)] dX7_setRate_26 rfl (by decide) rfl ?_
      refine j_aload_n X dX7_setRate_27 rfl 1 rfl ?_
      refine jm_get X 13 (by decide) rfl f_X7_46 dX7_setRate_28 ?_
      refine j_iload_n X dX7_setRate_31 rfl 2 rfl ?_
      refine j_iload_n X dX7_setRate_32 rfl 3 rfl ?_
      refine jm_ast2 X hB (by decide) (by show _ < 3; omega) (by omega) dX7_setRate_33 (fun S_33 eS_33 hB_33 => ?_)
      have hI2 : IV S_33 := by rw [eS_33]; exact IV_rate hI (by omega)
      refine j_iload_n X dX7_setRate_34 rfl 0 rfl ?_
      exact j_ireturn X E (S_33) rfl ⟨_, rfl, by simp [rateR, rateOk, tn, c_4, c_15, *], by simp [rateS, rateOk, tn, c_4, c_15, *], hB_33, hI2⟩ dX7_setRate_35
    · refine j_iconst (v := (-1)) X dX7_setRate_18 (by decide) ?_
      exact j_ireturn X E (S) rfl ⟨_, rfl, by simp [rateR, rateOk, tn, c_4, c_15, *], by simp [rateS, rateOk, tn, c_4, c_15, *], hB, hI⟩ dX7_setRate_19
set_option maxRecDepth 100000 in
set_option maxHeartbeats 4000000 in
theorem m_X7_setRoomLimit (S : MS) (hB : BD S) (hI : IV S) (x : Int32) : MM zX7_setRoomLimit 1 [.int x] S (pS (limR S x) (limS S x)) := by
  intro D Y h0 ad
  refine MT.of [(0, .ref h0), (1, .int x)] (by decide) rfl (Nat.le_of_ble_eq_true rfl) ?_
  intro K hR X E
  refine j_iload_n X dX7_setRoomLimit_0 rfl 1 rfl ?_
  refine j_iconst (v := nI 1) X dX7_setRoomLimit_1 (by decide) ?_
  refine j_bipush (v := nI 24) X dX7_setRoomLimit_2 (by decide) ?_
  refine jst_call3 X hR (m_X7_within _ _ _) m_X7_77 (by decide) (by decide) (Nat.le_of_ble_eq_true rfl) ⟨by decide, by decide⟩ dX7_setRoomLimit_4 ?_
  refine b_if_ne (tgt := 12) X dX7_setRoomLimit_7 (by decide) (fun c_7 => ?_) (fun c_7 => ?_)
  · obtain ⟨r, hr0, hr, rfl⟩ := within_of (lo := 1) (n := 24) (by decide) (by decide) c_7
    have rl := nI_clamp (n := r) (by omega)
    refine j_aload_n X dX7_setRoomLimit_12 rfl 0 rfl ?_
    refine jm_get X 14 (by decide) rfl f_X7_49 dX7_setRoomLimit_13 ?_
    refine n_name (fun v_13 e_13 => ?_)
    have b_13 : v_13 < 16777216 := by rw [e_13]; exact hB _ _
    refine j_istore_n X [(2, _), (0, _), (1, _)] dX7_setRoomLimit_16 rfl (by decide) rfl ?_
    refine j_aload_n X dX7_setRoomLimit_17 rfl 1 rfl ?_
    refine j_iload_n X dX7_setRoomLimit_18 rfl 2 rfl ?_
    refine jm_put2 X hB 14 1 (by decide) WM_s1 f_X7_49 rfl (by decide) (by omega) dX7_setRoomLimit_19 (fun S_19 eS_19 hB_19 => ?_)
    have hI2 : IV S_19 := by rw [eS_19]; exact IV_lim hI (by omega)
    refine j_iload_n X dX7_setRoomLimit_22 rfl 0 rfl ?_
    exact j_ireturn X E (S_19) rfl ⟨_, rfl, by simp [limR, tn, c_7, *], by simp [limS, tn, c_7, *], hB_19, hI2⟩ dX7_setRoomLimit_23
  · refine j_iconst (v := (-1)) X dX7_setRoomLimit_10 (by decide) ?_
    exact j_ireturn X E (S) rfl ⟨_, rfl, by simp [limR, tn, c_7, *], by simp [limS, tn, c_7, *], hB, hI⟩ dX7_setRoomLimit_11
set_option maxRecDepth 100000 in
set_option maxHeartbeats 4000000 in
theorem m_X7_present (S : MS) (hB : BD S) (hI : IV S) (x y : Int32) : MM zX7_present 3 [.int x, .int y] S (pZ S (presI S x y)) := by
  intro D Y h0 ad
  refine MT.of [(0, .ref h0), (1, .int x), (2, .int y)] (by decide) rfl (Nat.le_of_ble_eq_true rfl) ?_
  intro K hR X E
  refine j_iload_n X dX7_present_0 rfl 1 rfl ?_
  refine j_iload_n X dX7_present_1 rfl 2 rfl ?_
  refine jst_call2 X hR (m_X7_isHour _ _) m_X7_157 (by decide) (by decide) (Nat.le_of_ble_eq_true rfl) ⟨by decide, by decide⟩ dX7_present_2 ?_
  refine b_if_eq (tgt := 19) X dX7_present_5 (by decide) (fun c_5 => ?_) (fun c_5 => ?_)
  · refine j_iconst (v := (-1)) X dX7_present_19 (by decide) ?_
    exact j_ireturn X E (S) rfl ⟨_, rfl, by simp [presI, tn, c_5, *], rfl⟩ dX7_present_20
  · have c_q := c_5
    unfold isHourI at c_q
    rw [Bool.and_eq_true] at c_q
    obtain ⟨d, hd, rfl⟩ := within_0 (n := 4) (by decide) c_q.1
    obtain ⟨h, hh, rfl⟩ := within_0 (n := 9) (by decide) c_q.2
    have hdl := nI_clamp (n := d) (by omega)
    have hhl := nI_clamp (n := h) (by omega)
    clear c_q
    refine j_aload_n X dX7_present_8 rfl 0 rfl ?_
    refine j_iload_n X dX7_present_9 rfl 1 rfl ?_
    refine j_iload_n X dX7_present_10 rfl 2 rfl ?_
    refine j_bipush (v := (-9)) X dX7_present_11 (by decide) ?_
    refine jm_callI3 X hR (m_X7_presentOf S hB _ _ _ (by omega) (by omega)) m_X7_102 rfl (by decide) (by decide) (Nat.le_of_ble_eq_true rfl) ⟨by decide, by decide⟩ dX7_present_13 ?_
    rintro _ _ ⟨v_13, e_13, b_13, rfl, rfl⟩
    refine j_goto (tgt := 20) X dX7_present_16 (by decide) ?_
    exact j_ireturn X E (S) rfl ⟨_, rfl, by simp [presI, tn, c_5, *], rfl⟩ dX7_present_20
set_option maxRecDepth 100000 in
set_option maxHeartbeats 4000000 in
theorem m_X7_need (S : MS) (hB : BD S) (hI : IV S) (x y : Int32) : MM zX7_need 4 [.int x, .int y] S (pZ S (needI S x y)) := by
  intro D Y h0 ad
  refine MT.of [(0, .ref h0), (1, .int x), (2, .int y)] (by decide) rfl (Nat.le_of_ble_eq_true rfl) ?_
  intro K hR X E
  refine j_iload_n X dX7_need_0 rfl 1 rfl ?_
  refine j_iload_n X dX7_need_1 rfl 2 rfl ?_
  refine jst_call2 X hR (m_X7_isHour _ _) m_X7_157 (by decide) (by decide) (Nat.le_of_ble_eq_true rfl) ⟨by decide, by decide⟩ dX7_need_2 ?_
  refine b_if_eq (tgt := 19) X dX7_need_5 (by decide) (fun c_5 => ?_) (fun c_5 => ?_)
  · refine j_iconst (v := (-1)) X dX7_need_19 (by decide) ?_
    exact j_ireturn X E (S) rfl ⟨_, rfl, by simp [needI, tn, c_5, *], rfl⟩ dX7_need_20
  · have c_q := c_5
    unfold isHourI at c_q
    rw [Bool.and_eq_true] at c_q
    obtain ⟨d, hd, rfl⟩ := within_0 (n := 4) (by decide) c_q.1
    obtain ⟨h, hh, rfl⟩ := within_0 (n := 9) (by decide) c_q.2
    have hdl := nI_clamp (n := d) (by omega)
    have hhl := nI_clamp (n := h) (by omega)
    clear c_q
    refine j_aload_n X dX7_need_8 rfl 0 rfl ?_
    refine j_iload_n X dX7_need_9 rfl 1 rfl ?_
    refine j_iload_n X dX7_need_10 rfl 2 rfl ?_
    refine j_bipush (v := (-9)) X dX7_need_11 (by decide) ?_
    refine jm_callI3 X hR (m_X7_needOf S hB hI _ _ _ (by omega) (by omega) isMore_9) m_X7_106 rfl (by decide) (by decide) (Nat.le_of_ble_eq_true rfl) ⟨by decide, by decide⟩ dX7_need_13 ?_
    rintro _ _ ⟨v_13, e_13, b_13, rfl, rfl⟩
    refine j_goto (tgt := 20) X dX7_need_16 (by decide) ?_
    exact j_ireturn X E (S) rfl ⟨_, rfl, by simp [needI, tn, c_5, *], rfl⟩ dX7_need_20
set_option maxRecDepth 100000 in
set_option maxHeartbeats 4000000 in
theorem m_X7_staff (S : MS) (hB : BD S) (hI : IV S) (x y : Int32) : MM zX7_staff 3 [.int x, .int y] S (pZ S (stafI S x y)) := by
  intro D Y h0 ad
  refine MT.of [(0, .ref h0), (1, .int x), (2, .int y)] (by decide) rfl (Nat.le_of_ble_eq_true rfl) ?_
  intro K hR X E
  refine j_iload_n X dX7_staff_0 rfl 1 rfl ?_
  refine j_iload_n X dX7_staff_1 rfl 2 rfl ?_
  refine jst_call2 X hR (m_X7_isHour _ _) m_X7_157 (by decide) (by decide) (Nat.le_of_ble_eq_true rfl) ⟨by decide, by decide⟩ dX7_staff_2 ?_
  refine b_if_eq (tgt := 17) X dX7_staff_5 (by decide) (fun c_5 => ?_) (fun c_5 => ?_)
  · refine j_iconst (v := (-1)) X dX7_staff_17 (by decide) ?_
    exact j_ireturn X E (S) rfl ⟨_, rfl, by simp [stafI, tn, c_5, *], rfl⟩ dX7_staff_18
  · have c_q := c_5
    unfold isHourI at c_q
    rw [Bool.and_eq_true] at c_q
    obtain ⟨d, hd, rfl⟩ := within_0 (n := 4) (by decide) c_q.1
    obtain ⟨h, hh, rfl⟩ := within_0 (n := 9) (by decide) c_q.2
    have hdl := nI_clamp (n := d) (by omega)
    have hhl := nI_clamp (n := h) (by omega)
    clear c_q
    refine j_aload_n X dX7_staff_8 rfl 0 rfl ?_
    refine j_iload_n X dX7_staff_9 rfl 1 rfl ?_
    refine j_iload_n X dX7_staff_10 rfl 2 rfl ?_
    refine jm_callI2 X hR (m_X7_staffOf S hB _ _ (by omega) (by omega)) m_X7_109 rfl (by decide) (by decide) (Nat.le_of_ble_eq_true rfl) ⟨by decide, by decide⟩ dX7_staff_11 ?_
    rintro _ _ ⟨v_11, e_11, b_11, rfl, rfl⟩
    refine j_goto (tgt := 18) X dX7_staff_14 (by decide) ?_
    exact j_ireturn X E (S) rfl ⟨_, rfl, by simp [stafI, tn, c_5, *], rfl⟩ dX7_staff_18
set_option maxRecDepth 100000 in
set_option maxHeartbeats 4000000 in
theorem m_X7_unsafeMany (S : MS) (hB : BD S) (hI : IV S) : MM zX7_unsafeMany 5 [] S (pN S (usfN S) 50) := by
  intro D Y h0 ad
  refine MT.of [(0, .ref h0)] (by decide) rfl (Nat.le_of_ble_eq_true rfl) ?_
  intro K hR X E
  refine j_iconst (v := nI 0) X dX7_unsafeMany_0 (by decide) ?_
  refine j_istore_n X [(1, _), (0, _)] dX7_unsafeMany_1 rfl (by decide) rfl ?_
  refine j_iconst (v := nI 0) X dX7_unsafeMany_2 (by decide) ?_
  refine j_istore_n X [(2, _), (1, _), (0, _)] dX7_unsafeMany_3 rfl (by decide) rfl ?_
  have L4 : ∀ (n : Nat) (d s : Nat), (d ≤ 5) → (s = sm (fun d => sm (fun h => ct (!safeB S d h (-9))) 10) d) → (5 + 1 ≤ d + n) → JJ K D 0 0 (WM h0 ad Y S) [(0, .ref h0), (1, .int (nI s)), (2, .int (nI d))] 4 [] := by
    intro n
    induction n with
    | zero =>
      intro d s hd hs hf4
      exact absurd hf4 (by omega)
    | succ n4 ih4 =>
      intro d s hd hs hf4
      refine j_iload_n X dX7_unsafeMany_4 rfl 2 rfl ?_
      refine j_iconst (v := nI 5) X dX7_unsafeMany_5 (by decide) ?_
      refine n_icmp_ge (tgt := 48) X dX7_unsafeMany_6 (by decide) (by omega) (by omega) (fun c_6 => ?_) (fun c_6 => ?_)
      · have hle : usfN S ≤ 5 * 10 := sm_le (fun d _ => by have : sm (fun h => ct (!safeB S d h (-9))) 10 ≤ 10 * 1 := sm_le (fun i hi => ct_le _); omega)
        have hd5 : d = 5 := by omega
        subst hd5
        have hs2 : s = usfN S := hs
        refine j_iload_n X dX7_unsafeMany_48 rfl 1 rfl ?_
        exact j_ireturn X E (S) rfl ⟨_, rfl, _, hs2, by omega, rfl, rfl⟩ dX7_unsafeMany_49
      · refine j_iconst (v := nI 0) X dX7_unsafeMany_9 (by decide) ?_
        refine j_istore_n X [(3, _), (0, _), (1, _), (2, _)] dX7_unsafeMany_10 rfl (by decide) rfl ?_
        have L11 : ∀ (n : Nat) (h t : Nat), (h ≤ 10) → (t = s + sm (fun h => ct (!safeB S d h (-9))) h) → (10 + 1 ≤ h + n) → JJ K D 0 0 (WM h0 ad Y S) [(0, .ref h0), (1, .int (nI t)), (2, .int (nI d)), (3, .int (nI h))] 11 [] := by
          intro n
          induction n with
          | zero =>
            intro h t hh ht hf11
            exact absurd hf11 (by omega)
          | succ n11 ih11 =>
            intro h t hh ht hf11
            refine j_iload_n X dX7_unsafeMany_11 rfl 3 rfl ?_
            refine j_bipush (v := nI 10) X dX7_unsafeMany_12 (by decide) ?_
            refine n_icmp_ge (tgt := 42) X dX7_unsafeMany_14 (by decide) (by omega) (by omega) (fun c_14 => ?_) (fun c_14 => ?_)
            · have hh10 : h = 10 := by omega
              subst hh10
              refine n_iinc X [(2, _), (0, _), (1, _), (3, _)] dX7_unsafeMany_42 (q := 2) (b := 1) rfl (by decide) (by decide) rfl ?_
              refine j_goto (tgt := 4) X dX7_unsafeMany_45 (by decide) ?_
              exact j_sub [1, 2, 0] rfl (ih4 _ _ (by omega) (by rw [sm_s]; omega) (by omega))
            · refine j_iload_n X dX7_unsafeMany_17 rfl 1 rfl ?_
              refine j_aload_n X dX7_unsafeMany_18 rfl 0 rfl ?_
              refine j_iload_n X dX7_unsafeMany_19 rfl 2 rfl ?_
              refine j_iload_n X dX7_unsafeMany_20 rfl 3 rfl ?_
              refine j_bipush (v := (-9)) X dX7_unsafeMany_21 (by decide) ?_
              refine jm_callI3 X hR (m_X7_isSafe S hB hI _ _ _ (by omega) (by omega) isMore_9) m_X7_113 rfl (by decide) (by decide) (Nat.le_of_ble_eq_true rfl) ⟨by decide, by decide⟩ dX7_unsafeMany_23 ?_
              rintro _ _ ⟨rfl, rfl⟩
              refine b_if_eq (tgt := 33) X dX7_unsafeMany_26 (by decide) (fun c_26 => ?_) (fun c_26 => ?_)
              · refine j_iconst (v := nI 1) X dX7_unsafeMany_33 (by decide) ?_
                refine n_iadd X dX7_unsafeMany_34 ?_
                refine j_istore_n X [(1, _), (0, _), (2, _), (3, _)] dX7_unsafeMany_35 rfl (by decide) rfl ?_
                refine n_iinc X [(3, _), (1, _), (0, _), (2, _)] dX7_unsafeMany_36 (q := 3) (b := 1) rfl (by decide) (by decide) rfl ?_
                refine j_goto (tgt := 11) X dX7_unsafeMany_39 (by decide) ?_
                exact j_sub [2, 1, 3, 0] rfl (ih11 _ _ (by omega) (by rw [sm_s, ht, ← Nat.add_assoc]; congr 1; simp [ct, c_14, c_26]) (by omega))
              · refine j_iconst (v := nI 0) X dX7_unsafeMany_29 (by decide) ?_
                refine j_goto (tgt := 34) X dX7_unsafeMany_30 (by decide) ?_
                refine n_iadd X dX7_unsafeMany_34 ?_
                refine j_istore_n X [(1, _), (0, _), (2, _), (3, _)] dX7_unsafeMany_35 rfl (by decide) rfl ?_
                refine n_iinc X [(3, _), (1, _), (0, _), (2, _)] dX7_unsafeMany_36 (q := 3) (b := 1) rfl (by decide) (by decide) rfl ?_
                refine j_goto (tgt := 11) X dX7_unsafeMany_39 (by decide) ?_
                exact j_sub [2, 1, 3, 0] rfl (ih11 _ _ (by omega) (by rw [sm_s, ht, ← Nat.add_assoc]; congr 1; simp [ct, c_14, c_26]) (by omega))
        exact j_sub [1, 2, 3, 0] rfl (L11 11 _ _ (by omega) (by rfl) (by omega))
  exact j_sub [2, 1, 0] rfl (L4 6 _ _ (by omega) (by rfl) (by omega))
set_option maxRecDepth 100000 in
set_option maxHeartbeats 4000000 in
theorem m_X7_unsafeHours (S : MS) (hB : BD S) (hI : IV S) : MM zX7_unsafeHours 6 [] S (pN S (usfN S) 50) := by
  intro D Y h0 ad
  refine MT.of [(0, .ref h0)] (by decide) rfl (Nat.le_of_ble_eq_true rfl) ?_
  intro K hR X E
  refine j_aload_n X dX7_unsafeHours_0 rfl 0 rfl ?_
  refine jm_callI0 X hR (m_X7_unsafeMany S hB hI) m_X7_160 rfl (by decide) (by decide) (Nat.le_of_ble_eq_true rfl) ⟨by decide, by decide⟩ dX7_unsafeHours_1 ?_
  rintro _ _ ⟨v_1, e_1, b_1, rfl, rfl⟩
  exact j_ireturn X E (S) rfl ⟨_, rfl, _, e_1, b_1, rfl, rfl⟩ dX7_unsafeHours_4
set_option maxRecDepth 100000 in
set_option maxHeartbeats 4000000 in
theorem m_X7_coverOf (S : MS) (hB : BD S) (x : Int32) : MM zX7_coverOf 2 [.int x] S (pZ S (cvoI S x)) := by
  intro D Y h0 ad
  refine MT.of [(0, .ref h0), (1, .int x)] (by decide) rfl (Nat.le_of_ble_eq_true rfl) ?_
  intro K hR X E
  refine j_iload_n X dX7_coverOf_0 rfl 1 rfl ?_
  refine jst_call1 X hR (m_X7_isDay _) m_X7_116 (by decide) (by decide) (Nat.le_of_ble_eq_true rfl) ⟨by decide, by decide⟩ dX7_coverOf_1 ?_
  refine b_if_eq (tgt := 16) X dX7_coverOf_4 (by decide) (fun c_4 => ?_) (fun c_4 => ?_)
  · refine j_iconst (v := (-1)) X dX7_coverOf_16 (by decide) ?_
    exact j_ireturn X E (S) rfl ⟨_, rfl, by simp [cvoI, tn, c_4, *], rfl⟩ dX7_coverOf_17
  · obtain ⟨d, hd, rfl⟩ := within_0 (n := 4) (by decide) c_4
    have hdl := nI_clamp (n := d) (by omega)
    refine j_aload_n X dX7_coverOf_7 rfl 0 rfl ?_
    refine jm_get X 19 (by decide) rfl f_X7_62 dX7_coverOf_8 ?_
    refine j_iload_n X dX7_coverOf_11 rfl 1 rfl ?_
    refine jm_ald X hB (by decide) (by show _ < 5; omega) dX7_coverOf_12 (fun v_12 e_12 b_12 => ?_)
    refine j_goto (tgt := 17) X dX7_coverOf_13 (by decide) ?_
    exact j_ireturn X E (S) rfl ⟨_, rfl, by simp [cvoI, tn, c_4, *], rfl⟩ dX7_coverOf_17

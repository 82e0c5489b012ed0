set_option maxRecDepth 100000 in
set_option maxHeartbeats 4000000 in
theorem m_X7_book (S : MS) (hB : BD S) (hI : IV S) (x y z w : Int32) : MM zX7_book 6 [.int x, .int y, .int z, .int w] S (pS (bookR S x y z w) (bookS S x y z w)) := by
  intro D Y h0 ad
  refine MT.of [(0, .ref h0), (1, .int x), (2, .int y), (3, .int z), (4, .int w)] (by decide) rfl (Nat.le_of_ble_eq_true rfl) ?_
  intro K hR X E
  refine j_aload_n X dX7_book_0 rfl 0 rfl ?_
  refine j_iload_n X dX7_book_1 rfl 1 rfl ?_
  refine jm_callI1 X hR (m_X7_hasChild S hB _) m_X7_85 rfl (by decide) (by decide) (Nat.le_of_ble_eq_true rfl) ⟨by decide, by decide⟩ dX7_book_2 ?_
  rintro _ _ ⟨rfl, rfl⟩
  refine b_if_eq (tgt := 24) X dX7_book_5 (by decide) (fun c_5 => ?_) (fun c_5 => ?_)
  · refine j_iconst (v := (-1)) X dX7_book_24 (by decide) ?_
    exact j_ireturn X E (S) rfl ⟨_, rfl, by simp [bookR, bookS, bookOk, bookNo, tn, setSp, c_5, *], by simp [bookR, bookS, bookOk, bookNo, tn, setSp, c_5, *], hB, hI⟩ dX7_book_25
  · obtain ⟨c, hc, rfl, h0c⟩ := hasC_of c_5
    have hcl := nI_clamp (n := c) (by omega)
    refine j_iload_n X dX7_book_8 rfl 2 rfl ?_
    refine jst_call1 X hR (m_X7_isDay _) m_X7_116 (by decide) (by decide) (Nat.le_of_ble_eq_true rfl) ⟨by decide, by decide⟩ dX7_book_9 ?_
    refine b_if_eq (tgt := 24) X dX7_book_12 (by decide) (fun c_12 => ?_) (fun c_12 => ?_)
    · refine j_iconst (v := (-1)) X dX7_book_24 (by decide) ?_
      exact j_ireturn X E (S) rfl ⟨_, rfl, by simp [bookR, bookS, bookOk, bookNo, tn, setSp, c_5, c_12, *], by simp [bookR, bookS, bookOk, bookNo, tn, setSp, c_5, c_12, *], hB, hI⟩ dX7_book_25
    · obtain ⟨d, hd, rfl⟩ := within_0 (n := 4) (by decide) c_12
      have hdl := nI_clamp (n := d) (by omega)
      refine j_iload_n X dX7_book_15 rfl 3 rfl ?_
      refine j_iload X dX7_book_16 4 rfl ?_
      refine jst_call2 X hR (m_X7_isSpan _ _) m_X7_119 (by decide) (by decide) (Nat.le_of_ble_eq_true rfl) ⟨by decide, by decide⟩ dX7_book_18 ?_
      refine b_if_ne (tgt := 26) X dX7_book_21 (by decide) (fun c_21 => ?_) (fun c_21 => ?_)
      · obtain ⟨b, e, hbe, he, rfl, rfl⟩ := isSpan_of c_21
        have hbl := nI_clamp (n := b) (by omega)
        have hel := nI_clamp (n := e) (by omega)
        refine j_aload_n X dX7_book_26 rfl 0 rfl ?_
        refine jm_get X 4 (by decide) rfl f_X7_19 dX7_book_27 ?_
        refine j_iload_n X dX7_book_30 rfl 1 rfl ?_
        refine jm_ald X hB (by decide) (by show _ < 24; omega) dX7_book_31 (fun v_31 e_31 b_31 => ?_)
        subst e_31
        refine j_iconst (v := nI 1) X dX7_book_32 (by decide) ?_
        refine n_icmp_ne (tgt := 51) X dX7_book_33 (by decide) (by omega) (by omega) (fun c_33 => ?_) (fun c_33 => ?_)
        · refine j_aload_n X dX7_book_51 rfl 0 rfl ?_
          refine jm_get X 6 (by decide) rfl f_X7_25 dX7_book_52 ?_
          refine j_iconst (v := nI 5) X dX7_book_55 (by decide) ?_
          refine j_iload_n X dX7_book_56 rfl 1 rfl ?_
          refine n_imul X dX7_book_57 ?_
          refine j_iload_n X dX7_book_58 rfl 2 rfl ?_
          refine n_iadd X dX7_book_59 ?_
          refine j_iload_n X dX7_book_60 rfl 3 rfl ?_
          refine jm_ast2 X hB (by decide) (by show _ < 120; omega) (by omega) dX7_book_61 (fun S_61 eS_61 hB_61 => ?_)
          refine j_aload_n X dX7_book_62 rfl 0 rfl ?_
          refine jm_get X 7 (by decide) rfl f_X7_28 dX7_book_63 ?_
          refine j_iconst (v := nI 5) X dX7_book_66 (by decide) ?_
          refine j_iload_n X dX7_book_67 rfl 1 rfl ?_
          refine n_imul X dX7_book_68 ?_
          refine j_iload_n X dX7_book_69 rfl 2 rfl ?_
          refine n_iadd X dX7_book_70 ?_
          refine j_iload X dX7_book_71 4 rfl ?_
          refine jm_ast2 X hB_61 (by decide) (by show _ < 120; omega) (by omega) dX7_book_73 (fun S_73 eS_73 hB_73 => ?_)
          have hI2 : IV S_73 := by rw [eS_73, eS_61]; exact IV_span hI hbe he
          refine j_aload_n X dX7_book_74 rfl 0 rfl ?_
          refine j_iload_n X dX7_book_75 rfl 1 rfl ?_
          refine jm_callI1 X hR (m_X7_hoursOf S_73 hB_73 hI2 _ (by omega)) m_X7_89 rfl (by decide) (by decide) (Nat.le_of_ble_eq_true rfl) ⟨by decide, by decide⟩ dX7_book_76 ?_
          rintro _ _ ⟨v_76, e_76, b_76, rfl, rfl⟩
          exact j_ireturn X E (S_73) rfl ⟨_, rfl, by simp [bookR, bookS, bookOk, bookNo, tn, setSp, c_5, c_12, c_21, c_33, *], by simp [bookR, bookS, bookOk, bookNo, tn, setSp, c_5, c_12, c_21, c_33, *], hB_73, hI2⟩ dX7_book_79
        · refine j_aload_n X dX7_book_36 rfl 0 rfl ?_
          refine j_iload_n X dX7_book_37 rfl 1 rfl ?_
          refine j_iload_n X dX7_book_38 rfl 2 rfl ?_
          refine j_iload_n X dX7_book_39 rfl 3 rfl ?_
          refine j_iload X dX7_book_40 4 rfl ?_
          refine jm_callI4 X hR (m_X7_canHave S hB hI _ _ _ _ (by omega) (by omega) (by omega) (by omega)) m_X7_123 rfl (by decide) (by decide) (Nat.le_of_ble_eq_true rfl) ⟨by decide, by decide⟩ dX7_book_42 ?_
          rintro _ _ ⟨rfl, rfl⟩
          refine b_if_ne (tgt := 51) X dX7_book_45 (by decide) (fun c_45 => ?_) (fun c_45 => ?_)
          · refine j_aload_n X dX7_book_51 rfl 0 rfl ?_
            refine jm_get X 6 (by decide) rfl f_X7_25 dX7_book_52 ?_
            refine j_iconst (v := nI 5) X dX7_book_55 (by decide) ?_
            refine j_iload_n X dX7_book_56 rfl 1 rfl ?_
            refine n_imul X dX7_book_57 ?_
            refine j_iload_n X dX7_book_58 rfl 2 rfl ?_
            refine n_iadd X dX7_book_59 ?_
            refine j_iload_n X dX7_book_60 rfl 3 rfl ?_
            refine jm_ast2 X hB (by decide) (by show _ < 120; omega) (by omega) dX7_book_61 (fun S_61 eS_61 hB_61 => ?_)
            refine j_aload_n X dX7_book_62 rfl 0 rfl ?_
            refine jm_get X 7 (by decide) rfl f_X7_28 dX7_book_63 ?_
            refine j_iconst (v := nI 5) X dX7_book_66 (by decide) ?_
            refine j_iload_n X dX7_book_67 rfl 1 rfl ?_
            refine n_imul X dX7_book_68 ?_
            refine j_iload_n X dX7_book_69 rfl 2 rfl ?_
            refine n_iadd X dX7_book_70 ?_
            refine j_iload X dX7_book_71 4 rfl ?_
            refine jm_ast2 X hB_61 (by decide) (by show _ < 120; omega) (by omega) dX7_book_73 (fun S_73 eS_73 hB_73 => ?_)
            have hI2 : IV S_73 := by rw [eS_73, eS_61]; exact IV_span hI hbe he
            refine j_aload_n X dX7_book_74 rfl 0 rfl ?_
            refine j_iload_n X dX7_book_75 rfl 1 rfl ?_
            refine jm_callI1 X hR (m_X7_hoursOf S_73 hB_73 hI2 _ (by omega)) m_X7_89 rfl (by decide) (by decide) (Nat.le_of_ble_eq_true rfl) ⟨by decide, by decide⟩ dX7_book_76 ?_
            rintro _ _ ⟨v_76, e_76, b_76, rfl, rfl⟩
            exact j_ireturn X E (S_73) rfl ⟨_, rfl, by simp [bookR, bookS, bookOk, bookNo, tn, setSp, c_5, c_12, c_21, c_33, c_45, *], by simp [bookR, bookS, bookOk, bookNo, tn, setSp, c_5, c_12, c_21, c_33, c_45, *], hB_73, hI2⟩ dX7_book_79
          · refine j_bipush (v := (-3)) X dX7_book_48 (by decide) ?_
            exact j_ireturn X E (S) rfl ⟨_, rfl, by simp [bookR, bookS, bookOk, bookNo, tn, setSp, c_5, c_12, c_21, c_33, c_45, *], by simp [bookR, bookS, bookOk, bookNo, tn, setSp, c_5, c_12, c_21, c_33, c_45, *], hB, hI⟩ dX7_book_50
      · refine j_iconst (v := (-1)) X dX7_book_24 (by decide) ?_
        exact j_ireturn X E (S) rfl ⟨_, rfl, by simp [bookR, bookS, bookOk, bookNo, tn, setSp, c_5, c_12, c_21, *], by simp [bookR, bookS, bookOk, bookNo, tn, setSp, c_5, c_12, c_21, *], hB, hI⟩ dX7_book_25
set_option maxRecDepth 100000 in
set_option maxHeartbeats 4000000 in
theorem m_X7_removeChild (S : MS) (hB : BD S) (hI : IV S) (x : Int32) : MM zX7_removeChild 2 [.int x] S (pS (rmCR S x) (rmCS S x)) := by
  intro D Y h0 ad
  refine MT.of [(0, .ref h0), (1, .int x)] (by decide) rfl (Nat.le_of_ble_eq_true rfl) ?_
  intro K hR X E
  refine j_aload_n X dX7_removeChild_0 rfl 0 rfl ?_
  refine j_iload_n X dX7_removeChild_1 rfl 1 rfl ?_
  refine jm_callI1 X hR (m_X7_hasChild S hB _) m_X7_85 rfl (by decide) (by decide) (Nat.le_of_ble_eq_true rfl) ⟨by decide, by decide⟩ dX7_removeChild_2 ?_
  rintro _ _ ⟨rfl, rfl⟩
  refine b_if_ne (tgt := 10) X dX7_removeChild_5 (by decide) (fun c_5 => ?_) (fun c_5 => ?_)
  · obtain ⟨c, hc, rfl, h0c⟩ := hasC_of c_5
    have hcl := nI_clamp (n := c) (by omega)
    refine j_aload_n X dX7_removeChild_10 rfl 0 rfl ?_
    refine jm_get X 1 (by decide) rfl f_X7_7 dX7_removeChild_11 ?_
    refine j_iload_n X dX7_removeChild_14 rfl 1 rfl ?_
    refine j_iconst (v := nI 0) X dX7_removeChild_15 (by decide) ?_
    refine jm_ast2 X hB (by decide) (by show _ < 24; omega) (by omega) dX7_removeChild_16 (fun S_16 eS_16 hB_16 => ?_)
    have hI2 : IV S_16 := by rw [eS_16]; exact IV_rmC hI
    refine j_aload_n X dX7_removeChild_17 rfl 0 rfl ?_
    refine jm_callI0 X hR (m_X7_childMany S_16 hB_16 hI2) m_X7_81 rfl (by decide) (by decide) (Nat.le_of_ble_eq_true rfl) ⟨by decide, by decide⟩ dX7_removeChild_18 ?_
    rintro _ _ ⟨v_18, e_18, b_18, rfl, rfl⟩
    exact j_ireturn X E (S_16) rfl ⟨_, rfl, by simp [rmCR, tn, c_5, *], by simp [rmCS, tn, c_5, *], hB_16, hI2⟩ dX7_removeChild_21
  · refine j_iconst (v := (-1)) X dX7_removeChild_8 (by decide) ?_
    exact j_ireturn X E (S) rfl ⟨_, rfl, by simp [rmCR, tn, c_5, *], by simp [rmCS, tn, c_5, *], hB, hI⟩ dX7_removeChild_9

set_option maxRecDepth 100000 in
set_option maxHeartbeats 4000000 in
theorem m_X1_canGive {S : MS} {G : Nat → Nat} {T : CT} {e : CE} (hR : RG S G T e) (hG : ∀ k, k < 4 → G k ≤ 5) (sh : Nat → Nat) (hsh : ∀ d, d < 5 → T 5 d = nI (sh d)) (hshb : ∀ d, d < 5 → sh d ≤ 40000) (d s : Nat) (hd : d < 5) (hs16 : s < 16) : CF zX1_canGive 14 2 0 0 [.int (nI d), .int (nI s)] (T, e) (pBc (T, e) (givB S s d (uG G) (sh d))) := by
  intro D Y ad
  refine MT.of [(0, .ref (ad 14)), (1, .int (nI d)), (2, .int (nI s))] (by decide) rfl (Nat.le_of_ble_eq_true rfl) ?_
  intro K hK X E
  have hsz := sz_le s
  refine j_iload_n X dX1_canGive_0 rfl 2 rfl ?_
  refine jst_call1 X hK (m_J6_bitCount_0f7a4 _ (by omega)) m_X1_61 (by decide) (by decide) (Nat.le_of_ble_eq_true rfl) ⟨by decide, by decide⟩ dX1_canGive_1 ?_
  refine j_aload_n X dX1_canGive_4 rfl 0 rfl ?_
  refine j_getf X ly_X1 5 rfl rfl 4 (by decide) f_X1_21 rfl dX1_canGive_5 ?_
  refine j_iload_n X dX1_canGive_8 rfl 1 rfl ?_
  refine jc_ald X (by decide) (by decide) (by show _ < 5; omega) dX1_canGive_9 ?_
  rw [hsh _ (by omega)]
  refine n_name (fun v_9 e_9 => ?_)
  have b_9 : v_9 < 16777216 := by rw [e_9]; have := hshb d hd; omega
  refine n_icmp_eq (tgt := 15) X dX1_canGive_10 (by decide) (by omega) (by omega) (fun c_10 => ?_) (fun c_10 => ?_)
  · refine j_iconst (v := nI 0) X dX1_canGive_15 (by decide) ?_
    refine j_istore_n X [(3, _), (0, _), (1, _), (2, _)] dX1_canGive_16 rfl (by decide) rfl ?_
    have L17 : ∀ (n : Nat) (i : Nat), (i ≤ 4) → (andN (canK S s d (uG G)) i = true) → (4 + 1 ≤ i + n) → JJ K D 0 0 (WC ad Y (T, e)) [(0, .ref (ad 14)), (1, .int (nI d)), (2, .int (nI s)), (3, .int (nI i))] 17 [] := by
      intro n
      induction n with
      | zero =>
        intro i hi hc hf17
        exact absurd hf17 (by omega)
      | succ n17 ih17 =>
        intro i hi hc hf17
        refine j_iload_n X dX1_canGive_17 rfl 3 rfl ?_
        refine j_aload_n X dX1_canGive_18 rfl 0 rfl ?_
        refine j_getf X ly_X1 5 rfl rfl 0 (by decide) f_X1_11 rfl dX1_canGive_19 ?_
        refine jc_len_r2 X dX1_canGive_22 ?_
        refine n_icmp_ge (tgt := 64) X dX1_canGive_23 (by decide) (by omega) (by omega) (fun c_23 => ?_) (fun c_23 => ?_)
        · have hi2 : i = 4 := by omega
          subst hi2
          refine j_iconst (v := bI true) X dX1_canGive_64 (by decide) ?_
          exact j_zreturn X E ((T, e)) rfl ⟨_, rfl, by unfold givB; rw [hc, decide_eq_true (by omega), Bool.true_and], rfl⟩ dX1_canGive_65
        · refine j_aload_n X dX1_canGive_26 rfl 0 rfl ?_
          refine j_getf X ly_X1 5 rfl rfl 0 (by decide) f_X1_11 rfl dX1_canGive_27 ?_
          refine j_iload_n X dX1_canGive_30 rfl 3 rfl ?_
          refine jc_su X hR (by omega) dX1_canGive_31 (fun a_31 q_31 r_31 m_31 p_31 => ?_) (fun q_31 r_31 => ?_)
          · have hGi := hG i (by omega)
            refine j_astore X [(4, _), (0, _), (1, _), (2, _), (3, _)] dX1_canGive_32 (by decide) rfl ?_
            refine j_iload_n X dX1_canGive_34 rfl 3 rfl ?_
            refine j_iload_n X dX1_canGive_35 rfl 4 rfl ?_
            refine jst_call2 X hK (m_X1_isIn _ _ (by omega) (by omega)) m_X1_66 (by decide) (by decide) (Nat.le_of_ble_eq_true rfl) ⟨by decide, by decide⟩ dX1_canGive_36 ?_
            refine b_if_eq (tgt := 58) X dX1_canGive_39 (by decide) (fun c_39 => ?_) (fun c_39 => ?_)
            · have hb : ¬ bitN s i = 1 := of_decide_eq_false c_39
              refine n_iinc X [(3, _), (4, _), (0, _), (1, _), (2, _)] dX1_canGive_58 (q := 4) (b := 1) rfl (by decide) (by decide) rfl ?_
              refine j_goto (tgt := 17) X dX1_canGive_61 (by decide) ?_
              exact j_sub [2, 3, 4, 0] rfl (ih17 _ (by omega) (by rw [andN, hc, Bool.true_and]; exact canK_no hb) (by omega))
            · have hb : bitN s i = 1 := of_decide_eq_true c_39
              refine j_aload X dX1_canGive_42 0 rfl ?_
              refine j_ifnull X dX1_canGive_44 ?_
              refine j_aload X dX1_canGive_47 0 rfl ?_
              refine j_iload_n X dX1_canGive_49 rfl 2 rfl ?_
              refine jc_callPI1 X hK (m_X5_canTake hR _ _ _ (by omega) (by omega) (by omega) m_31 p_31) m_X1_69 m_31 p_31 rfl rfl (by decide) (by decide) (Nat.le_of_ble_eq_true rfl) ⟨by decide, by decide⟩ dX1_canGive_50 ?_
              rintro _ _ ⟨rfl, rfl⟩
              refine b_if_ne (tgt := 58) X dX1_canGive_53 (by decide) (fun c_53 => ?_) (fun c_53 => ?_)
              · refine n_iinc X [(3, _), (4, _), (0, _), (1, _), (2, _)] dX1_canGive_58 (q := 4) (b := 1) rfl (by decide) (by decide) rfl ?_
                refine j_goto (tgt := 17) X dX1_canGive_61 (by decide) ?_
                exact j_sub [2, 3, 4, 0] rfl (ih17 _ (by omega) (by rw [andN, hc, Bool.true_and]; rw [canK_is hG (by omega) hb (su_t q_31), c_53]) (by omega))
              · refine j_iconst (v := bI false) X dX1_canGive_56 (by decide) ?_
                exact j_zreturn X E ((T, e)) rfl ⟨_, rfl, by have hk : canK S s d (uG G) i = false := (by rw [canK_is hG (by omega) hb (su_t q_31), c_53]); unfold givB; rw [andN_no (k := i + 1) (by omega) (by rw [andN, hk, Bool.and_false]), Bool.false_and], rfl⟩ dX1_canGive_57
          · refine j_astoreN X [(4, _), (0, _), (1, _), (2, _), (3, _)] dX1_canGive_32 (by decide) rfl ?_
            refine j_iload_n X dX1_canGive_34 rfl 3 rfl ?_
            refine j_iload_n X dX1_canGive_35 rfl 4 rfl ?_
            refine jst_call2 X hK (m_X1_isIn _ _ (by omega) (by omega)) m_X1_66 (by decide) (by decide) (Nat.le_of_ble_eq_true rfl) ⟨by decide, by decide⟩ dX1_canGive_36 ?_
            refine b_if_eq (tgt := 58) X dX1_canGive_39 (by decide) (fun c_39 => ?_) (fun c_39 => ?_)
            · have hb : ¬ bitN s i = 1 := of_decide_eq_false c_39
              refine n_iinc X [(3, _), (4, _), (0, _), (1, _), (2, _)] dX1_canGive_58 (q := 4) (b := 1) rfl (by decide) (by decide) rfl ?_
              refine j_goto (tgt := 17) X dX1_canGive_61 (by decide) ?_
              exact j_sub [2, 3, 4, 0] rfl (ih17 _ (by omega) (by rw [andN, hc, Bool.true_and]; exact canK_no hb) (by omega))
            · have hb : bitN s i = 1 := of_decide_eq_true c_39
              refine j_aloadN X dX1_canGive_42 0 rfl ?_
              refine j_ifnullN (tgt := 56) X dX1_canGive_44 (by decide) ?_
              refine j_iconst (v := bI false) X dX1_canGive_56 (by decide) ?_
              exact j_zreturn X E ((T, e)) rfl ⟨_, rfl, by have hk : canK S s d (uG G) i = false := (by exact canK_su hb (su_f q_31)); unfold givB; rw [andN_no (k := i + 1) (by omega) (by rw [andN, hk, Bool.and_false]), Bool.false_and], rfl⟩ dX1_canGive_57
    exact j_sub [1, 2, 3, 0] rfl (L17 5 _ (by omega) (by rfl) (by omega))
  · refine j_iconst (v := bI false) X dX1_canGive_13 (by decide) ?_
    exact j_zreturn X E ((T, e)) rfl ⟨_, rfl, by unfold givB; rw [decide_eq_false (by omega), Bool.and_false], rfl⟩ dX1_canGive_14
set_option maxRecDepth 100000 in
set_option maxHeartbeats 4000000 in
theorem m_X1_give {S : MS} {G : Nat → Nat} {T : CT} {e : CE} (hR : RG S G T e) {G' : Nat → Nat} (s : Nat) (hs16 : s < 16) (c : Int32) (h0 : ∀ k, k < 4 → ¬ bitN s k = 1 → G' k = G k) (h1 : ∀ k, k < 4 → bitN s k = 1 → suH S k = 1 ∧ nI (G k) + c = nI (G' k)) (hGb : ∀ k, k < 4 → G k < 16777216) : CF zX1_give 14 2 0 0 [.int (nI s), .int c] (T, e) (pV (fun u => ∃ e' : CE, (T, e') = u ∧ RG S G' T e' ∧ ∀ a i, eR e' a i = eR e a i)) := by
  intro D Y ad
  refine MT.of [(0, .ref (ad 14)), (1, .int (nI s)), (2, .int c)] (by decide) rfl (Nat.le_of_ble_eq_true rfl) ?_
  intro K hK X E
  refine j_iconst (v := nI 0) X dX1_give_0 (by decide) ?_
  refine j_istore_n X [(3, _), (0, _), (1, _), (2, _)] dX1_give_1 rfl (by decide) rfl ?_
  have L2 : ∀ (n : Nat) (i : Nat) (e1 : CE), (i ≤ 4) → (RG S (gm G G' i) T e1) → (∀ a k, eR e1 a k = eR e a k) → (4 + 1 ≤ i + n) → JJ K D 0 0 (WC ad Y (T, e1)) [(0, .ref (ad 14)), (1, .int (nI s)), (2, .int c), (3, .int (nI i))] 2 [] := by
    intro n
    induction n with
    | zero =>
      intro i e1 hi hR1 her hf2
      exact absurd hf2 (by omega)
    | succ n2 ih2 =>
      intro i e1 hi hR1 her hf2
      refine j_iload_n X dX1_give_2 rfl 3 rfl ?_
      refine j_aload_n X dX1_give_3 rfl 0 rfl ?_
      refine j_getf X ly_X1 5 rfl rfl 0 (by decide) f_X1_11 rfl dX1_give_4 ?_
      refine jc_len_r2 X dX1_give_7 ?_
      refine n_icmp_ge (tgt := 49) X dX1_give_8 (by decide) (by omega) (by omega) (fun c_8 => ?_) (fun c_8 => ?_)
      · have hi2 : i = 4 := by omega
        subst hi2
        exact j_return X E ((T, e1)) rfl ⟨rfl, _, rfl, hR1.congrG (fun j hj => gm_4 G G' hj), her⟩ dX1_give_49
      · refine j_aload_n X dX1_give_11 rfl 0 rfl ?_
        refine j_getf X ly_X1 5 rfl rfl 0 (by decide) f_X1_11 rfl dX1_give_12 ?_
        refine j_iload_n X dX1_give_15 rfl 3 rfl ?_
        refine jc_su X hR1 (by omega) dX1_give_16 (fun a_16 q_16 r_16 m_16 p_16 => ?_) (fun q_16 r_16 => ?_)
        · refine j_astore X [(4, _), (0, _), (1, _), (2, _), (3, _)] dX1_give_17 (by decide) rfl ?_
          refine j_aload X dX1_give_19 0 rfl ?_
          refine j_ifnull X dX1_give_21 ?_
          refine j_iload_n X dX1_give_24 rfl 2 rfl ?_
          refine j_iload_n X dX1_give_25 rfl 4 rfl ?_
          refine jst_call2 X hK (m_X1_isIn _ _ (by omega) (by omega)) m_X1_66 (by decide) (by decide) (Nat.le_of_ble_eq_true rfl) ⟨by decide, by decide⟩ dX1_give_26 ?_
          refine b_if_eq (tgt := 43) X dX1_give_29 (by decide) (fun c_29 => ?_) (fun c_29 => ?_)
          · have hbn : ¬ bitN s i = 1 := of_decide_eq_false c_29
            refine n_iinc X [(3, _), (4, _), (0, _), (1, _), (2, _)] dX1_give_43 (q := 4) (b := 1) rfl (by decide) (by decide) rfl ?_
            refine j_goto (tgt := 2) X dX1_give_46 (by decide) ?_
            exact j_sub [2, 3, 4, 0] rfl (ih2 _ _ (by omega) (by exact hR1.congrG (fun j _ => gm_skip (h0 i (by omega) hbn) j)) (by exact her) (by omega))
          · have hb : bitN s i = 1 := of_decide_eq_true c_29
            refine j_aload X dX1_give_32 0 rfl ?_
            refine j_dup X dX1_give_34 rfl ?_
            refine jc_pget X ly_X5 m_16 p_16 rfl 3 (by decide) f_X1_72 rfl dX1_give_35 ?_
            refine n_name (fun v_35 e_35 => ?_)
            have b_35 : v_35 < 16777216 := by rw [e_35]; rw [gm_at]; exact hGb i (by omega)
            refine j_iload_n X dX1_give_38 rfl 3 rfl ?_
            refine j_iadd X dX1_give_39 ?_
            refine jc_pput X ly_X5 tyX5 tyX5_ok nmX5 m_16 p_16 rfl 3 (by decide) f_X1_72 rfl rfl rfl rfl (Nat.le_of_ble_eq_true rfl) dX1_give_40 (fun e_40 ee_40 => ?_)
            have m_40 := mem_wP ee_40 m_16
            have p_40 := pos_wP ee_40
            refine n_iinc X [(3, _), (4, _), (0, _), (1, _), (2, _)] dX1_give_43 (q := 4) (b := 1) rfl (by decide) (by decide) rfl ?_
            refine j_goto (tgt := 2) X dX1_give_46 (by decide) ?_
            exact j_sub [2, 3, 4, 0] rfl (ih2 _ _ (by omega) (by rw [ee_40, e_35, gm_at, (h1 i (by omega) hb).2, ← gm_new G G' i]; exact hR1.setS (by omega) r_16 q_16 (fun j _ hj => gm_ne hj)) (by intro a k; rw [ee_40]; exact her a k) (by omega))
        · have hbn : ¬ bitN s i = 1 := fun z => by have := (h1 i (by omega) z).1; omega
          refine j_astoreN X [(4, _), (0, _), (1, _), (2, _), (3, _)] dX1_give_17 (by decide) rfl ?_
          refine j_aloadN X dX1_give_19 0 rfl ?_
          refine j_ifnullN (tgt := 43) X dX1_give_21 (by decide) ?_
          refine n_iinc X [(3, _), (4, _), (0, _), (1, _), (2, _)] dX1_give_43 (q := 4) (b := 1) rfl (by decide) (by decide) rfl ?_
          refine j_goto (tgt := 2) X dX1_give_46 (by decide) ?_
          exact j_sub [2, 3, 4, 0] rfl (ih2 _ _ (by omega) (by exact hR1.congrG (fun j _ => gm_skip (h0 i (by omega) hbn) j)) (by exact her) (by omega))
  exact j_sub [1, 2, 3, 0] rfl (L2 5 _ _ (by omega) (by exact hR.congrG (fun j _ => gm_0 G G' j)) (by intro _ _; rfl) (by omega))
set_option maxRecDepth 100000 in
set_option maxHeartbeats 4000000 in
theorem m_X1_wagesOf {S : MS} {G : Nat → Nat} {T : CT} {e : CE} (hR : RG S G T e) (s : Nat) (hs16 : s < 16) (hset : ∀ k, k < 4 → bitN s k = 1 → suH S k = 1) : CF zX1_wagesOf 14 2 0 0 [.int (nI s)] (T, e) (pNc (T, e) (cstN S s) 4000) := by
  intro D Y ad
  refine MT.of [(0, .ref (ad 14)), (1, .int (nI s))] (by decide) rfl (Nat.le_of_ble_eq_true rfl) ?_
  intro K hK X E
  refine j_iconst (v := nI 0) X dX1_wagesOf_0 (by decide) ?_
  refine j_istore_n X [(2, _), (0, _), (1, _)] dX1_wagesOf_1 rfl (by decide) rfl ?_
  refine j_iconst (v := nI 0) X dX1_wagesOf_2 (by decide) ?_
  refine j_istore_n X [(3, _), (2, _), (0, _), (1, _)] dX1_wagesOf_3 rfl (by decide) rfl ?_
  have L4 : ∀ (n : Nat) (i w : Nat), (i ≤ 4) → (w = sm (fun k => bitN s k * S 15 k) i) → (4 + 1 ≤ i + n) → JJ K D 0 0 (WC ad Y (T, e)) [(0, .ref (ad 14)), (1, .int (nI s)), (2, .int (nI w)), (3, .int (nI i))] 4 [] := by
    intro n
    induction n with
    | zero =>
      intro i w hi hs hf4
      exact absurd hf4 (by omega)
    | succ n4 ih4 =>
      intro i w hi hs hf4
      refine j_iload_n X dX1_wagesOf_4 rfl 3 rfl ?_
      refine j_aload_n X dX1_wagesOf_5 rfl 0 rfl ?_
      refine j_getf X ly_X1 5 rfl rfl 0 (by decide) f_X1_11 rfl dX1_wagesOf_6 ?_
      refine jc_len_r2 X dX1_wagesOf_9 ?_
      refine n_icmp_ge (tgt := 48) X dX1_wagesOf_10 (by decide) (by omega) (by omega) (fun c_10 => ?_) (fun c_10 => ?_)
      · have hi2 : i = 4 := by omega
        subst hi2
        have hcl := cst_le hR.hI (set := s)
        have hw2 : w = cstN S s := hs
        refine j_iload_n X dX1_wagesOf_48 rfl 2 rfl ?_
        exact j_ireturn X E ((T, e)) rfl ⟨_, rfl, _, hw2, by omega, rfl, rfl⟩ dX1_wagesOf_49
      · refine j_aload_n X dX1_wagesOf_13 rfl 0 rfl ?_
        refine j_getf X ly_X1 5 rfl rfl 0 (by decide) f_X1_11 rfl dX1_wagesOf_14 ?_
        refine j_iload_n X dX1_wagesOf_17 rfl 3 rfl ?_
        refine jc_su X hR (by omega) dX1_wagesOf_18 (fun a_18 q_18 r_18 m_18 p_18 => ?_) (fun q_18 r_18 => ?_)
        · refine j_astore X [(4, _), (0, _), (1, _), (2, _), (3, _)] dX1_wagesOf_19 (by decide) rfl ?_
          refine j_aload X dX1_wagesOf_21 0 rfl ?_
          refine j_ifnull X dX1_wagesOf_23 ?_
          refine j_iload_n X dX1_wagesOf_26 rfl 2 rfl ?_
          refine j_iload_n X dX1_wagesOf_27 rfl 4 rfl ?_
          refine jst_call2 X hK (m_X1_isIn _ _ (by omega) (by omega)) m_X1_66 (by decide) (by decide) (Nat.le_of_ble_eq_true rfl) ⟨by decide, by decide⟩ dX1_wagesOf_28 ?_
          refine b_if_eq (tgt := 42) X dX1_wagesOf_31 (by decide) (fun c_31 => ?_) (fun c_31 => ?_)
          · have hb0 : bitN s i = 0 := by have h1 := bitN_le s i; have h2 : ¬ bitN s i = 1 := of_decide_eq_false c_31; omega
            refine n_iinc X [(3, _), (4, _), (0, _), (1, _), (2, _)] dX1_wagesOf_42 (q := 4) (b := 1) rfl (by decide) (by decide) rfl ?_
            refine j_goto (tgt := 4) X dX1_wagesOf_45 (by decide) ?_
            exact j_sub [2, 3, 4, 0] rfl (ih4 _ _ (by omega) (by rw [sm_s, hs]; rw [hb0, Nat.zero_mul]; rfl) (by omega))
          · have hb : bitN s i = 1 := of_decide_eq_true c_31
            refine j_iload_n X dX1_wagesOf_34 rfl 3 rfl ?_
            refine j_aload X dX1_wagesOf_35 0 rfl ?_
            refine jc_pget X ly_X5 m_18 p_18 rfl 2 (by decide) f_X1_75 rfl dX1_wagesOf_37 ?_
            refine n_name (fun v_37 e_37 => ?_)
            have b_37 : v_37 < 16777216 := by rw [e_37]; exact hR.hB _ _
            refine n_iadd X dX1_wagesOf_40 ?_
            refine j_istore_n X [(2, _), (4, _), (0, _), (1, _), (3, _)] dX1_wagesOf_41 rfl (by decide) rfl ?_
            refine n_iinc X [(3, _), (2, _), (4, _), (0, _), (1, _)] dX1_wagesOf_42 (q := 4) (b := 1) rfl (by decide) (by decide) rfl ?_
            refine j_goto (tgt := 4) X dX1_wagesOf_45 (by decide) ?_
            exact j_sub [3, 4, 1, 0] rfl (ih4 _ _ (by omega) (by rw [sm_s, hs]; rw [hb, Nat.one_mul, e_37]) (by omega))
        · have hb0 : bitN s i = 0 := by have h1 := bitN_le s i; rcases Nat.decEq (bitN s i) 1 with z | z; omega; have := hset i (by omega) z; omega
          refine j_astoreN X [(4, _), (0, _), (1, _), (2, _), (3, _)] dX1_wagesOf_19 (by decide) rfl ?_
          refine j_aloadN X dX1_wagesOf_21 0 rfl ?_
          refine j_ifnullN (tgt := 42) X dX1_wagesOf_23 (by decide) ?_
          refine n_iinc X [(3, _), (4, _), (0, _), (1, _), (2, _)] dX1_wagesOf_42 (q := 4) (b := 1) rfl (by decide) (by decide) rfl ?_
          refine j_goto (tgt := 4) X dX1_wagesOf_45 (by decide) ?_
          exact j_sub [2, 3, 4, 0] rfl (ih4 _ _ (by omega) (by rw [sm_s, hs]; rw [hb0, Nat.zero_mul]; rfl) (by omega))
  exact j_sub [2, 3, 1, 0] rfl (L4 5 _ _ (by omega) (by rfl) (by omega))
set_option maxRecDepth 100000 in
set_option maxHeartbeats 4000000 in
theorem m_X1_keepSets {T : CT} {e : CE} (c : Nat) : CF zX1_keepSets 14 1 0 0 [.int (nI c)] (T, e) (pVs [6, 11] T e (fun T' => T' 11 0 = nI c ∧ ∀ j, j < 5 → T' 6 j = T 4 j)) := by
  intro D Y ad
  refine MT.of [(0, .ref (ad 14)), (1, .int (nI c))] (by decide) rfl (Nat.le_of_ble_eq_true rfl) ?_
  intro K hK X E
  refine j_aload_n X dX1_keepSets_0 rfl 0 rfl ?_
  refine j_iload_n X dX1_keepSets_1 rfl 1 rfl ?_
  refine jc_put4 X f_X1_34 dX1_keepSets_2 (fun T_2 eT_2 => ?_)
  refine j_iconst (v := nI 0) X dX1_keepSets_5 (by decide) ?_
  refine j_istore_n X [(2, _), (0, _), (1, _)] dX1_keepSets_6 rfl (by decide) rfl ?_
  have L7 : ∀ (n : Nat) (i : Nat) (T1 : CT), (i ≤ 5) → (SM [6, 11] T T1) → (T1 11 0 = nI c) → (∀ j, j < i → T1 6 j = T 4 j) → (5 + 1 ≤ i + n) → JJ K D 0 0 (WC ad Y (T1, e)) [(0, .ref (ad 14)), (2, .int (nI i))] 7 [] := by
    intro n
    induction n with
    | zero =>
      intro i T1 hi hs h11 h6 hf7
      exact absurd hf7 (by omega)
    | succ n7 ih7 =>
      intro i T1 hi hs h11 h6 hf7
      refine j_iload_n X dX1_keepSets_7 rfl 1 rfl ?_
      refine j_iconst (v := nI 5) X dX1_keepSets_8 (by decide) ?_
      refine n_icmp_ge (tgt := 30) X dX1_keepSets_9 (by decide) (by omega) (by omega) (fun c_9 => ?_) (fun c_9 => ?_)
      · have hi2 : i = 5 := by omega
        subst hi2
        exact j_return X E ((T1, e)) rfl ⟨rfl, _, rfl, hs, h11, h6⟩ dX1_keepSets_30
      · refine j_aload_n X dX1_keepSets_12 rfl 0 rfl ?_
        refine j_getf X ly_X1 5 rfl rfl 5 (by decide) f_X1_24 rfl dX1_keepSets_13 ?_
        refine j_iload_n X dX1_keepSets_16 rfl 1 rfl ?_
        refine j_aload_n X dX1_keepSets_17 rfl 0 rfl ?_
        refine j_getf X ly_X1 5 rfl rfl 2 (by decide) f_X1_17 rfl dX1_keepSets_18 ?_
        refine j_iload_n X dX1_keepSets_21 rfl 1 rfl ?_
        refine jc_ald X (by decide) (by decide) (by show _ < 5; omega) dX1_keepSets_22 ?_
        refine jc_ast X (by decide) (by decide) (by show _ < 5; omega) dX1_keepSets_23 (fun T_23 eT_23 => ?_)
        refine n_iinc X [(2, _), (0, _)] dX1_keepSets_24 (q := 1) (b := 1) rfl (by decide) (by decide) rfl ?_
        refine j_goto (tgt := 7) X dX1_keepSets_27 (by decide) ?_
        exact j_sub [1, 0] rfl (ih7 _ _ (by omega) (by rw [eT_23]; exact hs.u (by decide)) (by rw [eT_23, uI_nk (by omega)]; exact h11) (by intro j hj; rw [eT_23]; by_cases q : j = i; subst q; rw [uI_eq]; exact hs 4 j (by decide); rw [uI_ni q]; exact h6 j (by omega)) (by omega))
  exact j_sub [1, 0] rfl (L7 6 _ _ (by omega) (by rw [eT_2]; exact (SM.refl _ _).u (by decide)) (by rw [eT_2]; exact uI_eq _ _ _ _) (by intro j hj; omega) (by omega))

set_option maxRecDepth 100000 in
set_option maxHeartbeats 4000000 in
theorem m_X7_power (k : Nat) (hk : k < 4) : MSt zX7_power 0 [.int (nI k)] (fun w => w = some (.int (nI (pwN k)))) := by
  intro D Y ws
  refine MT.of [(0, .int (nI k))] (by decide) rfl (Nat.le_of_ble_eq_true rfl) ?_
  intro K hR X E
  refine j_iload_n X dX7_power_0 rfl 0 rfl ?_
  refine n_if_ne (tgt := 8) X dX7_power_1 (by decide) (by omega) (fun c_1 => ?_) (fun c_1 => ?_)
  · refine j_iload_n X dX7_power_8 rfl 0 rfl ?_
    refine j_iconst (v := nI 1) X dX7_power_9 (by decide) ?_
    refine n_icmp_ne (tgt := 18) X dX7_power_10 (by decide) (by omega) (by omega) (fun c_10 => ?_) (fun c_10 => ?_)
    · refine j_iload_n X dX7_power_18 rfl 0 rfl ?_
      refine j_iconst (v := nI 2) X dX7_power_19 (by decide) ?_
      refine n_icmp_ne (tgt := 28) X dX7_power_20 (by decide) (by omega) (by omega) (fun c_20 => ?_) (fun c_20 => ?_)
      · refine j_sipush (v := nI 216) X dX7_power_28 (by decide) ?_
        exact j_ireturn X E (_) rfl ⟨by unfold pwN; simp [c_1, c_10, c_20], rfl⟩ dX7_power_31
      · refine j_bipush (v := nI 36) X dX7_power_23 (by decide) ?_
        refine j_goto (tgt := 31) X dX7_power_25 (by decide) ?_
        exact j_ireturn X E (_) rfl ⟨by unfold pwN; simp [c_1, c_10, c_20], rfl⟩ dX7_power_31
    · refine j_bipush (v := nI 6) X dX7_power_13 (by decide) ?_
      refine j_goto (tgt := 31) X dX7_power_15 (by decide) ?_
      exact j_ireturn X E (_) rfl ⟨by unfold pwN; simp [c_1, c_10], rfl⟩ dX7_power_31
  · refine j_iconst (v := nI 1) X dX7_power_4 (by decide) ?_
    refine j_goto (tgt := 31) X dX7_power_5 (by decide) ?_
    exact j_ireturn X E (_) rfl ⟨by unfold pwN; simp [c_1], rfl⟩ dX7_power_31
set_option maxRecDepth 100000 in
set_option maxHeartbeats 4000000 in
theorem m_X7_canBeGiven (S : MS) (hB : BD S) (set d u many : Nat) (hset : set < 16) (hd : d < 5) (hu : u < 1296) (hmany : many < 16777216) : MM zX7_canBeGiven 1 [.int (nI set), .int (nI d), .int (nI u), .int (nI many)] S (pB S (givB S set d u many)) := by
  intro D Y h0 ad
  refine MT.of [(0, .ref h0), (1, .int (nI set)), (2, .int (nI d)), (3, .int (nI u)), (4, .int (nI many))] (by decide) rfl (Nat.le_of_ble_eq_true rfl) ?_
  intro K hR X E
  refine j_iconst (v := bI true) X dX7_canBeGiven_0 (by decide) ?_
  refine j_istore X [(5, _), (0, _), (1, _), (2, _), (3, _), (4, _)] dX7_canBeGiven_1 (by decide) rfl ?_
  refine j_iconst (v := nI 0) X dX7_canBeGiven_3 (by decide) ?_
  refine j_istore X [(6, _), (5, _), (0, _), (1, _), (2, _), (3, _), (4, _)] dX7_canBeGiven_4 (by decide) rfl ?_
  refine j_iconst (v := nI 0) X dX7_canBeGiven_6 (by decide) ?_
  refine j_istore X [(7, _), (6, _), (5, _), (0, _), (1, _), (2, _), (3, _), (4, _)] dX7_canBeGiven_7 (by decide) rfl ?_
  have L9 : ∀ (n : Nat) (k sz : Nat) (cn : Bool), (k ≤ 4) → (sz = sm (fun k => bitN set k) k) → (cn = andN (canK S set d u) k) → (4 + 1 ≤ k + n) → JJ K D 0 0 (WM h0 ad Y S) [(0, .ref h0), (1, .int (nI set)), (2, .int (nI d)), (3, .int (nI u)), (4, .int (nI many)), (5, .int (bI cn)), (6, .int (nI sz)), (7, .int (nI k))] 9 [] := by
    intro n
    induction n with
    | zero =>
      intro k sz cn hk hsz hcn hf9
      exact absurd hf9 (by omega)
    | succ n9 ih9 =>
      intro k sz cn hk hsz hcn hf9
      refine j_iload X dX7_canBeGiven_9 7 rfl ?_
      refine j_iconst (v := nI 4) X dX7_canBeGiven_11 (by decide) ?_
      refine n_icmp_ge (tgt := 90) X dX7_canBeGiven_12 (by decide) (by omega) (by omega) (fun c_12 => ?_) (fun c_12 => ?_)
      · have hk4 : k = 4 := by omega
        subst hk4
        have hle4 : sm (fun k => bitN set k) 4 ≤ 4 * 1 := sm_le (fun k hk => bitN_le set k)
        have hg : givB S set d u many = (cn && decide (sz = many)) := by rw [hcn, hsz]; rfl
        refine j_iload X dX7_canBeGiven_90 5 rfl ?_
        refine b_if_eq (tgt := 106) X dX7_canBeGiven_92 (by decide) (fun c_92 => ?_) (fun c_92 => ?_)
        · refine j_iconst (v := bI false) X dX7_canBeGiven_106 (by decide) ?_
          exact j_zreturn X E (S) rfl ⟨_, rfl, by rw [hg]; simp [c_12, c_92], rfl⟩ dX7_canBeGiven_107
        · refine j_iload X dX7_canBeGiven_95 6 rfl ?_
          refine j_iload X dX7_canBeGiven_97 4 rfl ?_
          refine n_icmp_ne (tgt := 106) X dX7_canBeGiven_99 (by decide) (by omega) (by omega) (fun c_99 => ?_) (fun c_99 => ?_)
          · refine j_iconst (v := bI false) X dX7_canBeGiven_106 (by decide) ?_
            exact j_zreturn X E (S) rfl ⟨_, rfl, by rw [hg]; simp [c_12, c_92, c_99], rfl⟩ dX7_canBeGiven_107
          · refine j_iconst (v := bI true) X dX7_canBeGiven_102 (by decide) ?_
            refine j_goto (tgt := 107) X dX7_canBeGiven_103 (by decide) ?_
            exact j_zreturn X E (S) rfl ⟨_, rfl, by rw [hg]; simp [c_12, c_92, c_99], rfl⟩ dX7_canBeGiven_107
      · refine j_iload_n X dX7_canBeGiven_15 rfl 1 rfl ?_
        refine j_iload X dX7_canBeGiven_16 7 rfl ?_
        refine j_ishr X dX7_canBeGiven_18 ?_
        refine j_iconst (v := nI 1) X dX7_canBeGiven_19 (by decide) ?_
        refine j_iand X dX7_canBeGiven_20 ?_
        have hbk := bitN_le set k
        refine z_as (nI (bitN set k)) (bit_at (by omega) (by omega)) ?_
        refine j_iconst (v := nI 1) X dX7_canBeGiven_21 (by decide) ?_
        refine n_icmp_ne (tgt := 84) X dX7_canBeGiven_22 (by decide) (by omega) (by omega) (fun c_22 => ?_) (fun c_22 => ?_)
        · refine n_iinc X [(7, _), (0, _), (1, _), (2, _), (3, _), (4, _), (5, _), (6, _)] dX7_canBeGiven_84 (q := 7) (b := 1) rfl (by decide) (by decide) rfl ?_
          refine j_goto (tgt := 9) X dX7_canBeGiven_87 (by decide) ?_
          exact j_sub [1, 2, 3, 4, 5, 6, 7, 0] rfl (ih9 _ _ _ (by omega) (by have := bitN_le set k; rw [sm_s]; omega) (by rw [andN, ← hcn]; simp [canK, c_22]) (by omega))
        · have L79 : ∀ (cb : Bool), (cb = (cn && canK S set d u k)) → JJ K D 0 0 (WM h0 ad Y S) [(0, .ref h0), (1, .int (nI set)), (2, .int (nI d)), (3, .int (nI u)), (4, .int (nI many)), (6, .int (nI sz)), (7, .int (nI k))] 79 [.int (bI cb)] := by
            intro cb hcb
            refine j_istore X [(5, _), (0, _), (1, _), (2, _), (3, _), (4, _), (6, _), (7, _)] dX7_canBeGiven_79 (by decide) rfl ?_
            refine n_iinc X [(6, _), (5, _), (0, _), (1, _), (2, _), (3, _), (4, _), (7, _)] dX7_canBeGiven_81 (q := 6) (b := 1) rfl (by decide) (by decide) rfl ?_
            refine n_iinc X [(7, _), (6, _), (5, _), (0, _), (1, _), (2, _), (3, _), (4, _)] dX7_canBeGiven_84 (q := 7) (b := 1) rfl (by decide) (by decide) rfl ?_
            refine j_goto (tgt := 9) X dX7_canBeGiven_87 (by decide) ?_
            exact j_sub [3, 4, 5, 6, 7, 2, 1, 0] rfl (ih9 _ _ _ (by omega) (by have := bitN_le set k; rw [sm_s]; omega) (by rw [andN, ← hcn]; exact hcb) (by omega))
          refine j_iload X dX7_canBeGiven_25 5 rfl ?_
          refine b_if_eq (tgt := 78) X dX7_canBeGiven_27 (by decide) (fun c_27 => ?_) (fun c_27 => ?_)
          · refine j_iconst (v := bI false) X dX7_canBeGiven_78 (by decide) ?_
            exact j_sub [0, 1, 2, 3, 4, 6, 7] rfl (L79 _ (by symm; simp [canK, c_12, c_22, c_27] <;> omega) )
          · refine j_iload X dX7_canBeGiven_30 7 rfl ?_
            refine j_aload_n X dX7_canBeGiven_32 rfl 0 rfl ?_
            refine jm_get X 15 (by decide) rfl f_X7_171 dX7_canBeGiven_33 ?_
            refine n_name (fun v_33 e_33 => ?_)
            have b_33 : v_33 < 16777216 := by rw [e_33]; exact hB _ _
            subst e_33
            refine n_icmp_ge (tgt := 78) X dX7_canBeGiven_36 (by decide) (by omega) (by omega) (fun c_36 => ?_) (fun c_36 => ?_)
            · refine j_iconst (v := bI false) X dX7_canBeGiven_78 (by decide) ?_
              exact j_sub [0, 1, 2, 3, 4, 6, 7] rfl (L79 _ (by symm; simp [canK, c_12, c_22, c_27, c_36] <;> omega) )
            · refine j_aload_n X dX7_canBeGiven_39 rfl 0 rfl ?_
              refine jm_get X 16 (by decide) rfl f_X7_53 dX7_canBeGiven_40 ?_
              refine j_iload X dX7_canBeGiven_43 7 rfl ?_
              refine jm_ald X hB (by decide) (by show _ < 4; omega) dX7_canBeGiven_45 (fun v_45 e_45 b_45 => ?_)
              subst e_45
              refine j_iload_n X dX7_canBeGiven_46 rfl 2 rfl ?_
              refine j_ishr X dX7_canBeGiven_47 ?_
              refine j_iconst (v := nI 1) X dX7_canBeGiven_48 (by decide) ?_
              refine j_iand X dX7_canBeGiven_49 ?_
              have hbd := bitN_le (S 13 k) d
              refine z_as (nI (bitN (S 13 k) d)) (bit_at (by omega) (by omega)) ?_
              refine j_iconst (v := nI 1) X dX7_canBeGiven_50 (by decide) ?_
              refine n_icmp_ne (tgt := 78) X dX7_canBeGiven_51 (by decide) (by omega) (by omega) (fun c_51 => ?_) (fun c_51 => ?_)
              · refine j_iconst (v := bI false) X dX7_canBeGiven_78 (by decide) ?_
                exact j_sub [0, 1, 2, 3, 4, 6, 7] rfl (L79 _ (by symm; simp [canK, c_12, c_22, c_27, c_36, c_51] <;> omega) )
              · refine j_iload_n X dX7_canBeGiven_54 rfl 3 rfl ?_
                refine j_iload X dX7_canBeGiven_55 7 rfl ?_
                refine jst_call1 X hR (m_X7_power _ (by omega)) m_X7_177 (by decide) (by decide) (Nat.le_of_ble_eq_true rfl) ⟨by decide, by decide⟩ dX7_canBeGiven_57 ?_
                have hpw := pwN_pos k
                have hdq := Nat.div_le_self u (pwN k)
                refine n_idiv X dX7_canBeGiven_60 (by omega) (by omega) (by omega) ?_
                refine j_bipush (v := nI 6) X dX7_canBeGiven_61 (by decide) ?_
                refine n_irem X dX7_canBeGiven_63 (by omega) (by omega) (by omega) ?_
                refine j_aload_n X dX7_canBeGiven_64 rfl 0 rfl ?_
                refine jm_get X 17 (by decide) rfl f_X7_56 dX7_canBeGiven_65 ?_
                refine j_iload X dX7_canBeGiven_68 7 rfl ?_
                refine jm_ald X hB (by decide) (by show _ < 4; omega) dX7_canBeGiven_70 (fun v_70 e_70 b_70 => ?_)
                subst e_70
                refine n_icmp_ge (tgt := 78) X dX7_canBeGiven_71 (by decide) (by omega) (by omega) (fun c_71 => ?_) (fun c_71 => ?_)
                · refine j_iconst (v := bI false) X dX7_canBeGiven_78 (by decide) ?_
                  exact j_sub [0, 1, 2, 3, 4, 6, 7] rfl (L79 _ (by symm; simp [canK, c_12, c_22, c_27, c_36, c_51, c_71] <;> omega) )
                · refine j_iconst (v := bI true) X dX7_canBeGiven_74 (by decide) ?_
                  refine j_goto (tgt := 79) X dX7_canBeGiven_75 (by decide) ?_
                  exact j_sub [0, 1, 2, 3, 4, 6, 7] rfl (L79 _ (by symm; simp [canK, c_12, c_22, c_27, c_36, c_51, c_71] <;> omega) )
  exact j_sub [3, 4, 5, 6, 7, 2, 1, 0] rfl (L9 5 _ _ _ (by omega) (by rfl) (by rfl) (by omega))
set_option maxRecDepth 100000 in
set_option maxHeartbeats 4000000 in
theorem m_X7_costWith (S : MS) (hB : BD S) (hI : IV S) (set d u : Nat) (hset : set < 16) (hd : d < 5) (hu : u + usN set < 1296) : MM zX7_costWith 1 [.int (nI set), .int (nI d), .int (nI u)] S (pN S (cstN S set + S 20 (1296 * (d + 1) + (u + usN set))) 17000000) := by
  intro D Y h0 ad
  refine MT.of [(0, .ref h0), (1, .int (nI set)), (2, .int (nI d)), (3, .int (nI u))] (by decide) rfl (Nat.le_of_ble_eq_true rfl) ?_
  intro K hR X E
  refine j_iload_n X dX7_costWith_0 rfl 3 rfl ?_
  refine j_istore X [(4, _), (0, _), (1, _), (2, _), (3, _)] dX7_costWith_1 (by decide) rfl ?_
  refine j_iconst (v := nI 0) X dX7_costWith_3 (by decide) ?_
  refine j_istore X [(5, _), (4, _), (0, _), (1, _), (2, _), (3, _)] dX7_costWith_4 (by decide) rfl ?_
  refine j_iconst (v := nI 0) X dX7_costWith_6 (by decide) ?_
  refine j_istore X [(6, _), (5, _), (4, _), (0, _), (1, _), (2, _), (3, _)] dX7_costWith_7 (by decide) rfl ?_
  have L9 : ∀ (n : Nat) (k th co : Nat), (k ≤ 4) → (th = u + sm (fun k => bitN set k * pwN k) k) → (co = sm (fun k => bitN set k * S 15 k) k) → (4 + 1 ≤ k + n) → JJ K D 0 0 (WM h0 ad Y S) [(0, .ref h0), (1, .int (nI set)), (2, .int (nI d)), (3, .int (nI u)), (4, .int (nI th)), (5, .int (nI co)), (6, .int (nI k))] 9 [] := by
    intro n
    induction n with
    | zero =>
      intro k th co hk hth hco hf9
      exact absurd hf9 (by omega)
    | succ n9 ih9 =>
      intro k th co hk hth hco hf9
      refine j_iload X dX7_costWith_9 6 rfl ?_
      refine j_iconst (v := nI 4) X dX7_costWith_11 (by decide) ?_
      refine n_icmp_ge (tgt := 53) X dX7_costWith_12 (by decide) (by omega) (by omega) (fun c_12 => ?_) (fun c_12 => ?_)
      · have hk4 : k = 4 := by omega
        subst hk4
        have hth2 : th = u + usN set := hth
        have hco2 : co = cstN S set := hco
        have hcl := cst_le hI (set := set)
        refine j_iload X dX7_costWith_53 5 rfl ?_
        refine j_aload_n X dX7_costWith_55 rfl 0 rfl ?_
        refine jm_get X 24 (by decide) rfl f_X7_74 dX7_costWith_56 ?_
        refine j_sipush (v := nI 1296) X dX7_costWith_59 (by decide) ?_
        refine j_iload_n X dX7_costWith_62 rfl 2 rfl ?_
        refine j_iconst (v := nI 1) X dX7_costWith_63 (by decide) ?_
        refine n_iadd X dX7_costWith_64 ?_
        refine n_imul X dX7_costWith_65 ?_
        refine j_iload X dX7_costWith_66 4 rfl ?_
        refine n_iadd X dX7_costWith_68 ?_
        refine jm_ald X hB (by decide) (by show _ < 7776; omega) dX7_costWith_69 (fun v_69 e_69 b_69 => ?_)
        refine n_iadd X dX7_costWith_70 ?_
        exact j_ireturn X E (S) rfl ⟨_, rfl, _, by rw [e_69, hth2, hco2], by omega, rfl, rfl⟩ dX7_costWith_71
      · refine j_iload_n X dX7_costWith_15 rfl 1 rfl ?_
        refine j_iload X dX7_costWith_16 6 rfl ?_
        refine j_ishr X dX7_costWith_18 ?_
        refine j_iconst (v := nI 1) X dX7_costWith_19 (by decide) ?_
        refine j_iand X dX7_costWith_20 ?_
        have hbk := bitN_le set k
        refine z_as (nI (bitN set k)) (bit_at (by omega) (by omega)) ?_
        refine j_iconst (v := nI 1) X dX7_costWith_21 (by decide) ?_
        refine n_icmp_ne (tgt := 47) X dX7_costWith_22 (by decide) (by omega) (by omega) (fun c_22 => ?_) (fun c_22 => ?_)
        · have hb0 : bitN set k = 0 := by have := bitN_le set k; omega
          refine n_iinc X [(6, _), (0, _), (1, _), (2, _), (3, _), (4, _), (5, _)] dX7_costWith_47 (q := 6) (b := 1) rfl (by decide) (by decide) rfl ?_
          refine j_goto (tgt := 9) X dX7_costWith_50 (by decide) ?_
          exact j_sub [1, 2, 3, 4, 5, 6, 0] rfl (ih9 _ _ _ (by omega) (by simp only [sm_s, hb0, Nat.zero_mul]; omega) (by simp only [sm_s, hb0, Nat.zero_mul]; omega) (by omega))
        · refine j_iload X dX7_costWith_25 4 rfl ?_
          refine j_iload X dX7_costWith_27 6 rfl ?_
          refine jst_call1 X hR (m_X7_power _ (by omega)) m_X7_177 (by decide) (by decide) (Nat.le_of_ble_eq_true rfl) ⟨by decide, by decide⟩ dX7_costWith_29 ?_
          refine n_iadd X dX7_costWith_32 ?_
          refine j_istore X [(4, _), (0, _), (1, _), (2, _), (3, _), (5, _), (6, _)] dX7_costWith_33 (by decide) rfl ?_
          refine j_iload X dX7_costWith_35 5 rfl ?_
          refine j_aload_n X dX7_costWith_37 rfl 1 rfl ?_
          refine jm_get X 18 (by decide) rfl f_X7_59 dX7_costWith_38 ?_
          refine j_iload X dX7_costWith_41 6 rfl ?_
          refine jm_ald X hB (by decide) (by show _ < 4; omega) dX7_costWith_43 (fun v_43 e_43 b_43 => ?_)
          refine n_iadd X dX7_costWith_44 ?_
          refine j_istore X [(5, _), (4, _), (0, _), (1, _), (2, _), (3, _), (6, _)] dX7_costWith_45 (by decide) rfl ?_
          refine n_iinc X [(6, _), (5, _), (4, _), (0, _), (1, _), (2, _), (3, _)] dX7_costWith_47 (q := 6) (b := 1) rfl (by decide) (by decide) rfl ?_
          refine j_goto (tgt := 9) X dX7_costWith_50 (by decide) ?_
          exact j_sub [3, 4, 5, 6, 2, 1, 0] rfl (ih9 _ _ _ (by omega) (by simp only [sm_s, c_22, Nat.one_mul]; omega) (by simp only [sm_s, c_22, Nat.one_mul]; omega) (by omega))
  exact j_sub [3, 4, 5, 6, 2, 1, 0] rfl (L9 5 _ _ _ (by omega) (by rfl) (by rfl) (by omega))
set_option maxRecDepth 100000 in
set_option maxHeartbeats 4000000 in
theorem m_X7_findCosts (S : MS) (hB : BD S) (hI : IV S) (w : Nat) (hw : w < 52) : MM zX7_findCosts 5 [.int (nI w)] S (pI (fun r u => nI (cvN S w 5 0) = r ∧ AG u S ∧ BD u ∧ ∀ j, j ≤ 5 → ∀ v, v < 1296 → u 20 (1296 * (5 - j) + v) = cvN S w j v)) := by
  intro D Y h0 ad
  refine MT.of [(0, .ref h0), (1, .int (nI w))] (by decide) rfl (Nat.le_of_ble_eq_true rfl) ?_
  intro K hR X E
  refine j_iconst (v := nI 0) X dX7_findCosts_0 (by decide) ?_
  refine j_istore_n X [(2, _), (0, _), (1, _)] dX7_findCosts_1 rfl (by decide) rfl ?_
  have L2 : ∀ (n : Nat) (u : Nat) (T : MS), (u ≤ 1296) → (AG T S) → (∀ v, v < u → T 20 (6480 + v) = 0) → (BD T) → (1296 + 1 ≤ u + n) → JJ K D 0 0 (WM h0 ad Y T) [(0, .ref h0), (1, .int (nI w)), (2, .int (nI u))] 2 [] := by
    intro n
    induction n with
    | zero =>
      intro u T hu hAT hz hBT hf2
      exact absurd hf2 (by omega)
    | succ n2 ih2 =>
      intro u T hu hAT hz hBT hf2
      refine j_iload_n X dX7_findCosts_2 rfl 2 rfl ?_
      refine j_sipush (v := nI 1296) X dX7_findCosts_3 (by decide) ?_
      refine n_icmp_ge (tgt := 26) X dX7_findCosts_6 (by decide) (by omega) (by omega) (fun c_6 => ?_) (fun c_6 => ?_)
      · have hu6 : u = 1296 := by omega
        subst hu6
        refine j_iconst (v := nI 4) X dX7_findCosts_26 (by decide) ?_
        refine j_istore_n X [(2, _), (0, _), (1, _)] dX7_findCosts_27 rfl (by decide) rfl ?_
        have L28 : ∀ (n : Nat) (k : Nat) (dv : Int32) (V : MS), (k ≤ 5) → (dv = if k < 5 then nI (4 - k) else -1) → (AG V S) → (∀ j, j ≤ k → ∀ v, v < 1296 → V 20 (1296 * (5 - j) + v) = cvN S w j v) → (BD V) → (IV V) → (5 + 1 ≤ k + n) → JJ K D 0 0 (WM h0 ad Y V) [(0, .ref h0), (1, .int (nI w)), (2, .int dv)] 28 [] := by
          intro n
          induction n with
          | zero =>
            intro k dv V hk hdv hAV htb hBV hIV hf28
            exact absurd hf28 (by omega)
          | succ n28 ih28 =>
            intro k dv V hk hdv hAV htb hBV hIV hf28
            refine j_iload_n X dX7_findCosts_28 rfl 2 rfl ?_
            refine j_if_lt (tgt := 142) X dX7_findCosts_29 (by decide) (fun c_29 => ?_) (fun c_29 => ?_)
            · have hk5 : k = 5 := by
                rcases Nat.lt_or_ge k 5 with q | q
                · rw [if_pos q] at hdv; subst hdv; exact absurd c_29 (nI_pos (by omega))
                · omega
              subst hk5
              refine j_aload_n X dX7_findCosts_142 rfl 0 rfl ?_
              refine jm_get X 24 (by decide) rfl f_X7_74 dX7_findCosts_143 ?_
              refine j_iconst (v := nI 0) X dX7_findCosts_146 (by decide) ?_
              refine jm_ald X hBV (by decide) (by show _ < 7776; omega) dX7_findCosts_147 (fun v_147 e_147 b_147 => ?_)
              exact j_ireturn X E (V) rfl ⟨_, rfl, by rw [e_147]; exact congrArg nI (htb 5 (Nat.le_refl 5) 0 (by omega)).symm, hAV, hBV, htb⟩ dX7_findCosts_148
            · have hk5 : k < 5 := by
                rcases Nat.lt_or_ge k 5 with q | q
                · exact q
                · rw [if_neg (by omega)] at hdv; subst hdv; exact absurd (by decide) c_29
              rw [if_pos hk5] at hdv
              subst hdv
              refine j_aload_n X dX7_findCosts_32 rfl 0 rfl ?_
              refine j_iload_n X dX7_findCosts_33 rfl 1 rfl ?_
              refine j_iload_n X dX7_findCosts_34 rfl 2 rfl ?_
              refine jm_callI2 X hR (m_X7_shortageOf V hBV hIV _ _ (by omega) (by omega)) m_X7_174 rfl (by decide) (by decide) (Nat.le_of_ble_eq_true rfl) ⟨by decide, by decide⟩ dX7_findCosts_35 ?_
              rintro _ _ ⟨v_35, e_35, b_35, rfl, rfl⟩
              have hsh : v_35 = shN S w (4 - k) := by rw [e_35, hAV.sh]
              refine j_istore_n X [(3, _), (0, _), (1, _), (2, _)] dX7_findCosts_38 rfl (by decide) rfl ?_
              refine j_iconst (v := nI 0) X dX7_findCosts_39 (by decide) ?_
              refine j_istore X [(4, _), (3, _), (0, _), (1, _), (2, _)] dX7_findCosts_40 (by decide) rfl ?_
              have L42 : ∀ (n : Nat) (u : Nat) (U : MS), (u ≤ 1296) → (AG U S) → (∀ j, j ≤ k → ∀ v, v < 1296 → U 20 (1296 * (5 - j) + v) = cvN S w j v) → (∀ v, v < u → U 20 (1296 * (4 - k) + v) = cvN S w (k + 1) v) → (BD U) → (IV U) → (1296 + 1 ≤ u + n) → JJ K D 0 0 (WM h0 ad Y U) [(0, .ref h0), (1, .int (nI w)), (2, .int (nI (4 - k))), (3, .int (nI v_35)), (4, .int (nI u))] 42 [] := by
                intro n
                induction n with
                | zero =>
                  intro u U hu hAU htu hzu hBU hIU hf42
                  exact absurd hf42 (by omega)
                | succ n42 ih42 =>
                  intro u U hu hAU htu hzu hBU hIU hf42
                  refine j_iload X dX7_findCosts_42 4 rfl ?_
                  refine j_sipush (v := nI 1296) X dX7_findCosts_44 (by decide) ?_
                  refine n_icmp_ge (tgt := 136) X dX7_findCosts_47 (by decide) (by omega) (by omega) (fun c_47 => ?_) (fun c_47 => ?_)
                  · have hu6 : u = 1296 := by omega
                    subst hu6
                    refine j_iinc X [(2, _), (0, _), (1, _), (3, _), (4, _)] dX7_findCosts_136 (q := 2) rfl rfl (by decide) rfl ?_
                    refine j_goto (tgt := 28) X dX7_findCosts_139 (by decide) ?_
                    exact j_sub [1, 2, 0] rfl (ih28 (k + 1) _ _ (by omega) (by exact dec5 k (by omega)) (by exact hAU) (by intro j hj v hv; by_cases q : j = k + 1; subst q; rw [show 5 - (k + 1) = 4 - k by omega]; exact hzu v (by omega); exact htu j (by omega) v hv) (by exact hBU) (by exact hIU) (by omega))
                  · refine j_ldc X k_X7_180 dX7_findCosts_50 ?_
                    rw [show (1000000 : Int32) = nI 1000000 from by decide]
                    refine j_istore X [(5, _), (0, _), (1, _), (2, _), (3, _), (4, _)] dX7_findCosts_52 (by decide) rfl ?_
                    refine j_iconst (v := nI 0) X dX7_findCosts_54 (by decide) ?_
                    refine j_istore X [(6, _), (5, _), (0, _), (1, _), (2, _), (3, _), (4, _)] dX7_findCosts_55 (by decide) rfl ?_
                    have L57 : ∀ (n : Nat) (set le : Nat), (set ≤ 16) → (le = lsN (fun set => if givB S set (4 - k) u (shN S w (4 - k)) then cstN S set + cvN S w k (u + usN set) else 1000000) set) → (le ≤ 1000000) → (16 + 1 ≤ set + n) → JJ K D 0 0 (WM h0 ad Y U) [(0, .ref h0), (1, .int (nI w)), (2, .int (nI (4 - k))), (3, .int (nI v_35)), (4, .int (nI u)), (5, .int (nI le)), (6, .int (nI set))] 57 [] := by
                      intro n
                      induction n with
                      | zero =>
                        intro set le hset hle hlb hf57
                        exact absurd hf57 (by omega)
                      | succ n57 ih57 =>
                        intro set le hset hle hlb hf57
                        refine j_iload X dX7_findCosts_57 6 rfl ?_
                        refine j_bipush (v := nI 16) X dX7_findCosts_59 (by decide) ?_
                        refine n_icmp_ge (tgt := 115) X dX7_findCosts_61 (by decide) (by omega) (by omega) (fun c_61 => ?_) (fun c_61 => ?_)
                        · have hs16 : set = 16 := by omega
                          subst hs16
                          refine j_aload_n X dX7_findCosts_115 rfl 0 rfl ?_
                          refine jm_get X 24 (by decide) rfl f_X7_74 dX7_findCosts_116 ?_
                          refine j_sipush (v := nI 1296) X dX7_findCosts_119 (by decide) ?_
                          refine j_iload_n X dX7_findCosts_122 rfl 2 rfl ?_
                          refine n_imul X dX7_findCosts_123 ?_
                          refine j_iload X dX7_findCosts_124 4 rfl ?_
                          refine n_iadd X dX7_findCosts_126 ?_
                          refine j_iload X dX7_findCosts_127 5 rfl ?_
                          refine jm_ast2 X hBU (by decide) (by show _ < 7776; omega) (by omega) dX7_findCosts_129 (fun S_129 eS_129 hB_129 => ?_)
                          refine n_iinc X [(4, _), (0, _), (1, _), (2, _), (3, _), (5, _), (6, _)] dX7_findCosts_130 (q := 4) (b := 1) rfl (by decide) (by decide) rfl ?_
                          refine j_goto (tgt := 42) X dX7_findCosts_133 (by decide) ?_
                          exact j_sub [1, 2, 3, 4, 0] rfl (ih42 _ _ (by omega) (by rw [eS_129]; exact AG_20 hAU) (by intro j hj v hv; rw [eS_129, uM_ni (by omega)]; exact htu j hj v hv) (by intro v hv; rw [eS_129]; by_cases q : v = u; subst q; rw [uM_eq]; exact hle; rw [uM_ni (by omega)]; exact hzu v (by omega)) (by exact hB_129) (by rw [eS_129]; exact AG.iv (AG.symm (AG_20 (AG.refl U))) hIU) (by omega))
                        · have L91 : ∀ (cs : Nat), (cs = if givB S set (4 - k) u (shN S w (4 - k)) then cstN S set + cvN S w k (u + usN set) else 1000000) → (cs ≤ 17000000) → JJ K D 0 0 (WM h0 ad Y U) [(0, .ref h0), (1, .int (nI w)), (2, .int (nI (4 - k))), (3, .int (nI v_35)), (4, .int (nI u)), (5, .int (nI le)), (6, .int (nI set))] 91 [.int (nI cs)] := by
                            intro cs hcs hcb
                            refine j_istore X [(7, _), (0, _), (1, _), (2, _), (3, _), (4, _), (5, _), (6, _)] dX7_findCosts_91 (by decide) rfl ?_
                            refine j_iload X dX7_findCosts_93 0 rfl ?_
                            refine j_iload X dX7_findCosts_95 6 rfl ?_
                            refine n_icmp_ge (tgt := 105) X dX7_findCosts_97 (by decide) (by omega) (by omega) (fun c_97 => ?_) (fun c_97 => ?_)
                            · refine j_iload X dX7_findCosts_105 6 rfl ?_
                              refine j_istore X [(5, _), (7, _), (0, _), (1, _), (2, _), (3, _), (4, _), (6, _)] dX7_findCosts_107 (by decide) rfl ?_
                              refine n_iinc X [(6, _), (5, _), (7, _), (0, _), (1, _), (2, _), (3, _), (4, _)] dX7_findCosts_109 (q := 7) (b := 1) rfl (by decide) (by decide) rfl ?_
                              refine j_goto (tgt := 57) X dX7_findCosts_112 (by decide) ?_
                              exact j_sub [3, 4, 5, 6, 7, 1, 0] rfl (ih57 _ _ (by omega) (by rw [lsN_s, ← hle]; rw [← hcs, if_neg (by omega)]) (by omega) (by omega))
                            · refine j_iload X dX7_findCosts_100 0 rfl ?_
                              refine j_goto (tgt := 107) X dX7_findCosts_102 (by decide) ?_
                              refine j_istore X [(5, _), (7, _), (0, _), (1, _), (2, _), (3, _), (4, _), (6, _)] dX7_findCosts_107 (by decide) rfl ?_
                              refine n_iinc X [(6, _), (5, _), (7, _), (0, _), (1, _), (2, _), (3, _), (4, _)] dX7_findCosts_109 (q := 7) (b := 1) rfl (by decide) (by decide) rfl ?_
                              refine j_goto (tgt := 57) X dX7_findCosts_112 (by decide) ?_
                              exact j_sub [3, 4, 5, 6, 7, 1, 0] rfl (ih57 _ _ (by omega) (by rw [lsN_s, ← hle]; rw [← hcs, if_pos (by omega)]) (by omega) (by omega))
                          refine j_aload_n X dX7_findCosts_64 rfl 0 rfl ?_
                          refine j_iload X dX7_findCosts_65 6 rfl ?_
                          refine j_iload_n X dX7_findCosts_67 rfl 2 rfl ?_
                          refine j_iload X dX7_findCosts_68 4 rfl ?_
                          refine j_iload_n X dX7_findCosts_70 rfl 3 rfl ?_
                          refine jm_callI4 X hR (m_X7_canBeGiven U hBU _ _ _ _ (by omega) (by omega) (by omega) (by omega)) m_X7_181 rfl (by decide) (by decide) (Nat.le_of_ble_eq_true rfl) ⟨by decide, by decide⟩ dX7_findCosts_71 ?_
                          rintro _ _ ⟨rfl, rfl⟩
                          refine b_if_eq (tgt := 89) X dX7_findCosts_74 (by decide) (fun c_74 => ?_) (fun c_74 => ?_)
                          · refine j_ldc X k_X7_180 dX7_findCosts_89 ?_
                            rw [show (1000000 : Int32) = nI 1000000 from by decide]
                            exact j_sub [0, 1, 2, 3, 4, 5, 6] rfl (L91 _ (by rw [hAU.giv, hsh] at c_74; rw [c_74]; rfl) (by omega) )
                          · refine j_aload_n X dX7_findCosts_77 rfl 0 rfl ?_
                            refine j_iload X dX7_findCosts_78 6 rfl ?_
                            refine j_iload_n X dX7_findCosts_80 rfl 2 rfl ?_
                            refine j_iload X dX7_findCosts_81 4 rfl ?_
                            refine jm_callI3 X hR (m_X7_costWith U hBU hIU _ _ _ (by omega) (by omega) (by exact uses_ok hIU (by omega) (by omega) c_74)) m_X7_184 rfl (by decide) (by decide) (Nat.le_of_ble_eq_true rfl) ⟨by decide, by decide⟩ dX7_findCosts_83 ?_
                            rintro _ _ ⟨v_83, e_83, b_83, rfl, rfl⟩
                            refine j_goto (tgt := 91) X dX7_findCosts_86 (by decide) ?_
                            exact j_sub [0, 1, 2, 3, 4, 5, 6] rfl (L91 _ (by have g := c_74; rw [hAU.giv, hsh] at g; rw [g, if_pos rfl, e_83, hAU.cst, ← htu k (Nat.le_refl k) _ (by exact uses_ok hIU (by omega) (by omega) c_74), show 5 - k = 4 - k + 1 by omega]) (by omega) )
                    exact j_sub [2, 3, 4, 5, 6, 1, 0] rfl (L57 17 _ _ (by omega) (by rfl) (by omega) (by omega))
              exact j_sub [2, 3, 4, 1, 0] rfl (L42 1297 0 V (by omega) (by exact hAV) (by exact htb) (by intro v hv; omega) (by exact hBV) (by exact hIV) (by omega))
        exact j_sub [1, 2, 0] rfl (L28 6 0 _ _ (by omega) (by decide) (by exact hAT) (by intro j hj v hv; rw [show j = 0 by omega]; exact hz v (by omega)) (by exact hBT) (by exact AG.iv (AG.symm hAT) hI) (by omega))
      · refine j_aload_n X dX7_findCosts_9 rfl 0 rfl ?_
        refine jm_get X 24 (by decide) rfl f_X7_74 dX7_findCosts_10 ?_
        refine j_sipush (v := nI 6480) X dX7_findCosts_13 (by decide) ?_
        refine j_iload_n X dX7_findCosts_16 rfl 2 rfl ?_
        refine n_iadd X dX7_findCosts_17 ?_
        refine j_iconst (v := nI 0) X dX7_findCosts_18 (by decide) ?_
        refine jm_ast2 X hBT (by decide) (by show _ < 7776; omega) (by omega) dX7_findCosts_19 (fun S_19 eS_19 hB_19 => ?_)
        refine n_iinc X [(2, _), (0, _), (1, _)] dX7_findCosts_20 (q := 2) (b := 1) rfl (by decide) (by decide) rfl ?_
        refine j_goto (tgt := 2) X dX7_findCosts_23 (by decide) ?_
        exact j_sub [1, 2, 0] rfl (ih2 _ _ (by omega) (by rw [eS_19]; exact AG_20 hAT) (by intro v hv; rw [eS_19]; by_cases q : v = u; subst q; exact uM_eq _ _ _ _; rw [uM_ni (by omega)]; exact hz v (by omega)) (by exact hB_19) (by omega))
  exact j_sub [1, 2, 0] rfl (L2 1297 _ S (by omega) (by rfl) (by intro v hv; omega) (by exact hB) (by omega))

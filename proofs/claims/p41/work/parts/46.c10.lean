theorem GU.grp {S S' : MS} {g : Int32} (h : GU S g S') (c : Nat) : grpN S' c = grpN S c := by
  unfold grpN
  rw [h.off (a := 1) (by omega)]
theorem GU.fee {S S' : MS} {g : Int32} (h : GU S g S') (c : Nat) : feeN S' c = 4 * hoursN S c * S 12 (grpN S c) * pctN (rankN S' c) / 100 := by
  unfold feeN
  rw [h.hours, h.grp, h.off (a := 12) (by omega)]
theorem GU.pay {S S' : MS} {g : Int32} (h : GU S g S') {f k : Nat} (hf : f < 16777216) (hB : BD S) : payN S' (nI f) k = if S 0 k = 1 ∧ S' 3 k = 1 ∧ S 2 k = f then feeN S' k else 0 := by
  have hb := hB 2 k
  have e2 : decide (nI (S 2 k) = nI f) = decide (S 2 k = f) := decide_eq_decide.mpr (nI_eq (show S 2 k < 2147483648 by omega) (show f < 2147483648 by omega))
  unfold payN isIn
  rw [h.off (a := 0) (by omega), h.off (a := 2) (by omega), decide_eq_false (nI_n9 hf), Bool.false_or, e2]
  simp only [Bool.and_eq_true, decide_eq_true_eq, and_assoc]
theorem sm_comm (f : Nat → Nat → Nat) (m : Nat) : ∀ n, sm (fun i => sm (fun j => f i j) m) n = sm (fun j => sm (fun i => f i j) n) m
  | 0 => by
    have : sm (fun j => sm (fun i => f i j) 0) m ≤ m * 0 := sm_le (fun j _ => Nat.le_refl 0)
    rw [sm_0]
    omega
  | n + 1 => by
    rw [sm_s, sm_comm f m n, ← sm_add]
    exact sm_congr (fun j _ => rfl)
theorem sm_one (x v : Nat) : ∀ n, sm (fun f => if f = x then v else 0) n = if x < n then v else 0
  | 0 => by rw [if_neg (by omega)]; rfl
  | n + 1 => by
    rw [sm_s, sm_one x v n]
    by_cases h : n = x
    · subst h
      rw [if_neg (by omega), if_pos rfl, if_pos (by omega), Nat.zero_add]
    · rw [if_neg h, Nat.add_zero]
      by_cases h2 : x < n
      · rw [if_pos h2, if_pos (by omega)]
      · rw [if_neg h2, if_neg (by omega)]
theorem fees_all {S : MS} (hB : BD S) (hI : IV S) : sm (fun f => feesN S (nI f)) 12 = feesN S (-9) := by
  unfold feesN
  rw [sm_comm (fun f k => payN S (nI f) k)]
  refine sm_congr (fun k hk => ?_)
  have h2 := (hI.2.2.2.2.2.2.2.1 k hk).2.2.2
  have e : sm (fun f => payN S (nI f) k) 12 = sm (fun f => if f = S 2 k then (if isIn S k then feeN S k else 0) else 0) 12 := sm_congr (fun f hf => by
    unfold payN
    rw [decide_eq_false (nI_n9 (show f < 16777216 by omega)), Bool.false_or, decide_eq_decide.mpr (nI_eq (show S 2 k < 2147483648 by omega) (show f < 2147483648 by omega))]
    by_cases q : f = S 2 k
    · subst q
      rw [if_pos rfl, decide_eq_true rfl, Bool.and_true]
    · rw [if_neg q, decide_eq_false (fun z => q z.symm), Bool.and_false]
      rfl)
  rw [e, sm_one, if_pos (by omega)]
  unfold payN
  rw [decide_eq_true rfl, Bool.true_or, Bool.and_true]
set_option maxRecDepth 100000 in
set_option maxHeartbeats 4000000 in
theorem m_X6_feeOf {S : MS} {G : Nat → Nat} {T : CT} {e : CE} (hR : RG S G T e) {a : Nat} (c : Nat) (hc : c < 24) (hm : a ∈ eL e) (hp : eP e a = chE S c) (g : Int32) {S' : MS} (hg : GU S g S') : CF zX6_feeOf 16 4 0 0 [.ref a, .int (nI c), .int g] (T, e) (pNc (T, e) (feeN S' c) 1000000) := by
  intro D Y ad
  refine MT.of [(0, .ref (ad 16)), (1, .ref a), (2, .int (nI c)), (3, .int g)] (by decide) rfl (Nat.le_of_ble_eq_true rfl) ?_
  intro K hK X E
  refine j_aload_n X dX6_feeOf_0 rfl 1 rfl ?_
  refine jc_callPI0 X hK (m_X0_group hR _ (by omega) hm hp) m_X6_209 hm hp rfl rfl (by decide) (by decide) (Nat.le_of_ble_eq_true rfl) ⟨by decide, by decide⟩ dX6_feeOf_1 ?_
  rintro _ _ ⟨v_1, e_1, b_1, rfl, rfl⟩
  refine j_istore X [(4, _), (0, _), (1, _), (2, _), (3, _)] dX6_feeOf_4 (by decide) rfl ?_
  refine j_iload X dX6_feeOf_6 0 rfl ?_
  refine jst_call1 X hK (m_X6_isGroup _) m_X6_168 (by decide) (by decide) (Nat.le_of_ble_eq_true rfl) ⟨by decide, by decide⟩ dX6_feeOf_8 ?_
  refine b_if_ne (tgt := 16) X dX6_feeOf_11 (by decide) (fun c_11 => ?_) (fun c_11 => ?_)
  · refine j_iconst (v := nI 4) X dX6_feeOf_16 (by decide) ?_
    refine j_aload_n X dX6_feeOf_17 rfl 2 rfl ?_
    refine jc_callPI0 X hK (m_X0_bookedHours hR _ (by omega) hm hp) m_X6_82 hm hp rfl rfl (by decide) (by decide) (Nat.le_of_ble_eq_true rfl) ⟨by decide, by decide⟩ dX6_feeOf_18 ?_
    rintro _ _ ⟨v_18, e_18, b_18, rfl, rfl⟩
    refine n_imul X dX6_feeOf_21 ?_
    refine j_aload_n X dX6_feeOf_22 rfl 1 rfl ?_
    refine j_getf X ly_X6 0 rfl rfl 3 (by decide) f_X6_25 rfl dX6_feeOf_23 ?_
    refine j_iload X dX6_feeOf_26 0 rfl ?_
    refine jc_ald X (by decide) (by decide) (by show _ < 3; omega) dX6_feeOf_28 ?_
    rw [hR.t1 (by omega)]
    refine n_name (fun v_28 e_28 => ?_)
    have b_28 : v_28 < 16777216 := by rw [e_28]; exact hR.hB _ _
    refine n_imul X dX6_feeOf_29 ?_
    refine j_aload_n X dX6_feeOf_30 rfl 1 rfl ?_
    refine j_aload_n X dX6_feeOf_31 rfl 2 rfl ?_
    refine j_iload_n X dX6_feeOf_32 rfl 3 rfl ?_
    refine j_iload_n X dX6_feeOf_33 rfl 4 rfl ?_
    refine jc_call16I3 (mc := 0) (ms := 0) X hK (m_X6_percentageOf hR _ hc hm hp _ hg) m_X6_230 rfl (by decide) (by decide) (Nat.le_of_ble_eq_true rfl) ⟨by decide, by decide⟩ dX6_feeOf_34 ?_
    rintro _ _ ⟨v_34, e_34, b_34, rfl, rfl⟩
    refine n_imul X dX6_feeOf_37 ?_
    have hr := hR.hI.2.2.2.2.2.2.1 v_1 (by omega)
    have hv : 4 * v_18 * v_28 * v_34 ≤ 4 * 50 * 5000 * 100 := Nat.mul_le_mul (Nat.mul_le_mul (Nat.mul_le_mul (Nat.le_refl 4) b_18) (by omega)) b_34
    refine j_bipush (v := nI 100) X dX6_feeOf_38 (by decide) ?_
    refine n_idiv X dX6_feeOf_40 (by omega) (by omega) (by omega) ?_
    exact j_ireturn X E ((T, e)) rfl ⟨_, rfl, _, by rw [hg.fee, ← e_34, ← e_18, e_28, e_1], by omega, rfl, rfl⟩ dX6_feeOf_41
  · exact absurd c_11 (by rw [isGroup_n (by omega)]; decide)
set_option maxRecDepth 100000 in
set_option maxHeartbeats 4000000 in
theorem m_X6_familyFee {S : MS} {G : Nat → Nat} {T : CT} {e : CE} (hR : RG S G T e) (f : Nat) (hf : f < 16777216) (g : Int32) {S' : MS} (hg : GU S g S') : CF zX6_familyFee 16 5 0 0 [.int (nI f), .int g] (T, e) (pNc (T, e) (feesN S' (nI f)) 24000000) := by
  intro D Y ad
  refine MT.of [(0, .ref (ad 16)), (1, .int (nI f)), (2, .int g)] (by decide) rfl (Nat.le_of_ble_eq_true rfl) ?_
  intro K hK X E
  refine j_iconst (v := nI 0) X dX6_familyFee_0 (by decide) ?_
  refine j_istore_n X [(3, _), (0, _), (1, _), (2, _)] dX6_familyFee_1 rfl (by decide) rfl ?_
  refine j_iconst (v := nI 0) X dX6_familyFee_2 (by decide) ?_
  refine j_istore X [(4, _), (3, _), (0, _), (1, _), (2, _)] dX6_familyFee_3 (by decide) rfl ?_
  have L5 : ∀ (n : Nat) (i s : Nat), (i ≤ 24) → (s = sm (payN S' (nI f)) i) → (s ≤ 1000000 * i) → (24 + 1 ≤ i + n) → JJ K D 0 0 (WC ad Y (T, e)) [(0, .ref (ad 16)), (1, .int (nI f)), (2, .int g), (3, .int (nI s)), (4, .int (nI i))] 5 [] := by
    intro n
    induction n with
    | zero =>
      intro i s hi hs hsb hf5
      exact absurd hf5 (by omega)
    | succ n5 ih5 =>
      intro i s hi hs hsb hf5
      refine j_iload X dX6_familyFee_5 4 rfl ?_
      refine j_aload_n X dX6_familyFee_7 rfl 0 rfl ?_
      refine j_getf X ly_X6 0 rfl rfl 0 (by decide) f_X6_11 rfl dX6_familyFee_8 ?_
      refine jc_len_r0 X dX6_familyFee_11 ?_
      refine n_icmp_ge (tgt := 68) X dX6_familyFee_12 (by decide) (by omega) (by omega) (fun c_12 => ?_) (fun c_12 => ?_)
      · have hi2 : i = 24 := by omega
        subst hi2
        refine j_iload_n X dX6_familyFee_68 rfl 3 rfl ?_
        exact j_ireturn X E ((T, e)) rfl ⟨_, rfl, _, hs, by omega, rfl, rfl⟩ dX6_familyFee_69
      · refine j_aload_n X dX6_familyFee_15 rfl 0 rfl ?_
        refine j_getf X ly_X6 0 rfl rfl 0 (by decide) f_X6_11 rfl dX6_familyFee_16 ?_
        refine j_iload X dX6_familyFee_19 4 rfl ?_
        refine jc_ch X hR (by omega) dX6_familyFee_21 (fun a_21 q_21 r_21 m_21 p_21 => ?_) (fun q_21 r_21 => ?_)
        · refine j_astore X [(5, _), (0, _), (1, _), (2, _), (3, _), (4, _)] dX6_familyFee_22 (by decide) rfl ?_
          refine j_aload X dX6_familyFee_24 0 rfl ?_
          refine j_ifnull X dX6_familyFee_26 ?_
          refine j_aload X dX6_familyFee_29 0 rfl ?_
          refine jc_pget X ly_X0 m_21 p_21 rfl 0 (by decide) f_X6_132 rfl dX6_familyFee_31 ?_
          refine n_name (fun v_31 e_31 => ?_)
          have b_31 : v_31 < 16777216 := by rw [e_31]; exact hR.hB _ _
          refine j_iload_n X dX6_familyFee_34 rfl 2 rfl ?_
          refine n_icmp_ne (tgt := 62) X dX6_familyFee_35 (by decide) (by omega) (by omega) (fun c_35 => ?_) (fun c_35 => ?_)
          · refine n_iinc X [(4, _), (5, _), (0, _), (1, _), (2, _), (3, _)] dX6_familyFee_62 (q := 5) (b := 1) rfl (by decide) (by decide) rfl ?_
            refine j_goto (tgt := 5) X dX6_familyFee_65 (by decide) ?_
            exact j_sub [2, 3, 4, 5, 0] rfl (ih5 _ _ (by omega) (by rw [sm_s, hs, hg.pay hf hR.hB]; rw [if_neg (by omega)]; rfl) (by omega) (by omega))
          · refine j_aload_n X dX6_familyFee_38 rfl 1 rfl ?_
            refine j_aload X dX6_familyFee_39 0 rfl ?_
            refine j_iload X dX6_familyFee_41 5 rfl ?_
            refine j_iload_n X dX6_familyFee_43 rfl 3 rfl ?_
            refine jc_call16I3 (mc := 0) (ms := 0) X hK (m_X6_pays hR _ (by omega) m_21 p_21 _ hg) m_X6_226 rfl (by decide) (by decide) (Nat.le_of_ble_eq_true rfl) ⟨by decide, by decide⟩ dX6_familyFee_44 ?_
            rintro _ _ ⟨rfl, rfl⟩
            refine b_if_eq (tgt := 62) X dX6_familyFee_47 (by decide) (fun c_47 => ?_) (fun c_47 => ?_)
            · have h47 : S' 3 i ≠ 1 := of_decide_eq_false c_47
              refine n_iinc X [(4, _), (5, _), (0, _), (1, _), (2, _), (3, _)] dX6_familyFee_62 (q := 5) (b := 1) rfl (by decide) (by decide) rfl ?_
              refine j_goto (tgt := 5) X dX6_familyFee_65 (by decide) ?_
              exact j_sub [2, 3, 4, 5, 0] rfl (ih5 _ _ (by omega) (by rw [sm_s, hs, hg.pay hf hR.hB]; rw [if_neg (by omega)]; rfl) (by omega) (by omega))
            · have h47 : S' 3 i = 1 := of_decide_eq_true c_47
              refine j_iload_n X dX6_familyFee_50 rfl 4 rfl ?_
              refine j_aload_n X dX6_familyFee_51 rfl 1 rfl ?_
              refine j_aload X dX6_familyFee_52 0 rfl ?_
              refine j_iload X dX6_familyFee_54 5 rfl ?_
              refine j_iload_n X dX6_familyFee_56 rfl 3 rfl ?_
              refine jc_call16I3 (mc := 0) (ms := 0) X hK (m_X6_feeOf hR _ (by omega) m_21 p_21 _ hg) m_X6_219 rfl (by decide) (by decide) (Nat.le_of_ble_eq_true rfl) ⟨by decide, by decide⟩ dX6_familyFee_57 ?_
              rintro _ _ ⟨v_57, e_57, b_57, rfl, rfl⟩
              refine n_iadd X dX6_familyFee_60 ?_
              refine j_istore_n X [(3, _), (5, _), (0, _), (1, _), (2, _), (4, _)] dX6_familyFee_61 rfl (by decide) rfl ?_
              refine n_iinc X [(4, _), (3, _), (5, _), (0, _), (1, _), (2, _)] dX6_familyFee_62 (q := 5) (b := 1) rfl (by decide) (by decide) rfl ?_
              refine j_goto (tgt := 5) X dX6_familyFee_65 (by decide) ?_
              exact j_sub [3, 4, 5, 1, 0] rfl (ih5 _ _ (by omega) (by rw [sm_s, hs, hg.pay hf hR.hB]; rw [if_pos ⟨q_21, h47, by omega⟩, e_57]) (by omega) (by omega))
        · refine j_astoreN X [(5, _), (0, _), (1, _), (2, _), (3, _), (4, _)] dX6_familyFee_22 (by decide) rfl ?_
          refine j_aloadN X dX6_familyFee_24 0 rfl ?_
          refine j_ifnullN (tgt := 62) X dX6_familyFee_26 (by decide) ?_
          refine n_iinc X [(4, _), (5, _), (0, _), (1, _), (2, _), (3, _)] dX6_familyFee_62 (q := 5) (b := 1) rfl (by decide) (by decide) rfl ?_
          refine j_goto (tgt := 5) X dX6_familyFee_65 (by decide) ?_
          exact j_sub [2, 3, 4, 5, 0] rfl (ih5 _ _ (by omega) (by rw [sm_s, hs, hg.pay hf hR.hB]; rw [if_neg (by omega)]; rfl) (by omega) (by omega))
  exact j_sub [2, 3, 4, 1, 0] rfl (L5 25 _ _ (by omega) (by rfl) (by omega) (by omega))
set_option maxRecDepth 100000 in
set_option maxHeartbeats 4000000 in
theorem m_X6_income {S : MS} {G : Nat → Nat} {T : CT} {e : CE} (hR : RG S G T e) : CF zX6_income 16 6 0 0 [] (T, e) (pNc (T, e) (feesN S (-9)) 24000000) := by
  intro D Y ad
  refine MT.of [(0, .ref (ad 16))] (by decide) rfl (Nat.le_of_ble_eq_true rfl) ?_
  intro K hK X E
  refine j_iconst (v := nI 0) X dX6_income_0 (by decide) ?_
  refine j_istore_n X [(1, _), (0, _)] dX6_income_1 rfl (by decide) rfl ?_
  refine j_iconst (v := nI 0) X dX6_income_2 (by decide) ?_
  refine j_istore_n X [(2, _), (1, _), (0, _)] dX6_income_3 rfl (by decide) rfl ?_
  have L4 : ∀ (n : Nat) (i s : Nat), (i ≤ 12) → (s = sm (fun f => feesN S (nI f)) i) → (s ≤ 24000000 * i) → (12 + 1 ≤ i + n) → JJ K D 0 0 (WC ad Y (T, e)) [(0, .ref (ad 16)), (1, .int (nI s)), (2, .int (nI i))] 4 [] := by
    intro n
    induction n with
    | zero =>
      intro i s hi hs hsb hf4
      exact absurd hf4 (by omega)
    | succ n4 ih4 =>
      intro i s hi hs hsb hf4
      refine j_iload_n X dX6_income_4 rfl 2 rfl ?_
      refine j_bipush (v := nI 12) X dX6_income_5 (by decide) ?_
      refine n_icmp_ge (tgt := 25) X dX6_income_7 (by decide) (by omega) (by omega) (fun c_7 => ?_) (fun c_7 => ?_)
      · have hi2 : i = 12 := by omega
        subst hi2
        rw [fees_all hR.hB hR.hI] at hs
        have hfl := feesN_le hR.hI (w := -9)
        refine j_iload_n X dX6_income_25 rfl 1 rfl ?_
        exact j_ireturn X E ((T, e)) rfl ⟨_, rfl, _, hs, by omega, rfl, rfl⟩ dX6_income_26
      · refine j_iload_n X dX6_income_10 rfl 1 rfl ?_
        refine j_aload_n X dX6_income_11 rfl 0 rfl ?_
        refine j_iload_n X dX6_income_12 rfl 2 rfl ?_
        refine j_iconst (v := (-1)) X dX6_income_13 (by decide) ?_
        refine jc_call16I2 (mc := 0) (ms := 0) X hK (m_X6_familyFee hR _ (by omega) _ (GU.no S)) m_X6_223 rfl (by decide) (by decide) (Nat.le_of_ble_eq_true rfl) ⟨by decide, by decide⟩ dX6_income_14 ?_
        rintro _ _ ⟨v_14, e_14, b_14, rfl, rfl⟩
        refine n_iadd X dX6_income_17 ?_
        refine j_istore_n X [(1, _), (0, _), (2, _)] dX6_income_18 rfl (by decide) rfl ?_
        refine n_iinc X [(2, _), (1, _), (0, _)] dX6_income_19 (q := 2) (b := 1) rfl (by decide) (by decide) rfl ?_
        refine j_goto (tgt := 4) X dX6_income_22 (by decide) ?_
        exact j_sub [2, 1, 0] rfl (ih4 _ _ (by omega) (by rw [sm_s, hs, e_14]) (by omega) (by omega))
  exact j_sub [2, 1, 0] rfl (L4 13 _ _ (by omega) (by rfl) (by omega) (by omega))
set_option maxRecDepth 100000 in
set_option maxHeartbeats 4000000 in
theorem m_X6_fee {S : MS} {G : Nat → Nat} {T : CT} {e : CE} (hR : RG S G T e) (x : Int32) : CF zX6_fee 16 5 0 0 [.int x] (T, e) (pZc (T, e) (feeI S x)) := by
  intro D Y ad
  refine MT.of [(0, .ref (ad 16)), (1, .int x)] (by decide) rfl (Nat.le_of_ble_eq_true rfl) ?_
  intro K hK X E
  refine j_aload_n X dX6_fee_0 rfl 0 rfl ?_
  refine j_iload_n X dX6_fee_1 rfl 1 rfl ?_
  refine jc_call16Q1 (mc := 0) (ms := 0) X hK (m_X6_childAt hR _) m_X6_68 rfl (by decide) (by decide) (Nat.le_of_ble_eq_true rfl) ⟨by decide, by decide⟩ dX6_fee_2 ?_
  rintro _ _ ⟨rfl, (⟨c_2, a_2, l_2, rfl, x_2, q_2, r_2, m_2, p_2, rfl⟩ | ⟨x_2, rfl⟩)⟩
  · have cl_2 := nI_clamp (n := c_2) (by omega)
    refine j_astore_n X [(2, _), (0, _), (1, _)] dX6_fee_5 rfl (by decide) rfl ?_
    refine j_aload_n X dX6_fee_6 rfl 0 rfl ?_
    refine j_ifnonnull (tgt := 12) X dX6_fee_7 (by decide) ?_
    refine j_aload_n X dX6_fee_12 rfl 0 rfl ?_
    refine jc_pget X ly_X0 m_2 p_2 rfl 3 (by decide) f_X6_78 rfl dX6_fee_13 ?_
    refine n_name (fun v_13 e_13 => ?_)
    have b_13 : v_13 < 16777216 := by rw [e_13]; exact hR.hB _ _
    refine n_if_eq (tgt := 29) X dX6_fee_16 (by decide) (by omega) (fun c_16 => ?_) (fun c_16 => ?_)
    · refine j_bipush (v := (-2)) X dX6_fee_29 (by decide) ?_
      exact j_ireturn X E ((T, e)) rfl ⟨_, rfl, by unfold feeI; rw [x_2, if_pos rfl, show tn (nI c_2) = c_2 from cl_2]; rw [if_pos (by omega)], rfl⟩ dX6_fee_31
    · have h01 := (hR.hI.2.2.1 c_2 (by omega)).2
      refine j_aload_n X dX6_fee_19 rfl 1 rfl ?_
      refine j_aload_n X dX6_fee_20 rfl 0 rfl ?_
      refine j_iload_n X dX6_fee_21 rfl 2 rfl ?_
      refine j_iconst (v := (-1)) X dX6_fee_22 (by decide) ?_
      refine jc_call16I3 (mc := 0) (ms := 0) X hK (m_X6_feeOf hR _ (by omega) m_2 p_2 _ (GU.no S)) m_X6_219 rfl (by decide) (by decide) (Nat.le_of_ble_eq_true rfl) ⟨by decide, by decide⟩ dX6_fee_23 ?_
      rintro _ _ ⟨v_23, e_23, b_23, rfl, rfl⟩
      refine j_goto (tgt := 31) X dX6_fee_26 (by decide) ?_
      exact j_ireturn X E ((T, e)) rfl ⟨_, rfl, by unfold feeI; rw [x_2, if_pos rfl, show tn (nI c_2) = c_2 from cl_2]; rw [if_neg (by omega), e_23], rfl⟩ dX6_fee_31
  · refine j_astore_nN X [(2, _), (0, _), (1, _)] dX6_fee_5 rfl (by decide) rfl ?_
    refine j_aload_nN X dX6_fee_6 rfl 0 rfl ?_
    refine j_ifnonnullN X dX6_fee_7 ?_
    refine j_iconst (v := (-1)) X dX6_fee_10 (by decide) ?_
    exact j_ireturn X E ((T, e)) rfl ⟨_, rfl, by unfold feeI; rw [x_2]; rfl, rfl⟩ dX6_fee_11
set_option maxRecDepth 100000 in
set_option maxHeartbeats 4000000 in
theorem m_X6_familyFeeIfAdmitted {S : MS} {G : Nat → Nat} {T : CT} {e : CE} (hR : RG S G T e) (x : Int32) : CF zX6_familyFeeIfAdmitted 16 6 0 0 [.int x] (T, e) (pZc (T, e) (ffR S x)) := by
  intro D Y ad
  refine MT.of [(0, .ref (ad 16)), (1, .int x)] (by decide) rfl (Nat.le_of_ble_eq_true rfl) ?_
  intro K hK X E
  refine j_aload_n X dX6_familyFeeIfAdmitted_0 rfl 0 rfl ?_
  refine j_iload_n X dX6_familyFeeIfAdmitted_1 rfl 1 rfl ?_
  refine jc_call16Q1 (mc := 0) (ms := 0) X hK (m_X6_childAt hR _) m_X6_68 rfl (by decide) (by decide) (Nat.le_of_ble_eq_true rfl) ⟨by decide, by decide⟩ dX6_familyFeeIfAdmitted_2 ?_
  rintro _ _ ⟨rfl, (⟨c_2, a_2, l_2, rfl, x_2, q_2, r_2, m_2, p_2, rfl⟩ | ⟨x_2, rfl⟩)⟩
  · have cl_2 := nI_clamp (n := c_2) (by omega)
    refine j_astore_n X [(2, _), (0, _), (1, _)] dX6_familyFeeIfAdmitted_5 rfl (by decide) rfl ?_
    refine j_aload_n X dX6_familyFeeIfAdmitted_6 rfl 0 rfl ?_
    refine j_ifnonnull (tgt := 12) X dX6_familyFeeIfAdmitted_7 (by decide) ?_
    refine j_aload_n X dX6_familyFeeIfAdmitted_12 rfl 0 rfl ?_
    refine jc_pget X ly_X0 m_2 p_2 rfl 3 (by decide) f_X6_78 rfl dX6_familyFeeIfAdmitted_13 ?_
    refine n_name (fun v_13 e_13 => ?_)
    have b_13 : v_13 < 16777216 := by rw [e_13]; exact hR.hB _ _
    refine n_if_eq (tgt := 24) X dX6_familyFeeIfAdmitted_16 (by decide) (by omega) (fun c_16 => ?_) (fun c_16 => ?_)
    · refine j_aload_n X dX6_familyFeeIfAdmitted_24 rfl 1 rfl ?_
      refine j_aload_n X dX6_familyFeeIfAdmitted_25 rfl 0 rfl ?_
      refine jc_pget X ly_X0 m_2 p_2 rfl 0 (by decide) f_X6_132 rfl dX6_familyFeeIfAdmitted_26 ?_
      refine n_name (fun v_26 e_26 => ?_)
      have b_26 : v_26 < 16777216 := by rw [e_26]; exact hR.hB _ _
      refine j_iload_n X dX6_familyFeeIfAdmitted_29 rfl 2 rfl ?_
      refine jc_call16I2 (mc := 0) (ms := 0) X hK (m_X6_familyFee hR _ (by omega) _ (GU.is (by omega))) m_X6_223 rfl (by decide) (by decide) (Nat.le_of_ble_eq_true rfl) ⟨by decide, by decide⟩ dX6_familyFeeIfAdmitted_30 ?_
      rintro _ _ ⟨v_30, e_30, b_30, rfl, rfl⟩
      exact j_ireturn X E ((T, e)) rfl ⟨_, rfl, by unfold ffR; rw [x_2, if_pos rfl, show tn (nI c_2) = c_2 from cl_2]; rw [if_neg (by omega), e_30, e_26], rfl⟩ dX6_familyFeeIfAdmitted_33
    · have h01 := (hR.hI.2.2.1 c_2 (by omega)).2
      refine j_bipush (v := (-2)) X dX6_familyFeeIfAdmitted_19 (by decide) ?_
      refine j_goto (tgt := 33) X dX6_familyFeeIfAdmitted_21 (by decide) ?_
      exact j_ireturn X E ((T, e)) rfl ⟨_, rfl, by unfold ffR; rw [x_2, if_pos rfl, show tn (nI c_2) = c_2 from cl_2]; rw [if_pos (by omega)], rfl⟩ dX6_familyFeeIfAdmitted_33
  · refine j_astore_nN X [(2, _), (0, _), (1, _)] dX6_familyFeeIfAdmitted_5 rfl (by decide) rfl ?_
    refine j_aload_nN X dX6_familyFeeIfAdmitted_6 rfl 0 rfl ?_
    refine j_ifnonnullN X dX6_familyFeeIfAdmitted_7 ?_
    refine j_iconst (v := (-1)) X dX6_familyFeeIfAdmitted_10 (by decide) ?_
    exact j_ireturn X E ((T, e)) rfl ⟨_, rfl, by unfold ffR; rw [x_2]; rfl, rfl⟩ dX6_familyFeeIfAdmitted_11

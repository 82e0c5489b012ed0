set_option maxRecDepth 100000 in
set_option maxHeartbeats 4000000 in
theorem m_X6_leastCostBelow {S : MS} {T : CT} {e : CE} (hR : RR S T e) (hnd : ∀ q, q < 50 → T 9 q = nI (needN S (q / 10) (q % 10) (-9))) (lim : Nat) (hlim : lim ≤ 1000000) (w : Nat) (hw : w < 52) (g : Int32) {S' : MS} (hg : AW S w g S') : CF zX6_leastCostBelow 16 10 0 0 [.int (nI lim), .int (nI w), .int g] (T, e) (pI (fun r u => (if (cvN S' w 5 0) < lim then nI (cvN S' w 5 0) else -1) = r ∧ SM [4, 5, 6, 11] T u.1 ∧ RR S u.1 u.2 ∧ (∀ a i, eR u.2 a i = eR e a i) ∧ ((cvN S' w 5 0) < lim → ∀ j, j < 5 → u.1 6 j = nI (chN S' w j (usA S' w j))))) := by
  intro D Y ad
  refine MT.of [(0, .ref (ad 16)), (1, .int (nI lim)), (2, .int (nI w)), (3, .int g)] (by decide) rfl (Nat.le_of_ble_eq_true rfl) ?_
  intro K hK X E
  refine j_iconst (v := nI 0) X dX6_leastCostBelow_0 (by decide) ?_
  refine j_istore X [(4, _), (0, _), (1, _), (2, _), (3, _)] dX6_leastCostBelow_1 (by decide) rfl ?_
  have L3 : ∀ (n : Nat) (d : Nat) (T1 : CT), (d ≤ 5) → (SM [5] T T1) → (RR S T1 e) → (∀ j, j < d → T1 5 j = nI (shN S' w j)) → (5 + 1 ≤ d + n) → JJ K D 0 0 (WC ad Y (T1, e)) [(0, .ref (ad 16)), (1, .int (nI lim)), (2, .int (nI w)), (3, .int g), (4, .int (nI d))] 3 [] := by
    intro n
    induction n with
    | zero =>
      intro d T1 hd hs hR1 hsh hf3
      exact absurd hf3 (by omega)
    | succ n3 ih3 =>
      intro d T1 hd hs hR1 hsh hf3
      refine j_iload X dX6_leastCostBelow_3 4 rfl ?_
      refine j_iconst (v := nI 5) X dX6_leastCostBelow_5 (by decide) ?_
      refine n_icmp_ge (tgt := 33) X dX6_leastCostBelow_6 (by decide) (by omega) (by omega) (fun c_6 => ?_) (fun c_6 => ?_)
      · have hd2 : d = 5 := by omega
        subst hd2
        have hcv : cv2 S (shN S' w) 5 0 0 = cvN S' w 5 0 := by rw [cvN_2 S' w 5 (Nat.le_refl 5), hg.cvq]
        refine j_aload_n X dX6_leastCostBelow_33 rfl 0 rfl ?_
        refine j_getf X ly_X6 0 rfl rfl 8 (by decide) f_X6_48 rfl dX6_leastCostBelow_34 ?_
        refine j_iload_n X dX6_leastCostBelow_37 rfl 1 rfl ?_
        refine jc_call14I1 (mc := 0) (ms := 0) X hK (m_X1_leastCostBelow hR1 (shN S' w) hsh (fun d _ => hg.shle hR.hI d) lim hlim) m_X6_266 rfl (by decide) (by decide) (Nat.le_of_ble_eq_true rfl) ⟨by decide, by decide⟩ dX6_leastCostBelow_38 ?_
        rintro _ ⟨T_38, e_38⟩ ⟨rfl, s_38, hR_38, er_38, b_38⟩
        rw [hcv] at b_38 ⊢
        exact j_ireturn X E ((T_38, e_38)) rfl ⟨_, rfl, rfl, (hs.mono (by decide)).trans (s_38.mono (by decide)), hR_38, er_38, fun z j hj => (b_38 z j hj).trans (congrArg nI (hg.chosen hcv.symm z hlim hj))⟩ dX6_leastCostBelow_41
      · have hnd1 : ∀ q, q < 50 → T1 9 q = nI (needN S (q / 10) (q % 10) (-9)) := fun q hq => by rw [hs 9 q (by decide)]; exact hnd q hq
        refine j_aload_n X dX6_leastCostBelow_9 rfl 0 rfl ?_
        refine j_getf X ly_X6 0 rfl rfl 8 (by decide) f_X6_48 rfl dX6_leastCostBelow_10 ?_
        refine j_getf X ly_X1 5 rfl rfl 4 (by decide) f_X6_263 rfl dX6_leastCostBelow_13 ?_
        refine j_iload X dX6_leastCostBelow_16 4 rfl ?_
        refine j_aload_n X dX6_leastCostBelow_18 rfl 0 rfl ?_
        refine j_iload X dX6_leastCostBelow_19 4 rfl ?_
        refine j_iload_n X dX6_leastCostBelow_21 rfl 2 rfl ?_
        refine j_iload_n X dX6_leastCostBelow_22 rfl 3 rfl ?_
        refine jc_call16I3 (mc := 0) (ms := 0) X hK (m_X6_shortageOf hR1 hnd1 _ _ (by omega) (by omega) _ hg) m_X6_242 rfl (by decide) (by decide) (Nat.le_of_ble_eq_true rfl) ⟨by decide, by decide⟩ dX6_leastCostBelow_23 ?_
        rintro _ _ ⟨v_23, e_23, b_23, rfl, rfl⟩
        refine jc_ast X (by decide) (by decide) (by show _ < 5; omega) dX6_leastCostBelow_26 (fun T_26 eT_26 => ?_)
        refine n_iinc X [(4, _), (0, _), (1, _), (2, _), (3, _)] dX6_leastCostBelow_27 (q := 4) (b := 1) rfl (by decide) (by decide) rfl ?_
        refine j_goto (tgt := 3) X dX6_leastCostBelow_30 (by decide) ?_
        exact j_sub [1, 2, 3, 4, 0] rfl (ih3 _ _ (by omega) (by rw [eT_26]; exact hs.u (by decide)) (by exact hR1.sm (by rw [eT_26]; exact (SM.refl [5] _).u (by decide)) (by decide)) (by intro j hj; rw [eT_26]; by_cases q : j = d; subst q; rw [uI_eq, e_23]; rw [uI_ni q]; exact hsh j (by omega)) (by omega))
  exact j_sub [1, 2, 3, 4, 0] rfl (L3 6 _ _ (by omega) (by exact SM.refl _ _) (by exact hR) (by intro j hj; omega) (by omega))
set_option maxRecDepth 100000 in
set_option maxHeartbeats 4000000 in
theorem m_X6_cover {S : MS} {T : CT} {e : CE} (hR : RR S T e) (x : Int32) : CF zX6_cover 16 11 0 0 [.int x] (T, e) (pR (covR S x) (covS S x)) := by
  intro D Y ad
  refine MT.of [(0, .ref (ad 16)), (1, .int x)] (by decide) rfl (Nat.le_of_ble_eq_true rfl) ?_
  intro K hK X E
  refine j_iload_n X dX6_cover_0 rfl 1 rfl ?_
  refine jst_call1 X hK (m_X6_isWeek _) m_X6_162 (by decide) (by decide) (Nat.le_of_ble_eq_true rfl) ⟨by decide, by decide⟩ dX6_cover_1 ?_
  refine b_if_ne (tgt := 9) X dX6_cover_4 (by decide) (fun c_4 => ?_) (fun c_4 => ?_)
  · obtain ⟨w, hw51, rfl⟩ := within_0 (by decide) c_4
    have tw : tn (nI w) = w := nI_clamp (by omega)
    refine j_aload_n X dX6_cover_9 rfl 0 rfl ?_
    refine jc_call16V0 (mc := 0) (ms := 0) X hK (m_X6_noteNeeds hR) m_X6_239 rfl (by decide) (by decide) (Nat.le_of_ble_eq_true rfl) ⟨by decide, by decide⟩ dX6_cover_10 ?_
    rintro _ ⟨T_10, rfl, s_10, nd_10⟩
    have hR_10 := hR.sm s_10 (by decide)
    refine j_aload_n X dX6_cover_13 rfl 0 rfl ?_
    refine j_ldc X k_X6_245 dX6_cover_14 ?_
    rw [show (1000000 : Int32) = nI 1000000 from by decide]
    refine j_iload_n X dX6_cover_16 rfl 1 rfl ?_
    refine j_iconst (v := (-1)) X dX6_cover_17 (by decide) ?_
    refine jc_call16I3 (mc := 0) (ms := 0) X hK (m_X6_leastCostBelow hR_10 nd_10 1000000 (by omega) w (by omega) _ (AW.no S w)) m_X6_246 rfl (by decide) (by decide) (Nat.le_of_ble_eq_true rfl) ⟨by decide, by decide⟩ dX6_cover_18 ?_
    rintro _ ⟨T_18, e_18⟩ ⟨rfl, s_18, hR_18, er_18, b_18⟩
    refine j_istore_n X [(2, _), (0, _), (1, _)] dX6_cover_21 rfl (by decide) rfl ?_
    refine j_iload_n X dX6_cover_22 rfl 0 rfl ?_
    refine j_iconst (v := (-1)) X dX6_cover_23 (by decide) ?_
    refine j_icmp_ne (tgt := 30) X dX6_cover_24 (by decide) (fun c_24 => ?_) (fun c_24 => ?_)
    · have hlt : cvN S w 5 0 < 1000000 := by rcases Nat.lt_or_ge (cvN S w 5 0) 1000000 with z | z; exact z; exact absurd (if_neg (by omega)) c_24
      rw [if_pos hlt]
      refine j_iconst (v := nI 0) X dX6_cover_30 (by decide) ?_
      refine j_istore_n X [(3, _), (2, _), (0, _), (1, _)] dX6_cover_31 rfl (by decide) rfl ?_
      have L32 : ∀ (n : Nat) (d : Nat) (T1 : CT), (d ≤ 5) → (RR (kpS S w d) T1 e_18) → (∀ j, j < 5 → T1 6 j = nI (chN S w j (usA S w j))) → (5 + 1 ≤ d + n) → JJ K D 0 0 (WC ad Y (T1, e_18)) [(0, .ref (ad 16)), (2, .int (nI (cvN S w 5 0))), (3, .int (nI d))] 32 [] := by
        intro n
        induction n with
        | zero =>
          intro d T1 hd hR1 h6 hf32
          exact absurd hf32 (by omega)
        | succ n32 ih32 =>
          intro d T1 hd hR1 h6 hf32
          refine j_iload_n X dX6_cover_32 rfl 2 rfl ?_
          refine j_iconst (v := nI 5) X dX6_cover_33 (by decide) ?_
          refine n_icmp_ge (tgt := 58) X dX6_cover_34 (by decide) (by omega) (by omega) (fun c_34 => ?_) (fun c_34 => ?_)
          · have hd2 : d = 5 := by omega
            subst hd2
            refine j_iload_n X dX6_cover_58 rfl 1 rfl ?_
            exact j_ireturn X E ((T1, e_18)) rfl ⟨_, rfl, by unfold covR; rw [c_4, if_pos rfl, tw, if_pos hlt], by unfold covS; rw [c_4, if_pos rfl, tw, if_pos hlt]; exact hR1⟩ dX6_cover_59
          · refine j_aload_n X dX6_cover_37 rfl 0 rfl ?_
            refine j_getf X ly_X6 0 rfl rfl 6 (by decide) f_X6_35 rfl dX6_cover_38 ?_
            refine j_iload_n X dX6_cover_41 rfl 2 rfl ?_
            refine j_aload_n X dX6_cover_42 rfl 0 rfl ?_
            refine j_getf X ly_X6 0 rfl rfl 8 (by decide) f_X6_48 rfl dX6_cover_43 ?_
            refine j_getf X ly_X1 5 rfl rfl 5 (by decide) f_X6_249 rfl dX6_cover_46 ?_
            refine j_iload_n X dX6_cover_49 rfl 2 rfl ?_
            refine jc_ald X (by decide) (by decide) (by show _ < 5; omega) dX6_cover_50 ?_
            rw [h6 _ (by omega)]
            refine jc_ast X (by decide) (by decide) (by show _ < 5; omega) dX6_cover_51 (fun T_51 eT_51 => ?_)
            refine n_iinc X [(3, _), (0, _), (2, _)] dX6_cover_52 (q := 2) (b := 1) rfl (by decide) (by decide) rfl ?_
            refine j_goto (tgt := 32) X dX6_cover_55 (by decide) ?_
            exact j_sub [1, 2, 0] rfl (ih32 (d + 1) T_51 (by omega) (by rw [eT_51, ← kpS_s]; exact hR1.row (BD_u hR1.hB (by have := ch_le S w d (usA S w d); omega)) (IV_kept hR1.hI) (rows_16 hR1.2.2.1) (fun a j ha => uM_nk (by omega)) (uM_nk (by omega))) (by intro j hj; rw [eT_51, uI_nk (by omega)]; exact h6 j hj) (by omega))
      exact j_sub [2, 1, 0] rfl (L32 6 0 T_18 (by omega) (by rw [kpS_0]; exact hR_18) (by exact b_18 hlt) (by omega))
    · have hlt : ¬ cvN S w 5 0 < 1000000 := fun z => by rw [if_pos z] at c_24; exact nI_nm1 (c := cvN S w 5 0) (by omega) c_24
      refine j_bipush (v := (-2)) X dX6_cover_27 (by decide) ?_
      exact j_ireturn X E ((T_18, e_18)) rfl ⟨_, rfl, by unfold covR; rw [c_4, if_pos rfl, tw, if_neg hlt], by unfold covS; rw [c_4, if_pos rfl, tw, if_neg hlt]; exact hR_18⟩ dX6_cover_29
  · refine j_iconst (v := (-1)) X dX6_cover_7 (by decide) ?_
    exact j_ireturn X E ((T, e)) rfl ⟨_, rfl, by unfold covR; rw [c_4]; rfl, by unfold covS; rw [c_4]; exact hR⟩ dX6_cover_8
set_option maxRecDepth 100000 in
set_option maxHeartbeats 4000000 in
theorem m_X6_cheapestHoliday {S : MS} {T : CT} {e : CE} (hR : RR S T e) (x : Int32) : CF zX6_cheapestHoliday 16 11 0 0 [.int x] (T, e) (pI (fun r u => chpR S x = r ∧ RR S u.1 u.2)) := by
  intro D Y ad
  refine MT.of [(0, .ref (ad 16)), (1, .int x)] (by decide) rfl (Nat.le_of_ble_eq_true rfl) ?_
  intro K hK X E
  refine j_aload_n X dX6_cheapestHoliday_0 rfl 0 rfl ?_
  refine j_iload_n X dX6_cheapestHoliday_1 rfl 1 rfl ?_
  refine jc_call16Q1 (mc := 0) (ms := 0) X hK (m_X6_educatorAt hR _) m_X6_147 rfl (by decide) (by decide) (Nat.le_of_ble_eq_true rfl) ⟨by decide, by decide⟩ dX6_cheapestHoliday_2 ?_
  rintro _ _ ⟨rfl, (⟨c_2, a_2, l_2, rfl, x_2, q_2, r_2, m_2, p_2, rfl⟩ | ⟨x_2, rfl⟩)⟩
  · have cl_2 := nI_clamp (n := c_2) (by omega)
    have hx2 : tn (nI c_2) = c_2 := cl_2
    refine j_astore_n X [(2, _), (0, _), (1, _)] dX6_cheapestHoliday_5 rfl (by decide) rfl ?_
    refine j_aload_n X dX6_cheapestHoliday_6 rfl 0 rfl ?_
    refine j_ifnonnull (tgt := 12) X dX6_cheapestHoliday_7 (by decide) ?_
    refine j_aload_n X dX6_cheapestHoliday_12 rfl 1 rfl ?_
    refine jc_call16V0 (mc := 0) (ms := 0) X hK (m_X6_noteNeeds hR) m_X6_239 rfl (by decide) (by decide) (Nat.le_of_ble_eq_true rfl) ⟨by decide, by decide⟩ dX6_cheapestHoliday_13 ?_
    rintro _ ⟨T_13, rfl, s_13, nd_13⟩
    have hR_13 := hR.sm s_13 (by decide)
    refine j_bipush (v := (-9)) X dX6_cheapestHoliday_16 (by decide) ?_
    refine j_istore_n X [(3, _), (2, _), (0, _), (1, _)] dX6_cheapestHoliday_18 rfl (by decide) rfl ?_
    refine j_ldc X k_X6_245 dX6_cheapestHoliday_19 ?_
    rw [show (1000000 : Int32) = nI 1000000 from by decide]
    refine j_istore X [(4, _), (3, _), (2, _), (0, _), (1, _)] dX6_cheapestHoliday_21 (by decide) rfl ?_
    refine j_iconst (v := nI 0) X dX6_cheapestHoliday_23 (by decide) ?_
    refine j_istore X [(5, _), (4, _), (3, _), (2, _), (0, _), (1, _)] dX6_cheapestHoliday_24 (by decide) rfl ?_
    have L26 : ∀ (n : Nat) (w ls : Nat) (o : Option Nat) (T1 : CT) (e1 : CE), (w ≤ 52) → (chp S c_2 w = (o, ls)) → (ls ≤ 1000000) → (RR S T1 e1) → (eR e1 1 c_2 = some a_2) → (a_2 ∈ eL e1) → (eP e1 a_2 = edE S c_2) → (∀ q, q < 50 → T1 9 q = nI (needN S (q / 10) (q % 10) (-9))) → (52 + 1 ≤ w + n) → JJ K D 0 0 (WC ad Y (T1, e1)) [(0, .ref (ad 16)), (1, .int (nI c_2)), (2, .ref a_2), (3, .int (oI o)), (4, .int (nI ls)), (5, .int (nI w))] 26 [] := by
      intro n
      induction n with
      | zero =>
        intro w ls o T1 e1 hw hcp hlb hR1 hr hm hp hnd hf26
        exact absurd hf26 (by omega)
      | succ n26 ih26 =>
        intro w ls o T1 e1 hw hcp hlb hR1 hr hm hp hnd hf26
        refine j_iload X dX6_cheapestHoliday_26 5 rfl ?_
        refine j_bipush (v := nI 52) X dX6_cheapestHoliday_28 (by decide) ?_
        refine n_icmp_ge (tgt := 72) X dX6_cheapestHoliday_30 (by decide) (by omega) (by omega) (fun c_30 => ?_) (fun c_30 => ?_)
        · have hw2 : w = 52 := by omega
          subst hw2
          refine j_iload_n X dX6_cheapestHoliday_72 rfl 3 rfl ?_
          exact j_ireturn X E ((T1, e1)) rfl ⟨_, rfl, by unfold chpR; rw [x_2, if_pos rfl, hx2, hcp], hR1⟩ dX6_cheapestHoliday_73
        · refine j_aload_n X dX6_cheapestHoliday_33 rfl 2 rfl ?_
          refine j_iload X dX6_cheapestHoliday_34 5 rfl ?_
          refine jc_callPI1 X hK (m_X2_hasHoliday hR1 _ _ (by omega) (by omega) hm hp) m_X6_252 hm hp rfl rfl (by decide) (by decide) (Nat.le_of_ble_eq_true rfl) ⟨by decide, by decide⟩ dX6_cheapestHoliday_36 ?_
          rintro _ _ ⟨rfl, rfl⟩
          refine b_if_ne (tgt := 66) X dX6_cheapestHoliday_39 (by decide) (fun c_39 => ?_) (fun c_39 => ?_)
          · have h10 : ¬ S 10 (52 * c_2 + w) = 0 := by have : S 10 (52 * c_2 + w) = 1 := of_decide_eq_true c_39; omega
            refine n_iinc X [(5, _), (0, _), (1, _), (2, _), (3, _), (4, _)] dX6_cheapestHoliday_66 (q := 5) (b := 1) rfl (by decide) (by decide) rfl ?_
            refine j_goto (tgt := 26) X dX6_cheapestHoliday_69 (by decide) ?_
            exact j_sub [1, 2, 3, 4, 5, 0] rfl (ih26 (w + 1) ls o _ _ (by omega) (by rw [chp_s, if_neg h10]; exact hcp) (by omega) (by exact hR1) (by exact hr) (by exact (hR1.edAt (by omega) q_2 (by exact hr)).1) (by exact (hR1.edAt (by omega) q_2 (by exact hr)).2) (by exact hnd) (by omega))
          · have h10 : S 10 (52 * c_2 + w) = 0 := by have h1 := hR1.hI.2.2.2.2.1 (52 * c_2 + w) (by omega); have : ¬ S 10 (52 * c_2 + w) = 1 := of_decide_eq_false c_39; omega
            refine j_aload_n X dX6_cheapestHoliday_42 rfl 0 rfl ?_
            refine j_iload X dX6_cheapestHoliday_43 4 rfl ?_
            refine j_iload X dX6_cheapestHoliday_45 5 rfl ?_
            refine j_iload_n X dX6_cheapestHoliday_47 rfl 1 rfl ?_
            refine jc_call16I3 (mc := 0) (ms := 0) X hK (m_X6_leastCostBelow hR1 hnd ls hlb w (by omega) _ (AW.is (by omega))) m_X6_246 rfl (by decide) (by decide) (Nat.le_of_ble_eq_true rfl) ⟨by decide, by decide⟩ dX6_cheapestHoliday_48 ?_
            rintro _ ⟨T_48, e_48⟩ ⟨rfl, s_48, hR_48, er_48, b_48⟩
            rw [show cvN (uM S 10 (52 * c_2 + w) 1) w 5 0 = chw S c_2 w from rfl]
            refine j_istore X [(6, _), (0, _), (1, _), (2, _), (3, _), (4, _), (5, _)] dX6_cheapestHoliday_51 (by decide) rfl ?_
            refine j_iload X dX6_cheapestHoliday_53 0 rfl ?_
            refine j_iconst (v := (-1)) X dX6_cheapestHoliday_55 (by decide) ?_
            refine j_icmp_eq (tgt := 66) X dX6_cheapestHoliday_56 (by decide) (fun c_56 => ?_) (fun c_56 => ?_)
            · have hlt : ¬ chw S c_2 w < ls := fun z => by rw [if_pos z] at c_56; exact nI_nm1 (by omega) c_56
              refine n_iinc X [(5, _), (6, _), (0, _), (1, _), (2, _), (3, _), (4, _)] dX6_cheapestHoliday_66 (q := 6) (b := 1) rfl (by decide) (by decide) rfl ?_
              refine j_goto (tgt := 26) X dX6_cheapestHoliday_69 (by decide) ?_
              exact j_sub [2, 3, 4, 5, 6, 0] rfl (ih26 (w + 1) ls o _ _ (by omega) (by rw [chp_s, if_pos h10, hcp, if_neg hlt]) (by omega) (by exact hR_48) (by rw [er_48]; exact hr) (by exact (hR_48.edAt (by omega) q_2 (by rw [er_48]; exact hr)).1) (by exact (hR_48.edAt (by omega) q_2 (by rw [er_48]; exact hr)).2) (by intro q hq; exact (s_48 9 q (by decide)).trans (hnd q hq)) (by omega))
            · have hlt : chw S c_2 w < ls := by rcases Nat.lt_or_ge (chw S c_2 w) ls with z | z; exact z; exact absurd (if_neg (by omega)) c_56
              rw [if_pos hlt]
              refine j_iload X dX6_cheapestHoliday_59 6 rfl ?_
              refine j_istore_n X [(3, _), (6, _), (0, _), (1, _), (2, _), (4, _), (5, _)] dX6_cheapestHoliday_61 rfl (by decide) rfl ?_
              refine j_iload X dX6_cheapestHoliday_62 1 rfl ?_
              refine j_istore X [(4, _), (3, _), (6, _), (0, _), (1, _), (2, _), (5, _)] dX6_cheapestHoliday_64 (by decide) rfl ?_
              refine n_iinc X [(5, _), (4, _), (3, _), (6, _), (0, _), (1, _), (2, _)] dX6_cheapestHoliday_66 (q := 6) (b := 1) rfl (by decide) (by decide) rfl ?_
              refine j_goto (tgt := 26) X dX6_cheapestHoliday_69 (by decide) ?_
              exact j_sub [4, 5, 6, 2, 1, 0] rfl (ih26 (w + 1) (chw S c_2 w) (some w) _ _ (by omega) (by rw [chp_s, if_pos h10, hcp, if_pos hlt]) (by omega) (by exact hR_48) (by rw [er_48]; exact hr) (by exact (hR_48.edAt (by omega) q_2 (by rw [er_48]; exact hr)).1) (by exact (hR_48.edAt (by omega) q_2 (by rw [er_48]; exact hr)).2) (by intro q hq; exact (s_48 9 q (by decide)).trans (hnd q hq)) (by omega))
    exact j_sub [4, 5, 3, 2, 1, 0] rfl (L26 53 0 1000000 none _ _ (by omega) (by rfl) (by omega) (by exact hR_13) (by exact r_2) (by exact m_2) (by exact p_2) (by exact nd_13) (by omega))
  · refine j_astore_nN X [(2, _), (0, _), (1, _)] dX6_cheapestHoliday_5 rfl (by decide) rfl ?_
    refine j_aload_nN X dX6_cheapestHoliday_6 rfl 0 rfl ?_
    refine j_ifnonnullN X dX6_cheapestHoliday_7 ?_
    refine j_iconst (v := (-1)) X dX6_cheapestHoliday_10 (by decide) ?_
    exact j_ireturn X E ((T, e)) rfl ⟨_, rfl, by unfold chpR; rw [x_2]; rfl, hR⟩ dX6_cheapestHoliday_11

set_option maxRecDepth 100000 in
set_option maxHeartbeats 4000000 in
theorem m_X6_noteNeeds {S : MS} {G : Nat → Nat} {T : CT} {e : CE} (hR : RG S G T e) : CF zX6_noteNeeds 16 5 0 0 [] (T, e) (pVs [7, 9] T e (fun T' => ∀ q, q < 50 → T' 9 q = nI (needN S (q / 10) (q % 10) (-9)))) := by
  intro D Y ad
  refine MT.of [(0, .ref (ad 16))] (by decide) rfl (Nat.le_of_ble_eq_true rfl) ?_
  intro K hK X E
  refine j_iconst (v := nI 0) X dX6_noteNeeds_0 (by decide) ?_
  refine j_istore_n X [(1, _), (0, _)] dX6_noteNeeds_1 rfl (by decide) rfl ?_
  have L2 : ∀ (n : Nat) (i : Nat) (T1 : CT), (i ≤ 50) → (SM [7, 9] T T1) → (RG S G T1 e) → (∀ q, q < i → T1 9 q = nI (needN S (q / 10) (q % 10) (-9))) → (50 + 1 ≤ i + n) → JJ K D 0 0 (WC ad Y (T1, e)) [(0, .ref (ad 16)), (1, .int (nI i))] 2 [] := by
    intro n
    induction n with
    | zero =>
      intro i T1 hi hs hR1 hnd hf2
      exact absurd hf2 (by omega)
    | succ n2 ih2 =>
      intro i T1 hi hs hR1 hnd hf2
      refine j_iload_n X dX6_noteNeeds_2 rfl 1 rfl ?_
      refine j_aload_n X dX6_noteNeeds_3 rfl 0 rfl ?_
      refine j_getf X ly_X6 0 rfl rfl 11 (by decide) f_X6_62 rfl dX6_noteNeeds_4 ?_
      refine jc_len X (by decide) (by decide) dX6_noteNeeds_7 ?_
      refine z_as (nI 50) rfl ?_
      refine n_icmp_ge (tgt := 28) X dX6_noteNeeds_8 (by decide) (by omega) (by omega) (fun c_8 => ?_) (fun c_8 => ?_)
      · have hi2 : i = 50 := by omega
        subst hi2
        exact j_return X E ((T1, e)) rfl ⟨rfl, _, rfl, hs, hnd⟩ dX6_noteNeeds_28
      · refine j_aload_n X dX6_noteNeeds_11 rfl 0 rfl ?_
        refine j_getf X ly_X6 0 rfl rfl 11 (by decide) f_X6_62 rfl dX6_noteNeeds_12 ?_
        refine j_iload_n X dX6_noteNeeds_15 rfl 1 rfl ?_
        refine j_aload_n X dX6_noteNeeds_16 rfl 0 rfl ?_
        refine j_iload_n X dX6_noteNeeds_17 rfl 1 rfl ?_
        refine jc_call16I1 (mc := 0) (ms := 0) X hK (m_X6_needIn hR1 _ (by omega)) m_X6_185 rfl (by decide) (by decide) (Nat.le_of_ble_eq_true rfl) ⟨by decide, by decide⟩ dX6_noteNeeds_18 ?_
        rintro _ _ ⟨v_18, T_18, e_18, b_18, rfl, rfl, s_18, h_18⟩
        have hR_18 := hR1.sm s_18 (by decide)
        refine jc_ast X (by decide) (by decide) (by show _ < 50; omega) dX6_noteNeeds_21 (fun T_21 eT_21 => ?_)
        refine n_iinc X [(1, _), (0, _)] dX6_noteNeeds_22 (q := 1) (b := 1) rfl (by decide) (by decide) rfl ?_
        refine j_goto (tgt := 2) X dX6_noteNeeds_25 (by decide) ?_
        exact j_sub [1, 0] rfl (ih2 _ _ (by omega) (by rw [eT_21]; exact (hs.trans (s_18.mono (by decide))).u (by decide)) (by exact hR_18.sm (by rw [eT_21]; exact (SM.refl [9] _).u (by decide)) (by decide)) (by intro q hq; rw [eT_21]; by_cases z : q = i; subst z; rw [uI_eq, e_18]; rw [uI_ni z, s_18 9 q (by decide)]; exact hnd q (by omega)) (by omega))
  exact j_sub [1, 0] rfl (L2 51 _ _ (by omega) (by exact SM.refl _ _) (by exact hR) (by intro q hq; omega) (by omega))
set_option maxRecDepth 100000 in
set_option maxHeartbeats 4000000 in
theorem m_X6_staffLeft {S : MS} {G : Nat → Nat} {T : CT} {e : CE} (hR : RG S G T e) (q w : Nat) (hq : q < 50) (hw : w < 52) (g : Int32) {S' : MS} (hg : AW S w g S') : CF zX6_staffLeft 16 2 0 0 [.int (nI q), .int (nI w), .int g] (T, e) (pNc (T, e) (thrN S' w (q / 10) (q % 10)) 8) := by
  intro D Y ad
  refine MT.of [(0, .ref (ad 16)), (1, .int (nI q)), (2, .int (nI w)), (3, .int g)] (by decide) rfl (Nat.le_of_ble_eq_true rfl) ?_
  intro K hK X E
  refine j_iconst (v := nI 0) X dX6_staffLeft_0 (by decide) ?_
  refine j_istore X [(4, _), (0, _), (1, _), (2, _), (3, _)] dX6_staffLeft_1 (by decide) rfl ?_
  refine j_iconst (v := nI 0) X dX6_staffLeft_3 (by decide) ?_
  refine j_istore X [(5, _), (4, _), (0, _), (1, _), (2, _), (3, _)] dX6_staffLeft_4 (by decide) rfl ?_
  have L6 : ∀ (n : Nat) (i s : Nat), (i ≤ 8) → (s = sm (fun x => ct (thrB S' w (q / 10) (q % 10) x)) i) → (8 + 1 ≤ i + n) → JJ K D 0 0 (WC ad Y (T, e)) [(0, .ref (ad 16)), (1, .int (nI q)), (2, .int (nI w)), (3, .int g), (4, .int (nI s)), (5, .int (nI i))] 6 [] := by
    intro n
    induction n with
    | zero =>
      intro i s hi hs hf6
      exact absurd hf6 (by omega)
    | succ n6 ih6 =>
      intro i s hi hs hf6
      refine j_iload X dX6_staffLeft_6 5 rfl ?_
      refine j_aload_n X dX6_staffLeft_8 rfl 0 rfl ?_
      refine j_getf X ly_X6 0 rfl rfl 1 (by decide) f_X6_17 rfl dX6_staffLeft_9 ?_
      refine jc_len_r1 X dX6_staffLeft_12 ?_
      refine n_icmp_ge (tgt := 66) X dX6_staffLeft_13 (by decide) (by omega) (by omega) (fun c_13 => ?_) (fun c_13 => ?_)
      · have hi2 : i = 8 := by omega
        subst hi2
        refine j_iload X dX6_staffLeft_66 4 rfl ?_
        exact j_ireturn X E ((T, e)) rfl ⟨_, rfl, _, hs, by rw [hs]; exact thr_le S' w (q / 10) (q % 10), rfl, rfl⟩ dX6_staffLeft_68
      · refine j_aload_n X dX6_staffLeft_16 rfl 0 rfl ?_
        refine j_getf X ly_X6 0 rfl rfl 1 (by decide) f_X6_17 rfl dX6_staffLeft_17 ?_
        refine j_iload X dX6_staffLeft_20 5 rfl ?_
        refine jc_ed X hR (by omega) dX6_staffLeft_22 (fun a_22 q_22 r_22 m_22 p_22 => ?_) (fun q_22 r_22 => ?_)
        · refine j_astore X [(6, _), (0, _), (1, _), (2, _), (3, _), (4, _), (5, _)] dX6_staffLeft_23 (by decide) rfl ?_
          refine j_aload X dX6_staffLeft_25 0 rfl ?_
          refine j_ifnull X dX6_staffLeft_27 ?_
          refine j_iload X dX6_staffLeft_30 6 rfl ?_
          refine j_iload_n X dX6_staffLeft_32 rfl 4 rfl ?_
          refine j_icmp_eq (tgt := 60) X dX6_staffLeft_33 (by decide) (fun c_33 => ?_) (fun c_33 => ?_)
          · refine n_iinc X [(5, _), (6, _), (0, _), (1, _), (2, _), (3, _), (4, _)] dX6_staffLeft_60 (q := 6) (b := 1) rfl (by decide) (by decide) rfl ?_
            refine j_goto (tgt := 6) X dX6_staffLeft_63 (by decide) ?_
            exact j_sub [2, 3, 4, 5, 6, 0] rfl (ih6 _ _ (by omega) (by rw [sm_s, hs, hg.thr hR.hI (by omega) hw]; simp [c_33, ct]) (by omega))
          · refine j_aload X dX6_staffLeft_36 0 rfl ?_
            refine j_iload_n X dX6_staffLeft_38 rfl 3 rfl ?_
            refine jc_callPI1 X hK (m_X2_hasHoliday hR _ _ (by omega) (by omega) m_22 p_22) m_X6_252 m_22 p_22 rfl rfl (by decide) (by decide) (Nat.le_of_ble_eq_true rfl) ⟨by decide, by decide⟩ dX6_staffLeft_39 ?_
            rintro _ _ ⟨rfl, rfl⟩
            refine b_if_ne (tgt := 60) X dX6_staffLeft_42 (by decide) (fun c_42 => ?_) (fun c_42 => ?_)
            · refine n_iinc X [(5, _), (6, _), (0, _), (1, _), (2, _), (3, _), (4, _)] dX6_staffLeft_60 (q := 6) (b := 1) rfl (by decide) (by decide) rfl ?_
              refine j_goto (tgt := 6) X dX6_staffLeft_63 (by decide) ?_
              exact j_sub [2, 3, 4, 5, 6, 0] rfl (ih6 _ _ (by omega) (by rw [sm_s, hs, hg.thr hR.hI (by omega) hw]; simp [c_42, ct]) (by omega))
            · refine j_aload X dX6_staffLeft_45 0 rfl ?_
              refine jc_pget X ly_X2 m_22 p_22 rfl 0 (by decide) f_X6_153 rfl dX6_staffLeft_47 ?_
              refine j_iload_n X dX6_staffLeft_50 rfl 2 rfl ?_
              refine jst_call2 X hK (m_X6_hasHour _ _ (by omega)) m_X6_205 (by decide) (by decide) (Nat.le_of_ble_eq_true rfl) ⟨by decide, by decide⟩ dX6_staffLeft_51 ?_
              refine b_if_eq (tgt := 60) X dX6_staffLeft_54 (by decide) (fun c_54 => ?_) (fun c_54 => ?_)
              · refine n_iinc X [(5, _), (6, _), (0, _), (1, _), (2, _), (3, _), (4, _)] dX6_staffLeft_60 (q := 6) (b := 1) rfl (by decide) (by decide) rfl ?_
                refine j_goto (tgt := 6) X dX6_staffLeft_63 (by decide) ?_
                exact j_sub [2, 3, 4, 5, 6, 0] rfl (ih6 _ _ (by omega) (by rw [sm_s, hs, hg.thr hR.hI (by omega) hw]; simp [c_54, ct]) (by omega))
              · refine n_iinc X [(4, _), (6, _), (0, _), (1, _), (2, _), (3, _), (5, _)] dX6_staffLeft_57 (q := 5) (b := 1) rfl (by decide) (by decide) rfl ?_
                refine n_iinc X [(5, _), (4, _), (6, _), (0, _), (1, _), (2, _), (3, _)] dX6_staffLeft_60 (q := 6) (b := 1) rfl (by decide) (by decide) rfl ?_
                refine j_goto (tgt := 6) X dX6_staffLeft_63 (by decide) ?_
                exact j_sub [3, 4, 5, 6, 1, 0] rfl (ih6 _ _ (by omega) (by rw [sm_s, hs, hg.thr hR.hI (by omega) hw]; simp [q_22, c_33, c_42, c_54, ct]) (by omega))
        · refine j_astoreN X [(6, _), (0, _), (1, _), (2, _), (3, _), (4, _), (5, _)] dX6_staffLeft_23 (by decide) rfl ?_
          refine j_aloadN X dX6_staffLeft_25 0 rfl ?_
          refine j_ifnullN (tgt := 60) X dX6_staffLeft_27 (by decide) ?_
          refine n_iinc X [(5, _), (6, _), (0, _), (1, _), (2, _), (3, _), (4, _)] dX6_staffLeft_60 (q := 6) (b := 1) rfl (by decide) (by decide) rfl ?_
          refine j_goto (tgt := 6) X dX6_staffLeft_63 (by decide) ?_
          exact j_sub [2, 3, 4, 5, 6, 0] rfl (ih6 _ _ (by omega) (by rw [sm_s, hs, hg.thr hR.hI (by omega) hw]; simp [q_22, ct]) (by omega))
  exact j_sub [2, 3, 4, 5, 1, 0] rfl (L6 9 _ _ (by omega) (by rfl) (by omega))
set_option maxRecDepth 100000 in
set_option maxHeartbeats 4000000 in
theorem m_X6_shortageOf {S : MS} {G : Nat → Nat} {T : CT} {e : CE} (hR : RG S G T e) (hnd : ∀ q, q < 50 → T 9 q = nI (needN S (q / 10) (q % 10) (-9))) (d w : Nat) (hd : d < 5) (hw : w < 52) (g : Int32) {S' : MS} (hg : AW S w g S') : CF zX6_shortageOf 16 3 0 0 [.int (nI d), .int (nI w), .int g] (T, e) (pNc (T, e) (shN S' w d) 40000) := by
  intro D Y ad
  refine MT.of [(0, .ref (ad 16)), (1, .int (nI d)), (2, .int (nI w)), (3, .int g)] (by decide) rfl (Nat.le_of_ble_eq_true rfl) ?_
  intro K hK X E
  refine j_iconst (v := nI 0) X dX6_shortageOf_0 (by decide) ?_
  refine j_istore X [(4, _), (0, _), (1, _), (2, _), (3, _)] dX6_shortageOf_1 (by decide) rfl ?_
  refine j_iload_n X dX6_shortageOf_3 rfl 2 rfl ?_
  refine j_iconst (v := nI 0) X dX6_shortageOf_4 (by decide) ?_
  refine jst_call2 X hK (m_X6_hourOfWeek _ _) m_X6_174 (by decide) (by decide) (Nat.le_of_ble_eq_true rfl) ⟨by decide, by decide⟩ dX6_shortageOf_5 ?_
  refine j_istore X [(5, _), (4, _), (0, _), (1, _), (2, _), (3, _)] dX6_shortageOf_8 (by decide) rfl ?_
  refine j_iload X dX6_shortageOf_10 0 rfl ?_
  refine j_istore X [(6, _), (5, _), (4, _), (0, _), (1, _), (2, _), (3, _)] dX6_shortageOf_12 (by decide) rfl ?_
  have L14 : ∀ (n : Nat) (i j s : Nat), (i ≤ 10) → (j = 10 * d + i) → (s = mxN (fun q => needN S d q (-9) - thrN S' w d q) i) → (s ≤ 40000) → (10 + 1 ≤ i + n) → JJ K D 0 0 (WC ad Y (T, e)) [(0, .ref (ad 16)), (1, .int (nI d)), (2, .int (nI w)), (3, .int g), (4, .int (nI s)), (5, .int (nI (10 * d + 0))), (6, .int (nI j))] 14 [] := by
    intro n
    induction n with
    | zero =>
      intro i j s hi hj hs hsb hf14
      exact absurd hf14 (by omega)
    | succ n14 ih14 =>
      intro i j s hi hj hs hsb hf14
      refine j_iload X dX6_shortageOf_14 6 rfl ?_
      refine j_iload X dX6_shortageOf_16 5 rfl ?_
      refine j_bipush (v := nI 10) X dX6_shortageOf_18 (by decide) ?_
      refine n_iadd X dX6_shortageOf_20 ?_
      refine n_icmp_ge (tgt := 53) X dX6_shortageOf_21 (by decide) (by omega) (by omega) (fun c_21 => ?_) (fun c_21 => ?_)
      · have hi2 : i = 10 := by omega
        subst hi2
        refine j_iload X dX6_shortageOf_53 4 rfl ?_
        exact j_ireturn X E ((T, e)) rfl ⟨_, rfl, _, hs.trans (hg.sh d).symm, hsb, rfl, rfl⟩ dX6_shortageOf_55
      · refine j_iload X dX6_shortageOf_24 4 rfl ?_
        refine j_aload_n X dX6_shortageOf_26 rfl 0 rfl ?_
        refine j_getf X ly_X6 0 rfl rfl 11 (by decide) f_X6_62 rfl dX6_shortageOf_27 ?_
        refine j_iload X dX6_shortageOf_30 6 rfl ?_
        refine jc_ald X (by decide) (by decide) (by show _ < 50; omega) dX6_shortageOf_32 ?_
        rw [hnd _ (by omega)]
        refine n_name (fun v_32 e_32 => ?_)
        have b_32 : v_32 < 16777216 := by rw [e_32]; have := need_le hR.hI (j / 10) (j % 10) (-9); omega
        refine j_aload_n X dX6_shortageOf_33 rfl 0 rfl ?_
        refine j_iload X dX6_shortageOf_34 6 rfl ?_
        refine j_iload_n X dX6_shortageOf_36 rfl 2 rfl ?_
        refine j_iload_n X dX6_shortageOf_37 rfl 3 rfl ?_
        refine jc_call16I3 (mc := 0) (ms := 0) X hK (m_X6_staffLeft hR _ _ (by omega) (by omega) _ hg) m_X6_255 rfl (by decide) (by decide) (Nat.le_of_ble_eq_true rfl) ⟨by decide, by decide⟩ dX6_shortageOf_38 ?_
        rintro _ _ ⟨v_38, e_38, b_38, rfl, rfl⟩
        refine j_isub X dX6_shortageOf_41 ?_
        refine jst_call2 X hK (m_J9_max_7cf53 _ _) m_X6_258 (by decide) (by decide) (Nat.le_of_ble_eq_true rfl) ⟨by decide, by decide⟩ dX6_shortageOf_42 ?_
        rw [mx_sub (by omega) (by omega) (by omega)]
        refine j_istore X [(4, _), (0, _), (1, _), (2, _), (3, _), (5, _), (6, _)] dX6_shortageOf_45 (by decide) rfl ?_
        refine n_iinc X [(6, _), (4, _), (0, _), (1, _), (2, _), (3, _), (5, _)] dX6_shortageOf_47 (q := 6) (b := 1) rfl (by decide) (by decide) rfl ?_
        refine j_goto (tgt := 14) X dX6_shortageOf_50 (by decide) ?_
        exact j_sub [2, 3, 4, 5, 1, 6, 0] rfl (ih14 (i + 1) (j + 1) _ (by omega) (by omega) (by rw [mxN_s, ← hs, e_32, e_38, hj, hw_d (by omega), hw_h (by omega)]) (by have := need_le hR.hI (j / 10) (j % 10) (-9); split <;> omega) (by omega))
  exact j_sub [3, 4, 5, 6, 2, 1, 0] rfl (L14 11 0 (10 * d + 0) 0 (by omega) (by omega) (by rfl) (by omega) (by omega))
set_option maxRecDepth 100000 in
set_option maxHeartbeats 4000000 in
theorem m_X6_shortage {S : MS} {G : Nat → Nat} {T : CT} {e : CE} (hR : RG S G T e) (x y : Int32) : CF zX6_shortage 16 6 0 0 [.int x, .int y] (T, e) (pZs [7, 9] T e (shrtI S x y)) := by
  intro D Y ad
  refine MT.of [(0, .ref (ad 16)), (1, .int x), (2, .int y)] (by decide) rfl (Nat.le_of_ble_eq_true rfl) ?_
  intro K hK X E
  refine j_iload_n X dX6_shortage_0 rfl 1 rfl ?_
  refine jst_call1 X hK (m_X6_isWeek _) m_X6_162 (by decide) (by decide) (Nat.le_of_ble_eq_true rfl) ⟨by decide, by decide⟩ dX6_shortage_1 ?_
  refine b_if_eq (tgt := 14) X dX6_shortage_4 (by decide) (fun c_4 => ?_) (fun c_4 => ?_)
  · refine j_iconst (v := (-1)) X dX6_shortage_14 (by decide) ?_
    exact j_ireturn X E ((T, e)) rfl ⟨_, rfl, _, by unfold shrtI; rw [c_4]; rfl, rfl, SM.refl _ _⟩ dX6_shortage_15
  · refine j_iload_n X dX6_shortage_7 rfl 2 rfl ?_
    refine jst_call1 X hK (m_X6_isDay _) m_X6_85 (by decide) (by decide) (Nat.le_of_ble_eq_true rfl) ⟨by decide, by decide⟩ dX6_shortage_8 ?_
    refine b_if_ne (tgt := 16) X dX6_shortage_11 (by decide) (fun c_11 => ?_) (fun c_11 => ?_)
    · obtain ⟨w, hw51, rfl⟩ := within_0 (by decide) c_4
      obtain ⟨d, hd4, rfl⟩ := within_0 (by decide) c_11
      have tw : tn (nI w) = w := nI_clamp (by omega)
      have td : tn (nI d) = d := nI_clamp (by omega)
      refine j_aload_n X dX6_shortage_16 rfl 0 rfl ?_
      refine jc_call16V0 (mc := 0) (ms := 0) X hK (m_X6_noteNeeds hR) m_X6_239 rfl (by decide) (by decide) (Nat.le_of_ble_eq_true rfl) ⟨by decide, by decide⟩ dX6_shortage_17 ?_
      rintro _ ⟨T_17, rfl, s_17, nd_17⟩
      have hR_17 := hR.sm s_17 (by decide)
      refine j_aload_n X dX6_shortage_20 rfl 0 rfl ?_
      refine j_iload_n X dX6_shortage_21 rfl 2 rfl ?_
      refine j_iload_n X dX6_shortage_22 rfl 1 rfl ?_
      refine j_iconst (v := (-1)) X dX6_shortage_23 (by decide) ?_
      refine jc_call16I3 (mc := 0) (ms := 0) X hK (m_X6_shortageOf hR_17 nd_17 _ _ (by omega) (by omega) _ (AW.no S w)) m_X6_242 rfl (by decide) (by decide) (Nat.le_of_ble_eq_true rfl) ⟨by decide, by decide⟩ dX6_shortage_24 ?_
      rintro _ _ ⟨v_24, e_24, b_24, rfl, rfl⟩
      exact j_ireturn X E ((T_17, e)) rfl ⟨_, rfl, _, by unfold shrtI; rw [c_4, c_11, tw, td, e_24]; rfl, rfl, s_17⟩ dX6_shortage_27
    · refine j_iconst (v := (-1)) X dX6_shortage_14 (by decide) ?_
      exact j_ireturn X E ((T, e)) rfl ⟨_, rfl, _, by unfold shrtI; rw [c_4, c_11]; rfl, rfl, SM.refl _ _⟩ dX6_shortage_15

theorem hours_cnt {S : MS} (hI : IV S) {c : Nat} (hc : c < 24) : sm (fun q => ct (spP S 5 c q)) 50 = hoursN S c := spP_cnt (k := 5) (c := c) (fun d hd => hI.1 (5 * c + d) (by omega)) 5 (Nat.le_refl 5)
theorem work_cnt {S : MS} (hI : IV S) {x : Nat} (hx : x < 8) : sm (fun q => ct (spP S 8 x q)) 50 = wkhN S x := spP_cnt (k := 8) (c := x) (fun d hd => hI.2.1 (5 * x + d) (by omega)) 5 (Nat.le_refl 5)
theorem hours_le {S : MS} (hI : IV S) {c : Nat} (hc : c < 24) : hoursN S c ≤ 50 := by
  rw [← hours_cnt hI hc]
  have : sm (fun q => ct (spP S 5 c q)) 50 ≤ 50 * 1 := sm_le (fun i _ => ct_le _)
  omega
def growS (S : MS) (c : Nat) : MS := uM (uM S 1 c (S 1 c + 1)) 4 c (S 4 c + (if S 3 c = 1 then 0 else 1))
theorem wP_wP (e : CE) (a : Nat) (x y : va_E) : wP (wP e a x) a y = wP e a y := by
  unfold wP va_up
  congr 3
  funext z
  by_cases h : z = a <;> simp [h]
theorem eP_wP (e : CE) (a : Nat) (x : va_E) : eP (wP e a x) a = x := if_pos rfl
theorem need_eq {c0 c1 c2 r0 r1 r2 : Nat} (h0 : 0 < r0) (h1 : 0 < r1) (h2 : 0 < r2) : c0 * (r0 * r1 * r2 / r0) + c1 * (r0 * r1 * r2 / r1) + c2 * (r0 * r1 * r2 / r2) = c0 * r1 * r2 + c1 * r0 * r2 + c2 * r0 * r1 := by
  rw [show r0 * r1 * r2 = r0 * (r1 * r2) from Nat.mul_assoc _ _ _, Nat.mul_div_cancel_left _ h0, show r0 * (r1 * r2) = r1 * (r0 * r2) by rw [Nat.mul_left_comm], Nat.mul_div_cancel_left _ h1, show r1 * (r0 * r2) = r2 * (r0 * r1) by rw [← Nat.mul_assoc, Nat.mul_comm r1 r0, Nat.mul_comm], Nat.mul_div_cancel_left _ h2, Nat.mul_assoc, Nat.mul_assoc, Nat.mul_assoc]
set_option maxRecDepth 100000 in
set_option maxHeartbeats 4000000 in
theorem m_X0_bookedHours {S : MS} {G : Nat → Nat} {T : CT} {e : CE} (hR : RG S G T e) {a : Nat} (c : Nat) (hc : c < 24) (hm : a ∈ eL e) (hp : eP e a = chE S c) : CP zX0_bookedHours a 2 [] (T, e) (pNc (T, e) (hoursN S c) 50) := by
  intro D Y ad
  refine MT.of [(0, .ref a)] (by decide) rfl (Nat.le_of_ble_eq_true rfl) ?_
  intro K hK X E
  refine j_aload_n X dX0_bookedHours_0 rfl 0 rfl ?_
  refine jc_pget X ly_X0 hm hp rfl 4 (by decide) f_X0_16 rfl dX0_bookedHours_1 ?_
  refine jst_call1 X hK (m_bits _ 50 (by decide) (hours_cnt hR.hI hc)) m_X0_20 (by decide) (by decide) (Nat.le_of_ble_eq_true rfl) ⟨by decide, by decide⟩ dX0_bookedHours_4 ?_
  exact j_ireturn X E ((T, e)) rfl ⟨_, rfl, _, rfl, hours_le hR.hI hc, rfl, rfl⟩ dX0_bookedHours_7
set_option maxRecDepth 100000 in
set_option maxHeartbeats 4000000 in
theorem m_X0_group {S : MS} {G : Nat → Nat} {T : CT} {e : CE} (hR : RG S G T e) {a : Nat} (c : Nat) (hc : c < 24) (hm : a ∈ eL e) (hp : eP e a = chE S c) : CP zX0_group a 1 [] (T, e) (pNc (T, e) (grpN S c) 2) := by
  intro D Y ad
  refine MT.of [(0, .ref a)] (by decide) rfl (Nat.le_of_ble_eq_true rfl) ?_
  intro K hK X E
  have L25 : ∀ (g : Nat), (g = grpN S c) → JJ K D 0 0 (WC ad Y (T, e)) [] 25 [.int (nI g)] := by
    intro g hg
    exact j_ireturn X E ((T, e)) rfl ⟨_, rfl, _, hg, by rw [hg]; exact grpN_le S c, rfl, rfl⟩ dX0_group_25
  refine j_aload_n X dX0_group_0 rfl 0 rfl ?_
  refine jc_pget X ly_X0 hm hp rfl 1 (by decide) f_X0_7 rfl dX0_group_1 ?_
  refine n_name (fun v_1 e_1 => ?_)
  have b_1 : v_1 < 16777216 := by rw [e_1]; exact hR.hB _ _
  refine j_bipush (v := nI 24) X dX0_group_4 (by decide) ?_
  refine n_icmp_ge (tgt := 11) X dX0_group_6 (by decide) (by omega) (by omega) (fun c_6 => ?_) (fun c_6 => ?_)
  · refine j_aload_n X dX0_group_11 rfl 0 rfl ?_
    refine jc_pget X ly_X0 hm hp rfl 1 (by decide) f_X0_7 rfl dX0_group_12 ?_
    refine n_name (fun v_12 e_12 => ?_)
    have b_12 : v_12 < 16777216 := by rw [e_12]; exact hR.hB _ _
    refine j_bipush (v := nI 36) X dX0_group_15 (by decide) ?_
    refine n_icmp_ge (tgt := 24) X dX0_group_17 (by decide) (by omega) (by omega) (fun c_17 => ?_) (fun c_17 => ?_)
    · refine j_iconst (v := nI 2) X dX0_group_24 (by decide) ?_
      exact j_sub [] rfl (L25 _ (by unfold grpN; split <;> (try split) <;> omega) )
    · refine j_iconst (v := nI 1) X dX0_group_20 (by decide) ?_
      refine j_goto (tgt := 25) X dX0_group_21 (by decide) ?_
      exact j_sub [] rfl (L25 _ (by unfold grpN; split <;> (try split) <;> omega) )
  · refine j_iconst (v := nI 0) X dX0_group_9 (by decide) ?_
    exact j_ireturn X E ((T, e)) rfl ⟨_, rfl, _, by unfold grpN; split <;> (try split) <;> omega, by omega, rfl, rfl⟩ dX0_group_10
set_option maxRecDepth 100000 in
set_option maxHeartbeats 4000000 in
theorem m_X2_hasHoliday {S : MS} {G : Nat → Nat} {T : CT} {e : CE} (hR : RG S G T e) {a : Nat} (x w : Nat) (hx : x < 8) (hw : w < 52) (hm : a ∈ eL e) (hp : eP e a = edE S x) : CP zX2_hasHoliday a 1 [.int (nI w)] (T, e) (pBc (T, e) (hoP S x w)) := by
  intro D Y ad
  refine MT.of [(0, .ref a), (1, .int (nI w))] (by decide) rfl (Nat.le_of_ble_eq_true rfl) ?_
  intro K hK X E
  refine j_aload_n X dX2_hasHoliday_0 rfl 0 rfl ?_
  refine jc_pget X ly_X2 hm hp rfl 1 (by decide) f_X2_7 rfl dX2_hasHoliday_1 ?_
  refine j_iload_n X dX2_hasHoliday_4 rfl 1 rfl ?_
  refine j_lushr X dX2_hasHoliday_5 ?_
  refine j_lconst (v := lN 1) X dX2_hasHoliday_6 (by decide) ?_
  refine j_land X dX2_hasHoliday_7 ?_
  rw [has_bit (by decide) hw]
  refine j_lconst (v := lN 0) X dX2_hasHoliday_8 (by decide) ?_
  refine j_lcmp X dX2_hasHoliday_9 ?_
  rw [cmp_has]
  refine b_if_eq (tgt := 17) X dX2_hasHoliday_10 (by decide) (fun c_10 => ?_) (fun c_10 => ?_)
  · refine j_iconst (v := bI false) X dX2_hasHoliday_17 (by decide) ?_
    exact j_zreturn X E ((T, e)) rfl ⟨_, rfl, by rw [c_10], rfl⟩ dX2_hasHoliday_18
  · refine j_iconst (v := bI true) X dX2_hasHoliday_13 (by decide) ?_
    refine j_goto (tgt := 18) X dX2_hasHoliday_14 (by decide) ?_
    exact j_zreturn X E ((T, e)) rfl ⟨_, rfl, by rw [c_10], rfl⟩ dX2_hasHoliday_18
set_option maxRecDepth 100000 in
set_option maxHeartbeats 4000000 in
theorem m_X5_canTake {S : MS} {G : Nat → Nat} {T : CT} {e : CE} (hR : RG S G T e) {a : Nat} (k g d : Nat) (hk : k < 4) (hg : g < 16777216) (hd : d < 5) (hm : a ∈ eL e) (hp : eP e a = suE S k g) : CP zX5_canTake a 1 [.int (nI d)] (T, e) (pBc (T, e) (decide (bitN (S 13 k) d = 1) && decide (g < S 14 k))) := by
  intro D Y ad
  refine MT.of [(0, .ref a), (1, .int (nI d))] (by decide) rfl (Nat.le_of_ble_eq_true rfl) ?_
  intro K hK X E
  refine j_aload_n X dX5_canTake_0 rfl 0 rfl ?_
  refine jc_pget X ly_X5 hm hp rfl 0 (by decide) f_X5_7 rfl dX5_canTake_1 ?_
  refine n_name (fun v_1 e_1 => ?_)
  have b_1 : v_1 < 16777216 := by rw [e_1]; exact hR.hB _ _
  refine j_iload_n X dX5_canTake_4 rfl 1 rfl ?_
  subst e_1
  refine j_iushr X dX5_canTake_5 ?_
  refine j_iconst (v := nI 1) X dX5_canTake_6 (by decide) ?_
  refine j_iand X dX5_canTake_7 ?_
  have hbl := bitN_le (S 13 k) d
  refine z_as (nI (bitN (S 13 k) d)) (bit_u (by omega) (by omega)) ?_
  refine n_if_eq (tgt := 26) X dX5_canTake_8 (by decide) (by omega) (fun c_8 => ?_) (fun c_8 => ?_)
  · refine j_iconst (v := bI false) X dX5_canTake_26 (by decide) ?_
    exact j_zreturn X E ((T, e)) rfl ⟨_, rfl, by congr 1; symm; simp; omega, rfl⟩ dX5_canTake_27
  · refine j_aload_n X dX5_canTake_11 rfl 0 rfl ?_
    refine jc_pget X ly_X5 hm hp rfl 3 (by decide) f_X5_19 rfl dX5_canTake_12 ?_
    refine n_name (fun v_12 e_12 => ?_)
    have b_12 : v_12 < 16777216 := by rw [e_12]; exact hg
    refine j_aload_n X dX5_canTake_15 rfl 0 rfl ?_
    refine jc_pget X ly_X5 hm hp rfl 1 (by decide) f_X5_13 rfl dX5_canTake_16 ?_
    refine n_name (fun v_16 e_16 => ?_)
    have b_16 : v_16 < 16777216 := by rw [e_16]; exact hR.hB _ _
    refine n_icmp_ge (tgt := 26) X dX5_canTake_19 (by decide) (by omega) (by omega) (fun c_19 => ?_) (fun c_19 => ?_)
    · refine j_iconst (v := bI false) X dX5_canTake_26 (by decide) ?_
      exact j_zreturn X E ((T, e)) rfl ⟨_, rfl, by congr 1; symm; simp; omega, rfl⟩ dX5_canTake_27
    · refine j_iconst (v := bI true) X dX5_canTake_22 (by decide) ?_
      refine j_goto (tgt := 27) X dX5_canTake_23 (by decide) ?_
      exact j_zreturn X E ((T, e)) rfl ⟨_, rfl, by congr 1; symm; simp; omega, rfl⟩ dX5_canTake_27
set_option maxRecDepth 100000 in
set_option maxHeartbeats 4000000 in
theorem m_X3_clear {T : CT} {e : CE} : CF zX3_clear 15 1 0 0 [] (T, e) (pVs [7] T e (fun T' => ∀ g, g < 3 → T' 7 g = nI 0)) := by
  intro D Y ad
  refine MT.of [(0, .ref (ad 15))] (by decide) rfl (Nat.le_of_ble_eq_true rfl) ?_
  intro K hK X E
  refine j_iconst (v := nI 0) X dX3_clear_0 (by decide) ?_
  refine j_istore_n X [(1, _), (0, _)] dX3_clear_1 rfl (by decide) rfl ?_
  have L2 : ∀ (n : Nat) (i : Nat) (T1 : CT), (i ≤ 3) → (SM [7] T T1) → (∀ g, g < i → T1 7 g = nI 0) → (3 + 1 ≤ i + n) → JJ K D 0 0 (WC ad Y (T1, e)) [(0, .ref (ad 15)), (1, .int (nI i))] 2 [] := by
    intro n
    induction n with
    | zero =>
      intro i T1 hi hs hz hf2
      exact absurd hf2 (by omega)
    | succ n2 ih2 =>
      intro i T1 hi hs hz hf2
      refine j_iload_n X dX3_clear_2 rfl 1 rfl ?_
      refine j_aload_n X dX3_clear_3 rfl 0 rfl ?_
      refine j_getf X ly_X3 6 rfl rfl 0 (by decide) f_X3_9 rfl dX3_clear_4 ?_
      refine jc_len X (by decide) (by decide) dX3_clear_7 ?_
      refine z_as (nI 3) rfl ?_
      refine n_icmp_ge (tgt := 24) X dX3_clear_8 (by decide) (by omega) (by omega) (fun c_8 => ?_) (fun c_8 => ?_)
      · exact j_return X E ((T1, e)) rfl ⟨rfl, _, rfl, hs, fun g hg => hz g (by omega)⟩ dX3_clear_24
      · refine j_aload_n X dX3_clear_11 rfl 0 rfl ?_
        refine j_getf X ly_X3 6 rfl rfl 0 (by decide) f_X3_9 rfl dX3_clear_12 ?_
        refine j_iload_n X dX3_clear_15 rfl 1 rfl ?_
        refine j_iconst (v := nI 0) X dX3_clear_16 (by decide) ?_
        refine jc_ast X (by decide) (by decide) (by show _ < 3; omega) dX3_clear_17 (fun T_17 eT_17 => ?_)
        refine n_iinc X [(1, _), (0, _)] dX3_clear_18 (q := 1) (b := 1) rfl (by decide) (by decide) rfl ?_
        refine j_goto (tgt := 2) X dX3_clear_21 (by decide) ?_
        exact j_sub [1, 0] rfl (ih2 _ _ (by omega) (by rw [eT_17]; exact hs.u (by decide)) (by intro g hg; rw [eT_17]; by_cases q : g = i; subst q; exact uI_eq _ _ _ _; rw [uI_ni q]; exact hz g (by omega)) (by omega))
  exact j_sub [1, 0] rfl (L2 4 _ T (by omega) (by exact SM.refl _ _) (by intro g hg; omega) (by omega))
set_option maxRecDepth 100000 in
set_option maxHeartbeats 4000000 in
theorem m_X3_add {T : CT} {e : CE} (cn : Nat → Nat) (hcn : ∀ g, g < 3 → T 7 g = nI (cn g)) (hcb : ∀ g, g < 3 → cn g ≤ 25) (g : Nat) (hg : g ≤ 2) : CF zX3_add 15 2 0 0 [.int (nI g)] (T, e) (pVs [7] T e (fun T' => ∀ k, k < 3 → T' 7 k = nI (cn k + ct (decide (k = g))))) := by
  intro D Y ad
  refine MT.of [(0, .ref (ad 15)), (1, .int (nI g))] (by decide) rfl (Nat.le_of_ble_eq_true rfl) ?_
  intro K hK X E
  refine j_iload_n X dX3_add_0 rfl 1 rfl ?_
  refine jst_callN1 X hK (m_X6_isGroup _) m_X3_15 (by decide) (by decide) (Nat.le_of_ble_eq_true rfl) ⟨by decide, by decide⟩ dX3_add_1 ?_
  refine b_if_eq (tgt := 17) X dX3_add_4 (by decide) (fun c_4 => ?_) (fun c_4 => ?_)
  · exact absurd c_4 (by rw [show isGroupI (nI g) = true from by unfold isGroupI; rw [within_N (by omega) (by omega) (by omega)]; simp; omega]; decide)
  · refine j_aload_n X dX3_add_7 rfl 0 rfl ?_
    refine j_getf X ly_X3 6 rfl rfl 0 (by decide) f_X3_9 rfl dX3_add_8 ?_
    refine j_iload_n X dX3_add_11 rfl 1 rfl ?_
    refine j_dup2 X dX3_add_12 rfl rfl ?_
    refine jc_ald X (by decide) (by decide) (by show _ < 3; omega) dX3_add_13 ?_
    rw [hcn _ (by omega)]
    refine n_name (fun v_13 e_13 => ?_)
    have b_13 : v_13 < 16777216 := by rw [e_13]; have := hcb g (by omega); omega
    refine j_iconst (v := nI 1) X dX3_add_14 (by decide) ?_
    refine n_iadd X dX3_add_15 ?_
    refine jc_ast X (by decide) (by decide) (by show _ < 3; omega) dX3_add_16 (fun T_16 eT_16 => ?_)
    exact j_return X E ((T_16, e)) rfl ⟨rfl, _, rfl, by rw [eT_16]; exact (SM.refl _ _).u (by decide), fun k hk => by rw [eT_16, e_13]; by_cases q : k = g; subst q; rw [uI_eq, decide_eq_true rfl]; rfl; rw [uI_ni q, hcn k hk, decide_eq_false q]; rfl⟩ dX3_add_17
set_option maxRecDepth 100000 in
set_option maxHeartbeats 4000000 in
theorem m_X3_total {T : CT} {e : CE} (cn : Nat → Nat) (hcn : ∀ g, g < 3 → T 7 g = nI (cn g)) (hcb : ∀ g, g < 3 → cn g ≤ 25) : CF zX3_total 15 1 0 0 [] (T, e) (pNc (T, e) (cn 0 + cn 1 + cn 2) 75) := by
  intro D Y ad
  refine MT.of [(0, .ref (ad 15))] (by decide) rfl (Nat.le_of_ble_eq_true rfl) ?_
  intro K hK X E
  refine j_aload_n X dX3_total_0 rfl 0 rfl ?_
  refine j_getf X ly_X3 6 rfl rfl 0 (by decide) f_X3_9 rfl dX3_total_1 ?_
  refine j_iconst (v := nI 0) X dX3_total_4 (by decide) ?_
  refine jc_ald X (by decide) (by decide) (by show _ < 3; omega) dX3_total_5 ?_
  rw [hcn _ (by omega)]
  refine n_name (fun v_5 e_5 => ?_)
  have b_5 : v_5 < 16777216 := by rw [e_5]; have := hcb 0 (by omega); have := hcb 1 (by omega); have := hcb 2 (by omega); omega
  refine j_aload_n X dX3_total_6 rfl 0 rfl ?_
  refine j_getf X ly_X3 6 rfl rfl 0 (by decide) f_X3_9 rfl dX3_total_7 ?_
  refine j_iconst (v := nI 1) X dX3_total_10 (by decide) ?_
  refine jc_ald X (by decide) (by decide) (by show _ < 3; omega) dX3_total_11 ?_
  rw [hcn _ (by omega)]
  refine n_name (fun v_11 e_11 => ?_)
  have b_11 : v_11 < 16777216 := by rw [e_11]; have := hcb 0 (by omega); have := hcb 1 (by omega); have := hcb 2 (by omega); omega
  refine n_iadd X dX3_total_12 ?_
  refine j_aload_n X dX3_total_13 rfl 0 rfl ?_
  refine j_getf X ly_X3 6 rfl rfl 0 (by decide) f_X3_9 rfl dX3_total_14 ?_
  refine j_iconst (v := nI 2) X dX3_total_17 (by decide) ?_
  refine jc_ald X (by decide) (by decide) (by show _ < 3; omega) dX3_total_18 ?_
  rw [hcn _ (by omega)]
  refine n_name (fun v_18 e_18 => ?_)
  have b_18 : v_18 < 16777216 := by rw [e_18]; have := hcb 0 (by omega); have := hcb 1 (by omega); have := hcb 2 (by omega); omega
  refine n_iadd X dX3_total_19 ?_
  exact j_ireturn X E ((T, e)) rfl ⟨_, rfl, _, by rw [e_5, e_11, e_18], by have := hcb 0 (by omega); have := hcb 1 (by omega); have := hcb 2 (by omega); omega, rfl, rfl⟩ dX3_total_20
set_option maxRecDepth 100000 in
set_option maxHeartbeats 4000000 in
theorem m_X3_needAt {T : CT} {e : CE} (cn : Nat → Nat) (hcn : ∀ g, g < 3 → T 7 g = nI (cn g)) (hcb : ∀ g, g < 3 → cn g ≤ 25) (r0 r1 r2 : Nat) (h0 : 1 ≤ r0 ∧ r0 ≤ 20) (h1 : 1 ≤ r1 ∧ r1 ≤ 20) (h2 : 1 ≤ r2 ∧ r2 ≤ 20) : CF zX3_needAt 15 1 0 0 [.int (nI r0), .int (nI r1), .int (nI r2)] (T, e) (pNc (T, e) ((cn 0 * r1 * r2 + cn 1 * r0 * r2 + cn 2 * r0 * r1 + r0 * r1 * r2 - 1) / (r0 * r1 * r2)) 40000) := by
  intro D Y ad
  refine MT.of [(0, .ref (ad 15)), (1, .int (nI r0)), (2, .int (nI r1)), (3, .int (nI r2))] (by decide) rfl (Nat.le_of_ble_eq_true rfl) ?_
  intro K hK X E
  have hw : 0 < r0 * r1 * r2 := Nat.mul_pos (Nat.mul_pos (by omega) (by omega)) (by omega)
  have hw2 : r0 * r1 * r2 ≤ 20 * 20 * 20 := Nat.mul_le_mul (Nat.mul_le_mul h0.2 h1.2) h2.2
  refine j_iload_n X dX3_needAt_0 rfl 1 rfl ?_
  refine j_iload_n X dX3_needAt_1 rfl 2 rfl ?_
  refine n_imul X dX3_needAt_2 ?_
  refine j_iload_n X dX3_needAt_3 rfl 3 rfl ?_
  refine n_imul X dX3_needAt_4 ?_
  refine j_istore X [(4, _), (0, _), (1, _), (2, _), (3, _)] dX3_needAt_5 (by decide) rfl ?_
  refine j_iload X dX3_needAt_7 0 rfl ?_
  refine n_if_gt (tgt := 14) X dX3_needAt_9 (by decide) (by omega) (fun c_9 => ?_) (fun c_9 => ?_)
  · refine j_aload_n X dX3_needAt_14 rfl 1 rfl ?_
    refine j_getf X ly_X3 6 rfl rfl 0 (by decide) f_X3_9 rfl dX3_needAt_15 ?_
    refine j_iconst (v := nI 0) X dX3_needAt_18 (by decide) ?_
    refine jc_ald X (by decide) (by decide) (by show _ < 3; omega) dX3_needAt_19 ?_
    rw [hcn _ (by omega)]
    refine n_name (fun v_19 e_19 => ?_)
    have b_19 : v_19 < 16777216 := by rw [e_19]; have := hcb 0 (by omega); have := hcb 1 (by omega); have := hcb 2 (by omega); omega
    refine j_iload_n X dX3_needAt_20 rfl 3 rfl ?_
    refine n_imul X dX3_needAt_21 ?_
    refine j_iload_n X dX3_needAt_22 rfl 4 rfl ?_
    refine n_imul X dX3_needAt_23 ?_
    refine j_aload_n X dX3_needAt_24 rfl 1 rfl ?_
    refine j_getf X ly_X3 6 rfl rfl 0 (by decide) f_X3_9 rfl dX3_needAt_25 ?_
    refine j_iconst (v := nI 1) X dX3_needAt_28 (by decide) ?_
    refine jc_ald X (by decide) (by decide) (by show _ < 3; omega) dX3_needAt_29 ?_
    rw [hcn _ (by omega)]
    refine n_name (fun v_29 e_29 => ?_)
    have b_29 : v_29 < 16777216 := by rw [e_29]; have := hcb 0 (by omega); have := hcb 1 (by omega); have := hcb 2 (by omega); omega
    refine j_iload_n X dX3_needAt_30 rfl 2 rfl ?_
    refine n_imul X dX3_needAt_31 ?_
    refine j_iload_n X dX3_needAt_32 rfl 4 rfl ?_
    refine n_imul X dX3_needAt_33 ?_
    refine n_iadd X dX3_needAt_34 ?_
    refine j_aload_n X dX3_needAt_35 rfl 1 rfl ?_
    refine j_getf X ly_X3 6 rfl rfl 0 (by decide) f_X3_9 rfl dX3_needAt_36 ?_
    refine j_iconst (v := nI 2) X dX3_needAt_39 (by decide) ?_
    refine jc_ald X (by decide) (by decide) (by show _ < 3; omega) dX3_needAt_40 ?_
    rw [hcn _ (by omega)]
    refine n_name (fun v_40 e_40 => ?_)
    have b_40 : v_40 < 16777216 := by rw [e_40]; have := hcb 0 (by omega); have := hcb 1 (by omega); have := hcb 2 (by omega); omega
    refine j_iload_n X dX3_needAt_41 rfl 2 rfl ?_
    refine n_imul X dX3_needAt_42 ?_
    refine j_iload_n X dX3_needAt_43 rfl 3 rfl ?_
    refine n_imul X dX3_needAt_44 ?_
    refine n_iadd X dX3_needAt_45 ?_
    subst e_19 e_29 e_40
    have b0 : cn 0 * r1 * r2 ≤ 25 * 20 * 20 := Nat.mul_le_mul (Nat.mul_le_mul (hcb 0 (by omega)) h1.2) h2.2
    have b1 : cn 1 * r0 * r2 ≤ 25 * 20 * 20 := Nat.mul_le_mul (Nat.mul_le_mul (hcb 1 (by omega)) h0.2) h2.2
    have b2 : cn 2 * r0 * r1 ≤ 25 * 20 * 20 := Nat.mul_le_mul (Nat.mul_le_mul (hcb 2 (by omega)) h0.2) h1.2
    refine j_istore X [(5, _), (4, _), (0, _), (1, _), (2, _), (3, _)] dX3_needAt_46 (by decide) rfl ?_
    refine j_iload X dX3_needAt_48 0 rfl ?_
    refine j_iload X dX3_needAt_50 1 rfl ?_
    refine n_iadd X dX3_needAt_52 ?_
    refine j_iconst (v := nI 1) X dX3_needAt_53 (by decide) ?_
    refine n_isub X dX3_needAt_54 (by omega) ?_
    refine j_iload X dX3_needAt_55 1 rfl ?_
    refine n_idiv X dX3_needAt_57 (by omega) (by omega) (by omega) ?_
    exact j_ireturn X E ((T, e)) rfl ⟨_, rfl, _, rfl, Nat.le_trans (Nat.div_le_self _ _) (by omega), rfl, rfl⟩ dX3_needAt_58
  · exact absurd c_9 (by omega)

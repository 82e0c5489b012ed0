theorem jz_call14V2 {K : Ctx} {cc : ByteArray} {nL : Nat} {own : String} {D : va_G} {Y : Nat → ClassId} {cells slots : Nat} {lv : List (Nat × Value)} {pc : Nat} {st : List Value} {ad : Nat → Nat} {T : CT} {e : CE} (X : CX K cc nL own D Y) {z : MI} {j k mc0 ms0 idx : Nat} {a0 a1 : Value} {φ : CS → Prop} (hR : kR K = Rm k mc0 ms0) (hM : CZ z 14 j [a0, a1] (T, e) (pV φ)) (cw : CwS own idx 3 z) (hjk : j < k) (hmL : z.2.2.1 ≤ 40) (hst : (st.map fun v => v.category).sum ≤ 8) (hf : cells ≤ mc0 ∧ slots ≤ ms0) (hdg : decode cc pc = .ok (.invokestatic idx, 3)) (kk : ∀ (u : CS), φ u → JJ K D cells slots (WC ad Y u) lv (pc + 3) st) : JJ K D cells slots (WC ad Y (T, e)) lv pc (a1 :: a0 :: .ref (ad 14) :: st) := by
  refine j_callS (mc := 0) (ms := 0) (As := [.ref (ad 14), a0, a1]) X hR (hM D Y ad) cw hjk hmL rfl hst hf hdg (fun v u hp => ?_)
  obtain ⟨rfl, h⟩ := hp
  exact kk u h
theorem CVB.stay {T : CT} {d v b : Nat} {ch : Nat → Nat} (h : b ≤ v) (hb : T 11 0 = nI b) : CVB T d ch v b T := ⟨fun q => by omega, fun _ => ⟨hb, fun _ _ => rfl⟩⟩
set_option maxRecDepth 100000 in
set_option maxHeartbeats 4000000 in
theorem cover_0 (S : MS) (sh : Nat → Nat) (hshb : ∀ d, d < 5 → sh d ≤ 40000) (G : Nat → Nat) (T : CT) (e : CE) (hR : RG S G T e) (hG : ∀ i, i < 4 → G i ≤ 5) (hsh : ∀ d, d < 5 → T 5 d = nI (sh d)) (c b : Nat) (hc : c ≤ 4000 * 5) (hb : b ≤ 1000000) (hbest : T 11 0 = nI b) : CZ zX1_coverFrom 14 3 [.int (nI 5), .int (nI c)] (T, e) (pV (fun u => CVQ S sh 5 0 G T e c b u)) := by
  intro D Y ad
  refine MT.of [(0, .ref (ad 14)), (1, .int (nI 5)), (2, .int (nI c))] (by decide) rfl (Nat.le_of_ble_eq_true rfl) ?_
  intro K hK X E
  refine j_iload_n X dX1_coverFrom_0 rfl 2 rfl ?_
  refine j_aload_n X dX1_coverFrom_1 rfl 0 rfl ?_
  refine j_getf X ly_X1 5 rfl rfl 3 (by decide) f_X1_34 rfl dX1_coverFrom_2 ?_
  refine z_as (nI b) hbest ?_
  refine n_name (fun v_2 e_2 => ?_)
  have b_2 : v_2 < 16777216 := by rw [e_2]; omega
  refine n_icmp_lt (tgt := 9) X dX1_coverFrom_5 (by decide) (by omega) (by omega) (fun c_5 => ?_) (fun c_5 => ?_)
  · refine j_iload_n X dX1_coverFrom_9 rfl 1 rfl ?_
    refine jst_callN1 X hK (m_X6_isDay _) m_X1_41 (by decide) (by decide) (Nat.le_of_ble_eq_true rfl) ⟨by decide, by decide⟩ dX1_coverFrom_10 ?_
    refine b_if_ne (tgt := 22) X dX1_coverFrom_13 (by decide) (fun c_13 => ?_) (fun c_13 => ?_)
    · exact absurd c_13 (by decide)
    · refine j_aload_n X dX1_coverFrom_16 rfl 0 rfl ?_
      refine j_iload_n X dX1_coverFrom_17 rfl 2 rfl ?_
      refine jc_call14V1 (mc := 0) (ms := 0) X hK (m_X1_keepSets c) m_X1_45 rfl (by decide) (by decide) (Nat.le_of_ble_eq_true rfl) ⟨by decide, by decide⟩ dX1_coverFrom_18 ?_
      rintro _ ⟨T_18, rfl, s_18, h11, h6⟩
      exact j_return X E ((T_18, e)) rfl ⟨rfl, s_18.mono (by decide), hR.sm s_18 (by decide), fun _ _ => rfl, fun j _ => s_18 4 j (by decide), ⟨fun _ => ⟨h11, fun j hj => by rw [if_pos hj]; exact h6 j hj⟩, fun q => absurd q (by show ¬ b ≤ c + 0; omega)⟩⟩ dX1_coverFrom_21
  · exact j_return X E ((T, e)) rfl ⟨rfl, SM.refl _ _, hR, fun _ _ => rfl, fun _ _ => rfl, CVB.stay (by omega) hbest⟩ dX1_coverFrom_8
set_option maxRecDepth 100000 in
set_option maxHeartbeats 4000000 in
theorem cover_s (S : MS) (sh : Nat → Nat) (hshb : ∀ d, d < 5 → sh d ≤ 40000) (k d : Nat) (hdk : d + k = 4) (IH : CVP S sh (d + 1) k) (G : Nat → Nat) (T : CT) (e : CE) (hR : RG S G T e) (hG : ∀ i, i < 4 → G i ≤ 5) (hsh : ∀ d, d < 5 → T 5 d = nI (sh d)) (c b : Nat) (hc : c ≤ 4000 * d) (hb : b ≤ 1000000) (hbest : T 11 0 = nI b) : CZ zX1_coverFrom 14 (k + 4) [.int (nI d), .int (nI c)] (T, e) (pV (fun u => CVQ S sh d (k + 1) G T e c b u)) := by
  intro D Y ad
  refine MT.of [(0, .ref (ad 14)), (1, .int (nI d)), (2, .int (nI c))] (by decide) rfl (Nat.le_of_ble_eq_true rfl) ?_
  intro K hK X E
  have hcnt := hR.hI.2.2.2.2.2.2.2.2.2.2.1
  obtain ⟨p, hp⟩ : ∃ p, p = 2 ^ (S 21 2) := ⟨_, rfl⟩
  have hp16 : p ≤ 16 := by rw [hp]; have : 2 ^ (S 21 2) ≤ 2 ^ 4 := Nat.pow_le_pow_right (by decide) hcnt; omega
  refine j_iload_n X dX1_coverFrom_0 rfl 2 rfl ?_
  refine j_aload_n X dX1_coverFrom_1 rfl 0 rfl ?_
  refine j_getf X ly_X1 5 rfl rfl 3 (by decide) f_X1_34 rfl dX1_coverFrom_2 ?_
  refine z_as (nI b) hbest ?_
  refine n_name (fun v_2 e_2 => ?_)
  have b_2 : v_2 < 16777216 := by rw [e_2]; omega
  refine n_icmp_lt (tgt := 9) X dX1_coverFrom_5 (by decide) (by omega) (by omega) (fun c_5 => ?_) (fun c_5 => ?_)
  · refine j_iload_n X dX1_coverFrom_9 rfl 1 rfl ?_
    refine jst_callN1 X hK (m_X6_isDay _) m_X1_41 (by omega) (by decide) (Nat.le_of_ble_eq_true rfl) ⟨by decide, by decide⟩ dX1_coverFrom_10 ?_
    refine b_if_ne (tgt := 22) X dX1_coverFrom_13 (by decide) (fun c_13 => ?_) (fun c_13 => ?_)
    · refine j_iconst (v := nI 0) X dX1_coverFrom_22 (by decide) ?_
      refine j_istore_n X [(3, _), (0, _), (1, _), (2, _)] dX1_coverFrom_23 rfl (by decide) rfl ?_
      have L24 : ∀ (n : Nat) (s : Nat) (T1 : CT) (e1 : CE), (s ≤ p) → (RG S G T1 e1) → (SM [4, 6, 11] T T1) → (∀ a i, eR e1 a i = eR e a i) → (∀ j, j < d → T1 4 j = T 4 j) → (CVB T d (chS S sh k d (uG G) s) (c + lsN (cf S sh k d (uG G)) s) b T1) → (16 + 1 ≤ s + n) → JJ K D 0 0 (WC ad Y (T1, e1)) [(0, .ref (ad 14)), (1, .int (nI d)), (2, .int (nI c)), (3, .int (nI s))] 24 [] := by
        intro n
        induction n with
        | zero =>
          intro s T1 e1 hs hR1 hsm her hpre hq hf24
          exact absurd hf24 (by omega)
        | succ n24 ih24 =>
          intro s T1 e1 hs hR1 hsm her hpre hq hf24
          have hsh1 : ∀ x, x < 5 → T1 5 x = nI (sh x) := fun x hx => by rw [hsm 5 x (by decide)]; exact hsh x hx
          refine j_iload_n X dX1_coverFrom_24 rfl 3 rfl ?_
          refine j_iconst (v := nI 1) X dX1_coverFrom_25 (by decide) ?_
          refine j_aload_n X dX1_coverFrom_26 rfl 0 rfl ?_
          refine j_getf X ly_X1 5 rfl rfl 1 (by decide) f_X1_27 rfl dX1_coverFrom_27 ?_
          refine z_as (nI (S 21 2)) hR1.cnt ?_
          refine n_name (fun v_27 e_27 => ?_)
          have b_27 : v_27 < 16777216 := by rw [e_27]; exact hR1.hB _ _
          refine j_ishl X dX1_coverFrom_30 ?_
          subst e_27
          refine z_as (nI p) (by rw [hp]; exact shl_p _ (by omega)) ?_
          refine n_icmp_ge (tgt := 82) X dX1_coverFrom_31 (by decide) (by omega) (by omega) (fun c_31 => ?_) (fun c_31 => ?_)
          · have hs2 : s = p := by omega
            subst hs2
            have hend := cf_big (S := S) (sh := sh) (k := k) (d := d) (u := uG G) hp rfl hcnt (fun _ _ => trivial)
            exact j_return X E ((T1, e1)) rfl ⟨rfl, hsm, hR1, her, hpre, by show CVB T d (fun j => if j = d then am (cf S sh k d (uG G)) 16 else bsN S sh k (d + 1) (uG G + usN (am (cf S sh k d (uG G)) 16)) j) (c + lsN (cf S sh k d (uG G)) 16) b T1; rw [hend.1, hend.2]; exact hq⟩ dX1_coverFrom_82
          · refine j_aload_n X dX1_coverFrom_34 rfl 0 rfl ?_
            refine j_iload_n X dX1_coverFrom_35 rfl 1 rfl ?_
            refine j_iload_n X dX1_coverFrom_36 rfl 3 rfl ?_
            refine jc_call14I2 (mc := 0) (ms := 0) X hK (m_X1_canGive hR1 hG sh hsh1 hshb d s (by omega) (by omega)) m_X1_49 rfl (by omega) (by decide) (Nat.le_of_ble_eq_true rfl) ⟨by decide, by decide⟩ dX1_coverFrom_37 ?_
            rintro _ _ ⟨rfl, rfl⟩
            refine b_if_eq (tgt := 76) X dX1_coverFrom_40 (by decide) (fun c_40 => ?_) (fun c_40 => ?_)
            · have hcf : lsN (cf S sh k d (uG G)) s ≤ (cf S sh k d (uG G)) s := by rw [show (cf S sh k d (uG G)) s = 1000000 from by unfold cf; rw [c_40]; rfl]; exact lsN_le _ _
              refine n_iinc X [(3, _), (0, _), (1, _), (2, _)] dX1_coverFrom_76 (q := 3) (b := 1) rfl (by decide) (by decide) rfl ?_
              refine j_goto (tgt := 24) X dX1_coverFrom_79 (by decide) ?_
              exact j_sub [1, 2, 3, 0] rfl (ih24 _ _ _ (by omega) (by exact hR1) (by exact hsm) (by exact her) (by exact hpre) (by exact hq.skip hcf) (by omega))
            · have hgv := giv_of hG hR.hI c_40
              have hgU := gU_le hG hR.hI c_40
              obtain ⟨b1, hb1, hb1e⟩ := hq.best
              have hb1l : b1 ≤ b := by rw [hb1e]; split <;> omega
              have hcw : (cf S sh k d (uG G)) s = cstN S s + cv2 S sh k (d + 1) (uG G + usN s) := if_pos c_40
              refine j_aload_n X dX1_coverFrom_43 rfl 0 rfl ?_
              refine j_getf X ly_X1 5 rfl rfl 2 (by decide) f_X1_17 rfl dX1_coverFrom_44 ?_
              refine j_iload_n X dX1_coverFrom_47 rfl 1 rfl ?_
              refine j_iload_n X dX1_coverFrom_48 rfl 3 rfl ?_
              refine jc_ast X (by decide) (by decide) (by show _ < 5; omega) dX1_coverFrom_49 (fun T_49 eT_49 => ?_)
              have hR49 : RG S G T_49 e1 := hR1.sm (l := [4]) (by rw [eT_49]; exact (SM.refl _ _).u (by decide)) (by decide)
              have hsh49 : ∀ x, x < 5 → T_49 5 x = nI (sh x) := fun x hx => by rw [eT_49, uI_nk (by omega)]; exact hsh1 x hx
              have h49 : T_49 11 0 = nI b1 := by rw [eT_49, uI_nk (by omega)]; exact hb1
              refine j_aload_n X dX1_coverFrom_50 rfl 0 rfl ?_
              refine j_iload_n X dX1_coverFrom_51 rfl 3 rfl ?_
              refine j_iconst (v := nI 1) X dX1_coverFrom_52 (by decide) ?_
              refine jc_call14V2 (mc := 0) (ms := 0) X hK (m_X1_give hR49 (G' := gU G s) s (by omega) (nI 1) (fun j _ hj => by unfold gU; have := bitN_le s j; omega) (fun j hj hbj => ⟨(hgv j hj hbj).1, by unfold gU; rw [hbj]; exact nI_inc _⟩) (fun j hj => by have := hG j hj; omega)) m_X1_53 rfl (by omega) (by decide) (Nat.le_of_ble_eq_true rfl) ⟨by decide, by decide⟩ dX1_coverFrom_53 ?_
              rintro _ ⟨e_53, rfl, hR_53, er_53⟩
              refine j_aload_n X dX1_coverFrom_56 rfl 0 rfl ?_
              refine j_iload_n X dX1_coverFrom_57 rfl 1 rfl ?_
              refine j_iconst (v := nI 1) X dX1_coverFrom_58 (by decide) ?_
              refine n_iadd X dX1_coverFrom_59 ?_
              refine j_iload_n X dX1_coverFrom_60 rfl 2 rfl ?_
              refine j_aload_n X dX1_coverFrom_61 rfl 0 rfl ?_
              refine j_iload_n X dX1_coverFrom_62 rfl 3 rfl ?_
              refine jc_call14I1 (mc := 0) (ms := 0) X hK (m_X1_wagesOf hR_53 s (by omega) (fun j hj hbj => (hgv j hj hbj).1)) m_X1_57 rfl (by omega) (by decide) (Nat.le_of_ble_eq_true rfl) ⟨by decide, by decide⟩ dX1_coverFrom_63 ?_
              rintro _ _ ⟨v_63, e_63, b_63, rfl, rfl⟩
              refine n_iadd X dX1_coverFrom_66 ?_
              refine jz_call14V2 X hK (IH _ _ _ hR_53 hgU hsh49 _ b1 (by omega) (by omega) h49) m_X1_37 (by omega) (by decide) (Nat.le_of_ble_eq_true rfl) ⟨by decide, by decide⟩ dX1_coverFrom_67 ?_
              rintro ⟨T_67, e_67⟩ ⟨s_67, hR_67, er_67, p_67, q_67⟩
              refine j_aload_n X dX1_coverFrom_70 rfl 0 rfl ?_
              refine j_iload_n X dX1_coverFrom_71 rfl 3 rfl ?_
              refine j_iconst (v := (-1)) X dX1_coverFrom_72 (by decide) ?_
              refine jc_call14V2 (mc := 0) (ms := 0) X hK (m_X1_give hR_67 (G' := G) s (by omega) (-1) (fun j _ hj => by unfold gU; have := bitN_le s j; omega) (fun j hj hbj => ⟨(hgv j hj hbj).1, by unfold gU; rw [hbj]; have := hG j hj; exact nI_dec _ (by omega)⟩) (fun j hj => by have := hgU j hj; omega)) m_X1_53 rfl (by omega) (by decide) (Nat.le_of_ble_eq_true rfl) ⟨by decide, by decide⟩ dX1_coverFrom_73 ?_
              rintro _ ⟨e_73, rfl, hR_73, er_73⟩
              refine n_iinc X [(3, _), (0, _), (1, _), (2, _)] dX1_coverFrom_76 (q := 3) (b := 1) rfl (by decide) (by decide) rfl ?_
              refine j_goto (tgt := 24) X dX1_coverFrom_79 (by decide) ?_
              exact j_sub [1, 2, 3, 0] rfl (ih24 _ _ _ (by omega) (by exact hR_73) (by exact (hsm.trans (by rw [eT_49]; exact (SM.refl [4, 6, 11] _).u (by decide))).trans s_67) (by intro a i; rw [er_73, er_67, er_53]; exact her a i) (by intro j hj; rw [p_67 j (by omega), eT_49, uI_ni (by omega)]; exact hpre j hj) (by exact hq.step (T2 := T_49) hb1e hcw (fun j hj => by rw [eT_49, uI_ni (by omega)]; exact hpre j hj) (by rw [eT_49]; exact uI_eq _ _ _ _) (fun j _ => by rw [eT_49, uI_nk (by omega)]) (by have := q_67; rw [uG_add, e_63, Nat.add_assoc] at this; exact this)) (by omega))
      exact j_sub [1, 2, 3, 0] rfl (L24 17 _ _ _ (by omega) (by exact hR) (by exact SM.refl _ _) (by intro _ _; rfl) (by intro _ _; rfl) (by exact CVB.stay (by show b ≤ c + 1000000; omega) hbest) (by omega))
    · exact absurd c_13 (by rw [isDay_n (by omega)]; decide)
  · exact j_return X E ((T, e)) rfl ⟨rfl, SM.refl _ _, hR, fun _ _ => rfl, fun _ _ => rfl, CVB.stay (by omega) hbest⟩ dX1_coverFrom_8
theorem cover_all (S : MS) (sh : Nat → Nat) (hshb : ∀ d, d < 5 → sh d ≤ 40000) (k : Nat) : ∀ d, d + k = 5 → CVP S sh d k := by
  induction k with
  | zero =>
    intro d hd G T e hR hG hsh c b hc hb hbest
    rw [Nat.add_zero] at hd
    subst hd
    exact cover_0 S sh hshb G T e hR hG hsh c b hc hb hbest
  | succ k ih =>
    intro d hd G T e hR hG hsh c b hc hb hbest
    exact cover_s S sh hshb k d (by omega) (ih (d + 1) (by omega)) G T e hR hG hsh c b hc hb hbest
set_option maxRecDepth 100000 in
set_option maxHeartbeats 4000000 in
theorem m_X1_leastCostBelow {S : MS} {T : CT} {e : CE} (hR : RR S T e) (sh : Nat → Nat) (hsh : ∀ d, d < 5 → T 5 d = nI (sh d)) (hshb : ∀ d, d < 5 → sh d ≤ 40000) (lim : Nat) (hlim : lim ≤ 1000000) : CF zX1_leastCostBelow 14 9 0 0 [.int (nI lim)] (T, e) (pI (fun r u => (if cv2 S sh 5 0 0 < lim then nI (cv2 S sh 5 0 0) else -1) = r ∧ SM [4, 6, 11] T u.1 ∧ RR S u.1 u.2 ∧ (∀ a i, eR u.2 a i = eR e a i) ∧ (cv2 S sh 5 0 0 < lim → ∀ j, j < 5 → u.1 6 j = nI (bsN S sh 5 0 0 j)))) := by
  intro D Y ad
  refine MT.of [(0, .ref (ad 14)), (1, .int (nI lim))] (by decide) rfl (Nat.le_of_ble_eq_true rfl) ?_
  intro K hK X E
  refine j_aload_n X dX1_leastCostBelow_0 rfl 0 rfl ?_
  refine j_iload_n X dX1_leastCostBelow_1 rfl 1 rfl ?_
  refine jc_put4 X f_X1_34 dX1_leastCostBelow_2 (fun T_2 eT_2 => ?_)
  have hR2 : RR S T_2 e := hR.sm (l := [11]) (by rw [eT_2]; exact (SM.refl _ _).u (by decide)) (by decide)
  have hsh2 : ∀ d, d < 5 → T_2 5 d = nI (sh d) := fun d hd => by rw [eT_2, uI_nk (by omega)]; exact hsh d hd
  have h11 : T_2 11 0 = nI lim := by rw [eT_2]; exact uI_eq _ _ _ _
  refine j_aload_n X dX1_leastCostBelow_5 rfl 0 rfl ?_
  refine j_iconst (v := nI 0) X dX1_leastCostBelow_6 (by decide) ?_
  refine j_iconst (v := nI 0) X dX1_leastCostBelow_7 (by decide) ?_
  refine jz_call14V2 X hK (cover_all S sh hshb 5 0 rfl _ _ _ hR2 (fun _ _ => Nat.zero_le 5) hsh2 0 lim (by omega) hlim h11) m_X1_37 (by decide) (by decide) (Nat.le_of_ble_eq_true rfl) ⟨by decide, by decide⟩ dX1_leastCostBelow_8 ?_
  rintro ⟨T_8, e_8⟩ ⟨s_8, hR_8, er_8, p_8, q8⟩
  have q_8 : CVB T_2 0 (fun j => bsN S sh 5 0 0 j) (cv2 S sh 5 0 0) lim T_8 := by have := q8; rw [Nat.zero_add] at this; exact this
  obtain ⟨bb, hbb, hbe⟩ := q_8.best
  refine j_aload_n X dX1_leastCostBelow_11 rfl 0 rfl ?_
  refine j_getf X ly_X1 5 rfl rfl 3 (by decide) f_X1_34 rfl dX1_leastCostBelow_12 ?_
  refine z_as (nI bb) hbb ?_
  refine n_name (fun v_12 e_12 => ?_)
  have b_12 : v_12 < 16777216 := by rw [e_12]; rw [hbe]; split <;> omega
  refine j_iload_n X dX1_leastCostBelow_15 rfl 1 rfl ?_
  refine n_icmp_ge (tgt := 26) X dX1_leastCostBelow_16 (by decide) (by omega) (by omega) (fun c_16 => ?_) (fun c_16 => ?_)
  · have hlt : ¬ cv2 S sh 5 0 0 < lim := fun z => by rw [if_pos z] at hbe; omega
    refine j_iconst (v := (-1)) X dX1_leastCostBelow_26 (by decide) ?_
    exact j_ireturn X E ((T_8, e_8)) rfl ⟨_, rfl, by rw [if_neg hlt], ((SM.refl _ _).trans (by rw [eT_2]; exact (SM.refl [4, 6, 11] _).u (by decide))).trans s_8, hR_8, er_8, fun z j hj => ((q_8.1 z).2 j hj).trans (if_neg (Nat.not_lt_zero j))⟩ dX1_leastCostBelow_27
  · have hlt : cv2 S sh 5 0 0 < lim := by rcases Nat.lt_or_ge (cv2 S sh 5 0 0) lim with z | z; exact z; rw [if_neg (by omega)] at hbe; omega
    refine j_aload_n X dX1_leastCostBelow_19 rfl 0 rfl ?_
    refine j_getf X ly_X1 5 rfl rfl 3 (by decide) f_X1_34 rfl dX1_leastCostBelow_20 ?_
    refine z_as (nI bb) hbb ?_
    refine n_name (fun v_20 e_20 => ?_)
    have b_20 : v_20 < 16777216 := by rw [e_20]; rw [hbe]; split <;> omega
    have e19 : v_20 = cv2 S sh 5 0 0 := by rw [e_20, hbe, if_pos hlt]
    refine j_goto (tgt := 27) X dX1_leastCostBelow_23 (by decide) ?_
    exact j_ireturn X E ((T_8, e_8)) rfl ⟨_, rfl, by rw [if_pos hlt, ← e19], ((SM.refl _ _).trans (by rw [eT_2]; exact (SM.refl [4, 6, 11] _).u (by decide))).trans s_8, hR_8, er_8, fun z j hj => ((q_8.1 z).2 j hj).trans (if_neg (Nat.not_lt_zero j))⟩ dX1_leastCostBelow_27

set_option maxRecDepth 100000 in
set_option maxHeartbeats 4000000 in
theorem m_X6_setRoomLimit {S : MS} {T : CT} {e : CE} (hR : RR S T e) (x : Int32) : CF zX6_setRoomLimit 16 1 0 0 [.int x] (T, e) (pR (limR S x) (limS S x)) := by
  intro D Y ad
  refine MT.of [(0, .ref (ad 16)), (1, .int x)] (by decide) rfl (Nat.le_of_ble_eq_true rfl) ?_
  intro K hK X E
  refine j_iload_n X dX6_setRoomLimit_0 rfl 1 rfl ?_
  refine j_iconst (v := nI 1) X dX6_setRoomLimit_1 (by decide) ?_
  refine j_icmp_lt (tgt := 11) X dX6_setRoomLimit_2 (by decide) (fun c_2 => ?_) (fun c_2 => ?_)
  · refine j_iconst (v := (-1)) X dX6_setRoomLimit_11 (by decide) ?_
    exact j_ireturn X E ((T, e)) rfl ⟨_, rfl, by unfold limR; rw [show withinI x (nI 1) (nI 24) = false from by exact wl c_2]; rfl, by unfold limS; rw [show withinI x (nI 1) (nI 24) = false from by exact wl c_2]; exact hR⟩ dX6_setRoomLimit_12
  · refine j_iload_n X dX6_setRoomLimit_5 rfl 1 rfl ?_
    refine j_bipush (v := nI 24) X dX6_setRoomLimit_6 (by decide) ?_
    refine j_icmp_le (tgt := 13) X dX6_setRoomLimit_8 (by decide) (fun c_8 => ?_) (fun c_8 => ?_)
    · have hy : withinI x (nI 1) (nI 24) = true := by unfold withinI; simp; exact ⟨i_nlt c_2, c_8⟩
      obtain ⟨v, hv1, hv2, rfl⟩ := within_of (lo := 1) (n := 24) (by decide) (by decide) hy
      have hv3 : tn (nI v) = v := nI_clamp (by omega)
      refine j_aload_n X dX6_setRoomLimit_13 rfl 0 rfl ?_
      refine j_getf X ly_X6 0 rfl rfl 4 (by decide) f_X6_28 rfl dX6_setRoomLimit_14 ?_
      refine z_as (nI (S 21 1)) hR.room ?_
      refine n_name (fun v_14 e_14 => ?_)
      have b_14 : v_14 < 16777216 := by rw [e_14]; exact hR.hB _ _
      refine j_istore_n X [(2, _), (0, _), (1, _)] dX6_setRoomLimit_17 rfl (by decide) rfl ?_
      refine j_aload_n X dX6_setRoomLimit_18 rfl 1 rfl ?_
      refine j_iload_n X dX6_setRoomLimit_19 rfl 2 rfl ?_
      refine jc_put0 X f_X6_28 dX6_setRoomLimit_20 (fun T_20 eT_20 => ?_)
      have hRn : RR (limS S (nI v)) T_20 e := by unfold limS; rw [hy, if_pos rfl, hv3, eT_20]; exact hR.row (BD_u hR.hB (by omega)) (IV_lim hR.hI (by omega)) (rows_21 hR.2.2.1 (by decide)) (fun a j ha => uM_nk (by omega)) (uM_ni (by omega))
      refine j_iload_n X dX6_setRoomLimit_23 rfl 0 rfl ?_
      exact j_ireturn X E ((T_20, e)) rfl ⟨_, rfl, by unfold limR; rw [hy, if_pos rfl, e_14], hRn⟩ dX6_setRoomLimit_24
    · refine j_iconst (v := (-1)) X dX6_setRoomLimit_11 (by decide) ?_
      exact j_ireturn X E ((T, e)) rfl ⟨_, rfl, by unfold limR; rw [show withinI x (nI 1) (nI 24) = false from by exact wh c_8]; rfl, by unfold limS; rw [show withinI x (nI 1) (nI 24) = false from by exact wh c_8]; exact hR⟩ dX6_setRoomLimit_12
set_option maxRecDepth 100000 in
set_option maxHeartbeats 4000000 in
theorem m_X6_clearText {S : MS} {T : CT} {e : CE} (hR : RR S T e) : CF zX6_clearText 16 1 0 0 [] (T, e) (pR (nI (S 21 3)) (uM S 21 3 0)) := by
  intro D Y ad
  refine MT.of [(0, .ref (ad 16))] (by decide) rfl (Nat.le_of_ble_eq_true rfl) ?_
  intro K hK X E
  refine j_aload_n X dX6_clearText_0 rfl 0 rfl ?_
  refine j_getf X ly_X6 0 rfl rfl 7 (by decide) f_X6_41 rfl dX6_clearText_1 ?_
  refine j_getf X ly_X4 4 rfl rfl 1 (by decide) f_X6_272 rfl dX6_clearText_4 ?_
  refine z_as (nI (S 21 3)) hR.len ?_
  refine n_name (fun v_4 e_4 => ?_)
  have b_4 : v_4 < 16777216 := by rw [e_4]; exact hR.hB _ _
  refine j_istore_n X [(1, _), (0, _)] dX6_clearText_7 rfl (by decide) rfl ?_
  refine j_aload_n X dX6_clearText_8 rfl 1 rfl ?_
  refine j_getf X ly_X6 0 rfl rfl 7 (by decide) f_X6_41 rfl dX6_clearText_9 ?_
  refine j_iconst (v := nI 0) X dX6_clearText_12 (by decide) ?_
  refine jc_put2 X f_X6_272 dX6_clearText_13 (fun T_13 eT_13 => ?_)
  refine j_iload_n X dX6_clearText_16 rfl 0 rfl ?_
  exact j_ireturn X E ((T_13, e)) rfl ⟨_, rfl, by rw [e_4], by rw [eT_13]; exact hR.row (BD_u hR.hB (by omega)) (IV_len hR.hI (by omega)) (rows_21 hR.2.2.1 (by decide)) (fun a j ha => uM_nk (by omega)) (uM_ni (by omega))⟩ dX6_clearText_17
/-- the state in which the guest counts as admitted -/
def GU (S : MS) (g : Int32) (S' : MS) : Prop := (g = -1 ∧ S' = S) ∨ ∃ x : Nat, x < 24 ∧ g = nI x ∧ S' = uM S 3 x 1
theorem nI_nm1 {c : Nat} (h : c < 16777216) : nI c ≠ -1 := by
  intro q
  have := congrArg Int32.toInt q
  rw [nI_toInt (by omega)] at this
  have h9 : (-1 : Int32).toInt = -1 := by decide
  rw [h9] at this
  omega
theorem GU.adm {S S' : MS} {g : Int32} (h : GU S g S') {k : Nat} (hk : k < 24) : S' 3 k = 1 ↔ S 3 k = 1 ∨ nI k = g := by
  rcases h with ⟨rfl, rfl⟩ | ⟨x, hx, rfl, rfl⟩
  · have := nI_nm1 (c := k) (by omega)
    exact ⟨Or.inl, fun q => q.elim id (fun z => absurd z this)⟩
  · rw [nI_eq (show k < 2147483648 by omega) (show x < 2147483648 by omega)]
    by_cases q : k = x
    · subst q
      rw [uM_eq]
      simp
    · rw [uM_ni q]
      simp [q]
theorem GU.off {S S' : MS} {g : Int32} (h : GU S g S') {a j : Nat} (ha : a ≠ 3) : S' a j = S a j := by
  rcases h with ⟨rfl, rfl⟩ | ⟨x, hx, rfl, rfl⟩
  · rfl
  · exact uM_nk ha
theorem GU.hours {S S' : MS} {g : Int32} (h : GU S g S') (c : Nat) : hoursN S' c = hoursN S c := hoursN_congr (fun j => h.off (by omega)) (fun j => h.off (by omega))
theorem GU.iv {S S' : MS} {g : Int32} (h : GU S g S') (hI : IV S) : IV S' := by
  rcases h with ⟨rfl, rfl⟩ | ⟨x, hx, rfl, rfl⟩
  · exact hI
  · exact IV_adm hI (by omega)
theorem GU.no (S : MS) : GU S (-1) S := Or.inl ⟨rfl, rfl⟩
theorem GU.is {S : MS} {x : Nat} (hx : x < 24) : GU S (nI x) (uM S 3 x 1) := Or.inr ⟨x, hx, rfl, rfl⟩
set_option maxRecDepth 100000 in
set_option maxHeartbeats 4000000 in
theorem m_X6_pays {S : MS} {G : Nat → Nat} {T : CT} {e : CE} (hR : RG S G T e) {a : Nat} (c : Nat) (hc : c < 24) (hm : a ∈ eL e) (hp : eP e a = chE S c) (g : Int32) {S' : MS} (hg : GU S g S') : CF zX6_pays 16 1 0 0 [.ref a, .int (nI c), .int g] (T, e) (pBc (T, e) (decide (S' 3 c = 1))) := by
  intro D Y ad
  refine MT.of [(0, .ref (ad 16)), (1, .ref a), (2, .int (nI c)), (3, .int g)] (by decide) rfl (Nat.le_of_ble_eq_true rfl) ?_
  intro K hK X E
  refine j_aload_n X dX6_pays_0 rfl 1 rfl ?_
  refine jc_pget X ly_X0 hm hp rfl 3 (by decide) f_X6_78 rfl dX6_pays_1 ?_
  refine n_name (fun v_1 e_1 => ?_)
  have b_1 : v_1 < 16777216 := by rw [e_1]; exact hR.hB _ _
  refine n_if_ne (tgt := 12) X dX6_pays_4 (by decide) (by omega) (fun c_4 => ?_) (fun c_4 => ?_)
  · have h31 : S 3 c = 1 := by have := (hR.hI.2.2.1 c hc).2; omega
    refine j_iconst (v := bI true) X dX6_pays_12 (by decide) ?_
    refine j_goto (tgt := 17) X dX6_pays_13 (by decide) ?_
    exact j_zreturn X E ((T, e)) rfl ⟨_, rfl, by congr 1; symm; exact decide_eq_true ((hg.adm hc).mpr (Or.inl h31)), rfl⟩ dX6_pays_17
  · refine j_iload_n X dX6_pays_7 rfl 2 rfl ?_
    refine j_iload_n X dX6_pays_8 rfl 3 rfl ?_
    refine j_icmp_ne (tgt := 16) X dX6_pays_9 (by decide) (fun c_9 => ?_) (fun c_9 => ?_)
    · refine j_iconst (v := bI false) X dX6_pays_16 (by decide) ?_
      exact j_zreturn X E ((T, e)) rfl ⟨_, rfl, by congr 1; symm; exact decide_eq_false (fun z => ((hg.adm hc).mp z).elim (fun y => by omega) c_9), rfl⟩ dX6_pays_17
    · refine j_iconst (v := bI true) X dX6_pays_12 (by decide) ?_
      refine j_goto (tgt := 17) X dX6_pays_13 (by decide) ?_
      exact j_zreturn X E ((T, e)) rfl ⟨_, rfl, by congr 1; symm; exact decide_eq_true ((hg.adm hc).mpr (Or.inr (Decidable.not_not.mp c_9))), rfl⟩ dX6_pays_17

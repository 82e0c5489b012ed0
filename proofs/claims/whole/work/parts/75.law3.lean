/-! the law's loop -/
section
variable {K : Ctx} {D : va_G} {Y : Nat → ClassId} {ad : Nat → Nat} {h0 : Nat} {ad' : Nat → Nat} {b L : Nat} {xs : Nat → Int32}
set_option maxRecDepth 100000 in
set_option maxHeartbeats 4000000 in
theorem law_call (X : CX K cL_law 8 RL D Y) (hR : kR K = room_1) (hX : va_X b L xs (ks K) (ks K).heap) (hbl : b < (ks K).heap.size) (hbA : ¬ kA K b) (hL : L ≤ 2560) {i cells slots : Nat} (hi : i + 5 ≤ L) (hC : cells + 1 ≤ 600000 ∧ slots + 5 ≤ 7302250) {S : MS} {T : CT} {e : CE} (hS : RR S T e) (hmo : S 21 0 < 1000) (NX : NXT K D Y ad h0 ad' cells slots b i S) {m : Nat} (hm : m < 64) : JJ K D cells slots (WC ad Y (T, e) ++ WM h0 ad' Y S) [(0, .ref b), (1, .ref (ad 16)), (2, .ref h0), (3, .int (nI i))] 32 [.int (nI m)] := by
  by_cases q : m < 38
  · by_cases q0_38 : m < 19
    · by_cases q0_19 : m < 9
      · by_cases q0_9 : m < 4
        · by_cases q0_4 : m < 2
          · by_cases q0_2 : m < 1
            · obtain rfl : m = 0 := by omega
              exact j_tableIn (off := 168) (tgt := 200) X dL_law_32 (by decide) (by decide) (by decide) (by decide) (lc_0 X hR hX hbl hbA hL hi hC hS hmo NX)
            · obtain rfl : m = 1 := by omega
              exact j_tableIn (off := 201) (tgt := 233) X dL_law_32 (by decide) (by decide) (by decide) (by decide) (lc_1 X hR hX hbl hbA hL hi hC hS hmo NX)
          · by_cases q2_4 : m < 3
            · obtain rfl : m = 2 := by omega
              exact j_tableIn (off := 224) (tgt := 256) X dL_law_32 (by decide) (by decide) (by decide) (by decide) (lc_2 X hR hX hbl hbA hL hi hC hS hmo NX)
            · obtain rfl : m = 3 := by omega
              exact j_tableIn (off := 237) (tgt := 269) X dL_law_32 (by decide) (by decide) (by decide) (by decide) (lc_3 X hR hX hbl hbA hL hi hC hS hmo NX)
        · by_cases q4_9 : m < 6
          · by_cases q4_6 : m < 5
            · obtain rfl : m = 4 := by omega
              exact j_tableIn (off := 260) (tgt := 292) X dL_law_32 (by decide) (by decide) (by decide) (by decide) (lc_4 X hR hX hbl hbA hL hi hC hS hmo NX)
            · obtain rfl : m = 5 := by omega
              exact j_tableIn (off := 283) (tgt := 315) X dL_law_32 (by decide) (by decide) (by decide) (by decide) (lc_5 X hR hX hbl hbA hL hi hC hS hmo NX)
          · by_cases q6_9 : m < 7
            · obtain rfl : m = 6 := by omega
              exact j_tableIn (off := 306) (tgt := 338) X dL_law_32 (by decide) (by decide) (by decide) (by decide) (lc_6 X hR hX hbl hbA hL hi hC hS hmo NX)
            · by_cases q7_9 : m < 8
              · obtain rfl : m = 7 := by omega
                exact j_tableIn (off := 359) (tgt := 391) X dL_law_32 (by decide) (by decide) (by decide) (by decide) (lc_7 X hR hX hbl hbA hL hi hC hS hmo NX)
              · obtain rfl : m = 8 := by omega
                exact j_tableIn (off := 372) (tgt := 404) X dL_law_32 (by decide) (by decide) (by decide) (by decide) (lc_8 X hR hX hbl hbA hL hi hC hS hmo NX)
      · by_cases q9_19 : m < 14
        · by_cases q9_14 : m < 11
          · by_cases q9_11 : m < 10
            · obtain rfl : m = 9 := by omega
              exact j_tableIn (off := 395) (tgt := 427) X dL_law_32 (by decide) (by decide) (by decide) (by decide) (lc_9 X hR hX hbl hbA hL hi hC hS hmo NX)
            · obtain rfl : m = 10 := by omega
              exact j_tableIn (off := 418) (tgt := 450) X dL_law_32 (by decide) (by decide) (by decide) (by decide) (lc_10 X hR hX hbl hbA hL hi hC hS hmo NX)
          · by_cases q11_14 : m < 12
            · obtain rfl : m = 11 := by omega
              exact j_tableIn (off := 441) (tgt := 473) X dL_law_32 (by decide) (by decide) (by decide) (by decide) (lc_11 X hR hX hbl hbA hL hi hC hS hmo NX)
            · by_cases q12_14 : m < 13
              · obtain rfl : m = 12 := by omega
                exact j_tableIn (off := 454) (tgt := 486) X dL_law_32 (by decide) (by decide) (by decide) (by decide) (lc_12 X hR hX hbl hbA hL hi hC hS hmo NX)
              · obtain rfl : m = 13 := by omega
                exact j_tableIn (off := 477) (tgt := 509) X dL_law_32 (by decide) (by decide) (by decide) (by decide) (lc_13 X hR hX hbl hbA hL hi hC hS hmo NX)
        · by_cases q14_19 : m < 16
          · by_cases q14_16 : m < 15
            · obtain rfl : m = 14 := by omega
              exact j_tableIn (off := 490) (tgt := 522) X dL_law_32 (by decide) (by decide) (by decide) (by decide) (lc_14 X hR hX hbl hbA hL hi hC hS hmo NX)
            · obtain rfl : m = 15 := by omega
              exact j_tableIn (off := 513) (tgt := 545) X dL_law_32 (by decide) (by decide) (by decide) (by decide) (lc_15 X hR hX hbl hbA hL hi hC hS hmo NX)
          · by_cases q16_19 : m < 17
            · obtain rfl : m = 16 := by omega
              exact j_tableIn (off := 526) (tgt := 558) X dL_law_32 (by decide) (by decide) (by decide) (by decide) (lc_16 X hR hX hbl hbA hL hi hC hS hmo NX)
            · by_cases q17_19 : m < 18
              · obtain rfl : m = 17 := by omega
                exact j_tableIn (off := 579) (tgt := 611) X dL_law_32 (by decide) (by decide) (by decide) (by decide) (lc_17 X hR hX hbl hbA hL hi hC hS hmo NX)
              · obtain rfl : m = 18 := by omega
                exact j_tableIn (off := 638) (tgt := 670) X dL_law_32 (by decide) (by decide) (by decide) (by decide) (lc_18 X hR hX hbl hbA hL hi hC hS hmo NX)
    · by_cases q19_38 : m < 28
      · by_cases q19_28 : m < 23
        · by_cases q19_23 : m < 21
          · by_cases q19_21 : m < 20
            · obtain rfl : m = 19 := by omega
              exact j_tableIn (off := 671) (tgt := 703) X dL_law_32 (by decide) (by decide) (by decide) (by decide) (lc_19 X hR hX hbl hbA hL hi hC hS hmo NX)
            · obtain rfl : m = 20 := by omega
              exact j_tableIn (off := 694) (tgt := 726) X dL_law_32 (by decide) (by decide) (by decide) (by decide) (lc_20 X hR hX hbl hbA hL hi hC hS hmo NX)
          · by_cases q21_23 : m < 22
            · obtain rfl : m = 21 := by omega
              exact j_tableIn (off := 727) (tgt := 759) X dL_law_32 (by decide) (by decide) (by decide) (by decide) (lc_21 X hR hX hbl hbA hL hi hC hS hmo NX)
            · obtain rfl : m = 22 := by omega
              exact j_tableIn (off := 760) (tgt := 792) X dL_law_32 (by decide) (by decide) (by decide) (by decide) (lc_22 X hR hX hbl hbA hL hi hC hS hmo NX)
        · by_cases q23_28 : m < 25
          · by_cases q23_25 : m < 24
            · obtain rfl : m = 23 := by omega
              exact j_tableIn (off := 793) (tgt := 825) X dL_law_32 (by decide) (by decide) (by decide) (by decide) (lc_23 X hR hX hbl hbA hL hi hC hS hmo NX)
            · obtain rfl : m = 24 := by omega
              exact j_tableIn (off := 806) (tgt := 838) X dL_law_32 (by decide) (by decide) (by decide) (by decide) (lc_24 X hR hX hbl hbA hL hi hC hS hmo NX)
          · by_cases q25_28 : m < 26
            · obtain rfl : m = 25 := by omega
              exact j_tableIn (off := 857) (tgt := 889) X dL_law_32 (by decide) (by decide) (by decide) (by decide) (lc_25 X hR hX hbl hbA hL hi hC hS hmo NX)
            · by_cases q26_28 : m < 27
              · obtain rfl : m = 26 := by omega
                exact j_tableIn (off := 890) (tgt := 922) X dL_law_32 (by decide) (by decide) (by decide) (by decide) (lc_26 X hR hX hbl hbA hL hi hC hS hmo NX)
              · obtain rfl : m = 27 := by omega
                exact j_tableIn (off := 913) (tgt := 945) X dL_law_32 (by decide) (by decide) (by decide) (by decide) (lc_27 X hR hX hbl hbA hL hi hC hS hmo NX)
      · by_cases q28_38 : m < 33
        · by_cases q28_33 : m < 30
          · by_cases q28_30 : m < 29
            · obtain rfl : m = 28 := by omega
              exact j_tableIn (off := 926) (tgt := 958) X dL_law_32 (by decide) (by decide) (by decide) (by decide) (lc_28 X hR hX hbl hbA hL hi hC hS hmo NX)
            · obtain rfl : m = 29 := by omega
              exact j_tableIn (off := 949) (tgt := 981) X dL_law_32 (by decide) (by decide) (by decide) (by decide) (lc_29 X hR hX hbl hbA hL hi hC hS hmo NX)
          · by_cases q30_33 : m < 31
            · obtain rfl : m = 30 := by omega
              exact j_tableIn (off := 992) (tgt := 1024) X dL_law_32 (by decide) (by decide) (by decide) (by decide) (lc_30 X hR hX hbl hbA hL hi hC hS hmo NX)
            · by_cases q31_33 : m < 32
              · obtain rfl : m = 31 := by omega
                exact j_tableIn (off := 1025) (tgt := 1057) X dL_law_32 (by decide) (by decide) (by decide) (by decide) (lc_31 X hR hX hbl hbA hL hi hC hS hmo NX)
              · obtain rfl : m = 32 := by omega
                exact j_tableIn (off := 1048) (tgt := 1080) X dL_law_32 (by decide) (by decide) (by decide) (by decide) (lc_32 X hR hX hbl hbA hL hi hC hS hmo NX)
        · by_cases q33_38 : m < 35
          · by_cases q33_35 : m < 34
            · obtain rfl : m = 33 := by omega
              exact j_tableIn (off := 1071) (tgt := 1103) X dL_law_32 (by decide) (by decide) (by decide) (by decide) (lc_33 X hR hX hbl hbA hL hi hC hS hmo NX)
            · obtain rfl : m = 34 := by omega
              exact j_tableIn (off := 1094) (tgt := 1126) X dL_law_32 (by decide) (by decide) (by decide) (by decide) (lc_34 X hR hX hbl hbA hL hi hC hS hmo NX)
          · by_cases q35_38 : m < 36
            · obtain rfl : m = 35 := by omega
              exact j_tableIn (off := 1117) (tgt := 1149) X dL_law_32 (by decide) (by decide) (by decide) (by decide) (lc_35 X hR hX hbl hbA hL hi hC hS hmo NX)
            · by_cases q36_38 : m < 37
              · obtain rfl : m = 36 := by omega
                exact j_tableIn (off := 1130) (tgt := 1162) X dL_law_32 (by decide) (by decide) (by decide) (by decide) (lc_36 X hR hX hbl hbA hL hi hC hS hmo NX)
              · obtain rfl : m = 37 := by omega
                exact j_tableIn (off := 1153) (tgt := 1185) X dL_law_32 (by decide) (by decide) (by decide) (by decide) (lc_37 X hR hX hbl hbA hL hi hC hS hmo NX)
  · refine j_tableOut (tgt := 1199) X dL_law_32 (Or.inr ?_) (by decide) ?_
    · rw [nI_toInt (by omega)]
      omega
    · exact j_widen (Nat.le_succ _) (Nat.le_add_right _ _) (NX S T e hS (Nat.le_succ _))
set_option maxRecDepth 100000 in
set_option maxHeartbeats 4000000 in
theorem law_loop (X : CX K cL_law 8 RL D Y) (hR : kR K = room_1) (hX : va_X b L xs (ks K) (ks K).heap) (hbl : b < (ks K).heap.size) (hbA : ¬ kA K b) (hL : L ≤ 2560) (fin : ∀ (ws : va_W) (lv : List (Nat × Value)), JJ K D 600000 7302250 ws lv 1206 [.int 1]) (n : Nat) : ∀ (i j : Nat) (S : MS) (T : CT) (e : CE), i = 5 * j → i ≤ L → L + 1 ≤ i + n → RR S T e → S 21 0 ≤ j → JJ K D (39 + j) (8979 + i) (WC ad Y (T, e) ++ WM h0 ad' Y S) [(0, .ref b), (1, .ref (ad 16)), (2, .ref h0), (3, .int (nI i))] 18 [] := by
  induction n with
  | zero =>
    intro i j S T e hij hi hn hS hmo
    exact absurd hn (by omega)
  | succ n ih =>
    intro i j S T e hij hi hn hS hmo
    refine j_iload_n X dL_law_18 rfl 3 rfl ?_
    refine j_aload_n X dL_law_19 rfl 0 rfl ?_
    refine jl_slen X hX hbl hbA dL_law_20 ?_
    refine j_iconst (v := nI 5) X dL_law_21 (by decide) ?_
    refine j_isub X dL_law_22 ?_
    refine j_icmp_gt (tgt := 1205) X dL_law_23 (by decide) (fun c_23 => ?_) (fun c_23 => ?_)
    · refine j_widen (c2 := 600000) (s2 := 7302250) (by omega) (by omega) ?_
      refine j_iconst (v := 1) X dL_law_1205 (by decide) ?_
      exact fin _ _
    · have hi5 : i + 5 ≤ L := (lack5 (by omega) (by omega)).mp (i_nlt c_23)
      refine j_aload_n X dL_law_26 rfl 0 rfl ?_
      refine j_iload_n X dL_law_27 rfl 3 rfl ?_
      refine jl_sld X hX hbl hbA (by omega) hL dL_law_28 ?_
      refine j_bipush (v := nI 63) X dL_law_29 (by decide) ?_
      refine j_iand X dL_law_31 ?_
      obtain ⟨m, hm, he⟩ := band (xs i)
      rw [he]
      refine law_call X hR hX hbl hbA hL hi5 ⟨by omega, by omega⟩ hS (by omega) (fun S' T' e' hS' hm' => ?_) hm
      refine n_iinc X ([(3, _), (0, _), (1, _), (2, _)]) dL_law_1199 (q := 3) (b := 5) rfl (by decide) (by decide) rfl ?_
      refine j_goto (tgt := 18) X dL_law_1202 (by decide) ?_
      refine j_widen (c2 := 39 + (j + 1)) (s2 := 8979 + (i + 5)) (by omega) (by omega) ?_
      exact j_sub [1, 2, 3, 0] rfl (ih (i + 5) (j + 1) S' T' e' (by omega) (by omega) (by omega) hS' (by omega))
end
theorem d12_ok : ∀ j, j < 12 → defaultValue (tyX6 j) = vp_V (d12) j := by
  intro j hj
  rcases (show j = 0 ∨ j = 1 ∨ j = 2 ∨ j = 3 ∨ j = 4 ∨ j = 5 ∨ j = 6 ∨ j = 7 ∨ j = 8 ∨ j = 9 ∨ j = 10 ∨ j = 11 by omega) with rfl | rfl | rfl | rfl | rfl | rfl | rfl | rfl | rfl | rfl | rfl | rfl <;> rfl
theorem d25_ok : ∀ j, j < 25 → defaultValue (tyX7 j) = vp_V (fsP (fun _ => 0) 0 0) j := by
  intro j hj
  rcases (show j = 0 ∨ j = 1 ∨ j = 2 ∨ j = 3 ∨ j = 4 ∨ j = 5 ∨ j = 6 ∨ j = 7 ∨ j = 8 ∨ j = 9 ∨ j = 10 ∨ j = 11 ∨ j = 12 ∨ j = 13 ∨ j = 14 ∨ j = 15 ∨ j = 16 ∨ j = 17 ∨ j = 18 ∨ j = 19 ∨ j = 20 ∨ j = 21 ∨ j = 22 ∨ j = 23 ∨ j = 24 by omega) with rfl | rfl | rfl | rfl | rfl | rfl | rfl | rfl | rfl | rfl | rfl | rfl | rfl | rfl | rfl | rfl | rfl | rfl | rfl | rfl | rfl | rfl | rfl | rfl | rfl <;> rfl

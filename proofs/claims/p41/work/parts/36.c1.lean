set_option maxRecDepth 100000 in
set_option maxHeartbeats 4000000 in
theorem m_X6_isDay (x : Int32) : MSt zX6_isDay 1 [.int x] (fun w => w = some (.int (bI (isDayI x)))) := by
  intro D Y ws
  refine MT.of [(0, .int x)] (by decide) rfl (Nat.le_of_ble_eq_true rfl) ?_
  intro K hK X E
  refine j_iload_n X dX6_isDay_0 rfl 0 rfl ?_
  refine j_if_lt (tgt := 13) X dX6_isDay_1 (by decide) (fun c_1 => ?_) (fun c_1 => ?_)
  · refine j_iconst (v := bI false) X dX6_isDay_13 (by decide) ?_
    exact j_zreturn X E (ws) rfl ⟨by congr 3; rw [show isDayI _ = _ from nat_wi (by decide)]; simp [c_1], rfl⟩ dX6_isDay_14
  · refine j_iload_n X dX6_isDay_4 rfl 0 rfl ?_
    refine j_iconst (v := nI 5) X dX6_isDay_5 (by decide) ?_
    refine j_icmp_ge (tgt := 13) X dX6_isDay_6 (by decide) (fun c_6 => ?_) (fun c_6 => ?_)
    · refine j_iconst (v := bI false) X dX6_isDay_13 (by decide) ?_
      exact j_zreturn X E (ws) rfl ⟨by congr 3; rw [show isDayI _ = _ from nat_wi (by decide)]; simp [c_1, c_6], rfl⟩ dX6_isDay_14
    · refine j_iconst (v := bI true) X dX6_isDay_9 (by decide) ?_
      refine j_goto (tgt := 14) X dX6_isDay_10 (by decide) ?_
      exact j_zreturn X E (ws) rfl ⟨by congr 3; rw [show isDayI _ = _ from nat_wi (by decide)]; simp [c_1, c_6], rfl⟩ dX6_isDay_14
set_option maxRecDepth 100000 in
set_option maxHeartbeats 4000000 in
theorem m_X6_isWeek (x : Int32) : MSt zX6_isWeek 1 [.int x] (fun w => w = some (.int (bI (isWeekI x)))) := by
  intro D Y ws
  refine MT.of [(0, .int x)] (by decide) rfl (Nat.le_of_ble_eq_true rfl) ?_
  intro K hK X E
  refine j_iload_n X dX6_isWeek_0 rfl 0 rfl ?_
  refine j_if_lt (tgt := 14) X dX6_isWeek_1 (by decide) (fun c_1 => ?_) (fun c_1 => ?_)
  · refine j_iconst (v := bI false) X dX6_isWeek_14 (by decide) ?_
    exact j_zreturn X E (ws) rfl ⟨by congr 3; rw [show isWeekI _ = _ from nat_wi (by decide)]; simp [c_1], rfl⟩ dX6_isWeek_15
  · refine j_iload_n X dX6_isWeek_4 rfl 0 rfl ?_
    refine j_bipush (v := nI 52) X dX6_isWeek_5 (by decide) ?_
    refine j_icmp_ge (tgt := 14) X dX6_isWeek_7 (by decide) (fun c_7 => ?_) (fun c_7 => ?_)
    · refine j_iconst (v := bI false) X dX6_isWeek_14 (by decide) ?_
      exact j_zreturn X E (ws) rfl ⟨by congr 3; rw [show isWeekI _ = _ from nat_wi (by decide)]; simp [c_1, c_7], rfl⟩ dX6_isWeek_15
    · refine j_iconst (v := bI true) X dX6_isWeek_10 (by decide) ?_
      refine j_goto (tgt := 15) X dX6_isWeek_11 (by decide) ?_
      exact j_zreturn X E (ws) rfl ⟨by congr 3; rw [show isWeekI _ = _ from nat_wi (by decide)]; simp [c_1, c_7], rfl⟩ dX6_isWeek_15
set_option maxRecDepth 100000 in
set_option maxHeartbeats 4000000 in
theorem m_X6_isGroup (x : Int32) : MSt zX6_isGroup 1 [.int x] (fun w => w = some (.int (bI (isGroupI x)))) := by
  intro D Y ws
  refine MT.of [(0, .int x)] (by decide) rfl (Nat.le_of_ble_eq_true rfl) ?_
  intro K hK X E
  refine j_iload_n X dX6_isGroup_0 rfl 0 rfl ?_
  refine j_if_lt (tgt := 13) X dX6_isGroup_1 (by decide) (fun c_1 => ?_) (fun c_1 => ?_)
  · refine j_iconst (v := bI false) X dX6_isGroup_13 (by decide) ?_
    exact j_zreturn X E (ws) rfl ⟨by congr 3; rw [show isGroupI _ = _ from nat_wi (by decide)]; simp [c_1], rfl⟩ dX6_isGroup_14
  · refine j_iload_n X dX6_isGroup_4 rfl 0 rfl ?_
    refine j_iconst (v := nI 3) X dX6_isGroup_5 (by decide) ?_
    refine j_icmp_ge (tgt := 13) X dX6_isGroup_6 (by decide) (fun c_6 => ?_) (fun c_6 => ?_)
    · refine j_iconst (v := bI false) X dX6_isGroup_13 (by decide) ?_
      exact j_zreturn X E (ws) rfl ⟨by congr 3; rw [show isGroupI _ = _ from nat_wi (by decide)]; simp [c_1, c_6], rfl⟩ dX6_isGroup_14
    · refine j_iconst (v := bI true) X dX6_isGroup_9 (by decide) ?_
      refine j_goto (tgt := 14) X dX6_isGroup_10 (by decide) ?_
      exact j_zreturn X E (ws) rfl ⟨by congr 3; rw [show isGroupI _ = _ from nat_wi (by decide)]; simp [c_1, c_6], rfl⟩ dX6_isGroup_14
set_option maxRecDepth 100000 in
set_option maxHeartbeats 4000000 in
theorem m_X6_isHour (x : Int32) : MSt zX6_isHour 1 [.int x] (fun w => w = some (.int (bI (withinI x (nI 0) (nI 9))))) := by
  intro D Y ws
  refine MT.of [(0, .int x)] (by decide) rfl (Nat.le_of_ble_eq_true rfl) ?_
  intro K hK X E
  refine j_iload_n X dX6_isHour_0 rfl 0 rfl ?_
  refine j_if_lt (tgt := 14) X dX6_isHour_1 (by decide) (fun c_1 => ?_) (fun c_1 => ?_)
  · refine j_iconst (v := bI false) X dX6_isHour_14 (by decide) ?_
    exact j_zreturn X E (ws) rfl ⟨by congr 3; rw [isHour_wi]; simp [c_1], rfl⟩ dX6_isHour_15
  · refine j_iload_n X dX6_isHour_4 rfl 0 rfl ?_
    refine j_bipush (v := nI 10) X dX6_isHour_5 (by decide) ?_
    refine j_icmp_ge (tgt := 14) X dX6_isHour_7 (by decide) (fun c_7 => ?_) (fun c_7 => ?_)
    · refine j_iconst (v := bI false) X dX6_isHour_14 (by decide) ?_
      exact j_zreturn X E (ws) rfl ⟨by congr 3; rw [isHour_wi]; simp [c_1, c_7], rfl⟩ dX6_isHour_15
    · refine j_iconst (v := bI true) X dX6_isHour_10 (by decide) ?_
      refine j_goto (tgt := 15) X dX6_isHour_11 (by decide) ?_
      exact j_zreturn X E (ws) rfl ⟨by congr 3; rw [isHour_wi]; simp [c_1, c_7], rfl⟩ dX6_isHour_15
set_option maxRecDepth 100000 in
set_option maxHeartbeats 4000000 in
theorem m_X6_isSpan (b e : Int32) : MSt zX6_isSpan 1 [.int b, .int e] (fun w => w = some (.int (bI (isSpanI b e)))) := by
  intro D Y ws
  refine MT.of [(0, .int b), (1, .int e)] (by decide) rfl (Nat.le_of_ble_eq_true rfl) ?_
  intro K hK X E
  refine j_iload_n X dX6_isSpan_0 rfl 0 rfl ?_
  refine j_if_lt (tgt := 19) X dX6_isSpan_1 (by decide) (fun c_1 => ?_) (fun c_1 => ?_)
  · refine j_iconst (v := bI false) X dX6_isSpan_19 (by decide) ?_
    exact j_zreturn X E (ws) rfl ⟨by congr 3; rw [span_wi]; simp [c_1], rfl⟩ dX6_isSpan_20
  · refine j_iload_n X dX6_isSpan_4 rfl 0 rfl ?_
    refine j_iload_n X dX6_isSpan_5 rfl 1 rfl ?_
    refine j_icmp_gt (tgt := 19) X dX6_isSpan_6 (by decide) (fun c_6 => ?_) (fun c_6 => ?_)
    · refine j_iconst (v := bI false) X dX6_isSpan_19 (by decide) ?_
      exact j_zreturn X E (ws) rfl ⟨by congr 3; rw [span_wi]; simp [c_1, c_6], rfl⟩ dX6_isSpan_20
    · refine j_iload_n X dX6_isSpan_9 rfl 1 rfl ?_
      refine j_bipush (v := nI 10) X dX6_isSpan_10 (by decide) ?_
      refine j_icmp_gt (tgt := 19) X dX6_isSpan_12 (by decide) (fun c_12 => ?_) (fun c_12 => ?_)
      · refine j_iconst (v := bI false) X dX6_isSpan_19 (by decide) ?_
        exact j_zreturn X E (ws) rfl ⟨by congr 3; rw [span_wi]; simp [c_1, c_6, c_12], rfl⟩ dX6_isSpan_20
      · refine j_iconst (v := bI true) X dX6_isSpan_15 (by decide) ?_
        refine j_goto (tgt := 20) X dX6_isSpan_16 (by decide) ?_
        exact j_zreturn X E (ws) rfl ⟨by congr 3; rw [span_wi]; simp [c_1, c_6, c_12], rfl⟩ dX6_isSpan_20
set_option maxRecDepth 100000 in
set_option maxHeartbeats 4000000 in
theorem m_X6_hourOfWeek (d h : Nat) : MSt zX6_hourOfWeek 1 [.int (nI d), .int (nI h)] (fun w => w = some (.int (nI (10 * d + h)))) := by
  intro D Y ws
  refine MT.of [(0, .int (nI d)), (1, .int (nI h))] (by decide) rfl (Nat.le_of_ble_eq_true rfl) ?_
  intro K hK X E
  refine j_iload_n X dX6_hourOfWeek_0 rfl 0 rfl ?_
  refine j_bipush (v := nI 10) X dX6_hourOfWeek_1 (by decide) ?_
  refine n_imul X dX6_hourOfWeek_3 ?_
  refine j_iload_n X dX6_hourOfWeek_4 rfl 1 rfl ?_
  refine n_iadd X dX6_hourOfWeek_5 ?_
  exact j_ireturn X E (ws) rfl ⟨by rw [Nat.mul_comm], rfl⟩ dX6_hourOfWeek_6
set_option maxRecDepth 100000 in
set_option maxHeartbeats 4000000 in
theorem m_X6_hasHour (p : Nat → Bool) (q : Nat) (hq : q < 50) : MSt zX6_hasHour 1 [.long (msk p 50), .int (nI q)] (fun w => w = some (.int (bI (p q)))) := by
  intro D Y ws
  refine MT.of [(0, .long (msk p 50)), (2, .int (nI q))] (by decide) rfl (Nat.le_of_ble_eq_true rfl) ?_
  intro K hK X E
  refine j_lload_n X dX6_hasHour_0 rfl 0 rfl ?_
  refine j_iload_n X dX6_hasHour_1 rfl 1 rfl ?_
  refine j_lushr X dX6_hasHour_2 ?_
  refine j_lconst (v := lN 1) X dX6_hasHour_3 (by decide) ?_
  refine j_land X dX6_hasHour_4 ?_
  rw [has_bit (by decide) hq]
  refine j_lconst (v := lN 0) X dX6_hasHour_5 (by decide) ?_
  refine j_lcmp X dX6_hasHour_6 ?_
  rw [cmp_has]
  refine b_if_eq (tgt := 14) X dX6_hasHour_7 (by decide) (fun c_7 => ?_) (fun c_7 => ?_)
  · refine j_iconst (v := bI false) X dX6_hasHour_14 (by decide) ?_
    exact j_zreturn X E (ws) rfl ⟨by rw [c_7], rfl⟩ dX6_hasHour_15
  · refine j_iconst (v := bI true) X dX6_hasHour_10 (by decide) ?_
    refine j_goto (tgt := 15) X dX6_hasHour_11 (by decide) ?_
    exact j_zreturn X E (ws) rfl ⟨by rw [c_7], rfl⟩ dX6_hasHour_15
set_option maxRecDepth 100000 in
set_option maxHeartbeats 4000000 in
theorem m_X6_spanOf (d b e : Nat) (hd : d < 5) (hb : b ≤ e) (he : e ≤ 10) : MSt zX6_spanOf 2 [.int (nI d), .int (nI b), .int (nI e)] (fun w => w = some (.long (msk (dyP d b e) 50))) := by
  intro D Y ws
  refine MT.of [(0, .int (nI d)), (1, .int (nI b)), (2, .int (nI e))] (by decide) rfl (Nat.le_of_ble_eq_true rfl) ?_
  intro K hK X E
  refine j_lconst (v := lN 1) X dX6_spanOf_0 (by decide) ?_
  refine j_iload_n X dX6_spanOf_1 rfl 2 rfl ?_
  refine j_lshl X dX6_spanOf_2 ?_
  refine j_lconst (v := lN 1) X dX6_spanOf_3 (by decide) ?_
  refine j_iload_n X dX6_spanOf_4 rfl 1 rfl ?_
  refine j_lshl X dX6_spanOf_5 ?_
  refine j_lsub X dX6_spanOf_6 ?_
  refine j_lstore_n X [(3, _), (0, _), (1, _), (2, _)] dX6_spanOf_7 rfl (by decide) rfl ?_
  refine j_lload_n X dX6_spanOf_8 rfl 0 rfl ?_
  refine j_iload_n X dX6_spanOf_9 rfl 1 rfl ?_
  refine j_iconst (v := nI 0) X dX6_spanOf_10 (by decide) ?_
  refine jst_call2 X hK (m_X6_hourOfWeek _ _) m_X6_174 (by decide) (by decide) (Nat.le_of_ble_eq_true rfl) ⟨by decide, by decide⟩ dX6_spanOf_11 ?_
  refine j_lshl X dX6_spanOf_14 ?_
  rw [show 10 * d + 0 = 10 * d from rfl, span_val hd hb he]
  exact j_lreturn X E (ws) rfl ⟨rfl, rfl⟩ dX6_spanOf_15
set_option maxRecDepth 100000 in
set_option maxHeartbeats 4000000 in
theorem m_X6_withSpan (p : Nat → Bool) (d b e : Nat) (hd : d < 5) (hb : b ≤ e) (he : e ≤ 10) : MSt zX6_withSpan 3 [.long (msk p 50), .int (nI d), .int (nI b), .int (nI e)] (fun w => w = some (.long (msk (fun q => p q && !dyP d 0 10 q || dyP d b e q) 50))) := by
  intro D Y ws
  refine MT.of [(0, .long (msk p 50)), (2, .int (nI d)), (3, .int (nI b)), (4, .int (nI e))] (by decide) rfl (Nat.le_of_ble_eq_true rfl) ?_
  intro K hK X E
  refine j_lload_n X dX6_withSpan_0 rfl 0 rfl ?_
  refine j_iload_n X dX6_withSpan_1 rfl 1 rfl ?_
  refine j_iconst (v := nI 0) X dX6_withSpan_2 (by decide) ?_
  refine j_bipush (v := nI 10) X dX6_withSpan_3 (by decide) ?_
  refine jst_call3 X hK (m_X6_spanOf _ _ _ (by omega) (by omega) (by omega)) m_X6_306 (by decide) (by decide) (Nat.le_of_ble_eq_true rfl) ⟨by decide, by decide⟩ dX6_withSpan_5 ?_
  refine j_ldc2 X k_X6_108 dX6_withSpan_8 ?_
  refine j_lxor X dX6_withSpan_11 ?_
  refine j_land X dX6_withSpan_12 ?_
  refine j_iload_n X dX6_withSpan_13 rfl 1 rfl ?_
  refine j_iload_n X dX6_withSpan_14 rfl 2 rfl ?_
  refine j_iload X dX6_withSpan_15 3 rfl ?_
  refine jst_call3 X hK (m_X6_spanOf _ _ _ (by omega) (by omega) (by omega)) m_X6_306 (by decide) (by decide) (Nat.le_of_ble_eq_true rfl) ⟨by decide, by decide⟩ dX6_withSpan_17 ?_
  refine j_lor X dX6_withSpan_20 ?_
  rw [msk_mix (by decide)]
  exact j_lreturn X E (ws) rfl ⟨rfl, rfl⟩ dX6_withSpan_21
set_option maxRecDepth 100000 in
set_option maxHeartbeats 4000000 in
theorem m_X1_isIn (set k : Nat) (hs : set < 2147483648) (hk : k < 31) : MSt zX1_isIn 1 [.int (nI set), .int (nI k)] (fun w => w = some (.int (bI (decide (bitN set k = 1))))) := by
  intro D Y ws
  refine MT.of [(0, .int (nI set)), (1, .int (nI k))] (by decide) rfl (Nat.le_of_ble_eq_true rfl) ?_
  intro K hK X E
  refine j_iload_n X dX1_isIn_0 rfl 0 rfl ?_
  refine j_iload_n X dX1_isIn_1 rfl 1 rfl ?_
  refine j_iushr X dX1_isIn_2 ?_
  refine j_iconst (v := nI 1) X dX1_isIn_3 (by decide) ?_
  refine j_iand X dX1_isIn_4 ?_
  have hbl := bitN_le set k
  refine z_as (nI (bitN set k)) (bit_u hs hk) ?_
  refine n_if_eq (tgt := 12) X dX1_isIn_5 (by decide) (by omega) (fun c_5 => ?_) (fun c_5 => ?_)
  · refine j_iconst (v := bI false) X dX1_isIn_12 (by decide) ?_
    exact j_zreturn X E (ws) rfl ⟨by congr 3; symm; simp; omega, rfl⟩ dX1_isIn_13
  · refine j_iconst (v := bI true) X dX1_isIn_8 (by decide) ?_
    refine j_goto (tgt := 13) X dX1_isIn_9 (by decide) ?_
    exact j_zreturn X E (ws) rfl ⟨by congr 3; symm; simp; omega, rfl⟩ dX1_isIn_13

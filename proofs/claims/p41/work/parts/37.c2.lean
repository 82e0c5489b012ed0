set_option maxRecDepth 100000 in
set_option maxHeartbeats 4000000 in
theorem m_J9_max_7cf53 (x y : Int32) : MSt zJ9_max_7cf53 1 [.int x, .int y] (fun w => w = some (.int (if x < y then y else x))) := by
  intro D Y ws
  refine MT.ofF [(0, .int x), (1, .int y)] (by decide +kernel) rfl (Nat.le_of_ble_eq_true rfl) ?_
  intro K hK X E
  refine j_iload_n X dJ9_max_7cf53_0 rfl 0 rfl ?_
  refine j_iload_n X dJ9_max_7cf53_1 rfl 1 rfl ?_
  refine j_icmp_lt (tgt := 9) X dJ9_max_7cf53_2 (by decide) (fun c_2 => ?_) (fun c_2 => ?_)
  · refine j_iload_n X dJ9_max_7cf53_9 rfl 1 rfl ?_
    exact j_ireturn X E (ws) rfl ⟨by simp [c_2], rfl⟩ dJ9_max_7cf53_10
  · refine j_iload_n X dJ9_max_7cf53_5 rfl 0 rfl ?_
    refine j_goto (tgt := 10) X dJ9_max_7cf53_6 (by decide) ?_
    exact j_ireturn X E (ws) rfl ⟨by simp [c_2], rfl⟩ dJ9_max_7cf53_10
set_option maxRecDepth 100000 in
set_option maxHeartbeats 4000000 in
theorem m_J6_bitCount_0f7a4 (s : Nat) (hs : s < 16) : MSt zJ6_bitCount_0f7a4 1 [.int (nI s)] (fun w => w = some (.int (nI (szN s)))) := by
  intro D Y ws
  refine MT.of [(0, .int (nI s))] (by decide) rfl (Nat.le_of_ble_eq_true rfl) ?_
  intro K hK X E
  refine j_iload_n X dJ6_bitCount_0f7a4_0 rfl 0 rfl ?_
  refine j_iload_n X dJ6_bitCount_0f7a4_1 rfl 0 rfl ?_
  refine j_iconst (v := nI 1) X dJ6_bitCount_0f7a4_2 (by decide) ?_
  refine j_iushr X dJ6_bitCount_0f7a4_3 ?_
  refine j_ldcw X k_J6_265 dJ6_bitCount_0f7a4_4 ?_
  refine j_iand X dJ6_bitCount_0f7a4_7 ?_
  refine j_isub X dJ6_bitCount_0f7a4_8 ?_
  refine j_istore_n X [(0, _)] dJ6_bitCount_0f7a4_9 rfl (by decide) rfl ?_
  refine j_iload_n X dJ6_bitCount_0f7a4_10 rfl 0 rfl ?_
  refine j_ldcw X k_J6_266 dJ6_bitCount_0f7a4_11 ?_
  refine j_iand X dJ6_bitCount_0f7a4_14 ?_
  refine j_iload_n X dJ6_bitCount_0f7a4_15 rfl 0 rfl ?_
  refine j_iconst (v := nI 2) X dJ6_bitCount_0f7a4_16 (by decide) ?_
  refine j_iushr X dJ6_bitCount_0f7a4_17 ?_
  refine j_ldcw X k_J6_266 dJ6_bitCount_0f7a4_18 ?_
  refine j_iand X dJ6_bitCount_0f7a4_21 ?_
  refine j_iadd X dJ6_bitCount_0f7a4_22 ?_
  refine j_istore_n X [(0, _)] dJ6_bitCount_0f7a4_23 rfl (by decide) rfl ?_
  refine j_iload_n X dJ6_bitCount_0f7a4_24 rfl 0 rfl ?_
  refine j_iload_n X dJ6_bitCount_0f7a4_25 rfl 0 rfl ?_
  refine j_iconst (v := nI 4) X dJ6_bitCount_0f7a4_26 (by decide) ?_
  refine j_iushr X dJ6_bitCount_0f7a4_27 ?_
  refine j_iadd X dJ6_bitCount_0f7a4_28 ?_
  refine j_ldcw X k_J6_267 dJ6_bitCount_0f7a4_29 ?_
  refine j_iand X dJ6_bitCount_0f7a4_32 ?_
  refine j_istore_n X [(0, _)] dJ6_bitCount_0f7a4_33 rfl (by decide) rfl ?_
  refine j_iload_n X dJ6_bitCount_0f7a4_34 rfl 0 rfl ?_
  refine j_iload_n X dJ6_bitCount_0f7a4_35 rfl 0 rfl ?_
  refine j_bipush (v := nI 8) X dJ6_bitCount_0f7a4_36 (by decide) ?_
  refine j_iushr X dJ6_bitCount_0f7a4_38 ?_
  refine j_iadd X dJ6_bitCount_0f7a4_39 ?_
  refine j_istore_n X [(0, _)] dJ6_bitCount_0f7a4_40 rfl (by decide) rfl ?_
  refine j_iload_n X dJ6_bitCount_0f7a4_41 rfl 0 rfl ?_
  refine j_iload_n X dJ6_bitCount_0f7a4_42 rfl 0 rfl ?_
  refine j_bipush (v := nI 16) X dJ6_bitCount_0f7a4_43 (by decide) ?_
  refine j_iushr X dJ6_bitCount_0f7a4_45 ?_
  refine j_iadd X dJ6_bitCount_0f7a4_46 ?_
  refine j_istore_n X [(0, _)] dJ6_bitCount_0f7a4_47 rfl (by decide) rfl ?_
  refine j_iload_n X dJ6_bitCount_0f7a4_48 rfl 0 rfl ?_
  refine j_bipush (v := nI 63) X dJ6_bitCount_0f7a4_49 (by decide) ?_
  refine j_iand X dJ6_bitCount_0f7a4_51 ?_
  exact j_ireturn X E (ws) rfl ⟨congrArg (fun z => some (Value.int z)) (i16 s hs), rfl⟩ dJ6_bitCount_0f7a4_52
set_option maxRecDepth 100000 in
set_option maxHeartbeats 4000000 in
theorem m_J13_bitCount_95d88 (n : Nat) (hn : n < 2 ^ 64) : MSt zJ13_bitCount_95d88 1 [.long (lN n)] (fun w => w = some (.int (nI (pcN 8 n)))) := by
  intro D Y ws
  refine MT.of [(0, .long (lN n))] (by decide) rfl (Nat.le_of_ble_eq_true rfl) ?_
  intro K hK X E
  refine j_lload_n X dJ13_bitCount_95d88_0 rfl 0 rfl ?_
  refine j_lload_n X dJ13_bitCount_95d88_1 rfl 0 rfl ?_
  refine j_iconst (v := nI 1) X dJ13_bitCount_95d88_2 (by decide) ?_
  refine j_lushr X dJ13_bitCount_95d88_3 ?_
  rw [lsh 1 hn (by decide) (show 2 ^ 1 = 2 from rfl)]
  refine j_ldc2 X k_J13_314 dJ13_bitCount_95d88_4 ?_
  refine j_land X dJ13_bitCount_95d88_7 ?_
  rw [rp85, lN_and]
  refine j_lsub X dJ13_bitCount_95d88_8 ?_
  rw [lN_sub (F5_ok n)]
  have h5 := F5_lt hn
  refine l_name (lN (F5 8 n)) rfl ?_
  refine j_lstore_n X [(0, _)] dJ13_bitCount_95d88_9 rfl (by decide) rfl ?_
  refine j_lload_n X dJ13_bitCount_95d88_10 rfl 0 rfl ?_
  refine j_ldc2 X k_J13_316 dJ13_bitCount_95d88_11 ?_
  rw [rp51]
  refine j_land X dJ13_bitCount_95d88_14 ?_
  rw [lN_and]
  refine j_lload_n X dJ13_bitCount_95d88_15 rfl 0 rfl ?_
  refine j_iconst (v := nI 2) X dJ13_bitCount_95d88_16 (by decide) ?_
  refine j_lushr X dJ13_bitCount_95d88_17 ?_
  rw [lsh 2 h5 (by decide) (show 2 ^ 2 = 4 from rfl)]
  refine j_ldc2 X k_J13_316 dJ13_bitCount_95d88_18 ?_
  refine j_land X dJ13_bitCount_95d88_21 ?_
  rw [rp51, lN_and]
  refine j_ladd X dJ13_bitCount_95d88_22 ?_
  rw [lN_add]
  have h3 := F3_lt (F5 8 n)
  refine l_name (lN (F3 8 (F5 8 n))) rfl ?_
  refine j_lstore_n X [(0, _)] dJ13_bitCount_95d88_23 rfl (by decide) rfl ?_
  refine j_lload_n X dJ13_bitCount_95d88_24 rfl 0 rfl ?_
  refine j_lload_n X dJ13_bitCount_95d88_25 rfl 0 rfl ?_
  refine j_iconst (v := nI 4) X dJ13_bitCount_95d88_26 (by decide) ?_
  refine j_lushr X dJ13_bitCount_95d88_27 ?_
  rw [lsh 4 (by omega) (by decide) (show 2 ^ 4 = 16 from rfl)]
  refine j_ladd X dJ13_bitCount_95d88_28 ?_
  rw [lN_add]
  refine j_ldc2 X k_J13_318 dJ13_bitCount_95d88_29 ?_
  refine j_land X dJ13_bitCount_95d88_32 ?_
  rw [rp15, lN_and]
  obtain ⟨R, hR, hRl, hpc⟩ := pop_nat n
  refine l_name (lN R) (by rw [hR]; rfl) ?_
  refine j_lstore_n X [(0, _)] dJ13_bitCount_95d88_33 rfl (by decide) rfl ?_
  refine j_lload_n X dJ13_bitCount_95d88_34 rfl 0 rfl ?_
  refine j_lload_n X dJ13_bitCount_95d88_35 rfl 0 rfl ?_
  refine j_bipush (v := nI 8) X dJ13_bitCount_95d88_36 (by decide) ?_
  refine j_lushr X dJ13_bitCount_95d88_38 ?_
  rw [lsh 8 (by omega) (by decide) (show 2 ^ 8 = 256 from rfl)]
  refine j_ladd X dJ13_bitCount_95d88_39 ?_
  rw [lN_add]
  obtain ⟨A, hA⟩ : ∃ A, A = R + R / 256 := ⟨_, rfl⟩
  rw [← hA] at hpc ⊢
  refine j_lstore_n X [(0, _)] dJ13_bitCount_95d88_40 rfl (by decide) rfl ?_
  refine j_lload_n X dJ13_bitCount_95d88_41 rfl 0 rfl ?_
  refine j_lload_n X dJ13_bitCount_95d88_42 rfl 0 rfl ?_
  refine j_bipush (v := nI 16) X dJ13_bitCount_95d88_43 (by decide) ?_
  refine j_lushr X dJ13_bitCount_95d88_45 ?_
  rw [lsh 16 (by omega) (by decide) (show 2 ^ 16 = 65536 from rfl)]
  refine j_ladd X dJ13_bitCount_95d88_46 ?_
  rw [lN_add]
  obtain ⟨B, hB⟩ : ∃ B, B = A + A / 65536 := ⟨_, rfl⟩
  rw [← hB] at hpc ⊢
  refine j_lstore_n X [(0, _)] dJ13_bitCount_95d88_47 rfl (by decide) rfl ?_
  refine j_lload_n X dJ13_bitCount_95d88_48 rfl 0 rfl ?_
  refine j_lload_n X dJ13_bitCount_95d88_49 rfl 0 rfl ?_
  refine j_bipush (v := nI 32) X dJ13_bitCount_95d88_50 (by decide) ?_
  refine j_lushr X dJ13_bitCount_95d88_52 ?_
  rw [lsh 32 (by omega) (by decide) (show 2 ^ 32 = 4294967296 from rfl)]
  refine j_ladd X dJ13_bitCount_95d88_53 ?_
  rw [lN_add]
  refine j_lstore_n X [(0, _)] dJ13_bitCount_95d88_54 rfl (by decide) rfl ?_
  refine j_lload_n X dJ13_bitCount_95d88_55 rfl 0 rfl ?_
  refine j_l2i X dJ13_bitCount_95d88_56 ?_
  rw [lN_i]
  refine j_bipush (v := nI 127) X dJ13_bitCount_95d88_57 (by decide) ?_
  refine j_iand X dJ13_bitCount_95d88_59 ?_
  rw [and7, hpc]
  exact j_ireturn X E (ws) rfl ⟨rfl, rfl⟩ dJ13_bitCount_95d88_60
theorem m_bits (p : Nat → Bool) (n : Nat) (hn : n ≤ 63) {r : Nat} (hr : sm (fun i => ct (p i)) n = r) : MSt zJ13_bitCount_95d88 1 [.long (msk p n)] (fun w => w = some (.int (nI r))) := by
  have h := m_J13_bitCount_95d88 (ofB p n) (Nat.lt_of_lt_of_le (ofB_lt p n) (Nat.pow_le_pow_right (by decide) (by omega)))
  rw [pc_msk p (by omega), hr] at h
  exact h

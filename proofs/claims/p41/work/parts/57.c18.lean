set_option maxRecDepth 100000 in
set_option maxHeartbeats 4000000 in
theorem m_X0_init {T : CT} {e : CE} {a : Nat} (hm : a ∈ eL e) (hp : eP e a = .inr (0, z5)) (x f : Nat) : CP zX0_init a 2 [.int (nI x), .int (nI f)] (T, e) (pV (fun u => (T, wP e a (.inr (0, [.int (nI f), .int (nI x), .int 0, .int 0, .long 0]))) = u)) := by
  intro D Y ad
  refine MT.ofI [(0, .ref a), (1, .int (nI x)), (2, .int (nI f))] (by decide) rfl (Nat.le_of_ble_eq_true rfl) ?_
  intro K hK X E hin
  refine j_aload_n X dX0_init_0 rfl 0 rfl ?_
  refine j_objInit X hK (by decide) ol_X0 (Nat.le_of_ble_eq_true rfl) dX0_init_1 ?_
  refine j_aload_n X dX0_init_4 rfl 0 rfl ?_
  refine j_iload_n X dX0_init_5 rfl 1 rfl ?_
  refine jc_pput X ly_X0 tyX0 tyX0_ok nmX0 hm hp rfl 1 (by decide) f_X0_7 rfl rfl rfl rfl (Nat.le_of_ble_eq_true rfl) dX0_init_6 (fun e_6 ee_6 => ?_)
  have m_6 := mem_wP ee_6 hm
  have p_6 := pos_wP ee_6
  refine j_aload_n X dX0_init_9 rfl 0 rfl ?_
  refine j_iload_n X dX0_init_10 rfl 2 rfl ?_
  refine jc_pputF X ly_X0 tyX0 tyX0_ok nmX0 m_6 p_6 rfl 0 (by decide) f_X0_13 rfl hin rfl rfl rfl rfl (Nat.le_of_ble_eq_true rfl) dX0_init_11 (fun e_11 ee_11 => ?_)
  have m_11 := mem_wP ee_11 m_6
  have p_11 := pos_wP ee_11
  exact j_return X E ((T, e_11)) rfl ⟨rfl, by rw [ee_11, ee_6, wP_wP]; rfl⟩ dX0_init_14
set_option maxRecDepth 100000 in
set_option maxHeartbeats 4000000 in
theorem m_X2_init {T : CT} {e : CE} {a : Nat} (hm : a ∈ eL e) (hp : eP e a = .inr (2, z2)) : CP zX2_init a 2 [] (T, e) (pV (fun u => (T, wP e a (.inr (2, z2))) = u)) := by
  intro D Y ad
  refine MT.ofI [(0, .ref a)] (by decide) rfl (Nat.le_of_ble_eq_true rfl) ?_
  intro K hK X E hin
  refine j_aload_n X dX2_init_0 rfl 0 rfl ?_
  refine j_objInit X hK (by decide) ol_X2 (Nat.le_of_ble_eq_true rfl) dX2_init_1 ?_
  exact j_return X E ((T, e)) rfl ⟨rfl, by rw [← hp]; exact congrArg (Prod.mk T) (wP_self e a)⟩ dX2_init_4
set_option maxRecDepth 100000 in
set_option maxHeartbeats 4000000 in
theorem m_X5_init {T : CT} {e : CE} {a : Nat} (hm : a ∈ eL e) (hp : eP e a = .inr (5, z4)) (x y z : Nat) : CP zX5_init a 2 [.int (nI x), .int (nI y), .int (nI z)] (T, e) (pV (fun u => (T, wP e a (.inr (5, [.int (nI x), .int (nI y), .int (nI z), .int 0]))) = u)) := by
  intro D Y ad
  refine MT.ofI [(0, .ref a), (1, .int (nI x)), (2, .int (nI y)), (3, .int (nI z))] (by decide) rfl (Nat.le_of_ble_eq_true rfl) ?_
  intro K hK X E hin
  refine j_aload_n X dX5_init_0 rfl 0 rfl ?_
  refine j_objInit X hK (by decide) ol_X5 (Nat.le_of_ble_eq_true rfl) dX5_init_1 ?_
  refine j_aload_n X dX5_init_4 rfl 0 rfl ?_
  refine j_iload_n X dX5_init_5 rfl 1 rfl ?_
  refine jc_pputF X ly_X5 tyX5 tyX5_ok nmX5 hm hp rfl 0 (by decide) f_X5_7 rfl hin rfl rfl rfl rfl (Nat.le_of_ble_eq_true rfl) dX5_init_6 (fun e_6 ee_6 => ?_)
  have m_6 := mem_wP ee_6 hm
  have p_6 := pos_wP ee_6
  refine j_aload_n X dX5_init_9 rfl 0 rfl ?_
  refine j_iload_n X dX5_init_10 rfl 2 rfl ?_
  refine jc_pputF X ly_X5 tyX5 tyX5_ok nmX5 m_6 p_6 rfl 1 (by decide) f_X5_13 rfl hin rfl rfl rfl rfl (Nat.le_of_ble_eq_true rfl) dX5_init_11 (fun e_11 ee_11 => ?_)
  have m_11 := mem_wP ee_11 m_6
  have p_11 := pos_wP ee_11
  refine j_aload_n X dX5_init_14 rfl 0 rfl ?_
  refine j_iload_n X dX5_init_15 rfl 3 rfl ?_
  refine jc_pputF X ly_X5 tyX5 tyX5_ok nmX5 m_11 p_11 rfl 2 (by decide) f_X5_16 rfl hin rfl rfl rfl rfl (Nat.le_of_ble_eq_true rfl) dX5_init_16 (fun e_16 ee_16 => ?_)
  have m_16 := mem_wP ee_16 m_11
  have p_16 := pos_wP ee_16
  exact j_return X E ((T, e_16)) rfl ⟨rfl, by rw [ee_16, ee_11, ee_6, wP_wP, wP_wP]; rfl⟩ dX5_init_19

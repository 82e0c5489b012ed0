set_option maxRecDepth 100000 in
set_option maxHeartbeats 4000000 in
theorem m_X7_init (D : va_G) (Y : Nat → ClassId) (h0 : Nat) : MT zX7_init 1 21 8733 D Y [.ref h0] (WP h0 (fun _ => 0) Y 0 0) (fun ad => WM h0 ad Y S0M) (fun v _ => v = none) := by
  refine MT.ofI [(0, .ref h0)] (by decide) rfl (Nat.le_of_ble_eq_true rfl) ?_
  intro K hR X E hin
  refine j_aload_n X dX7_init_0 rfl 0 rfl ?_
  refine j_objInit X hR (by decide) ol_X7 (Nat.le_of_ble_eq_true rfl) dX7_init_1 ?_
  refine j_aload_n X dX7_init_4 rfl 0 rfl ?_
  refine j_bipush (v := nI 24) X dX7_init_5 (by decide) ?_
  refine j_newI X hR (by decide) (by decide) (by decide) dX7_init_7 (fun q7 => ?_)
  refine j_putF X ly_X7 tyX7 tyX7_ok nmX7 0 rfl rfl 1 (by decide) f_X7_7 rfl hin rfl rfl rfl rfl (Nat.le_of_ble_eq_true rfl) (w2 := WP h0 (va_up (fun _ => 0) 0 q7) Y 1 (0)) rfl dX7_init_9 ?_
  refine j_aload_n X dX7_init_12 rfl 0 rfl ?_
  refine j_bipush (v := nI 24) X dX7_init_13 (by decide) ?_
  refine j_newI X hR (by decide) (by decide) (by decide) dX7_init_15 (fun q15 => ?_)
  refine j_putF X ly_X7 tyX7 tyX7_ok nmX7 0 rfl rfl 2 (by decide) f_X7_13 rfl hin rfl rfl rfl rfl (Nat.le_of_ble_eq_true rfl) (w2 := WP h0 (va_up (va_up (fun _ => 0) 0 q7) 1 q15) Y 2 (0)) rfl dX7_init_17 ?_
  refine j_aload_n X dX7_init_20 rfl 0 rfl ?_
  refine j_bipush (v := nI 24) X dX7_init_21 (by decide) ?_
  refine j_newI X hR (by decide) (by decide) (by decide) dX7_init_23 (fun q23 => ?_)
  refine j_putF X ly_X7 tyX7 tyX7_ok nmX7 0 rfl rfl 3 (by decide) f_X7_16 rfl hin rfl rfl rfl rfl (Nat.le_of_ble_eq_true rfl) (w2 := WP h0 (va_up (va_up (va_up (fun _ => 0) 0 q7) 1 q15) 2 q23) Y 3 (0)) rfl dX7_init_25 ?_
  refine j_aload_n X dX7_init_28 rfl 0 rfl ?_
  refine j_bipush (v := nI 24) X dX7_init_29 (by decide) ?_
  refine j_newI X hR (by decide) (by decide) (by decide) dX7_init_31 (fun q31 => ?_)
  refine j_putF X ly_X7 tyX7 tyX7_ok nmX7 0 rfl rfl 4 (by decide) f_X7_19 rfl hin rfl rfl rfl rfl (Nat.le_of_ble_eq_true rfl) (w2 := WP h0 (va_up (va_up (va_up (va_up (fun _ => 0) 0 q7) 1 q15) 2 q23) 3 q31) Y 4 (0)) rfl dX7_init_33 ?_
  refine j_aload_n X dX7_init_36 rfl 0 rfl ?_
  refine j_bipush (v := nI 24) X dX7_init_37 (by decide) ?_
  refine j_newI X hR (by decide) (by decide) (by decide) dX7_init_39 (fun q39 => ?_)
  refine j_putF X ly_X7 tyX7 tyX7_ok nmX7 0 rfl rfl 5 (by decide) f_X7_22 rfl hin rfl rfl rfl rfl (Nat.le_of_ble_eq_true rfl) (w2 := WP h0 (va_up (va_up (va_up (va_up (va_up (fun _ => 0) 0 q7) 1 q15) 2 q23) 3 q31) 4 q39) Y 5 (0)) rfl dX7_init_41 ?_
  refine j_aload_n X dX7_init_44 rfl 0 rfl ?_
  refine j_bipush (v := nI 120) X dX7_init_45 (by decide) ?_
  refine j_newI X hR (by decide) (by decide) (by decide) dX7_init_47 (fun q47 => ?_)
  refine j_putF X ly_X7 tyX7 tyX7_ok nmX7 0 rfl rfl 6 (by decide) f_X7_25 rfl hin rfl rfl rfl rfl (Nat.le_of_ble_eq_true rfl) (w2 := WP h0 (va_up (va_up (va_up (va_up (va_up (va_up (fun _ => 0) 0 q7) 1 q15) 2 q23) 3 q31) 4 q39) 5 q47) Y 6 (0)) rfl dX7_init_49 ?_
  refine j_aload_n X dX7_init_52 rfl 0 rfl ?_
  refine j_bipush (v := nI 120) X dX7_init_53 (by decide) ?_
  refine j_newI X hR (by decide) (by decide) (by decide) dX7_init_55 (fun q55 => ?_)
  refine j_putF X ly_X7 tyX7 tyX7_ok nmX7 0 rfl rfl 7 (by decide) f_X7_28 rfl hin rfl rfl rfl rfl (Nat.le_of_ble_eq_true rfl) (w2 := WP h0 (va_up (va_up (va_up (va_up (va_up (va_up (va_up (fun _ => 0) 0 q7) 1 q15) 2 q23) 3 q31) 4 q39) 5 q47) 6 q55) Y 7 (0)) rfl dX7_init_57 ?_
  refine j_aload_n X dX7_init_60 rfl 0 rfl ?_
  refine j_bipush (v := nI 8) X dX7_init_61 (by decide) ?_
  refine j_newI X hR (by decide) (by decide) (by decide) dX7_init_63 (fun q63 => ?_)
  refine j_putF X ly_X7 tyX7 tyX7_ok nmX7 0 rfl rfl 8 (by decide) f_X7_31 rfl hin rfl rfl rfl rfl (Nat.le_of_ble_eq_true rfl) (w2 := WP h0 (va_up (va_up (va_up (va_up (va_up (va_up (va_up (va_up (fun _ => 0) 0 q7) 1 q15) 2 q23) 3 q31) 4 q39) 5 q47) 6 q55) 7 q63) Y 8 (0)) rfl dX7_init_65 ?_
  refine j_aload_n X dX7_init_68 rfl 0 rfl ?_
  refine j_bipush (v := nI 40) X dX7_init_69 (by decide) ?_
  refine j_newI X hR (by decide) (by decide) (by decide) dX7_init_71 (fun q71 => ?_)
  refine j_putF X ly_X7 tyX7 tyX7_ok nmX7 0 rfl rfl 9 (by decide) f_X7_34 rfl hin rfl rfl rfl rfl (Nat.le_of_ble_eq_true rfl) (w2 := WP h0 (va_up (va_up (va_up (va_up (va_up (va_up (va_up (va_up (va_up (fun _ => 0) 0 q7) 1 q15) 2 q23) 3 q31) 4 q39) 5 q47) 6 q55) 7 q63) 8 q71) Y 9 (0)) rfl dX7_init_73 ?_
  refine j_aload_n X dX7_init_76 rfl 0 rfl ?_
  refine j_bipush (v := nI 40) X dX7_init_77 (by decide) ?_
  refine j_newI X hR (by decide) (by decide) (by decide) dX7_init_79 (fun q79 => ?_)
  refine j_putF X ly_X7 tyX7 tyX7_ok nmX7 0 rfl rfl 10 (by decide) f_X7_37 rfl hin rfl rfl rfl rfl (Nat.le_of_ble_eq_true rfl) (w2 := WP h0 (va_up (va_up (va_up (va_up (va_up (va_up (va_up (va_up (va_up (va_up (fun _ => 0) 0 q7) 1 q15) 2 q23) 3 q31) 4 q39) 5 q47) 6 q55) 7 q63) 8 q71) 9 q79) Y 10 (0)) rfl dX7_init_81 ?_
  refine j_aload_n X dX7_init_84 rfl 0 rfl ?_
  refine j_sipush (v := nI 416) X dX7_init_85 (by decide) ?_
  refine j_newI X hR (by decide) (by decide) (by decide) dX7_init_88 (fun q88 => ?_)
  refine j_putF X ly_X7 tyX7 tyX7_ok nmX7 0 rfl rfl 11 (by decide) f_X7_40 rfl hin rfl rfl rfl rfl (Nat.le_of_ble_eq_true rfl) (w2 := WP h0 (va_up (va_up (va_up (va_up (va_up (va_up (va_up (va_up (va_up (va_up (va_up (fun _ => 0) 0 q7) 1 q15) 2 q23) 3 q31) 4 q39) 5 q47) 6 q55) 7 q63) 8 q71) 9 q79) 10 q88) Y 11 (0)) rfl dX7_init_90 ?_
  refine j_aload_n X dX7_init_93 rfl 0 rfl ?_
  refine j_iconst (v := nI 3) X dX7_init_94 (by decide) ?_
  refine j_newI X hR (by decide) (by decide) (by decide) dX7_init_95 (fun q95 => ?_)
  refine j_putF X ly_X7 tyX7 tyX7_ok nmX7 0 rfl rfl 12 (by decide) f_X7_43 rfl hin rfl rfl rfl rfl (Nat.le_of_ble_eq_true rfl) (w2 := WP h0 (va_up (va_up (va_up (va_up (va_up (va_up (va_up (va_up (va_up (va_up (va_up (va_up (fun _ => 0) 0 q7) 1 q15) 2 q23) 3 q31) 4 q39) 5 q47) 6 q55) 7 q63) 8 q71) 9 q79) 10 q88) 11 q95) Y 12 (0)) rfl dX7_init_97 ?_
  refine j_aload_n X dX7_init_100 rfl 0 rfl ?_
  refine j_iconst (v := nI 3) X dX7_init_101 (by decide) ?_
  refine j_newI X hR (by decide) (by decide) (by decide) dX7_init_102 (fun q102 => ?_)
  refine j_putF X ly_X7 tyX7 tyX7_ok nmX7 0 rfl rfl 13 (by decide) f_X7_46 rfl hin rfl rfl rfl rfl (Nat.le_of_ble_eq_true rfl) (w2 := WP h0 (va_up (va_up (va_up (va_up (va_up (va_up (va_up (va_up (va_up (va_up (va_up (va_up (va_up (fun _ => 0) 0 q7) 1 q15) 2 q23) 3 q31) 4 q39) 5 q47) 6 q55) 7 q63) 8 q71) 9 q79) 10 q88) 11 q95) 12 q102) Y 13 (0)) rfl dX7_init_104 ?_
  refine j_aload_n X dX7_init_107 rfl 0 rfl ?_
  refine j_bipush (v := nI 20) X dX7_init_108 (by decide) ?_
  refine j_putf X ly_X7 tyX7 tyX7_ok nmX7 0 rfl rfl 14 (by decide) f_X7_49 rfl rfl rfl rfl (Nat.le_of_ble_eq_true rfl) (w2 := WP h0 (va_up (va_up (va_up (va_up (va_up (va_up (va_up (va_up (va_up (va_up (va_up (va_up (va_up (fun _ => 0) 0 q7) 1 q15) 2 q23) 3 q31) 4 q39) 5 q47) 6 q55) 7 q63) 8 q71) 9 q79) 10 q88) 11 q95) 12 q102) Y 13 (nI 20)) rfl dX7_init_110 ?_
  refine j_aload_n X dX7_init_113 rfl 0 rfl ?_
  refine j_iconst (v := nI 4) X dX7_init_114 (by decide) ?_
  refine j_newI X hR (by decide) (by decide) (by decide) dX7_init_115 (fun q115 => ?_)
  refine j_putF X ly_X7 tyX7 tyX7_ok nmX7 0 rfl rfl 16 (by decide) f_X7_53 rfl hin rfl rfl rfl rfl (Nat.le_of_ble_eq_true rfl) (w2 := WP h0 (va_up (va_up (va_up (va_up (va_up (va_up (va_up (va_up (va_up (va_up (va_up (va_up (va_up (va_up (fun _ => 0) 0 q7) 1 q15) 2 q23) 3 q31) 4 q39) 5 q47) 6 q55) 7 q63) 8 q71) 9 q79) 10 q88) 11 q95) 12 q102) 13 q115) Y 14 (nI 20)) rfl dX7_init_117 ?_
  refine j_aload_n X dX7_init_120 rfl 0 rfl ?_
  refine j_iconst (v := nI 4) X dX7_init_121 (by decide) ?_
  refine j_newI X hR (by decide) (by decide) (by decide) dX7_init_122 (fun q122 => ?_)
  refine j_putF X ly_X7 tyX7 tyX7_ok nmX7 0 rfl rfl 17 (by decide) f_X7_56 rfl hin rfl rfl rfl rfl (Nat.le_of_ble_eq_true rfl) (w2 := WP h0 (va_up (va_up (va_up (va_up (va_up (va_up (va_up (va_up (va_up (va_up (va_up (va_up (va_up (va_up (va_up (fun _ => 0) 0 q7) 1 q15) 2 q23) 3 q31) 4 q39) 5 q47) 6 q55) 7 q63) 8 q71) 9 q79) 10 q88) 11 q95) 12 q102) 13 q115) 14 q122) Y 15 (nI 20)) rfl dX7_init_124 ?_
  refine j_aload_n X dX7_init_127 rfl 0 rfl ?_
  refine j_iconst (v := nI 4) X dX7_init_128 (by decide) ?_
  refine j_newI X hR (by decide) (by decide) (by decide) dX7_init_129 (fun q129 => ?_)
  refine j_putF X ly_X7 tyX7 tyX7_ok nmX7 0 rfl rfl 18 (by decide) f_X7_59 rfl hin rfl rfl rfl rfl (Nat.le_of_ble_eq_true rfl) (w2 := WP h0 (va_up (va_up (va_up (va_up (va_up (va_up (va_up (va_up (va_up (va_up (va_up (va_up (va_up (va_up (va_up (va_up (fun _ => 0) 0 q7) 1 q15) 2 q23) 3 q31) 4 q39) 5 q47) 6 q55) 7 q63) 8 q71) 9 q79) 10 q88) 11 q95) 12 q102) 13 q115) 14 q122) 15 q129) Y 16 (nI 20)) rfl dX7_init_131 ?_
  refine j_aload_n X dX7_init_134 rfl 0 rfl ?_
  refine j_iconst (v := nI 5) X dX7_init_135 (by decide) ?_
  refine j_newI X hR (by decide) (by decide) (by decide) dX7_init_136 (fun q136 => ?_)
  refine j_putF X ly_X7 tyX7 tyX7_ok nmX7 0 rfl rfl 19 (by decide) f_X7_62 rfl hin rfl rfl rfl rfl (Nat.le_of_ble_eq_true rfl) (w2 := WP h0 (va_up (va_up (va_up (va_up (va_up (va_up (va_up (va_up (va_up (va_up (va_up (va_up (va_up (va_up (va_up (va_up (va_up (fun _ => 0) 0 q7) 1 q15) 2 q23) 3 q31) 4 q39) 5 q47) 6 q55) 7 q63) 8 q71) 9 q79) 10 q88) 11 q95) 12 q102) 13 q115) 14 q122) 15 q129) 16 q136) Y 17 (nI 20)) rfl dX7_init_138 ?_
  refine j_aload_n X dX7_init_141 rfl 0 rfl ?_
  refine j_bipush (v := nI 60) X dX7_init_142 (by decide) ?_
  refine j_newI X hR (by decide) (by decide) (by decide) dX7_init_144 (fun q144 => ?_)
  refine j_putF X ly_X7 tyX7 tyX7_ok nmX7 0 rfl rfl 20 (by decide) f_X7_65 rfl hin rfl rfl rfl rfl (Nat.le_of_ble_eq_true rfl) (w2 := WP h0 (va_up (va_up (va_up (va_up (va_up (va_up (va_up (va_up (va_up (va_up (va_up (va_up (va_up (va_up (va_up (va_up (va_up (va_up (fun _ => 0) 0 q7) 1 q15) 2 q23) 3 q31) 4 q39) 5 q47) 6 q55) 7 q63) 8 q71) 9 q79) 10 q88) 11 q95) 12 q102) 13 q115) 14 q122) 15 q129) 16 q136) 17 q144) Y 18 (nI 20)) rfl dX7_init_146 ?_
  refine j_aload_n X dX7_init_149 rfl 0 rfl ?_
  refine j_iconst (v := nI 5) X dX7_init_150 (by decide) ?_
  refine j_newI X hR (by decide) (by decide) (by decide) dX7_init_151 (fun q151 => ?_)
  refine j_putF X ly_X7 tyX7 tyX7_ok nmX7 0 rfl rfl 22 (by decide) f_X7_68 rfl hin rfl rfl rfl rfl (Nat.le_of_ble_eq_true rfl) (w2 := WP h0 (va_up (va_up (va_up (va_up (va_up (va_up (va_up (va_up (va_up (va_up (va_up (va_up (va_up (va_up (va_up (va_up (va_up (va_up (va_up (fun _ => 0) 0 q7) 1 q15) 2 q23) 3 q31) 4 q39) 5 q47) 6 q55) 7 q63) 8 q71) 9 q79) 10 q88) 11 q95) 12 q102) 13 q115) 14 q122) 15 q129) 16 q136) 17 q144) 18 q151) Y 19 (nI 20)) rfl dX7_init_153 ?_
  refine j_aload_n X dX7_init_156 rfl 0 rfl ?_
  refine j_iconst (v := nI 5) X dX7_init_157 (by decide) ?_
  refine j_newI X hR (by decide) (by decide) (by decide) dX7_init_158 (fun q158 => ?_)
  refine j_putF X ly_X7 tyX7 tyX7_ok nmX7 0 rfl rfl 23 (by decide) f_X7_71 rfl hin rfl rfl rfl rfl (Nat.le_of_ble_eq_true rfl) (w2 := WP h0 (va_up (va_up (va_up (va_up (va_up (va_up (va_up (va_up (va_up (va_up (va_up (va_up (va_up (va_up (va_up (va_up (va_up (va_up (va_up (va_up (fun _ => 0) 0 q7) 1 q15) 2 q23) 3 q31) 4 q39) 5 q47) 6 q55) 7 q63) 8 q71) 9 q79) 10 q88) 11 q95) 12 q102) 13 q115) 14 q122) 15 q129) 16 q136) 17 q144) 18 q151) 19 q158) Y 20 (nI 20)) rfl dX7_init_160 ?_
  refine j_aload_n X dX7_init_163 rfl 0 rfl ?_
  refine j_sipush (v := nI 7776) X dX7_init_164 (by decide) ?_
  refine j_newI X hR (by decide) (by decide) (by decide) dX7_init_167 (fun q167 => ?_)
  refine j_putF X ly_X7 tyX7 tyX7_ok nmX7 0 rfl rfl 24 (by decide) f_X7_74 rfl hin rfl rfl rfl rfl (Nat.le_of_ble_eq_true rfl) (w2 := WP h0 (va_up (va_up (va_up (va_up (va_up (va_up (va_up (va_up (va_up (va_up (va_up (va_up (va_up (va_up (va_up (va_up (va_up (va_up (va_up (va_up (va_up (fun _ => 0) 0 q7) 1 q15) 2 q23) 3 q31) 4 q39) 5 q47) 6 q55) 7 q63) 8 q71) 9 q79) 10 q88) 11 q95) 12 q102) 13 q115) 14 q122) 15 q129) 16 q136) 17 q144) 18 q151) 19 q158) 20 q167) Y 21 (nI 20)) rfl dX7_init_169 ?_
  refine j_eqw (WP_WM _ _ _) ?_
  obtain ⟨ad, had⟩ : ∃ a : Nat → Nat, a = (va_up (va_up (va_up (va_up (va_up (va_up (va_up (va_up (va_up (va_up (va_up (va_up (va_up (va_up (va_up (va_up (va_up (va_up (va_up (va_up (va_up (fun _ => 0) 0 q7) 1 q15) 2 q23) 3 q31) 4 q39) 5 q47) 6 q55) 7 q63) 8 q71) 9 q79) 10 q88) 11 q95) 12 q102) 13 q115) 14 q122) 15 q129) 16 q136) 17 q144) 18 q151) 19 q158) 20 q167) := ⟨_, rfl⟩
  rw [← had]
  have hB := BD_S00
  refine j_aload_n X dX7_init_172 rfl 0 rfl ?_
  refine jm_get X 12 (by decide) rfl f_X7_43 dX7_init_173 ?_
  refine j_iconst (v := nI 0) X dX7_init_176 (by decide) ?_
  refine j_iconst (v := nI 4) X dX7_init_177 (by decide) ?_
  refine jm_ast2 X hB (by decide) (by show _ < 3; omega) (by omega) dX7_init_178 (fun S_178 eS_178 hB_178 => ?_)
  refine j_aload_n X dX7_init_179 rfl 0 rfl ?_
  refine jm_get X 12 (by decide) rfl f_X7_43 dX7_init_180 ?_
  refine j_iconst (v := nI 1) X dX7_init_183 (by decide) ?_
  refine j_bipush (v := nI 6) X dX7_init_184 (by decide) ?_
  refine jm_ast2 X hB_178 (by decide) (by show _ < 3; omega) (by omega) dX7_init_186 (fun S_186 eS_186 hB_186 => ?_)
  refine j_aload_n X dX7_init_187 rfl 0 rfl ?_
  refine jm_get X 12 (by decide) rfl f_X7_43 dX7_init_188 ?_
  refine j_iconst (v := nI 2) X dX7_init_191 (by decide) ?_
  refine j_bipush (v := nI 10) X dX7_init_192 (by decide) ?_
  refine jm_ast2 X hB_186 (by decide) (by show _ < 3; omega) (by omega) dX7_init_194 (fun S_194 eS_194 hB_194 => ?_)
  refine j_aload_n X dX7_init_195 rfl 0 rfl ?_
  refine jm_get X 13 (by decide) rfl f_X7_46 dX7_init_196 ?_
  refine j_iconst (v := nI 0) X dX7_init_199 (by decide) ?_
  refine j_sipush (v := nI 400) X dX7_init_200 (by decide) ?_
  refine jm_ast2 X hB_194 (by decide) (by show _ < 3; omega) (by omega) dX7_init_203 (fun S_203 eS_203 hB_203 => ?_)
  refine j_aload_n X dX7_init_204 rfl 0 rfl ?_
  refine jm_get X 13 (by decide) rfl f_X7_46 dX7_init_205 ?_
  refine j_iconst (v := nI 1) X dX7_init_208 (by decide) ?_
  refine j_sipush (v := nI 300) X dX7_init_209 (by decide) ?_
  refine jm_ast2 X hB_203 (by decide) (by show _ < 3; omega) (by omega) dX7_init_212 (fun S_212 eS_212 hB_212 => ?_)
  refine j_aload_n X dX7_init_213 rfl 0 rfl ?_
  refine jm_get X 13 (by decide) rfl f_X7_46 dX7_init_214 ?_
  refine j_iconst (v := nI 2) X dX7_init_217 (by decide) ?_
  refine j_sipush (v := nI 250) X dX7_init_218 (by decide) ?_
  refine jm_ast2 X hB_212 (by decide) (by show _ < 3; omega) (by omega) dX7_init_221 (fun S_221 eS_221 hB_221 => ?_)
  exact j_return X E (ad) (by rw [eS_221, eS_212, eS_203, eS_194, eS_186, eS_178]; rfl) rfl dX7_init_222

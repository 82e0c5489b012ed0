/-! calls of constructors; new objects side by side -/
section
variable {K : Ctx} {cc : ByteArray} {nL : Nat} {own : String} {D : va_G} {Y : Nat → ClassId} {cells slots : Nat} {ws : va_W} {lv : List (Nat × Value)} {pc : Nat} {st : List Value}
theorem j_callI (X : CX K cc nL own D Y) {T : Type} {z : MI} {j k mc0 ms0 mc ms idx n b : Nat} {As : List Value} {Wf : T → va_W} {post : Option Value → T → Prop} (hR : kR K = Rm k mc0 ms0) (hM : MT z j mc ms D Y (.ref b :: As) ws Wf post) (cw : CwI own idx n z) (hjk : j < k) (hmL : z.2.2.1 ≤ 40)
    (hn : As.length = n) (hst : (st.map fun v => v.category).sum ≤ 8) (hf : cells + mc ≤ mc0 ∧ slots + ms ≤ ms0) (hdg : decode cc pc = .ok (.invokespecial idx, 3))
    (kk : ∀ (v : Option Value) (u : T), post v u → JJ K D (cells + mc) (slots + ms) (Wf u) lv (pc + 3) (v.toList ++ st)) : JJ K D cells slots ws lv pc (As.reverse ++ .ref b :: st) := by
  intro H locs ls hP hD hS hl
  obtain ⟨c1, c2, c3, c4, c5, c6, c7⟩ := cw
  have hts := X.1.2.2.2.2
  exact j_back X hD hS hl (va_runI X.1 (hM (kl K) H.size) ⟨callB_of n hts (wg_good c4) (by unfold wg wz; rw [c7]) rfl rfl (hts _ c3) (hts _ c1) c5 (by rw [hR]; exact room_ok hjk hmL), c6, hts _ c2⟩ ⟨fb_PG, pg_at X hP hD⟩ rfl hn (hl.1.trans X.1.2.2.1) rfl (lv_room hst) hdg (by rw [hR]; exact hf)) kk
theorem j_callIN (X : CX K cc nL own D Y) {T : Type} {z : MI} {j k mc0 ms0 mc ms idx n b : Nat} {host : String} {As : List Value} {Wf : T → va_W} {post : Option Value → T → Prop} (hR : kR K = Rm k mc0 ms0) (hM : MT z j mc ms D Y (.ref b :: As) ws Wf post) (cw : CwIN own idx n z host) (hjk : j < k) (hmL : z.2.2.1 ≤ 40)
    (hn : As.length = n) (hst : (st.map fun v => v.category).sum ≤ 8) (hf : cells + mc ≤ mc0 ∧ slots + ms ≤ ms0) (hdg : decode cc pc = .ok (.invokespecial idx, 3))
    (kk : ∀ (v : Option Value) (u : T), post v u → JJ K D (cells + mc) (slots + ms) (Wf u) lv (pc + 3) (v.toList ++ st)) : JJ K D cells slots ws lv pc (As.reverse ++ .ref b :: st) := by
  intro H locs ls hP hD hS hl
  obtain ⟨c1, c2, c3, c4, c5, c6, c7⟩ := cw
  have hts := X.1.2.2.2.2
  exact j_back X hD hS hl (va_runIN X.1 (hM (kl K) H.size) ⟨va_cnB n hts (wg_good c4) (by unfold wg wz; rw [c7]) rfl rfl (X.2.1.2.1 _ c1) (hts _ c3) c5 (by rw [hR]; exact room_ok hjk hmL), c6, hts _ c2⟩ ⟨fb_PG, pg_at X hP hD⟩ rfl hn (hl.1.trans X.1.2.2.1) rfl (lv_room hst) hdg (by rw [hR]; exact hf)) kk
end
def z5 : List Value := [.int 0, .int 0, .int 0, .int 0, .long 0]
theorem z5_ok : ∀ j, j < 5 → defaultValue (tyX0 j) = vp_V z5 j := by
  intro j hj
  rcases (show j = 0 ∨ j = 1 ∨ j = 2 ∨ j = 3 ∨ j = 4 by omega) with rfl | rfl | rfl | rfl | rfl <;> rfl
def z2 : List Value := [.long 0, .long 0]
theorem z2_ok : ∀ j, j < 2 → defaultValue (tyX2 j) = vp_V z2 j := by
  intro j hj
  rcases (show j = 0 ∨ j = 1 by omega) with rfl | rfl <;> rfl
def z4 : List Value := [.int 0, .int 0, .int 0, .int 0]
theorem z4_ok : ∀ j, j < 4 → defaultValue (tyX5 j) = vp_V z4 j := by
  intro j hj
  rcases (show j = 0 ∨ j = 1 ∨ j = 2 ∨ j = 3 by omega) with rfl | rfl | rfl | rfl <;> rfl
theorem wP_self (e : CE) (a : Nat) : wP e a (eP e a) = e := by
  obtain ⟨b, r, l, p⟩ := e
  show (b, r, l, va_up p a (p a)) = (b, r, l, p)
  congr 3
  funext z
  unfold va_up
  by_cases h : z = a
  · rw [if_pos h, h]
  · rw [if_neg h]

section
variable {K : Ctx} {cc : ByteArray} {nL : Nat} {own : String} {D : va_G} {Y : Nat → ClassId} {cells slots : Nat} {lv : List (Nat × Value)} {pc : Nat} {st : List Value}
theorem jl_span (X : CX K cc nL own D Y) {wl : va_W} {aq : Nat → Nat} {Q : MS} {k mc0 ms0 idx : Nat} {a0 a1 a2 a3 : Value} {φ : Int32 → MS → Prop} (hR : RO K k mc0 ms0) (hM : ∀ D : va_G, MT zL_span 1 0 0 D Y [a0, a1, a2, a3] (wl ++ LA aq Y 6 Q) (fun u : MS => wl ++ LA aq Y 6 u) (pI φ)) (cw : CwS own idx 4 zL_span) (hjk : 1 < k) (hst : (st.map fun v => v.category).sum ≤ 8) (hf : cells + 0 ≤ mc0 ∧ slots + 0 ≤ ms0) (hdg : decode cc pc = .ok (.invokestatic idx, 3)) (kk : ∀ (r : Int32) (u : MS), φ r u → JJ K D (cells + 0) (slots + 0) (wl ++ LA aq Y 6 u) lv (pc + 3) (.int r :: st)) : JJ K D cells slots (wl ++ LA aq Y 6 Q) lv pc (a3 :: a2 :: a1 :: a0 :: st) := by
  refine jl_callS (mc := 0) (ms := 0) (As := [a0, a1, a2, a3]) X hR (hM D) cw hjk (by decide) rfl hst hf hdg (fun v u hp => ?_)
  obtain ⟨r, rfl, h⟩ := hp
  exact kk r u h
theorem jl_same (X : CX K cc nL own D Y) {ad aq : Nat → Nat} {Q : MS} {t : CS} {k mc0 ms0 idx : Nat} {a0 a1 a2 a3 a4 a5 : Value} {φ : Int32 → CS → Prop} (hR : RO K k mc0 ms0) (hM : ∀ D : va_G, MT zL_same 7 0 0 D Y [a0, a1, a2, a3, a4, a5] (WC ad Y t ++ LA aq Y 6 Q) (fun u : CS => WC ad Y u ++ LA aq Y 6 Q) (pI φ)) (cw : CwS own idx 6 zL_same) (hjk : 7 < k) (hst : (st.map fun v => v.category).sum ≤ 8) (hf : cells + 0 ≤ mc0 ∧ slots + 0 ≤ ms0) (hdg : decode cc pc = .ok (.invokestatic idx, 3)) (kk : ∀ (r : Int32) (u : CS), φ r u → JJ K D (cells + 0) (slots + 0) (WC ad Y u ++ LA aq Y 6 Q) lv (pc + 3) (.int r :: st)) : JJ K D cells slots (WC ad Y t ++ LA aq Y 6 Q) lv pc (a5 :: a4 :: a3 :: a2 :: a1 :: a0 :: st) := by
  refine jl_callS (mc := 0) (ms := 0) (As := [a0, a1, a2, a3, a4, a5]) X hR (hM D) cw hjk (by decide) rfl hst hf hdg (fun v u hp => ?_)
  obtain ⟨r, rfl, h⟩ := hp
  exact kk r u h
theorem jl_covd0 (X : CX K cc nL own D Y) {ad aq : Nat → Nat} {Q : MS} {t : CS} {k mc0 ms0 idx : Nat} {a0 a1 a2 a3 a4 a5 a6 a7 : Value} {φ : Int32 → Unit → Prop} (hR : RO K k mc0 ms0) (hM : ∀ D : va_G, MT zL_covered 12 34 170 D Y [a0, a1, a2, a3, a4, a5, a6, a7] (WC ad Y t ++ LA aq Y 6 Q) (fun u : Unit => []) (pI φ)) (cw : CwS own idx 8 zL_covered) (hjk : 12 < k) (hst : (st.map fun v => v.category).sum ≤ 8) (hf : cells + 34 ≤ mc0 ∧ slots + 170 ≤ ms0) (hdg : decode cc pc = .ok (.invokestatic idx, 3)) (kk : ∀ (r : Int32) (u : Unit), φ r u → JJ K D (cells + 34) (slots + 170) ([]) lv (pc + 3) (.int r :: st)) : JJ K D cells slots (WC ad Y t ++ LA aq Y 6 Q) lv pc (a7 :: a6 :: a5 :: a4 :: a3 :: a2 :: a1 :: a0 :: st) := by
  refine jl_callS (mc := 34) (ms := 170) (As := [a0, a1, a2, a3, a4, a5, a6, a7]) X hR (hM D) cw hjk (by decide) rfl hst hf hdg (fun v u hp => ?_)
  obtain ⟨r, rfl, h⟩ := hp
  exact kk r u h
theorem jl_covd (X : CX K cc nL own D Y) {ad aq : Nat → Nat} {Q : MS} {t : CS} {k mc0 ms0 idx : Nat} {a0 a1 a2 a3 a4 a5 a6 a7 : Value} (hR : RO K k mc0 ms0) (hM : ∀ D : va_G, MT zL_covered 12 34 170 D Y [a0, a1, a2, a3, a4, a5, a6, a7] (WC ad Y t ++ LA aq Y 6 Q) (fun _ : Unit => []) (pI (fun r _ => bI true = r))) (cw : CwS own idx 8 zL_covered) (hjk : 12 < k) (hst : (st.map fun v => v.category).sum ≤ 8) (hf : cells + 34 ≤ mc0 ∧ slots + 170 ≤ ms0) (hdg : decode cc pc = .ok (.invokestatic idx, 3)) (kk : JJ K D (cells + 34) (slots + 170) [] lv (pc + 3) (.int (bI true) :: st)) : JJ K D cells slots (WC ad Y t ++ LA aq Y 6 Q) lv pc (a7 :: a6 :: a5 :: a4 :: a3 :: a2 :: a1 :: a0 :: st) := jl_covd0 X hR hM cw hjk hst hf hdg (fun r u h => by
  subst h
  exact kk)
end
theorem RO_law {K : Ctx} (h : kR K = room_1) : RO K 40 783554 6751585 := by
  unfold RO
  rw [h]
  exact ⟨by decide, by decide, rfl, rfl⟩

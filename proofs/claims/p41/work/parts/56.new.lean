/-! calls of constructors; new objects side by side -/
section
variable {K : Ctx} {cc : ByteArray} {nL : Nat} {own : String} {D : va_G} {Y : Nat → ClassId} {cells slots : Nat} {ws : va_W} {lv : List (Nat × Value)} {pc : Nat} {st : List Value}
theorem j_callI (X : CX K cc nL own D Y) {T : Type} {z : MI} {j k mc0 ms0 mc ms idx n b : Nat} {As : List Value} {Wf : T → va_W} {post : Option Value → T → Prop} (hR : kR K = Rm k mc0 ms0) (hM : MT z j mc ms D Y (.ref b :: As) ws Wf post) (cw : CwI own idx n z) (hjk : j < k) (hmL : z.2.2.1 ≤ 40)
    (hn : As.length = n) (hst : (st.map fun v => v.category).sum ≤ 8) (hf : cells + mc ≤ mc0 ∧ slots + ms ≤ ms0) (hdg : decode cc pc = .ok (.invokespecial idx, 3))
    (kk : ∀ (v : Option Value) (u : T), post v u → JJ K D (cells + mc) (slots + ms) (Wf u) lv (pc + 3) (v.toList ++ st)) : JJ K D cells slots ws lv pc (As.reverse ++ .ref b :: st) := by
  intro H locs ls hP hD hS hl
  obtain ⟨c1, c2, c3, c4, c5, c6, c7⟩ := cw
  have hts := X.1.2.2.2.2
  exact j_back X hD hS hl (va_runI X.1 (hM (kl K) H.size) ⟨callB_of n hts (wg_good c4) (by unfold wg wz; rw [c7]) rfl rfl (hts _ c3) (hts _ c1) c5 (by rw [hR]; exact room_ok hjk hmL), c6, hts _ c2⟩ ⟨fb_PG, pg_at X hP hD⟩ rfl hn (hl.1.trans X.1.2.2.1) rfl (lv_room hst) hdg (by rw [hR]; exact hf)) kk
theorem j_callIN (X : CX K cc nL own D Y) {T : Type} {z : MI} {j k mc0 ms0 mc ms idx n b : Nat} {host : String} {As : List Value} {Wf : T → va_W} {post : Option Value → T → Prop} (hR : kR K = Rm k mc0 ms0) (hM : MT z j mc ms D Y (.ref b :: As) ws Wf post) (cw : CwIN own idx n z host) (hjk : j < k) (hmL : z.2.2.1 ≤ 40)
    (hn : As.length = n) (hst : (st.map fun v => v.category).sum ≤ 8) (hf : cells + mc ≤ mc0 ∧ slots + ms ≤ ms0) (hdg : decode cc pc = .ok (.invokespecial idx, 3))
    (kk : ∀ (v : Option Value) (u : T), post v u → JJ K D (cells + mc) (slots + ms) (Wf u) lv (pc + 3) (v.toList ++ st)) : JJ K D cells slots ws lv pc (As.reverse ++ .ref b :: st) := by
  intro H locs ls hP hD hS hl
  obtain ⟨c1, c2, c3, c4, c5, c6, c7⟩ := cw
  have hts := X.1.2.2.2.2
  exact j_back X hD hS hl (va_runIN X.1 (hM (kl K) H.size) ⟨va_cnB n hts (wg_good c4) (by unfold wg wz; rw [c7]) rfl rfl (X.2.1.2.1 _ c1) (hts _ c3) c5 (by rw [hR]; exact room_ok hjk hmL), c6, hts _ c2⟩ ⟨fb_PG, pg_at X hP hD⟩ rfl hn (hl.1.trans X.1.2.2.1) rfl (lv_room hst) hdg (by rw [hR]; exact hf)) kk
end
def z5 : List Value := [.int 0, .int 0, .int 0, .int 0, .long 0]
theorem z5_ok : ∀ j, j < 5 → defaultValue (tyX0 j) = vp_V z5 j := by
  intro j hj
  rcases (show j = 0 ∨ j = 1 ∨ j = 2 ∨ j = 3 ∨ j = 4 by omega) with rfl | rfl | rfl | rfl | rfl <;> rfl
def z2 : List Value := [.long 0, .long 0]
theorem z2_ok : ∀ j, j < 2 → defaultValue (tyX2 j) = vp_V z2 j := by
  intro j hj
  rcases (show j = 0 ∨ j = 1 by omega) with rfl | rfl <;> rfl
def z4 : List Value := [.int 0, .int 0, .int 0, .int 0]
theorem z4_ok : ∀ j, j < 4 → defaultValue (tyX5 j) = vp_V z4 j := by
  intro j hj
  rcases (show j = 0 ∨ j = 1 ∨ j = 2 ∨ j = 3 by omega) with rfl | rfl | rfl | rfl <;> rfl
theorem wP_self (e : CE) (a : Nat) : wP e a (eP e a) = e := by
  obtain ⟨b, r, l, p⟩ := e
  show (b, r, l, va_up p a (p a)) = (b, r, l, p)
  congr 3
  funext z
  unfold va_up
  by_cases h : z = a
  · rw [if_pos h, h]
  · rw [if_neg h]
/-- the new child, educator in place -/
theorem it_nk {f : MS → Nat → MS} {S : MS} {k j : Nat} (hf : ∀ T d, f T d k j = T k j) : ∀ n, itS f S n k j = S k j
  | 0 => rfl
  | n + 1 => (hf _ _).trans (it_nk hf n)
theorem zC_at {S : MS} {c : Nat} : ∀ n d, d < n → (itS (zC c) S n) 5 (5 * c + d) = 0 ∧ (itS (zC c) S n) 6 (5 * c + d) = 0
  | 0, d, h => absurd h (Nat.not_lt_zero _)
  | n + 1, d, h => by
    show (zC c (itS (zC c) S n) n) 5 (5 * c + d) = 0 ∧ (zC c (itS (zC c) S n) n) 6 (5 * c + d) = 0
    unfold zC
    by_cases q : d = n
    · subst q
      exact ⟨by rw [uM_nk (by omega), uM_eq], uM_eq _ _ _ _⟩
    · have := zC_at (S := S) (c := c) n d (by omega)
      exact ⟨by rw [uM_nk (by omega), uM_ni (by omega)]; exact this.1, by rw [uM_ni (by omega), uM_nk (by omega)]; exact this.2⟩
theorem zC_nk {S : MS} {c n k j : Nat} (h5 : k ≠ 5) (h6 : k ≠ 6) : itS (zC c) S n k j = S k j := it_nk (fun T d => by unfold zC; rw [uM_nk h6, uM_nk h5]) n
theorem zC_no {S : MS} {c k j : Nat} (h : j / 5 ≠ c) : ∀ n, n ≤ 5 → itS (zC c) S n k j = S k j
  | 0, _ => rfl
  | n + 1, hn => by
    show (zC c (itS (zC c) S n) n) k j = _
    unfold zC
    rw [uM_ni (by omega), uM_ni (by omega)]
    exact zC_no h n (by omega)
theorem new_0 {S : MS} {c x f : Nat} {k j : Nat} (h5 : k ≠ 5) (h6 : k ≠ 6) : newC S c x f k j = uM (uM (uM (uM (uM S 0 c 1) 1 c x) 2 c f) 3 c 0) 4 c 0 k j := zC_nk h5 h6
theorem sp_none {S : MS} {k c : Nat} (h : ∀ d, d < 5 → S k (5 * c + d) = 0 ∧ S (k + 1) (5 * c + d) = 0) : msk (spP S k c) 50 = 0 := by
  have e : msk (spP S k c) 50 = msk (fun _ => false) 50 := msk_congr (fun q hq => by
    unfold spP
    rw [(h (q / 10) (by omega)).1, (h (q / 10) (by omega)).2, decide_eq_false (Nat.not_lt_zero _), Bool.and_false])
  rw [e]
  decide
theorem chE_new {S : MS} {c x f : Nat} : chE (newC S c x f) c = .inr (0, [.int (nI f), .int (nI x), .int 0, .int 0, .long 0]) := by
  unfold chE
  rw [new_0 (by omega) (by omega), new_0 (by omega) (by omega), new_0 (by omega) (by omega), new_0 (by omega) (by omega), sp_none (S := newC S c x f) (k := 5) (fun d hd => zC_at 5 d hd)]
  simp [uM]
  decide
theorem IV_newC {S : MS} (h : IV S) {c x f : Nat} (hx : x ≤ 77) (hf : f ≤ 11) : IV (newC S c x f) := IV_it (fun T d hT => IV_zC hT) (IV_new5 h hx hf) 5
theorem BD_zC {S : MS} (h : BD S) {c d : Nat} : BD (zC c S d) := BD_u (BD_u h (by omega)) (by omega)
theorem BD_newC {S : MS} (h : BD S) {c x f : Nat} (hx : x ≤ 77) (hf : f ≤ 11) : BD (newC S c x f) := BD_it (fun T d hT => BD_zC hT) (BD_u (BD_u (BD_u (BD_u (BD_u h (by omega)) (by omega)) (by omega)) (by omega)) (by omega)) 5
theorem new_nk {S : MS} {c x f k j : Nat} (h : 6 < k) : newC S c x f k j = S k j := by
  rw [new_0 (by omega) (by omega), uM_nk (by omega), uM_nk (by omega), uM_nk (by omega), uM_nk (by omega), uM_nk (by omega)]
theorem new_ni {S : MS} {c x f k j : Nat} (hk : k ≤ 4) (h : j ≠ c) : newC S c x f k j = S k j := by
  rw [new_0 (by omega) (by omega), uM_ni h, uM_ni h, uM_ni h, uM_ni h, uM_ni h]
theorem new_n5 {S : MS} {c x f k j : Nat} (hk : k = 5 ∨ k = 6) (h : j / 5 ≠ c) : newC S c x f k j = S k j := by
  show itS (zC c) _ 5 k j = _
  rw [zC_no h 5 (Nat.le_refl 5), uM_nk (by omega), uM_nk (by omega), uM_nk (by omega), uM_nk (by omega), uM_nk (by omega)]
theorem RG.addC {S : MS} {G : Nat → Nat} {T : CT} {e : CE} {a c x f : Nat} {x0 : va_E} (h : RG S G T e) (ha : a ∉ eL e) (hc : c < 24) (hx : x ≤ 77) (hf : f ≤ 11) (h0 : clsE x0 = some 0) : RG (newC S c x f) G T (wR (wP (wN e a x0) a (chE (newC S c x f) c)) 0 c (some a)) := by
  have hm : a ∈ eL (wP (wN e a x0) a (chE (newC S c x f) c)) := List.mem_append_right _ (List.mem_singleton.mpr rfl)
  have hcl : clsE (eP (wN e a x0) a) = some 0 := by rw [show eP (wN e a x0) a = x0 from if_pos rfl, h0]
  have p0 := (h.2.2.2.1.new (x := x0) ha)
  refine ⟨BD_newC h.hB hx hf, IV_newC h.hI hx hf, h.2.2.1.off (fun k j hk => new_nk (by omega)), ?_, ?_, ?_⟩
  · have p1 : PO (wP (wN e a x0) a (chE (newC S c x f) c)) 0 24 (S 0) (chE S) := ⟨fun j hj => by
      rcases h.2.2.2.1.1 j hj with ⟨q, b, h1, h2, h3⟩ | ⟨q, h1⟩
      · have hb : b ≠ a := fun z => ha (z ▸ h2)
        refine Or.inl ⟨q, b, h1, List.mem_append_left _ h2, ?_⟩
        show va_up (va_up _ _ _) _ _ b = _
        unfold va_up
        rw [if_neg hb, if_neg hb]
        exact h3
      · exact Or.inr ⟨q, h1⟩, h.2.2.2.1.2⟩
    refine p1.fresh (fun j hj => h.2.2.2.1.nin ha j hj) hm (eP_wP _ _ _) ?_ (fun j _ hj => new_ni (by omega) hj) (fun j _ hj => ?_)
    · rw [new_0 (by omega) (by omega), uM_nk (by omega), uM_nk (by omega), uM_nk (by omega), uM_nk (by omega), uM_eq]
    · unfold chE
      rw [new_ni (by omega) hj, new_ni (by omega) hj, new_ni (by omega) hj, new_ni (by omega) hj, msk_congr (q := spP S 5 j) (n := 50) (fun q hq => by
        unfold spP
        rw [new_n5 (by omega) (by omega), new_n5 (by omega) (by omega)])]
  · exact (((h.2.2.2.2.1.new (x := x0) ha).off (cls_ed S) (by rw [hcl]; decide)).other (by decide)).congr (fun i _ => new_nk (by omega)) (fun i _ _ => edE_of (fun k j _ _ => new_nk (by omega)))
  · exact (((h.2.2.2.2.2.new (x := x0) ha).off (fun j => cls_su S j (G j)) (by rw [hcl]; decide)).other (by decide)).congr (fun i _ => suH_of (new_nk (by omega)) i) (fun i _ _ => suE_of (fun k j _ _ => new_nk (by omega)))
theorem fr_at {f : Nat → Nat} {i : Nat} (h : ∀ j, j < i → f j = 1) (h0 : f i ≠ 1) : ∀ n c, c ≤ i → i < c + n → frF f n c = i
  | 0, c, h1, h2 => by omega
  | n + 1, c, h1, h2 => by
    rw [frF]
    by_cases q : c = i
    · rw [q, if_neg h0]
    · rw [if_pos (h c (by omega))]
      exact fr_at h h0 n (c + 1) (by omega) (by omega)
theorem sm_not_all {f : Nat → Nat} {i n : Nat} (hf : ∀ j, j < n → f j ≤ 1) (hi : i < n) (h0 : f i = 0) : sm f n ≠ n := by
  have h := sm_lt (f := f) (g := fun _ => 1) (n := n) hf ⟨i, hi, by omega⟩
  rw [sm_all1 (f := fun _ => 1) (fun _ _ => rfl)] at h
  omega
theorem le_pred {x : Int32} {n : Nat} (hn : n < 1000000) (h : ¬ nI (n + 1) ≤ x) : x ≤ nI n := by
  rw [Int32.le_iff_toInt_le, nI_toInt (by omega)] at *
  omega
theorem lt_le {x : Int32} {n : Nat} (hn : n < 1000000) (h : x < nI (n + 1)) : x ≤ nI n := by
  rw [Int32.lt_iff_toInt_lt, nI_toInt (by omega)] at h
  rw [Int32.le_iff_toInt_le, nI_toInt (by omega)]
  omega
theorem wh1 {y : Int32} {lo hi : Nat} (hn : hi < 1000000) (h : nI (hi + 1) ≤ y) : withinI y (nI lo) (nI hi) = false := by
  unfold withinI
  rw [decide_eq_false (p := y ≤ nI hi), Bool.and_false]
  intro q
  rw [Int32.le_iff_toInt_le, nI_toInt (by omega)] at h q
  omega

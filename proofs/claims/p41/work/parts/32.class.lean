/-! the class's world: fixed cells, and one pool of children, educators, substitutes -/
abbrev CE : Type := Int64 × (Nat → Nat → Option Nat) × List Nat × (Nat → va_E)
abbrev CT : Type := Nat → Nat → Int32
abbrev CS : Type := CT × CE
abbrev eB (e : CE) : Int64 := e.1
abbrev eR (e : CE) : Nat → Nat → Option Nat := e.2.1
abbrev eL (e : CE) : List Nat := e.2.2.1
abbrev eP (e : CE) : Nat → va_E := e.2.2.2
/-- rows: 0 ratios, 1 rates, 2 keptCover, 3 signs, 4 sets, 5 shortages, 6 bestSets, 7 counts, 8 priorities, 9 needs; 10: roomLimit, month, length, count; 11: bestCost -/
def lenC (k : Nat) : Nat := ([3, 3, 5, 60, 5, 5, 5, 3, 24, 50] : List Nat).getD k 0
def yC (Y : Nat → ClassId) (k : Nat) : ClassId := if k = 3 then Y 1 else Y 0
def fsK (ad : Nat → Nat) (T : CT) : List Value := [.ref (ad 10), .ref (ad 11), .ref (ad 0), .ref (ad 1), .int (T 10 0), .int (T 10 1), .ref (ad 2), .ref (ad 13), .ref (ad 14), .ref (ad 15), .ref (ad 8), .ref (ad 9)]
def fsH (ad : Nat → Nat) (T : CT) (b : Int64) : List Value := [.ref (ad 3), .int (T 10 2), .long b]
def fsR (ad : Nat → Nat) (T : CT) : List Value := [.ref (ad 12), .int (T 10 3), .ref (ad 4), .int (T 11 0), .ref (ad 5), .ref (ad 6)]
def fxC (ad : Nat → Nat) (Y : Nat → ClassId) (T : CT) (e : CE) : va_W :=
  (ad 16, .inr (6, fsK ad T)) :: (ad 10, .inl (Y 2, 24, .inr (.inr (.inr (.inr (eR e 0)))))) :: (ad 11, .inl (Y 3, 8, .inr (.inr (.inr (.inr (eR e 1)))))) :: (ad 12, .inl (Y 4, 4, .inr (.inr (.inr (.inr (eR e 2)))))) ::
  (ad 13, .inr (4, fsH ad T (eB e))) :: (ad 14, .inr (1, fsR ad T)) :: (ad 15, .inr (3, [.ref (ad 7)])) :: (List.range 10).map (fun k => (ad k, .inl (yC Y k, lenC k, .inl (T k))))
def WC (ad : Nat → Nat) (Y : Nat → ClassId) (t : CS) : va_W := fxC ad Y t.1 t.2 ++ va_pl (eL t.2) (eP t.2)
def uI (T : CT) (k i : Nat) (v : Int32) : CT := fun a j => if a = k ∧ j = i then v else T a j
theorem uI_eq (T : CT) (k i : Nat) (v : Int32) : uI T k i v k i = v := if_pos ⟨rfl, rfl⟩
theorem uI_ne {T : CT} {k i : Nat} {v : Int32} {a j : Nat} (h : ¬ (a = k ∧ j = i)) : uI T k i v a j = T a j := if_neg h
theorem uI_nk {T : CT} {k i : Nat} {v : Int32} {a j : Nat} (h : a ≠ k) : uI T k i v a j = T a j := if_neg (fun q => h q.1)
theorem uI_ni {T : CT} {k i : Nat} {v : Int32} {a j : Nat} (h : j ≠ i) : uI T k i v a j = T a j := if_neg (fun q => h q.2)
def wB (e : CE) (b : Int64) : CE := (b, e.2)
def wR (e : CE) (k i : Nat) (r : Option Nat) : CE := (e.1, fun a j => if a = k ∧ j = i then r else e.2.1 a j, e.2.2)
def wP (e : CE) (a : Nat) (x : va_E) : CE := (e.1, e.2.1, e.2.2.1, va_up e.2.2.2 a x)
def wN (e : CE) (a : Nat) (x : va_E) : CE := (e.1, e.2.1, e.2.2.1 ++ [a], va_up e.2.2.2 a x)
section
variable {ad : Nat → Nat} {Y : Nat → ClassId} {T : CT} {e : CE}
theorem WC_a {k : Nat} (hk : k < 10) : (WC ad Y (T, e))[k + 7]? = some (ad k, .inl (yC Y k, lenC k, .inl (T k))) := by
  show ((List.range 10).map _ ++ va_pl _ _)[k]? = _
  rw [List.getElem?_append_left (by simpa using hk), List.getElem?_map, List.getElem?_range hk]
  rfl
theorem map_set {k : Nat} {i : Nat} {v : Int32} (hk : k < 10) : ((List.range 10).map (fun k => (ad k, (.inl (yC Y k, lenC k, .inl (T k)) : va_E)))).set k (ad k, .inl (yC Y k, lenC k, .inl (upd (T k) i v))) = (List.range 10).map (fun k' => (ad k', (.inl (yC Y k', lenC k', .inl (uI T k i v k')) : va_E))) := by
  apply List.ext_getElem?
  intro j
  by_cases hj : j < 10
  · by_cases hjk : j = k
    · subst hjk
      rw [List.getElem?_set_self (by simpa using hj), List.getElem?_map, List.getElem?_range hj]
      refine congrArg (fun f => some (ad j, (Sum.inl (yC Y j, lenC j, Sum.inl f) : va_E))) (funext fun q => ?_)
      by_cases hq : q = i
      · subst hq
        simp [upd, uI]
      · simp [upd, uI, hq]
    · rw [List.getElem?_set_ne (Ne.symm hjk), List.getElem?_map, List.getElem?_map, List.getElem?_range hj]
      refine congrArg (fun f => some (ad j, (Sum.inl (yC Y j, lenC j, Sum.inl f) : va_E))) (funext fun q => ?_)
      rw [uI_nk hjk]
  · rw [List.getElem?_eq_none (by simp; omega), List.getElem?_eq_none (by simp; omega)]
theorem WC_set {k i : Nat} {v : Int32} (hk : k < 10) : (WC ad Y (T, e)).set (k + 7) (ad k, .inl (yC Y k, lenC k, .inl (upd (T k) i v))) = WC ad Y (uI T k i v, e) := by
  have h10 : ∀ j, uI T k i v 10 j = T 10 j := fun j => uI_nk (by omega)
  have h11 : ∀ j, uI T k i v 11 j = T 11 j := fun j => uI_nk (by omega)
  have hm := map_set (ad := ad) (Y := Y) (T := T) (i := i) (v := v) hk
  show (_ :: _ :: _ :: _ :: _ :: _ :: _ :: ((List.range 10).map _ ++ va_pl _ _).set k _) = _
  rw [List.set_append_left _ _ (by simpa using hk), hm]
  simp only [WC, fxC, fsK, fsH, fsR, h10, h11]
  rfl
theorem map_same {a i : Nat} {v : Int32} (ha : 10 ≤ a) : (List.range 10).map (fun k' => (ad k', (.inl (yC Y k', lenC k', .inl (uI T a i v k')) : va_E))) = (List.range 10).map (fun k' => (ad k', (.inl (yC Y k', lenC k', .inl (T k')) : va_E))) := by
  apply List.map_congr_left
  intro k hk
  have := List.mem_range.mp hk
  refine congrArg (fun f => (ad k, (Sum.inl (yC Y k, lenC k, Sum.inl f) : va_E))) (funext fun q => ?_)
  rw [uI_nk (by omega)]
theorem WC_s0 {v : Int32} : (WC ad Y (T, e)).set 0 (ad 16, .inr (6, (fsK ad T).set 4 (.int v))) = WC ad Y (uI T 10 0 v, e) := by
  simp only [WC, fxC, map_same (Nat.le_refl 10)]
  rfl
theorem WC_s1 {v : Int32} : (WC ad Y (T, e)).set 0 (ad 16, .inr (6, (fsK ad T).set 5 (.int v))) = WC ad Y (uI T 10 1 v, e) := by
  simp only [WC, fxC, map_same (Nat.le_refl 10)]
  rfl
theorem WC_s2 {v : Int32} : (WC ad Y (T, e)).set 4 (ad 13, .inr (4, (fsH ad T (eB e)).set 1 (.int v))) = WC ad Y (uI T 10 2 v, e) := by
  simp only [WC, fxC, map_same (Nat.le_refl 10)]
  rfl
theorem WC_s3 {v : Int32} : (WC ad Y (T, e)).set 5 (ad 14, .inr (1, (fsR ad T).set 1 (.int v))) = WC ad Y (uI T 10 3 v, e) := by
  simp only [WC, fxC, map_same (Nat.le_refl 10)]
  rfl
theorem WC_s4 {v : Int32} : (WC ad Y (T, e)).set 5 (ad 14, .inr (1, (fsR ad T).set 3 (.int v))) = WC ad Y (uI T 11 0 v, e) := by
  simp only [WC, fxC, map_same (show 10 ≤ 11 by decide)]
  rfl
theorem WC_sB {v : Int64} : (WC ad Y (T, e)).set 4 (ad 13, .inr (4, (fsH ad T (eB e)).set 2 (.long v))) = WC ad Y (T, wB e v) := rfl
theorem upd_eq {α : Type} (f : Nat → α) (i : Nat) (v : α) : (fun j => if j = i then v else f j) = va_up f i v := rfl
theorem WC_r {k i : Nat} {r : Option Nat} {y : Nat} {n : Nat} (hk : (k = 0 ∧ y = 2 ∧ n = 24) ∨ (k = 1 ∧ y = 3 ∧ n = 8) ∨ (k = 2 ∧ y = 4 ∧ n = 4)) : (WC ad Y (T, e)).set (k + 1) (ad (k + 10), .inl (Y y, n, .inr (.inr (.inr (.inr (va_up (eR e k) i r)))))) = WC ad Y (T, wR e k i r) := by
  rcases hk with ⟨rfl, rfl, rfl⟩ | ⟨rfl, rfl, rfl⟩ | ⟨rfl, rfl, rfl⟩ <;> (simp only [WC, fxC, wR, eR, eB, eL, eP, va_up]; simp; rfl)
theorem WC_p {a : Nat} (ha : a ∈ eL e) : ∃ q : Nat, (WC ad Y (T, e))[q]? = some (a, eP e a) := va_pl_get ha
theorem WC_pset {A : Nat → Prop} {a q : Nat} {x : va_E} (hD : va_D A (WC ad Y (T, e))) (ha : a ∈ eL e) (hq : (WC ad Y (T, e))[q]? = some (a, eP e a)) : (WC ad Y (T, e)).set q (a, x) = WC ad Y (T, wP e a x) := va_pl_set hD ha hq
theorem WC_push {a : Nat} {x : va_E} (ha : a ∉ eL e) : WC ad Y (T, e) ++ [(a, x)] = WC ad Y (T, wN e a x) := by
  show (fxC ad Y T e ++ va_pl _ _) ++ [(a, x)] = _
  rw [List.append_assoc, va_pl_push ha]
  rfl
theorem WC_fresh {A : Nat → Prop} {a : Nat} {x : va_E} (hD : va_D A (WC ad Y (T, e) ++ [(a, x)])) : a ∉ eL e := by
  intro h
  obtain ⟨q, hq⟩ := WC_p (ad := ad) (Y := Y) (T := T) h
  have hl := (List.getElem?_eq_some_iff.mp hq).1
  have h1 : (WC ad Y (T, e) ++ [(a, x)])[q]? = some (a, eP e a) := by rw [List.getElem?_append_left hl]; exact hq
  have h2 : (WC ad Y (T, e) ++ [(a, x)])[(WC ad Y (T, e)).length]? = some (a, x) := by rw [List.getElem?_append_right (Nat.le_refl _), Nat.sub_self]; rfl
  have := hD.1 _ _ _ _ h1 h2 rfl
  omega
end

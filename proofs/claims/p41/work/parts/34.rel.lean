/-! the class's state beside the reference's -/
def chE (S : MS) (c : Nat) : va_E := .inr (0, [.int (nI (S 2 c)), .int (nI (S 1 c)), .int (nI (S 4 c)), .int (nI (S 3 c)), .long (msk (spP S 5 c) 50)])
def hoP (S : MS) (x w : Nat) : Bool := decide (S 10 (52 * x + w) = 1)
def edE (S : MS) (x : Nat) : va_E := .inr (2, [.long (msk (spP S 8 x) 50), .long (msk (hoP S x) 52)])
def suE (S : MS) (k g : Nat) : va_E := .inr (5, [.int (nI (S 13 k)), .int (nI (S 14 k)), .int (nI (S 15 k)), .int (nI g)])
/-- the row k of references: where h is 1, a pooled object with the content f; elsewhere none; no object twice -/
def PO (e : CE) (k n : Nat) (h : Nat → Nat) (f : Nat → va_E) : Prop := (∀ i, i < n → (h i = 1 ∧ ∃ a, eR e k i = some a ∧ a ∈ eL e ∧ eP e a = f i) ∨ (h i = 0 ∧ eR e k i = none)) ∧ ∀ i j a, i < n → j < n → eR e k i = some a → eR e k j = some a → i = j
def rowsT (S : MS) (T : CT) : Prop := (∀ i, i < 3 → T 0 i = nI (S 11 i)) ∧ (∀ i, i < 3 → T 1 i = nI (S 12 i)) ∧ (∀ i, i < 5 → T 2 i = nI (S 16 i)) ∧ (∀ i, i < 60 → T 3 i = nI (S 17 i)) ∧ T 10 0 = nI (S 21 1) ∧ T 10 1 = nI (S 21 0) ∧ T 10 2 = nI (S 21 3) ∧ T 10 3 = nI (S 21 2)
def suH (S : MS) (i : Nat) : Nat := ct (decide (i < S 21 2))
def RG (S : MS) (G : Nat → Nat) (T : CT) (e : CE) : Prop := BD S ∧ IV S ∧ rowsT S T ∧ PO e 0 24 (S 0) (chE S) ∧ PO e 1 8 (S 7) (edE S) ∧ PO e 2 4 (suH S) (fun k => suE S k (G k))
abbrev RR (S : MS) (T : CT) (e : CE) : Prop := RG S (fun _ => 0) T e
/-- the same off the rows l -/
def SM (l : List Nat) (T T' : CT) : Prop := ∀ a j, a ∉ l → T' a j = T a j
theorem SM.refl (l : List Nat) (T : CT) : SM l T T := fun _ _ _ => rfl
theorem SM.trans {l : List Nat} {T T' T'' : CT} (h : SM l T T') (h2 : SM l T' T'') : SM l T T'' := fun a j ha => (h2 a j ha).trans (h a j ha)
theorem SM.mono {l l' : List Nat} {T T' : CT} (h : SM l T T') (hl : ∀ a, a ∈ l → a ∈ l') : SM l' T T' := fun a j ha => h a j (fun q => ha (hl a q))
theorem SM.u {l : List Nat} {T T' : CT} {k i : Nat} {v : Int32} (h : SM l T T') (hk : k ∈ l) : SM l T (uI T' k i v) := fun a j ha => by
  have hne : a ≠ k := fun q => ha (by rw [q]; exact hk)
  rw [uI_nk hne, h a j ha]
abbrev scr (l : List Nat) : Prop := (l.all fun a => (decide (4 ≤ a) && decide (a < 10)) || decide (a = 11)) = true
theorem scr_of {l : List Nat} (h : scr l) : ∀ a, a ∈ l → (4 ≤ a ∧ a < 10) ∨ a = 11 := fun a ha => by
  have := List.all_eq_true.mp h a ha
  simpa using this
section
variable {S : MS} {G : Nat → Nat} {T : CT} {e : CE}
theorem RG.hB (h : RG S G T e) : BD S := h.1
theorem RG.hI (h : RG S G T e) : IV S := h.2.1
theorem RG.t0 (h : RG S G T e) {i : Nat} (hi : i < 3) : T 0 i = nI (S 11 i) := h.2.2.1.1 i hi
theorem RG.t1 (h : RG S G T e) {i : Nat} (hi : i < 3) : T 1 i = nI (S 12 i) := h.2.2.1.2.1 i hi
theorem RG.t2 (h : RG S G T e) {i : Nat} (hi : i < 5) : T 2 i = nI (S 16 i) := h.2.2.1.2.2.1 i hi
theorem RG.t3 (h : RG S G T e) {i : Nat} (hi : i < 60) : T 3 i = nI (S 17 i) := h.2.2.1.2.2.2.1 i hi
theorem RG.room (h : RG S G T e) : T 10 0 = nI (S 21 1) := h.2.2.1.2.2.2.2.1
theorem RG.month (h : RG S G T e) : T 10 1 = nI (S 21 0) := h.2.2.1.2.2.2.2.2.1
theorem RG.len (h : RG S G T e) : T 10 2 = nI (S 21 3) := h.2.2.1.2.2.2.2.2.2.1
theorem RG.cnt (h : RG S G T e) : T 10 3 = nI (S 21 2) := h.2.2.1.2.2.2.2.2.2.2
theorem RG.ch (h : RG S G T e) {i : Nat} (hi : i < 24) : (S 0 i = 1 ∧ ∃ a, eR e 0 i = some a ∧ a ∈ eL e ∧ eP e a = chE S i) ∨ (S 0 i = 0 ∧ eR e 0 i = none) := h.2.2.2.1.1 i hi
theorem RG.ed (h : RG S G T e) {i : Nat} (hi : i < 8) : (S 7 i = 1 ∧ ∃ a, eR e 1 i = some a ∧ a ∈ eL e ∧ eP e a = edE S i) ∨ (S 7 i = 0 ∧ eR e 1 i = none) := h.2.2.2.2.1.1 i hi
theorem RG.su (h : RG S G T e) {i : Nat} (hi : i < 4) : (suH S i = 1 ∧ ∃ a, eR e 2 i = some a ∧ a ∈ eL e ∧ eP e a = suE S i (G i)) ∨ (suH S i = 0 ∧ eR e 2 i = none) := h.2.2.2.2.2.1 i hi
theorem rowsT.sm {T' : CT} {l : List Nat} (h : rowsT S T) (hs : SM l T T') (hl : scr l) : rowsT S T' := by
  have n : ∀ a, a < 4 ∨ a = 10 → a ∉ l := fun a ha q => by have := scr_of hl a q; omega
  obtain ⟨a0, a1, a2, a3, b0, b1, b2, b3⟩ := h
  exact ⟨fun i hi => (hs _ _ (n 0 (by omega))).trans (a0 i hi), fun i hi => (hs _ _ (n 1 (by omega))).trans (a1 i hi), fun i hi => (hs _ _ (n 2 (by omega))).trans (a2 i hi), fun i hi => (hs _ _ (n 3 (by omega))).trans (a3 i hi), (hs _ _ (n 10 (by omega))).trans b0, (hs _ _ (n 10 (by omega))).trans b1, (hs _ _ (n 10 (by omega))).trans b2, (hs _ _ (n 10 (by omega))).trans b3⟩
theorem RG.sm {T' : CT} {l : List Nat} (h : RG S G T e) (hs : SM l T T') (hl : scr l) : RG S G T' e := ⟨h.1, h.2.1, h.2.2.1.sm hs hl, h.2.2.2⟩
theorem RG.b (h : RG S G T e) {b : Int64} : RG S G T (wB e b) := h
theorem PO.congr {k n : Nat} {h h' : Nat → Nat} {f f' : Nat → va_E} (p : PO e k n h f) (hh : ∀ i, i < n → h' i = h i) (hf : ∀ i, i < n → h i = 1 → f' i = f i) : PO e k n h' f' := ⟨fun i hi => by
  rcases p.1 i hi with ⟨q, a, h1, h2, h3⟩ | ⟨q, h1⟩
  · exact Or.inl ⟨(hh i hi).trans q, a, h1, h2, h3.trans (hf i hi q).symm⟩
  · exact Or.inr ⟨(hh i hi).trans q, h1⟩, p.2⟩
/-- a pooled object's content is written: its own place, another kind of object -/
theorem PO.set {k n i a : Nat} {h : Nat → Nat} {f f' : Nat → va_E} {x : va_E} (p : PO e k n h f) (hi : i < n) (ha : eR e k i = some a) (hx : f' i = x) (hf : ∀ j, j < n → j ≠ i → f' j = f j) : PO (wP e a x) k n h f' := ⟨fun j hj => by
  rcases p.1 j hj with ⟨q, b, h1, h2, h3⟩ | ⟨q, h1⟩
  · refine Or.inl ⟨q, b, h1, h2, ?_⟩
    by_cases hji : j = i
    · subst hji
      have hb : b = a := Option.some.inj (h1.symm.trans ha)
      rw [hb, hx]
      show va_up _ _ _ a = x
      unfold va_up
      rw [if_pos rfl]
    · have hb : b ≠ a := fun q => hji (p.2 j i a hj hi (q ▸ h1) ha)
      show va_up _ _ _ b = _
      unfold va_up
      rw [if_neg hb]
      exact h3.trans (hf j hj hji).symm
  · exact Or.inr ⟨q, h1⟩, p.2⟩
theorem mem_wP {e e' : CE} {a b : Nat} {x : va_E} (h : e' = wP e a x) (hb : b ∈ eL e) : b ∈ eL e' := by rw [h]; exact hb
theorem pos_wP {e e' : CE} {a : Nat} {x : va_E} (h : e' = wP e a x) : eP e' a = x := by rw [h]; exact if_pos rfl
def clsE : va_E → Option Nat
  | .inr (c, _) => some c
  | _ => none
theorem PO.off {k n a : Nat} {h : Nat → Nat} {f : Nat → va_E} {x : va_E} {c : Nat} (p : PO e k n h f) (hf : ∀ j, clsE (f j) = some c) (ha : clsE (eP e a) ≠ some c) : PO (wP e a x) k n h f := ⟨fun j hj => by
  rcases p.1 j hj with ⟨q, b, h1, h2, h3⟩ | ⟨q, h1⟩
  · refine Or.inl ⟨q, b, h1, h2, ?_⟩
    have hb : b ≠ a := fun q => ha (by rw [← q, h3]; exact hf j)
    show va_up _ _ _ b = _
    unfold va_up
    rw [if_neg hb]
    exact h3
  · exact Or.inr ⟨q, h1⟩, p.2⟩
theorem PO.rm {k n i : Nat} {h h' : Nat → Nat} {f : Nat → va_E} (p : PO e k n h f) (h0 : h' i = 0) (hh : ∀ j, j < n → j ≠ i → h' j = h j) : PO (wR e k i none) k n h' f := by
  constructor
  · intro j hj
    by_cases hji : j = i
    · subst hji
      refine Or.inr ⟨h0, ?_⟩
      show (if k = k ∧ j = j then none else _) = none
      rw [if_pos ⟨rfl, rfl⟩]
    · have hr : eR (wR e k i none) k j = eR e k j := if_neg (fun q => hji q.2)
      rw [hr, hh j hj hji]
      exact p.1 j hj
  · intro j j' a hj hj' h1 h2
    have hne : ∀ x, eR (wR e k i none) k x = some a → eR e k x = some a := fun x hx => by
      by_cases hxi : x = i
      · subst hxi
        have : eR (wR e k x none) k x = none := if_pos ⟨rfl, rfl⟩
        rw [this] at hx
        cases hx
      · rwa [show eR (wR e k i none) k x = eR e k x from if_neg (fun q => hxi q.2)] at hx
    exact p.2 j j' a hj hj' (hne j h1) (hne j' h2)
theorem PO.other {k k' n i : Nat} {h : Nat → Nat} {f : Nat → va_E} {r : Option Nat} (p : PO e k n h f) (hk : k ≠ k') : PO (wR e k' i r) k n h f := by
  have hr : ∀ j, eR (wR e k' i r) k j = eR e k j := fun j => if_neg (fun q => hk q.1)
  constructor
  · intro j hj
    rw [hr]
    exact p.1 j hj
  · intro j j' a hj hj' h1 h2
    rw [hr] at h1 h2
    exact p.2 j j' a hj hj' h1 h2
theorem PO.new {k n a : Nat} {h : Nat → Nat} {f : Nat → va_E} {x : va_E} (p : PO e k n h f) (ha : a ∉ eL e) : PO (wN e a x) k n h f := ⟨fun j hj => by
  rcases p.1 j hj with ⟨q, b, h1, h2, h3⟩ | ⟨q, h1⟩
  · have hb : b ≠ a := fun q => ha (q ▸ h2)
    refine Or.inl ⟨q, b, h1, List.mem_append_left _ h2, ?_⟩
    show va_up _ _ _ b = _
    unfold va_up
    rw [if_neg hb]
    exact h3
  · exact Or.inr ⟨q, h1⟩, p.2⟩
theorem PO.fresh {k n a i : Nat} {h : Nat → Nat} {f : Nat → va_E} (p : PO e k n h f) (ha : ∀ j, j < n → eR e k j ≠ some a) {h' : Nat → Nat} {f' : Nat → va_E} (hm : a ∈ eL e) (hx : eP e a = f' i) (h1 : h' i = 1) (hh : ∀ j, j < n → j ≠ i → h' j = h j) (hf : ∀ j, j < n → j ≠ i → f' j = f j) : PO (wR e k i (some a)) k n h' f' := by
  have hs : eR (wR e k i (some a)) k i = some a := if_pos ⟨rfl, rfl⟩
  have hr : ∀ j, j ≠ i → eR (wR e k i (some a)) k j = eR e k j := fun j hj => if_neg (fun q => hj q.2)
  constructor
  · intro j hj
    by_cases hji : j = i
    · subst hji
      exact Or.inl ⟨h1, a, hs, hm, hx⟩
    · rw [hr j hji, hh j hj hji, hf j hj hji]
      exact p.1 j hj
  · intro j j' b hj hj' q1 q2
    by_cases hji : j = i
    · by_cases hj2 : j' = i
      · omega
      · rw [hr j' hj2] at q2
        rw [hji, hs] at q1
        exact absurd (q2.trans q1.symm) (ha j' hj')
    · by_cases hj2 : j' = i
      · rw [hr j hji] at q1
        rw [hj2, hs] at q2
        exact absurd (q1.trans q2.symm) (ha j hj)
      · rw [hr j hji] at q1
        rw [hr j' hj2] at q2
        exact p.2 j j' b hj hj' q1 q2
theorem PO.nin {k n a : Nat} {h : Nat → Nat} {f : Nat → va_E} (p : PO e k n h f) (ha : a ∉ eL e) : ∀ j, j < n → eR e k j ≠ some a := fun j hj q => by
  rcases p.1 j hj with ⟨_, b, h1, h2, _⟩ | ⟨_, h1⟩
  · exact ha (Option.some.inj (h1.symm.trans q) ▸ h2)
  · rw [h1] at q; cases q
theorem cls_ch (S : MS) (j : Nat) : clsE (chE S j) = some 0 := rfl
theorem cls_ed (S : MS) (j : Nat) : clsE (edE S j) = some 2 := rfl
theorem cls_su (S : MS) (j g : Nat) : clsE (suE S j g) = some 5 := rfl
/-- a child's content changes with the state -/
theorem RG.setC {S' : MS} {T' : CT} {i a : Nat} (h : RG S G T e) (hi : i < 24) (ha : eR e 0 i = some a) (h1 : S 0 i = 1) (hB : BD S') (hI : IV S') (hT : rowsT S' T') (h0 : ∀ j, S' 0 j = S 0 j) (hc : ∀ j, j < 24 → j ≠ i → chE S' j = chE S j) (h7 : ∀ j, S' 7 j = S 7 j) (he : ∀ j, j < 8 → edE S' j = edE S j) (hs : ∀ j, suH S' j = suH S j) (hu : ∀ j, j < 4 → suE S' j (G j) = suE S j (G j)) : RG S' G T' (wP e a (chE S' i)) := by
  have hcl : clsE (eP e a) = some 0 := by
    rcases h.ch hi with ⟨_, b, q1, _, q3⟩ | ⟨q, _⟩
    · rw [← Option.some.inj (q1.symm.trans ha), q3]; rfl
    · omega
  exact ⟨hB, hI, hT, (h.2.2.2.1.set hi ha rfl hc).congr (fun j _ => h0 j) (fun _ _ _ => rfl), (h.2.2.2.2.1.off (cls_ed S) (by rw [hcl]; decide)).congr (fun j _ => h7 j) (fun j hj _ => he j hj), (h.2.2.2.2.2.off (fun j => cls_su S j (G j)) (by rw [hcl]; decide)).congr (fun j _ => hs j) (fun j hj _ => hu j hj)⟩
theorem RG.setE {S' : MS} {T' : CT} {i a : Nat} (h : RG S G T e) (hi : i < 8) (ha : eR e 1 i = some a) (h1 : S 7 i = 1) (hB : BD S') (hI : IV S') (hT : rowsT S' T') (h0 : ∀ j, S' 0 j = S 0 j) (hc : ∀ j, j < 24 → chE S' j = chE S j) (h7 : ∀ j, S' 7 j = S 7 j) (he : ∀ j, j < 8 → j ≠ i → edE S' j = edE S j) (hs : ∀ j, suH S' j = suH S j) (hu : ∀ j, j < 4 → suE S' j (G j) = suE S j (G j)) : RG S' G T' (wP e a (edE S' i)) := by
  have hcl : clsE (eP e a) = some 2 := by
    rcases h.ed hi with ⟨_, b, q1, _, q3⟩ | ⟨q, _⟩
    · rw [← Option.some.inj (q1.symm.trans ha), q3]; rfl
    · omega
  exact ⟨hB, hI, hT, (h.2.2.2.1.off (cls_ch S) (by rw [hcl]; decide)).congr (fun j _ => h0 j) (fun j hj _ => hc j hj), (h.2.2.2.2.1.set hi ha rfl he).congr (fun j _ => h7 j) (fun _ _ _ => rfl), (h.2.2.2.2.2.off (fun j => cls_su S j (G j)) (by rw [hcl]; decide)).congr (fun j _ => hs j) (fun j hj _ => hu j hj)⟩
theorem RG.setS {G' : Nat → Nat} {i a : Nat} (h : RG S G T e) (hi : i < 4) (ha : eR e 2 i = some a) (h1 : suH S i = 1) (hG : ∀ j, j < 4 → j ≠ i → G' j = G j) : RG S G' T (wP e a (suE S i (G' i))) := by
  have hcl : clsE (eP e a) = some 5 := by
    rcases h.su hi with ⟨_, b, q1, _, q3⟩ | ⟨q, _⟩
    · rw [← Option.some.inj (q1.symm.trans ha), q3]; rfl
    · omega
  exact ⟨h.1, h.2.1, h.2.2.1, h.2.2.2.1.off (cls_ch S) (by rw [hcl]; decide), h.2.2.2.2.1.off (cls_ed S) (by rw [hcl]; decide), h.2.2.2.2.2.set hi ha rfl (fun j hj hji => by show suE S j (G' j) = suE S j (G j); rw [hG j hj hji])⟩
theorem RG.congrG {G' : Nat → Nat} (h : RG S G T e) (hG : ∀ j, j < 4 → G' j = G j) : RG S G' T e := ⟨h.1, h.2.1, h.2.2.1, h.2.2.2.1, h.2.2.2.2.1, h.2.2.2.2.2.congr (fun _ _ => rfl) (fun j hj _ => by show suE S j (G' j) = suE S j (G j); rw [hG j hj])⟩
end
/-- posts of the class's methods: nothing changes; rows of scratch do; the state does -/
def pZc (t : CS) (x : Int32) : Option Value → CS → Prop := pI (fun r u => x = r ∧ t = u)
def pBc (t : CS) (b : Bool) : Option Value → CS → Prop := pI (fun r u => bI b = r ∧ t = u)
def pNc (t : CS) (F B : Nat) : Option Value → CS → Prop := pI (fun r u => ∃ n : Nat, n = F ∧ n ≤ B ∧ nI n = r ∧ t = u)
def pLc (t : CS) (x : Int64) : Option Value → CS → Prop := pL (fun r u => x = r ∧ t = u)
/-- with the rows l anew -/
def pNs (l : List Nat) (T : CT) (e : CE) (F B : Nat) : Option Value → CS → Prop := pI (fun r u => ∃ (n : Nat) (T' : CT), n = F ∧ n ≤ B ∧ nI n = r ∧ (T', e) = u ∧ SM l T T')
def pBs (l : List Nat) (T : CT) (e : CE) (b : Bool) : Option Value → CS → Prop := pI (fun r u => ∃ T' : CT, bI b = r ∧ (T', e) = u ∧ SM l T T')
def pVs (l : List Nat) (T : CT) (e : CE) (φ : CT → Prop) : Option Value → CS → Prop := pV (fun u => ∃ T' : CT, (T', e) = u ∧ SM l T T' ∧ φ T')
/-- a method of the document's: its answer, and the states side by side behind it -/
def pR (R : Int32) (N : MS) : Option Value → CS → Prop := pI (fun r u => R = r ∧ RR N u.1 u.2)
/-! rows -/
section
variable {K : Ctx} {cc : ByteArray} {nL : Nat} {own : String} {D : va_G} {Y : Nat → ClassId} {cells slots : Nat} {lv : List (Nat × Value)} {pc tgt : Nat} {off : Int} {st : List Value} {ad : Nat → Nat} {T : CT} {e : CE} {S : MS} {G : Nat → Nat}
theorem jc_ch (X : CX K cc nL own D Y) (h : RG S G T e) {i : Nat} (hi : i < 24) (hdg : decode cc pc = .ok (.aaload, 1)) (k1 : ∀ a : Nat, S 0 i = 1 → eR e 0 i = some a → a ∈ eL e → eP e a = chE S i → JJ K D cells slots (WC ad Y (T, e)) lv (pc + 1) (.ref a :: st)) (k0 : S 0 i = 0 → eR e 0 i = none → JJ K D cells slots (WC ad Y (T, e)) lv (pc + 1) (.null :: st)) : JJ K D cells slots (WC ad Y (T, e)) lv pc (.int (nI i) :: .ref (ad 10) :: st) := by
  refine jc_ald_r0 X hi hdg ?_
  rcases h.ch hi with ⟨q, a, h1, h2, h3⟩ | ⟨q, h1⟩
  · rw [h1]; exact k1 a q h1 h2 h3
  · rw [h1]; exact k0 q h1
theorem jc_ed (X : CX K cc nL own D Y) (h : RG S G T e) {i : Nat} (hi : i < 8) (hdg : decode cc pc = .ok (.aaload, 1)) (k1 : ∀ a : Nat, S 7 i = 1 → eR e 1 i = some a → a ∈ eL e → eP e a = edE S i → JJ K D cells slots (WC ad Y (T, e)) lv (pc + 1) (.ref a :: st)) (k0 : S 7 i = 0 → eR e 1 i = none → JJ K D cells slots (WC ad Y (T, e)) lv (pc + 1) (.null :: st)) : JJ K D cells slots (WC ad Y (T, e)) lv pc (.int (nI i) :: .ref (ad 11) :: st) := by
  refine jc_ald_r1 X hi hdg ?_
  rcases h.ed hi with ⟨q, a, h1, h2, h3⟩ | ⟨q, h1⟩
  · rw [h1]; exact k1 a q h1 h2 h3
  · rw [h1]; exact k0 q h1
theorem jc_su (X : CX K cc nL own D Y) (h : RG S G T e) {i : Nat} (hi : i < 4) (hdg : decode cc pc = .ok (.aaload, 1)) (k1 : ∀ a : Nat, suH S i = 1 → eR e 2 i = some a → a ∈ eL e → eP e a = suE S i (G i) → JJ K D cells slots (WC ad Y (T, e)) lv (pc + 1) (.ref a :: st)) (k0 : suH S i = 0 → eR e 2 i = none → JJ K D cells slots (WC ad Y (T, e)) lv (pc + 1) (.null :: st)) : JJ K D cells slots (WC ad Y (T, e)) lv pc (.int (nI i) :: .ref (ad 12) :: st) := by
  refine jc_ald_r2 X hi hdg ?_
  rcases h.su hi with ⟨q, a, h1, h2, h3⟩ | ⟨q, h1⟩
  · rw [h1]; exact k1 a q h1 h2 h3
  · rw [h1]; exact k0 q h1
theorem j_areturnR (X : CX K cc nL own D Y) {T : Type} {post : Option Value → T → Prop} {Wf : T → va_W} {a : Nat} {n : String} {ws : va_W} (E : EX K post Wf D cells slots (some (.object n))) (u : T) (hw : ws = Wf u) (hp : post (some (.ref a)) u) (hdg : decode cc pc = .ok (.areturn, 1)) : JJ K D cells slots ws lv pc [.ref a] := j_areturn X (r := some a) E u hw hp hdg
theorem j_areturnN (X : CX K cc nL own D Y) {T : Type} {post : Option Value → T → Prop} {Wf : T → va_W} {n : String} {ws : va_W} (E : EX K post Wf D cells slots (some (.object n))) (u : T) (hw : ws = Wf u) (hp : post (some .null) u) (hdg : decode cc pc = .ok (.areturn, 1)) : JJ K D cells slots ws lv pc [.null] := j_areturn X (r := none) E u hw hp hdg
theorem jc_put0 (X : CX K cc nL own D Y) {idx : Nat} {v : Int32} (hl : Cond.fieldLink own idx (TX6 4).1 (TX6 4).2.1 (TX6 4).2.2.1 ∈ lw_g) (hdg : decode cc pc = .ok (.putfield idx, 3)) (kk : ∀ T' : CT, T' = uI T 10 0 v → JJ K D cells slots (WC ad Y (T', e)) lv (pc + 3) st) : JJ K D cells slots (WC ad Y (T, e)) lv pc (.int v :: .ref (ad 16) :: st) := j_putf X ly_X6 tyX6 tyX6_ok nmX6 0 rfl rfl 4 (by decide) hl rfl rfl rfl rfl (Nat.le_of_ble_eq_true rfl) WC_s0 hdg (kk _ rfl)
theorem jc_put1 (X : CX K cc nL own D Y) {idx : Nat} {v : Int32} (hl : Cond.fieldLink own idx (TX6 5).1 (TX6 5).2.1 (TX6 5).2.2.1 ∈ lw_g) (hdg : decode cc pc = .ok (.putfield idx, 3)) (kk : ∀ T' : CT, T' = uI T 10 1 v → JJ K D cells slots (WC ad Y (T', e)) lv (pc + 3) st) : JJ K D cells slots (WC ad Y (T, e)) lv pc (.int v :: .ref (ad 16) :: st) := j_putf X ly_X6 tyX6 tyX6_ok nmX6 0 rfl rfl 5 (by decide) hl rfl rfl rfl rfl (Nat.le_of_ble_eq_true rfl) WC_s1 hdg (kk _ rfl)
theorem jc_put2 (X : CX K cc nL own D Y) {idx : Nat} {v : Int32} (hl : Cond.fieldLink own idx (TX4 1).1 (TX4 1).2.1 (TX4 1).2.2.1 ∈ lw_g) (hdg : decode cc pc = .ok (.putfield idx, 3)) (kk : ∀ T' : CT, T' = uI T 10 2 v → JJ K D cells slots (WC ad Y (T', e)) lv (pc + 3) st) : JJ K D cells slots (WC ad Y (T, e)) lv pc (.int v :: .ref (ad 13) :: st) := j_putf X ly_X4 tyX4 tyX4_ok nmX4 4 rfl rfl 1 (by decide) hl rfl rfl rfl rfl (Nat.le_of_ble_eq_true rfl) WC_s2 hdg (kk _ rfl)
theorem jc_put3 (X : CX K cc nL own D Y) {idx : Nat} {v : Int32} (hl : Cond.fieldLink own idx (TX1 1).1 (TX1 1).2.1 (TX1 1).2.2.1 ∈ lw_g) (hdg : decode cc pc = .ok (.putfield idx, 3)) (kk : ∀ T' : CT, T' = uI T 10 3 v → JJ K D cells slots (WC ad Y (T', e)) lv (pc + 3) st) : JJ K D cells slots (WC ad Y (T, e)) lv pc (.int v :: .ref (ad 14) :: st) := j_putf X ly_X1 tyX1 tyX1_ok nmX1 5 rfl rfl 1 (by decide) hl rfl rfl rfl rfl (Nat.le_of_ble_eq_true rfl) WC_s3 hdg (kk _ rfl)
theorem jc_put4 (X : CX K cc nL own D Y) {idx : Nat} {v : Int32} (hl : Cond.fieldLink own idx (TX1 3).1 (TX1 3).2.1 (TX1 3).2.2.1 ∈ lw_g) (hdg : decode cc pc = .ok (.putfield idx, 3)) (kk : ∀ T' : CT, T' = uI T 11 0 v → JJ K D cells slots (WC ad Y (T', e)) lv (pc + 3) st) : JJ K D cells slots (WC ad Y (T, e)) lv pc (.int v :: .ref (ad 14) :: st) := j_putf X ly_X1 tyX1 tyX1_ok nmX1 5 rfl rfl 3 (by decide) hl rfl rfl rfl rfl (Nat.le_of_ble_eq_true rfl) WC_s4 hdg (kk _ rfl)
theorem jc_putB (X : CX K cc nL own D Y) {idx : Nat} {v : Int64} (hl : Cond.fieldLink own idx (TX4 2).1 (TX4 2).2.1 (TX4 2).2.2.1 ∈ lw_g) (hdg : decode cc pc = .ok (.putfield idx, 3)) (kk : JJ K D cells slots (WC ad Y (T, wB e v)) lv (pc + 3) st) : JJ K D cells slots (WC ad Y (T, e)) lv pc (.long v :: .ref (ad 13) :: st) := j_putf X ly_X4 tyX4 tyX4_ok nmX4 4 rfl rfl 2 (by decide) hl rfl rfl rfl rfl (Nat.le_of_ble_eq_true rfl) WC_sB hdg kk
end
theorem spP_uM {S : MS} {k c k' i v : Nat} (h : k ≠ k') (h2 : k + 1 ≠ k') : spP (uM S k' i v) k c = spP S k c := by
  funext q
  unfold spP
  rw [uM_nk h, uM_nk h2]
theorem hoP_uM {S : MS} {x k' i v : Nat} (h : 10 ≠ k') : hoP (uM S k' i v) x = hoP S x := by
  funext q
  unfold hoP
  rw [uM_nk h]

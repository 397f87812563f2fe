/-! A town, its cells; what changes it -/
def agr (h h' : HP) (x : Nat) : Prop := hS h' x = hS h x ∧ hF h' x = hF h x ∧ hI h' x = hI h x
theorem agr_rfl (h : HP) (x : Nat) : agr h h x := ⟨rfl, rfl, rfl⟩
theorem agr_trans {h h' h'' : HP} {x : Nat} (p : agr h h' x) (q : agr h' h'' x) : agr h h'' x := ⟨q.1.trans p.1, q.2.1.trans p.2.1, q.2.2.trans p.2.2⟩
theorem agr_pI {h h' : HP} {x a : Nat} {f : Nat → Int32} (hx : x ≠ a) (p : agr h h' x) : agr h (pI h' a f) x := ⟨p.1, p.2.1, by rw [hI_pI, if_neg hx]; exact p.2.2⟩
theorem agr_pF {h h' : HP} {x a j : Nat} {v : Value} (hx : x ≠ a) (p : agr h h' x) : agr h (pF h' a j v) x := ⟨p.1, by funext y; rw [hF_pF, if_neg (fun z => hx z.1)]; exact congrFun p.2.1 y, p.2.2⟩
abbrev TW : Type := List St × List St × List (List St)
def gP (P : List (List St)) (j : Nat) : List St := P.getD j []
def psR (F Z : Nat → Int32) (P : List (List St)) : Prop := ∀ j, j < P.length → Z j = nI (gP P j).length ∧ sR (fun t => F (j * 24 + t)) (gP P j) ∧ vL (gP P j) ∧ (gP P j).length ≤ 6
def isP (h : HP) (a : Nat) (P : List (List St)) : Prop := isPs h a P.length ∧ psR (hI h (a + 1)) (hI h (a + 2)) P
def isT (h : HP) (t : Nat) (u : TW) : Prop := hS h t = (0, 4) ∧ hF h t 0 = .ref (t + 1) ∧ hF h t 1 = .ref (t + 3) ∧ hF h t 2 = .ref (t + 5) ∧ isS h (t + 1) u.1 ∧ isN h (t + 3) u.2.1 ∧ isP h (t + 5) u.2.2
theorem isR_agr {h h' : HP} {a n : Nat} (p : ∀ x, a ≤ x → x < a + 2 → agr h h' x) (hA : isR h a n) : isR h' a n := by
  obtain ⟨q1, q2, q3⟩ := p a (by omega) (by omega)
  obtain ⟨r1, r2, r3⟩ := p (a + 1) (by omega) (by omega)
  unfold isR
  rw [q1, q2, r1]
  exact hA
theorem isS_agr {h h' : HP} {a : Nat} {L : List St} (p : ∀ x, a ≤ x → x < a + 2 → agr h h' x) (hA : isS h a L) : isS h' a L := by
  obtain ⟨h1, h2, h3, h4⟩ := hA
  refine ⟨(p a (by omega) (by omega)).1.trans h1, isR_agr p h2, ?_, h4⟩
  rw [(p (a + 1) (by omega) (by omega)).2.2]; exact h3
theorem isN_agr {h h' : HP} {a : Nat} {L : List St} (p : ∀ x, a ≤ x → x < a + 2 → agr h h' x) (hA : isN h a L) : isN h' a L := by
  obtain ⟨h1, h2, h3, h4⟩ := hA
  refine ⟨(p a (by omega) (by omega)).1.trans h1, isR_agr p h2, ?_, h4⟩
  rw [(p (a + 1) (by omega) (by omega)).2.2]; exact h3
theorem isPs_agr {h h' : HP} {a d : Nat} (p : ∀ x, a ≤ x → x < a + 3 → agr h h' x) (hA : isPs h a d) : isPs h' a d := by
  obtain ⟨q1, q2, q3⟩ := p a (by omega) (by omega)
  obtain ⟨r1, r2, r3⟩ := p (a + 1) (by omega) (by omega)
  obtain ⟨t1, t2, t3⟩ := p (a + 2) (by omega) (by omega)
  unfold isPs
  rw [q1, q2, r1, t1]
  exact hA
theorem isP_agr {h h' : HP} {a : Nat} {P : List (List St)} (p : ∀ x, a ≤ x → x < a + 3 → agr h h' x) (hA : isP h a P) : isP h' a P := by
  refine ⟨isPs_agr p hA.1, ?_⟩
  rw [(p (a + 1) (by omega) (by omega)).2.2, (p (a + 2) (by omega) (by omega)).2.2]
  exact hA.2
theorem isT_agr {h h' : HP} {t : Nat} {u : TW} (p : ∀ x, t ≤ x → x < t + 8 → agr h h' x) (hA : isT h t u) : isT h' t u := by
  obtain ⟨h1, h2, h3, h4, h5, h6, h7⟩ := hA
  obtain ⟨q1, q2, q3⟩ := p t (by omega) (by omega)
  exact ⟨q1.trans h1, by rw [q2]; exact h2, by rw [q2]; exact h3, by rw [q2]; exact h4, isS_agr (fun x a b => p x (by omega) (by omega)) h5, isN_agr (fun x a b => p x (by omega) (by omega)) h6, isP_agr (fun x a b => p x (by omega) (by omega)) h7⟩
theorem gS_set (L : List St) (j i : Nat) (s : St) (hj : j < L.length) : gS (L.set j s) i = if i = j then s else gS L i := by
  unfold gS
  rw [List.getD_eq_getElem?_getD, List.getD_eq_getElem?_getD, List.getElem?_set]
  by_cases h : j = i
  · subst h; simp [hj]
  · rw [if_neg h, if_neg (fun z => h z.symm)]
theorem gS_app (L : List St) (s : St) (i : Nat) (hi : i < L.length + 1) : gS (L ++ [s]) i = if i = L.length then s else gS L i := by
  unfold gS
  rw [List.getD_eq_getElem?_getD, List.getD_eq_getElem?_getD, List.getElem?_append]
  by_cases h : i < L.length
  · rw [if_pos h, if_neg (by omega)]
  · have : i = L.length := by omega
    subst this; simp
theorem gS_eraseIdx (L : List St) (t i : Nat) : gS (L.eraseIdx t) i = if i < t then gS L i else gS L (i + 1) := by
  unfold gS
  rw [List.getD_eq_getElem?_getD, List.getD_eq_getElem?_getD, List.getD_eq_getElem?_getD, List.getElem?_eraseIdx]
  split <;> rfl
theorem sR_up {f : Nat → Int32} {L : List St} {j : Nat} {s : St} (hR : sR f L) (hj : j < L.length) {f' : Nat → Int32} (ho : ∀ k, k < L.length → k ≠ j → ∀ w, w < 4 → f' (k * 4 + w) = f (k * 4 + w)) (h0 : f' (j * 4 + 0) = nI s.1) (h1 : f' (j * 4 + 1) = nI s.2.1) (h2 : f' (j * 4 + 2) = nI s.2.2.1) (h3 : f' (j * 4 + 3) = nI s.2.2.2) : sR f' (L.set j s) := by
  intro k hk
  rw [List.length_set] at hk
  rw [gS_set L j k s hj]
  by_cases e : k = j
  · subst e; rw [if_pos rfl]; exact ⟨h0, h1, h2, h3⟩
  · rw [if_neg e, ho k hk e 0 (by decide), ho k hk e 1 (by decide), ho k hk e 2 (by decide), ho k hk e 3 (by decide)]
    exact hR k hk
theorem vL_set {L : List St} {j : Nat} {s : St} (hj : j < L.length) (hV : vL L) (hs : vS s) : vL (L.set j s) := by
  intro k hk
  rw [List.length_set] at hk
  rw [gS_set L j k s hj]
  split
  · exact hs
  · exact hV k hk
theorem sR_congr {f f' : Nat → Int32} {L : List St} (hl : L.length ≤ 6) (he : ∀ t, t < 24 → f' t = f t) (hR : sR f L) : sR f' L := by
  intro j hj
  rw [he _ (by omega), he _ (by omega), he _ (by omega), he _ (by omega)]
  exact hR j hj
/-- a stick is worn, snapped -/
def wdL (L : List St) (j m : Nat) : List St := L.set j ((gS L j).1, (gS L j).2.1, (gS L j).2.2.1, min 9 ((gS L j).2.2.2 + m))
def snL (L : List St) (j x : Nat) : List St := L.set j ((gS L j).1, (gS L j).2.1, x, (gS L j).2.2.2)
theorem isS_wd {h : HP} {a j m : Nat} {L : List St} (hA : isS h a L) (hj : j < L.length) : isS (pI h (a + 1) (upd (hI h (a + 1)) (j * 4 + 3) (nI (min 9 ((gS L j).2.2.2 + m))))) a (wdL L j m) := by
  obtain ⟨h1, h2, h3, h4⟩ := hA
  obtain ⟨v1, v2, v3, v4⟩ := h4 j hj
  obtain ⟨e0, e1, e2, e3⟩ := h3 j hj
  refine ⟨h1, ?_, ?_, ?_⟩
  · rw [wdL, List.length_set]; exact isR_pI h2
  · rw [hI_pIs]
    refine sR_up h3 hj (fun k hk hne w hw => pk_un (by omega)) ?_ ?_ ?_ ?_
    · rw [pk_un (by omega)]; exact e0
    · rw [pk_un (by omega)]; exact e1
    · rw [pk_un (by omega)]; exact e2
    · rw [upd, if_pos rfl]
  · exact vL_set hj h4 ⟨v1, v2, v3, Nat.min_le_left _ _⟩
theorem isS_sn {h : HP} {a j x : Nat} {L : List St} (hA : isS h a L) (hj : j < L.length) (hx : 1 ≤ x ∧ x ≤ 9) : isS (pI h (a + 1) (upd (hI h (a + 1)) (j * 4 + 2) (nI x))) a (snL L j x) := by
  obtain ⟨h1, h2, h3, h4⟩ := hA
  obtain ⟨v1, v2, v3, v4⟩ := h4 j hj
  obtain ⟨e0, e1, e2, e3⟩ := h3 j hj
  refine ⟨h1, ?_, ?_, ?_⟩
  · rw [snL, List.length_set]; exact isR_pI h2
  · rw [hI_pIs]
    refine sR_up h3 hj (fun k hk hne w hw => pk_un (by omega)) ?_ ?_ ?_ ?_
    · rw [pk_un (by omega)]; exact e0
    · rw [pk_un (by omega)]; exact e1
    · rw [upd, if_pos rfl]
    · rw [pk_un (by omega)]; exact e3
  · exact vL_set hj h4 ⟨v1, v2, hx, v4⟩
/-- one more row -/
theorem rAdd_old (f : Nat → Int32) (n : Nat) (v0 v1 v2 v3 : Int32) (t : Nat) (ht : t < n * 4) : rAdd f n v0 v1 v2 v3 t = f t := by
  unfold rAdd
  rw [pk_un (by omega), pk_un (by omega), pk_un (by omega), pk_un (by omega)]
theorem sR_add {f : Nat → Int32} {L : List St} {s : St} (hR : sR f L) : sR (rAdd f L.length (nI s.1) (nI s.2.1) (nI s.2.2.1) (nI s.2.2.2)) (L ++ [s]) := by
  intro k hk
  rw [List.length_append, List.length_singleton] at hk
  rw [gS_app L s k hk]
  by_cases e : k = L.length
  · subst e
    rw [if_pos rfl]
    unfold rAdd
    refine ⟨?_, ?_, ?_, ?_⟩
    · rw [pk_un (by omega), pk_un (by omega), pk_un (by omega), upd, if_pos rfl]
    · rw [pk_un (by omega), pk_un (by omega), upd, if_pos rfl]
    · rw [pk_un (by omega), upd, if_pos rfl]
    · rw [upd, if_pos rfl]
  · rw [if_neg e, rAdd_old _ _ _ _ _ _ _ (by omega), rAdd_old _ _ _ _ _ _ _ (by omega), rAdd_old _ _ _ _ _ _ _ (by omega), rAdd_old _ _ _ _ _ _ _ (by omega)]
    exact hR k (by omega)
theorem isR_add {h : HP} {a n : Nat} {f : Nat → Int32} (hA : isR h a n) (hn : n < 6) : isR (pI (pF h a 1 (.int (nI (n + 1)))) (a + 1) f) a (n + 1) := isR_pI (isR_sz (by omega) hA)
theorem isS_add {h : HP} {a : Nat} {L : List St} {s : St} (hA : isS h a L) (hl : L.length < 6) (hs : vS s) : isS (pI (pF h a 1 (.int (nI (L.length + 1)))) (a + 1) (rAdd (hI h (a + 1)) L.length (nI s.1) (nI s.2.1) (nI s.2.2.1) (nI s.2.2.2))) a (L ++ [s]) := by
  obtain ⟨h1, h2, h3, h4⟩ := hA
  refine ⟨h1, ?_, ?_, ?_⟩
  · rw [List.length_append, List.length_singleton]; exact isR_add h2 hl
  · rw [hI_pIs]; exact sR_add h3
  · intro k hk
    rw [List.length_append, List.length_singleton] at hk
    rw [gS_app L s k hk]
    split
    · exact hs
    · exact h4 k (by omega)
theorem isN_add {h : HP} {a : Nat} {L : List St} {s : St} (hA : isN h a L) (hl : L.length < 6) (hs : vN s) : isN (pI (pF h a 1 (.int (nI (L.length + 1)))) (a + 1) (rAdd (hI h (a + 1)) L.length (nI s.1) (nI s.2.1) (nI s.2.2.1) (nI s.2.2.2))) a (L ++ [s]) := by
  obtain ⟨h1, h2, h3, h4⟩ := hA
  refine ⟨h1, ?_, ?_, ?_⟩
  · rw [List.length_append, List.length_singleton]; exact isR_add h2 hl
  · rw [hI_pIs]; exact sR_add h3
  · intro k hk
    rw [List.length_append, List.length_singleton] at hk
    rw [gS_app L s k hk]
    split
    · exact hs
    · exact h4 k (by omega)
theorem isS_nil {h : HP} {a : Nat} {L : List St} (hA : isS h a L) : isS (pF h a 1 (.int (nI 0))) a [] := ⟨hA.1, isR_sz (by decide) hA.2.1, fun j hj => absurd hj (Nat.not_lt_zero j), fun j hj => absurd hj (Nat.not_lt_zero j)⟩
theorem isN_nil {h : HP} {a : Nat} {L : List St} (hA : isN h a L) : isN (pF h a 1 (.int (nI 0))) a [] := ⟨hA.1, isR_sz (by decide) hA.2.1, fun j hj => absurd hj (Nat.not_lt_zero j), fun j hj => absurd hj (Nat.not_lt_zero j)⟩
theorem isP_nil {h : HP} {a : Nat} {P : List (List St)} (hA : isP h a P) : isP (pF h a 2 (.int (nI 0))) a [] := by
  obtain ⟨⟨hs, h0, h1, h2, hd, hf, hz⟩, _⟩ := hA
  refine ⟨⟨hs, ?_, ?_, ?_, Nat.zero_le 6, hf, hz⟩, fun j hj => absurd hj (Nat.not_lt_zero j)⟩
  · rw [hF_pF, if_neg (by omega)]; exact h0
  · rw [hF_pF, if_neg (by omega)]; exact h1
  · rw [hF_pF, if_pos ⟨rfl, rfl⟩]; rfl

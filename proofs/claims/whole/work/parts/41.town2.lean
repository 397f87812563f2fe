/-! Two sticks laid together; what is kept, given back, copied -/
theorem shf_at (i : Nat) (f : Nat → Int32) (t : Nat) : shf i f t = if i * 4 ≤ t ∧ t < i * 4 + 4 then f (t + 4) else f t := by
  simp only [shf, it, upd]
  repeat' split
  all_goals first | rfl | (exfalso; omega) | (congr 1; omega)
theorem shfs_at : ∀ (m t : Nat) (f : Nat → Int32) (k : Nat), it shf m t f k = if t * 4 ≤ k ∧ k < (t + m) * 4 then f (k + 4) else f k := by
  intro m
  induction m with
  | zero => intro t f k; rw [it, if_neg (by omega)]
  | succ m ih =>
    intro t f k
    rw [it, ih, shf_at, shf_at]
    by_cases h1 : (t + 1) * 4 ≤ k ∧ k < (t + 1 + m) * 4
    · rw [if_pos h1, if_neg (by omega), if_pos (by omega)]
    · rw [if_neg h1]
      by_cases h2 : t * 4 ≤ k ∧ k < t * 4 + 4
      · rw [if_pos h2, if_pos (by omega)]
      · rw [if_neg h2, if_neg (by omega)]
def jnL (L : List St) (s t : Nat) : List St := (L.set s ((gS L s).1, toN (gS L s).2.1 (gS L t).2.1, (gS L s).2.2.1, mxN (gS L s).2.2.2 (gS L t).2.2.2)).eraseIdx t
theorem isS_jn {h : HP} {a s t : Nat} {L : List St} (hA : isS h a L) (hs : s < t) (ht : t < L.length) (hn : isNm (toN (gS L s).2.1 (gS L t).2.1) = true) : isS (pF (pI h (a + 1) (jnF (hI h (a + 1)) L.length s t (nI (toN (gS L s).2.1 (gS L t).2.1)) (nI (mxN (gS L s).2.2.2 (gS L t).2.2.2)))) a 1 (.int (nI (L.length - 1)))) a (jnL L s t) := by
  obtain ⟨h1, h2, h3, h4⟩ := hA
  have hs' : s < L.length := by omega
  obtain ⟨v1, v2, v3, v4⟩ := h4 s hs'
  obtain ⟨u1, u2, u3, u4⟩ := h4 t ht
  obtain ⟨e0, e1, e2, e3⟩ := h3 s hs'
  have hl : (jnL L s t).length = L.length - 1 := by
    unfold jnL
    rw [List.length_eraseIdx, List.length_set, if_pos ht]
  have hr := h2.2.2.2.1
  generalize hs1 : ((gS L s).1, toN (gS L s).2.1 (gS L t).2.1, (gS L s).2.2.1, mxN (gS L s).2.2.2 (gS L t).2.2.2) = s1
  have hv : vS s1 := by
    subst hs1
    refine ⟨v1, hn, v3, ?_⟩
    show mxN _ _ ≤ 9
    unfold mxN; split <;> assumption
  have hR1 : sR (upd (upd (hI h (a + 1)) (s * 4 + 1) (nI (toN (gS L s).2.1 (gS L t).2.1))) (s * 4 + 3) (nI (mxN (gS L s).2.2.2 (gS L t).2.2.2))) (L.set s s1) := by
    subst hs1
    refine sR_up h3 hs' (fun k hk hne w hw => ?_) ?_ ?_ ?_ ?_
    · rw [pk_un (by omega), pk_un (by omega)]
    · rw [pk_un (by omega), pk_un (by omega)]; exact e0
    · rw [pk_un (by omega), upd, if_pos rfl]
    · rw [pk_un (by omega), pk_un (by omega)]; exact e2
    · rw [upd, if_pos rfl]
  have hV1 : vL (L.set s s1) := vL_set hs' h4 hv
  refine ⟨h1, ?_, ?_, ?_⟩
  · rw [hl]; exact isR_sz (by omega) (isR_pI h2)
  · rw [hI_pF, hI_pIs]
    intro j hj
    rw [hl] at hj
    rw [jnL, hs1, gS_eraseIdx, jnF, shfs_at, shfs_at, shfs_at, shfs_at]
    by_cases hc : j < t
    · rw [if_pos hc, if_neg (by omega), if_neg (by omega), if_neg (by omega), if_neg (by omega)]
      exact hR1 j (by rw [List.length_set]; omega)
    · rw [if_neg hc, if_pos (by omega), if_pos (by omega), if_pos (by omega), if_pos (by omega)]
      have := hR1 (j + 1) (by rw [List.length_set]; omega)
      rw [show j * 4 + 0 + 4 = (j + 1) * 4 + 0 by omega, show j * 4 + 1 + 4 = (j + 1) * 4 + 1 by omega, show j * 4 + 2 + 4 = (j + 1) * 4 + 2 by omega, show j * 4 + 3 + 4 = (j + 1) * 4 + 3 by omega]
      exact this
  · intro j hj
    rw [hl] at hj
    rw [jnL, hs1, gS_eraseIdx]
    split
    · exact hV1 j (by rw [List.length_set]; omega)
    · exact hV1 (j + 1) (by rw [List.length_set]; omega)
/-- what is kept ahead of a change -/
def lsP (P : List (List St)) : List (List St) := if P.length = 6 then P.drop 1 else P
def kpP (P : List (List St)) (L : List St) : List (List St) := lsP P ++ [L]
theorem lsP_len (P : List (List St)) : (lsP P).length = lsD P.length := by
  unfold lsP lsD
  split
  · rename_i h; rw [List.length_drop, h]
  · rfl
theorem gP_drop (P : List (List St)) (j : Nat) : gP (P.drop 1) j = gP P (j + 1) := by
  unfold gP
  rw [List.getD_eq_getElem?_getD, List.getD_eq_getElem?_getD, List.getElem?_drop, Nat.add_comm]
theorem gP_app (P : List (List St)) (s : List St) (i : Nat) (hi : i < P.length + 1) : gP (P ++ [s]) i = if i = P.length then s else gP P i := by
  unfold gP
  rw [List.getD_eq_getElem?_getD, List.getD_eq_getElem?_getD, List.getElem?_append]
  by_cases h : i < P.length
  · rw [if_pos h, if_neg (by omega)]
  · have : i = P.length := by omega
    subst this; simp
theorem psR_ls {F Z : Nat → Int32} {P : List (List St)} (hR : psR F Z P) : psR (lsF F P.length) (lsZ Z P.length) (lsP P) := by
  unfold lsF lsZ lsP
  by_cases h : P.length = 6
  · rw [if_pos h, if_pos h, if_pos h]
    intro j hj
    rw [List.length_drop, h] at hj
    rw [gP_drop]
    obtain ⟨z, r, v, l⟩ := hR (j + 1) (by omega)
    refine ⟨?_, ?_, v, l⟩
    · rw [← z]
      show (if 0 ≤ j ∧ j < 0 + 5 then Z (1 + (j - 0)) else Z j) = _
      rw [if_pos (by omega)]; congr 1; omega
    · refine sR_congr l (fun t ht => ?_) r
      show (if 0 ≤ j * 24 + t ∧ j * 24 + t < 0 + 120 then F (24 + (j * 24 + t - 0)) else F (j * 24 + t)) = _
      rw [if_pos (by omega)]; congr 1; omega
  · rw [if_neg h, if_neg h, if_neg h]; exact hR
theorem psR_kp {F Z S : Nat → Int32} {P : List (List St)} {L : List St} (hR : psR F Z P) (hL : L.length ≤ 6) (hS : sR S L) (hV : vL L) (hP : P.length < 6) : psR (va_cpy S F 0 (P.length * 24) 24) (upd Z P.length (nI L.length)) (P ++ [L]) := by
  intro j hj
  rw [List.length_append, List.length_singleton] at hj
  rw [gP_app P L j hj]
  by_cases e : j = P.length
  · subst e
    rw [if_pos rfl]
    refine ⟨by rw [upd, if_pos rfl], ?_, hV, hL⟩
    refine sR_congr hL (fun t ht => ?_) hS
    show (if P.length * 24 ≤ P.length * 24 + t ∧ P.length * 24 + t < P.length * 24 + 24 then S (0 + (P.length * 24 + t - P.length * 24)) else F (P.length * 24 + t)) = _
    rw [if_pos (by omega)]; congr 1; omega
  · rw [if_neg e]
    obtain ⟨z, r, v, l⟩ := hR j (by omega)
    refine ⟨by rw [pk_un (by omega)]; exact z, ?_, v, l⟩
    refine sR_congr l (fun t ht => ?_) r
    show (if P.length * 24 ≤ j * 24 + t ∧ j * 24 + t < P.length * 24 + 24 then S (0 + (j * 24 + t - P.length * 24)) else F (j * 24 + t)) = _
    rw [if_neg (by omega)]
section T2
variable {g : GL} {h : HP} {Φ : Value → HP → Prop} {a s : Nat} {L : List St} {P : List (List St)}
theorem lsD_le (d : Nat) (hd : d ≤ 6) : lsD d < 6 := by unfold lsD; split <;> omega
/-- the heap once the sticks at s are kept in the past at a -/
def kpH (h : HP) (a s : Nat) (L : List St) (d : Nat) : HP := pF (pI (pI h (a + 1) (va_cpy (hI h (s + 1)) (lsF (hI h (a + 1)) d) 0 (lsD d * 24) 24)) (a + 2) (upd (lsZ (hI h (a + 2)) d) (lsD d) (nI L.length))) a 2 (.int (nI (lsD d + 1)))
theorem q_keepS (hP : isP h a P) (hA : isS h s L) (hsa : s ≠ a) (hsb : s ≠ a + 1) : J g k_X1_keep 0 [.ref a, .ref s] [] [] h Φ = Φ .null (kpH h a s L P.length) := by
  obtain ⟨h1, ⟨h2, h3, h4, h5, h6⟩, _⟩ := hA
  rw [q_keep hP.1 hsa hsb h1 h3 h4 h6]
  rfl
theorem isP_kp (hP : isP h a P) (hA : isS h s L) : isP (kpH h a s L P.length) a (kpP P L) := by
  have hl : (kpP P L).length = lsD P.length + 1 := by rw [kpP, List.length_append, List.length_singleton, lsP_len]
  have h6 := lsD_le _ hP.1.2.2.2.2.1
  refine ⟨?_, ?_⟩
  · rw [hl]; exact isPs_d (by omega) hP.1
  · unfold kpH
    rw [hI_pF, hI_pF, hI_pIs, hI_pI, if_neg (by omega), hI_pIs]
    have := psR_kp (psR_ls hP.2) hA.2.1.2.2.2.1 hA.2.2.1 hA.2.2.2 (by rw [lsP_len]; exact h6)
    rw [lsP_len] at this
    exact this
theorem agr_kp {n : Nat} {x : Nat} (h1 : x ≠ a) (h2 : x ≠ a + 1) (h3 : x ≠ a + 2) : agr h (kpH h a s L n) x := agr_pF h1 (agr_pI h3 (agr_pI h2 (agr_rfl h x)))
end T2

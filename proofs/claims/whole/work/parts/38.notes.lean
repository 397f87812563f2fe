/-! Notes; what is kept of the past; a town -/
theorem J_all (F : Nat → Prop) (ok : Nat → Bool) (n : Nat) (A R : Prop) (hs : ∀ i, i < n → F i = if ok i = true then F (i + 1) else R) (hf : F n = A) : F 0 = if (∀ j, j < n → ok j = true) then A else R := by
  have key : ∀ m i, i + m = n → F i = if (∀ j, j < m → ok (i + j) = true) then A else R := by
    intro m
    induction m with
    | zero =>
      intro i hi
      have : i = n := hi
      subst this
      rw [if_pos (fun j h1 => absurd h1 (Nat.not_lt_zero j)), hf]
    | succ m ih =>
      intro i hi
      rw [hs i (by omega), ih (i + 1) (by omega)]
      by_cases hc : ok i = true
      · rw [if_pos hc]
        by_cases hd : ∀ j, j < m → ok (i + 1 + j) = true
        · rw [if_pos hd, if_pos (fun j h1 => by
            match j, h1 with
            | 0, _ => exact hc
            | j + 1, h1 => rw [show i + (j + 1) = i + 1 + j by omega]; exact hd j (by omega))]
        · rw [if_neg hd, if_neg (fun z => hd (fun j h1 => by rw [show i + 1 + j = i + (j + 1) by omega]; exact z (j + 1) (by omega)))]
      · rw [if_neg hc, if_neg (fun z => hc (z 0 (by omega)))]
  have := key n 0 (by omega)
  simp only [Nat.zero_add] at this
  exact this
def vN (s : St) : Prop := s.1 < 6 ∧ s.2.1 < 9 ∧ s.2.2.1 ≤ 9 ∧ s.2.2.2 < 100000
def vNs (L : List St) : Prop := ∀ j, j < L.length → vN (gS L j)
/-- the cells a, a + 1 hold these notes -/
def isN (h : HP) (a : Nat) (L : List St) : Prop := hS h a = (0, 0) ∧ isR h a L.length ∧ sR (hI h (a + 1)) L ∧ vNs L
section NT
variable {g : GL} {h : HP} {Φ : Value → HP → Prop} {a : Nat} {L : List St}
theorem fn0 (hA : isN h a L) {j : Nat} (hj : j < L.length) : fcR h a L.length j 0 = nI (gS L j).1 := by rw [fcR, if_pos hj]; exact (hA.2.2.1 j hj).1
theorem fn1 (hA : isN h a L) {j : Nat} (hj : j < L.length) : fcR h a L.length j 1 = nI (gS L j).2.1 := by rw [fcR, if_pos hj]; exact (hA.2.2.1 j hj).2.1
theorem fn2 (hA : isN h a L) {j : Nat} (hj : j < L.length) : fcR h a L.length j 2 = nI (gS L j).2.2.1 := by rw [fcR, if_pos hj]; exact (hA.2.2.1 j hj).2.2.1
theorem fn3 (hA : isN h a L) {j : Nat} (hj : j < L.length) : fcR h a L.length j 3 = nI (gS L j).2.2.2 := by rw [fcR, if_pos hj]; exact (hA.2.2.1 j hj).2.2.2
theorem q_fits (hA : isN h a L) {j k n : Nat} (hj : j < L.length) (hk : k < 6) (hn : isNm n = true) : J g k_X0_fits 0 [.ref a, .int (nI j), .int (nI k), .int (nI n), m_D] [] [] h Φ = Φ (.int (zI (decide (rdX k n (gS L j).2.1 (gS L j).2.2.1 = (gS L j).2.2.2)))) h := by
  have hR := hA.2.1
  have hl := hR.2.2.2.1
  have hj' : j < 2147483648 := by omega
  obtain ⟨v1, v2, v3, v4⟩ := hA.2.2.2 j hj
  have hr := rdX_lt (k := k) hn v2 (show (gS L j).2.2.1 < 19 by omega)
  simp only [s_X0_fits_0, s_X0_fits_1, s_X0_fits_2, s_X0_fits_3, s_X0_fits_4, s_X0_fits_5, s_X0_fits_8, s_X0_fits_9, s_X0_fits_10, s_X0_fits_11, s_X0_fits_14, s_X0_fits_17, s_X0_fits_19, s_X0_fits_21, s_X0_fits_22, s_X0_fits_23, s_X0_fits_24, s_X0_fits_27, s_X0_fits_30, s_X0_fits_31, s_X0_fits_34, s_X0_fits_35, hA.1, q_fact1 hR hj', q_fact2 hR hj', q_fact3 hR hj', KV_ap, fn1 hA hj, fn2 hA hj, fn3 hA hj, q_byKind' hk hn v2 (show (gS L j).2.2.1 < 19 by omega), dropL_nil, eq_nI (show rdX k n (gS L j).2.1 (gS L j).2.2.1 < 2147483648 by omega) (show (gS L j).2.2.2 < 2147483648 by omega), true_or, or_true]
  by_cases q : rdX k n (gS L j).2.1 (gS L j).2.2.1 = (gS L j).2.2.2
  · rw [if_neg (fun z => z q), decide_eq_true q]; rfl
  · rw [if_pos q, decide_eq_false q]; rfl
/-- all notes of a stick are so, were it of this kind and name -/
def fitN (L : List St) (i k n : Nat) : Bool := decide (∀ j, j < L.length → (!decide ((gS L j).1 = i) || decide (rdX k n (gS L j).2.1 (gS L j).2.2.1 = (gS L j).2.2.2)) = true)
theorem q_fit (hA : isN h a L) {i k n : Nat} (hi : i < 2147483648) (hk : k < 6) (hn : isNm n = true) : J g k_X0_fit 0 [.ref a, .int (nI i), .int (nI k), .int (nI n), m_D] [] [] h Φ = Φ (.int (zI (fitN L i k n))) h := by
  have hR := hA.2.1
  have hl := hR.2.2.2.1
  have key := J_all (fun j => J g k_X0_fit 3 [.ref a, .int (nI i), .int (nI k), .int (nI n), .int (nI j)] [] [] h Φ) (fun j => (!decide ((gS L j).1 = i) || decide (rdX k n (gS L j).2.1 (gS L j).2.2.1 = (gS L j).2.2.2))) L.length (Φ (.int 1) h) (Φ (.int 0) h) (fun j hj => by
    obtain ⟨v1, v2, v3, v4⟩ := hA.2.2.2 j hj
    simp only [s_X0_fit_0, s_X0_fit_1, s_X0_fit_3, s_X0_fit_5, s_X0_fit_6, s_X0_fit_9, s_X0_fit_12, s_X0_fit_13, s_X0_fit_15, s_X0_fit_16, s_X0_fit_19, s_X0_fit_20, s_X0_fit_23, s_X0_fit_24, s_X0_fit_26, s_X0_fit_27, s_X0_fit_28, s_X0_fit_31, s_X0_fit_34, s_X0_fit_35, s_X0_fit_36, s_X0_fit_39, s_X0_fit_42, s_X0_fit_43, hA.1, hR.2.2.1, le_nI (show L.length < 2147483648 by omega) (show j < 2147483648 by omega), if_neg (Nat.not_le.mpr hj), q_fact0 hR (show j < 2147483648 by omega), KV_ap, fn0 hA hj, eq_nI (show (gS L j).1 < 2147483648 by omega) hi, q_fits hA hj hk hn, zI_0, a1, dropL_nil, true_or, or_true]
    by_cases q : (gS L j).1 = i
    · by_cases q2 : rdX k n (gS L j).2.1 (gS L j).2.2.1 = (gS L j).2.2.2
      · simp only [q, q2, not_true_eq_false, if_false, decide_true, Bool.true_eq_false, not_false_eq_true, if_true, Bool.not_true, Bool.false_or]
      · simp only [q, q2, not_true_eq_false, if_false, decide_true, decide_false, Bool.true_eq_false, not_false_eq_true, if_true, Bool.not_true, Bool.false_or, Bool.false_eq_true]
    · simp only [q, not_false_eq_true, if_true, decide_false, Bool.not_false, Bool.true_or]) (by
    simp only [s_X0_fit_0, s_X0_fit_1, s_X0_fit_3, s_X0_fit_5, s_X0_fit_6, s_X0_fit_9, s_X0_fit_12, s_X0_fit_13, s_X0_fit_15, s_X0_fit_16, s_X0_fit_19, s_X0_fit_20, s_X0_fit_23, s_X0_fit_24, s_X0_fit_26, s_X0_fit_27, s_X0_fit_28, s_X0_fit_31, s_X0_fit_34, s_X0_fit_35, s_X0_fit_36, s_X0_fit_39, s_X0_fit_42, s_X0_fit_43, hA.1, hR.2.2.1, le_nI (show L.length < 2147483648 by omega) (show L.length < 2147483648 by omega), Nat.le_refl, if_true, true_or, or_true])
  rw [s_X0_fit_0, s_X0_fit_1, dropL_nil, c0, key]
  unfold fitN
  split
  · rename_i q; rw [decide_eq_true q]; rfl
  · rename_i q; rw [decide_eq_false q]; rfl
end NT

/-! The model: what a name is -/
theorem it_and (ok : Nat → Bool) : ∀ m i b, (it (fun i b => b && ok i) m i b = true) ↔ (b = true ∧ ∀ j, i ≤ j → j < i + m → ok j = true) := by
  intro m
  induction m with
  | zero => intro i b; exact ⟨fun h => ⟨h, fun j h1 h2 => by omega⟩, fun h => h.1⟩
  | succ m ih =>
    intro i b
    rw [it, ih, Bool.and_eq_true]
    constructor
    · rintro ⟨⟨h1, h2⟩, h3⟩
      refine ⟨h1, fun j hj hk => ?_⟩
      by_cases e : j = i
      · subst e; exact h2
      · exact h3 j (by omega) (by omega)
    · rintro ⟨h1, h2⟩
      exact ⟨⟨h1, h2 i (by omega) (by omega)⟩, fun j hj hk => h2 j (by omega) (by omega)⟩
theorem al_dg (c : Nat → Bool) : ∀ F n, (dl (fun r a => a && c (r % 10)) F n true = true) ↔ ∀ j, j < dl (fun _ a => a + 1) F n 0 → c (n / 10 ^ j % 10) = true := by
  intro F
  induction F with
  | zero => intro n; exact ⟨fun _ j hj => absurd hj (Nat.not_lt_zero j), fun _ => rfl⟩
  | succ F ih =>
    intro n
    rw [dl, dl]
    by_cases h0 : n = 0
    · rw [if_pos h0, if_pos h0]; exact ⟨fun _ j hj => absurd hj (Nat.not_lt_zero j), fun _ => rfl⟩
    · rw [if_neg h0, if_neg h0, dg_acc, Bool.true_and]
      constructor
      · intro h j hj
        obtain ⟨h3, h4⟩ := al_acc (fun r => c (r % 10)) _ _ _ h
        cases j with
        | zero => rw [Nat.pow_zero, Nat.div_one]; exact h3
        | succ j =>
          have := (ih (n / 10)).mp h4 j (by omega)
          rwa [Nat.div_div_eq_div_mul, Nat.mul_comm, ← Nat.pow_succ] at this
      · intro h
        have h3 := h 0 (by omega)
        rw [Nat.pow_zero, Nat.div_one] at h3
        rw [h3, ih]
        intro j hj
        have := h (j + 1) (by omega)
        rwa [Nat.pow_succ, Nat.mul_comm, ← Nat.div_div_eq_div_mul] at this
theorem dg_pos {n : Nat} (h : n ≠ 0) : 1 ≤ dg n := by
  unfold dg
  rw [dl, if_neg h, dg_acc]
  omega
section M14
variable {g : GL} {h : HP} {Φ : Value → HP → Prop}
theorem al_loN (n : Nat) : (al n = true) ↔ ∀ j, j < dg n → (1 ≤ loN n j ∧ loN n j ≤ 4) := by
  have h1 := al_dg (fun r => decide (1 ≤ r) && decide (r ≤ 4)) 10 n
  change (al n = true) ↔ ∀ j, j < dg n → _ at h1
  rw [h1]
  constructor
  · intro h j hj
    have := h (dg n - 1 - j) (by omega)
    rw [loN, if_pos hj]
    simpa only [Bool.and_eq_true, decide_eq_true_eq] using this
  · intro h j hj
    have := h (dg n - 1 - j) (by omega)
    rw [loN, if_pos (by omega), show dg n - 1 - (dg n - 1 - j) = j by omega] at this
    simpa only [Bool.and_eq_true, decide_eq_true_eq] using this
theorem p_sizeOf_neg {v : Int32} (hv : v < 0) : J g k_X9_sizeOf 0 [.int v, m_D, m_D] [] [] h Φ = Φ (.int 0) h := by
  have h1 : v ≤ 0 := Int32.le_of_lt hv
  simp only [s_X9_sizeOf_0, s_X9_sizeOf_1, s_X9_sizeOf_2, s_X9_sizeOf_3, s_X9_sizeOf_5, s_X9_sizeOf_8, s_X9_sizeOf_9, s_X9_sizeOf_11, s_X9_sizeOf_12, s_X9_sizeOf_13, s_X9_sizeOf_16, s_X9_sizeOf_19, s_X9_sizeOf_20, dropL_nil]
  rw [s_X9_sizeOf_4]
  simp only [s_X9_sizeOf_0, s_X9_sizeOf_1, s_X9_sizeOf_2, s_X9_sizeOf_3, s_X9_sizeOf_5, s_X9_sizeOf_8, s_X9_sizeOf_9, s_X9_sizeOf_11, s_X9_sizeOf_12, s_X9_sizeOf_13, s_X9_sizeOf_16, s_X9_sizeOf_19, s_X9_sizeOf_20, dropL_nil]
  rw [if_pos h1]
theorem p_isName (v : Int32) : J g k_X9_isName 0 [.int v, m_D, m_D, m_D] [] [] h Φ = Φ (.int (zI (nmI v))) h := by
  by_cases hv : v < 0
  · have h1 : v ≤ 0 := Int32.le_of_lt hv
    have h2 : nmI v = false := by rw [nmI, decide_eq_true hv]; rfl
    rw [h2]
    simp only [s_X9_isName_0, s_X9_isName_1, s_X9_isName_4, s_X9_isName_5, s_X9_isName_6, s_X9_isName_9, s_X9_isName_10, s_X9_isName_11, s_X9_isName_14, s_X9_isName_15, s_X9_isName_18, s_X9_isName_19, s_X9_isName_20, s_X9_isName_21, s_X9_isName_23, s_X9_isName_24, s_X9_isName_27, s_X9_isName_28, s_X9_isName_31, s_X9_isName_32, s_X9_isName_33, s_X9_isName_36, s_X9_isName_37, s_X9_isName_38, s_X9_isName_41, s_X9_isName_44, s_X9_isName_45, s_X9_isName_48, s_X9_isName_49, s_X9_isName_50, s_X9_isName_53, s_X9_isName_56, s_X9_isName_57, p_sizeOf_neg hv, KV_ap, dropL_nil]
    rw [if_pos h1, s_X9_isName_22]
    simp only [s_X9_isName_0, s_X9_isName_1, s_X9_isName_4, s_X9_isName_5, s_X9_isName_6, s_X9_isName_9, s_X9_isName_10, s_X9_isName_11, s_X9_isName_14, s_X9_isName_15, s_X9_isName_18, s_X9_isName_19, s_X9_isName_20, s_X9_isName_21, s_X9_isName_23, s_X9_isName_24, s_X9_isName_27, s_X9_isName_28, s_X9_isName_31, s_X9_isName_32, s_X9_isName_33, s_X9_isName_36, s_X9_isName_37, s_X9_isName_38, s_X9_isName_41, s_X9_isName_44, s_X9_isName_45, s_X9_isName_48, s_X9_isName_49, s_X9_isName_50, s_X9_isName_53, s_X9_isName_56]
    rw [if_pos (by decide), s_X9_isName_57 (Or.inl rfl)]
    rfl
  · obtain ⟨n, hn, rfl⟩ := nI_of hv
    have hd := dg_le n
    have hdl : dg n < 2147483648 := by omega
    rw [nmI_nI hn]
    have key := J_it0 (fun i (b : Bool) => J g k_X9_isName 22 [.int (nI n), .int (nI (dg n)), .int (zI b), .int (nI i)] [] [] h Φ) (fun i b => b && decide (1 ≤ loN n i ∧ loN n i ≤ 4)) (dg n) (fun i b hi => by
      have h1 := loN_lt n i
      rw [s_X9_isName_22]
      cases b
      · simp only [s_X9_isName_0, s_X9_isName_1, s_X9_isName_4, s_X9_isName_5, s_X9_isName_6, s_X9_isName_9, s_X9_isName_10, s_X9_isName_11, s_X9_isName_14, s_X9_isName_15, s_X9_isName_18, s_X9_isName_19, s_X9_isName_20, s_X9_isName_21, s_X9_isName_23, s_X9_isName_24, s_X9_isName_27, s_X9_isName_28, s_X9_isName_31, s_X9_isName_32, s_X9_isName_33, s_X9_isName_36, s_X9_isName_37, s_X9_isName_38, s_X9_isName_41, s_X9_isName_44, s_X9_isName_45, s_X9_isName_48, s_X9_isName_49, s_X9_isName_50, s_X9_isName_53, s_X9_isName_56, s_X9_isName_57, le_nI hdl (show i < 2147483648 by omega), if_neg (Nat.not_le.mpr hi), zI_f, if_true, dropL_nil, a1, Bool.false_and]
      · simp only [s_X9_isName_0, s_X9_isName_1, s_X9_isName_4, s_X9_isName_5, s_X9_isName_6, s_X9_isName_9, s_X9_isName_10, s_X9_isName_11, s_X9_isName_14, s_X9_isName_15, s_X9_isName_18, s_X9_isName_19, s_X9_isName_20, s_X9_isName_21, s_X9_isName_23, s_X9_isName_24, s_X9_isName_27, s_X9_isName_28, s_X9_isName_31, s_X9_isName_32, s_X9_isName_33, s_X9_isName_36, s_X9_isName_37, s_X9_isName_38, s_X9_isName_41, s_X9_isName_44, s_X9_isName_45, s_X9_isName_48, s_X9_isName_49, s_X9_isName_50, s_X9_isName_53, s_X9_isName_56, s_X9_isName_57, le_nI hdl (show i < 2147483648 by omega), if_neg (Nat.not_le.mpr hi), zI_0, Bool.true_eq_false, if_false, p_letterOf hn (show i < 2147483648 by omega), p_in, KV_ap, dropL_nil, Bool.true_and, i_add, c1, c4, le_nI (show 1 < 2147483648 by decide) (show loN n i < 2147483648 by omega), le_nI (show loN n i < 2147483648 by omega) (show 4 < 2147483648 by decide)]
        cases decide (1 ≤ loN n i ∧ loN n i ≤ 4)
        · rw [if_pos rfl]; rfl
        · rw [if_neg (by decide)]; rfl)
    have fin : ∀ b, J g k_X9_isName 22 [.int (nI n), .int (nI (dg n)), .int (zI b), .int (nI (dg n))] [] [] h Φ = Φ (.int (zI b)) h := fun b => by
      rw [s_X9_isName_22]
      simp only [s_X9_isName_0, s_X9_isName_1, s_X9_isName_4, s_X9_isName_5, s_X9_isName_6, s_X9_isName_9, s_X9_isName_10, s_X9_isName_11, s_X9_isName_14, s_X9_isName_15, s_X9_isName_18, s_X9_isName_19, s_X9_isName_20, s_X9_isName_21, s_X9_isName_23, s_X9_isName_24, s_X9_isName_27, s_X9_isName_28, s_X9_isName_31, s_X9_isName_32, s_X9_isName_33, s_X9_isName_36, s_X9_isName_37, s_X9_isName_38, s_X9_isName_41, s_X9_isName_44, s_X9_isName_45, s_X9_isName_48, s_X9_isName_49, s_X9_isName_50, s_X9_isName_53, s_X9_isName_56, le_nI hdl hdl, Nat.le_refl, if_true]
      rw [s_X9_isName_57 (by rw [zI_01]; trivial)]
    have big : ∀ b, J g k_X9_isName 22 [.int (nI n), .int (nI (dg n)), .int (zI b), .int 0] [] [] h Φ = Φ (.int (zI (b && al n))) h := fun b => by
      refine Eq.trans (key b) ?_
      rw [fin]
      congr 3
      rw [Bool.eq_iff_iff, it_and, Bool.and_eq_true, al_loN]
      simp only [decide_eq_true_eq, Nat.zero_le, Nat.zero_add, true_implies]
    have bigt := big true
    have bigf := big false
    rw [zI_t] at bigt
    rw [zI_f] at bigf
    simp only [s_X9_isName_0, s_X9_isName_1, s_X9_isName_4, s_X9_isName_5, s_X9_isName_6, s_X9_isName_9, s_X9_isName_10, s_X9_isName_11, s_X9_isName_14, s_X9_isName_15, s_X9_isName_18, s_X9_isName_19, s_X9_isName_20, s_X9_isName_21, s_X9_isName_23, s_X9_isName_24, s_X9_isName_27, s_X9_isName_28, s_X9_isName_31, s_X9_isName_32, s_X9_isName_33, s_X9_isName_36, s_X9_isName_37, s_X9_isName_38, s_X9_isName_41, s_X9_isName_44, s_X9_isName_45, s_X9_isName_48, s_X9_isName_49, s_X9_isName_50, s_X9_isName_53, s_X9_isName_56, s_X9_isName_57, p_sizeOf hn, KV_ap, dropL_nil, le0 hn, c5, lt_nI (show 5 < 2147483648 by decide) hdl]
    by_cases h1 : n = 0
    · rw [if_pos h1, bigf, h1]; rfl
    · have h3 := dg_pos h1
      unfold isNm
      rw [if_neg h1, decide_eq_true (show 1 ≤ dg n by omega)]
      by_cases h2 : 5 < dg n
      · rw [if_pos h2, bigf, decide_eq_false (show ¬ dg n ≤ 5 by omega)]; rfl
      · rw [if_neg h2, bigt, decide_eq_true (show dg n ≤ 5 by omega)]; rfl
end M14

/-! Reading (the class): what each does with numbers below 2^31 -/
section RD
variable {g : GL} {h : HP} {Φ : Value → HP → Prop}
theorem q_isWithin (v a b : Int32) : J g k_X8_isWithin 0 [.int v, .int a, .int b] [] [] h Φ = Φ (.int (zI (decide (a ≤ v ∧ v ≤ b)))) h := by
  simp only [s_X8_isWithin_0, s_X8_isWithin_1, s_X8_isWithin_2, s_X8_isWithin_5, s_X8_isWithin_6, s_X8_isWithin_7, s_X8_isWithin_10, s_X8_isWithin_11, s_X8_isWithin_14, s_X8_isWithin_15, true_or, or_true]
  by_cases h1 : v < a
  · rw [if_pos h1, decide_eq_false (fun z => (Int32.not_le.mpr h1) z.1)]; rfl
  · rw [if_neg h1]
    by_cases h2 : b < v
    · rw [if_pos h2, decide_eq_false (fun z => (Int32.not_le.mpr h2) z.2)]; rfl
    · rw [if_neg h2, decide_eq_true ⟨Int32.not_lt.mp h1, Int32.not_lt.mp h2⟩]; rfl
theorem q_isBelow (v b : Int32) : J g k_X8_isBelow 0 [.int v, .int b] [] [] h Φ = Φ (.int (zI (decide (0 ≤ v ∧ v < b)))) h := by
  simp only [s_X8_isBelow_0, s_X8_isBelow_1, s_X8_isBelow_4, s_X8_isBelow_5, s_X8_isBelow_6, s_X8_isBelow_9, s_X8_isBelow_10, s_X8_isBelow_13, s_X8_isBelow_14, true_or, or_true]
  by_cases h1 : v < 0
  · rw [if_pos h1, decide_eq_false (fun z => (Int32.not_le.mpr h1) z.1)]; rfl
  · rw [if_neg h1]
    by_cases h2 : b ≤ v
    · rw [if_pos h2, decide_eq_false (fun z => (Int32.not_lt.mpr h2) z.2)]; rfl
    · rw [if_neg h2, decide_eq_true ⟨Int32.not_lt.mp h1, Int32.not_le.mp h2⟩]; rfl
/-- how many figures -/
def dg (n : Nat) : Nat := dl (fun _ a => a + 1) 10 n 0
theorem q_lettersIn {n : Nat} (hn : n < 2147483648) : J g k_X2_lettersIn 0 [.int (nI n), m_D, m_D] [] [] h Φ = Φ (.int (nI (dg n))) h := by
  simp only [s_X2_lettersIn_0, s_X2_lettersIn_1, s_X2_lettersIn_2, s_X2_lettersIn_3, s_X2_lettersIn_5, s_X2_lettersIn_8, s_X2_lettersIn_11, s_X2_lettersIn_12, s_X2_lettersIn_14, s_X2_lettersIn_15, s_X2_lettersIn_16, s_X2_lettersIn_19, s_X2_lettersIn_20, dropL_nil]
  have key := J_dl (fun r a => J g k_X2_lettersIn 4 [.int (nI n), .int (nI a), .int (nI r)] [] [] h Φ) (fun _ a => a + 1) (fun r a h0 hr => by
    rw [s_X2_lettersIn_4]
    simp only [s_X2_lettersIn_0, s_X2_lettersIn_1, s_X2_lettersIn_2, s_X2_lettersIn_3, s_X2_lettersIn_5, s_X2_lettersIn_8, s_X2_lettersIn_11, s_X2_lettersIn_12, s_X2_lettersIn_14, s_X2_lettersIn_15, s_X2_lettersIn_16, s_X2_lettersIn_19, s_X2_lettersIn_20, dropL_nil, le0 hr, if_neg (Nat.ne_of_gt h0), n10, not_false_eq_true, d10 hr, c1, i_add]) 10 n 0 (p10 n hn) hn
  rw [c0, key, s_X2_lettersIn_4]
  simp only [s_X2_lettersIn_0, s_X2_lettersIn_1, s_X2_lettersIn_2, s_X2_lettersIn_3, s_X2_lettersIn_5, s_X2_lettersIn_8, s_X2_lettersIn_11, s_X2_lettersIn_12, s_X2_lettersIn_14, s_X2_lettersIn_15, s_X2_lettersIn_16, s_X2_lettersIn_19, s_X2_lettersIn_20, dropL_nil, le0 (show 0 < 2147483648 by decide), if_true]
  rfl
end RD
section RD2
variable {g : GL} {h : HP} {Φ : Value → HP → Prop}
/-- none of its figures but 1 to 4 -/
def al (n : Nat) : Bool := dl (fun r a => a && (decide (1 ≤ r % 10) && decide (r % 10 ≤ 4))) 10 n true
theorem dl_false (f : Nat → Bool) : ∀ F r, dl (fun r a => a && f r) F r false = false := by
  intro F
  induction F with
  | zero => intro r; rfl
  | succ F ih => intro r; rw [dl]; split <;> simp [ih]
theorem q_hasLettersAlone {n : Nat} (hn : n < 2147483648) : J g k_X2_hasLettersAlone 0 [.int (nI n), m_D] [] [] h Φ = Φ (.int (zI (al n))) h := by
  simp only [s_X2_hasLettersAlone_0, s_X2_hasLettersAlone_1, s_X2_hasLettersAlone_3, s_X2_hasLettersAlone_6, s_X2_hasLettersAlone_7, s_X2_hasLettersAlone_9, s_X2_hasLettersAlone_10, s_X2_hasLettersAlone_11, s_X2_hasLettersAlone_14, s_X2_hasLettersAlone_15, s_X2_hasLettersAlone_17, s_X2_hasLettersAlone_18, s_X2_hasLettersAlone_19, s_X2_hasLettersAlone_22, s_X2_hasLettersAlone_23, s_X2_hasLettersAlone_24, s_X2_hasLettersAlone_25, s_X2_hasLettersAlone_27, s_X2_hasLettersAlone_28, s_X2_hasLettersAlone_29, s_X2_hasLettersAlone_32, s_X2_hasLettersAlone_33, dropL_nil]
  have key : ∀ F r, r < 10 ^ F → r < 2147483648 → J g k_X2_hasLettersAlone 2 [.int (nI n), .int (nI r)] [] [] h Φ = Φ (.int (zI (dl (fun r a => a && (decide (1 ≤ r % 10) && decide (r % 10 ≤ 4))) F r true))) h := by
    intro F
    induction F with
    | zero =>
      intro r h1 h2
      have : r = 0 := by simpa using h1
      subst this
      rw [s_X2_hasLettersAlone_2]
      simp only [s_X2_hasLettersAlone_0, s_X2_hasLettersAlone_1, s_X2_hasLettersAlone_3, s_X2_hasLettersAlone_6, s_X2_hasLettersAlone_7, s_X2_hasLettersAlone_9, s_X2_hasLettersAlone_10, s_X2_hasLettersAlone_11, s_X2_hasLettersAlone_14, s_X2_hasLettersAlone_15, s_X2_hasLettersAlone_17, s_X2_hasLettersAlone_18, s_X2_hasLettersAlone_19, s_X2_hasLettersAlone_22, s_X2_hasLettersAlone_23, s_X2_hasLettersAlone_24, s_X2_hasLettersAlone_25, s_X2_hasLettersAlone_27, s_X2_hasLettersAlone_28, s_X2_hasLettersAlone_29, s_X2_hasLettersAlone_32, s_X2_hasLettersAlone_33, le0 h2, if_true, true_or, or_true, dl]
      rfl
    | succ F ih =>
      intro r h1 h2
      rw [s_X2_hasLettersAlone_2, dl]
      by_cases h0 : r = 0
      · subst h0
        simp only [s_X2_hasLettersAlone_0, s_X2_hasLettersAlone_1, s_X2_hasLettersAlone_3, s_X2_hasLettersAlone_6, s_X2_hasLettersAlone_7, s_X2_hasLettersAlone_9, s_X2_hasLettersAlone_10, s_X2_hasLettersAlone_11, s_X2_hasLettersAlone_14, s_X2_hasLettersAlone_15, s_X2_hasLettersAlone_17, s_X2_hasLettersAlone_18, s_X2_hasLettersAlone_19, s_X2_hasLettersAlone_22, s_X2_hasLettersAlone_23, s_X2_hasLettersAlone_24, s_X2_hasLettersAlone_25, s_X2_hasLettersAlone_27, s_X2_hasLettersAlone_28, s_X2_hasLettersAlone_29, s_X2_hasLettersAlone_32, s_X2_hasLettersAlone_33, le0 h2, if_true, true_or, or_true]
        rfl
      · have hm : r % 10 < 2147483648 := by omega
        simp only [s_X2_hasLettersAlone_0, s_X2_hasLettersAlone_1, s_X2_hasLettersAlone_3, s_X2_hasLettersAlone_6, s_X2_hasLettersAlone_7, s_X2_hasLettersAlone_9, s_X2_hasLettersAlone_10, s_X2_hasLettersAlone_11, s_X2_hasLettersAlone_14, s_X2_hasLettersAlone_15, s_X2_hasLettersAlone_17, s_X2_hasLettersAlone_18, s_X2_hasLettersAlone_19, s_X2_hasLettersAlone_22, s_X2_hasLettersAlone_23, s_X2_hasLettersAlone_24, s_X2_hasLettersAlone_25, s_X2_hasLettersAlone_27, s_X2_hasLettersAlone_28, s_X2_hasLettersAlone_29, s_X2_hasLettersAlone_32, s_X2_hasLettersAlone_33, dropL_nil, le0 h2, if_neg h0, n10, not_false_eq_true, d10 h2, m10, r10, c1, c4, lt_nI hm (show 1 < 2147483648 by decide), le_nI hm (show 4 < 2147483648 by decide)]
        rw [ih (r / 10) (by rw [Nat.pow_succ] at h1; omega) (by omega)]
        simp only [s_X2_hasLettersAlone_0, s_X2_hasLettersAlone_1, s_X2_hasLettersAlone_3, s_X2_hasLettersAlone_6, s_X2_hasLettersAlone_7, s_X2_hasLettersAlone_9, s_X2_hasLettersAlone_10, s_X2_hasLettersAlone_11, s_X2_hasLettersAlone_14, s_X2_hasLettersAlone_15, s_X2_hasLettersAlone_17, s_X2_hasLettersAlone_18, s_X2_hasLettersAlone_19, s_X2_hasLettersAlone_22, s_X2_hasLettersAlone_23, s_X2_hasLettersAlone_24, s_X2_hasLettersAlone_25, s_X2_hasLettersAlone_27, s_X2_hasLettersAlone_28, s_X2_hasLettersAlone_29, s_X2_hasLettersAlone_32, s_X2_hasLettersAlone_33, true_or, or_true]
        by_cases q1 : r % 10 < 1
        · rw [if_pos q1, decide_eq_false (show ¬ 1 ≤ r % 10 by omega)]
          simp only [Bool.false_and, Bool.and_false, dl_false]
          rfl
        · rw [if_neg q1, decide_eq_true (show 1 ≤ r % 10 by omega)]
          by_cases q2 : r % 10 ≤ 4
          · rw [if_pos q2, decide_eq_true q2]
            rfl
          · rw [if_neg q2, decide_eq_false q2]
            simp only [Bool.and_false, dl_false]
            rfl
  exact key 10 n (p10 n hn) hn
end RD2

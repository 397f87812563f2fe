/-! Rows (under Sticks and Notes): size, facts -/
theorem hS_pF (h : HP) (a j x : Nat) (v : Value) : hS (pF h a j v) x = hS h x := rfl
theorem hS_pI (h : HP) (a x : Nat) (f : Nat → Int32) : hS (pI h a f) x = hS h x := rfl
theorem hI_pF (h : HP) (a j x : Nat) (v : Value) : hI (pF h a j v) x = hI h x := rfl
theorem hF_pI (h : HP) (a x y : Nat) (f : Nat → Int32) : hF (pI h a f) x y = hF h x y := rfl
theorem hN_pF (h : HP) (a j : Nat) (v : Value) : hN (pF h a j v) = hN h := rfl
theorem hN_pI (h : HP) (a : Nat) (f : Nat → Int32) : hN (pI h a f) = hN h := rfl
theorem hF_pF (h : HP) (a j x y : Nat) (v : Value) : hF (pF h a j v) x y = if x = a ∧ y = j then v else hF h x y := rfl
theorem hI_pI (h : HP) (a x : Nat) (f : Nat → Int32) : hI (pI h a f) x = if x = a then f else hI h x := rfl
theorem pI_pI (h : HP) (a : Nat) (f f' : Nat → Int32) : pI (pI h a f) a f' = pI h a f' := by
  simp only [pI]
  congr 3
  funext x
  by_cases hx : x = a <;> simp [hx]
def isR (h : HP) (a n : Nat) : Prop := (hS h a = (0, 3) ∨ hS h a = (0, 0)) ∧ hF h a 0 = .ref (a + 1) ∧ hF h a 1 = .int (nI n) ∧ n ≤ 6 ∧ hS h (a + 1) = (1, 24)
theorem isR_pI {h : HP} {a n b : Nat} {f : Nat → Int32} (hR : isR h a n) : isR (pI h b f) a n := hR
theorem isR_pF {h : HP} {a n b j : Nat} {v : Value} (hb : b ≠ a) (hR : isR h a n) : isR (pF h b j v) a n := by
  obtain ⟨h1, h2, h3, h4, h5⟩ := hR
  have : ¬ (a = b) := fun z => hb z.symm
  refine ⟨h1, ?_, ?_, h4, h5⟩
  · rw [hF_pF, if_neg (fun z => this z.1)]; exact h2
  · rw [hF_pF, if_neg (fun z => this z.1)]; exact h3
theorem isR_sz {h : HP} {a n m : Nat} (hm : m ≤ 6) (hR : isR h a n) : isR (pF h a 1 (.int (nI m))) a m := by
  obtain ⟨h1, h2, h3, h4, h5⟩ := hR
  refine ⟨h1, ?_, ?_, hm, h5⟩
  · rw [hF_pF, if_neg (fun z => by omega)]; exact h2
  · rw [hF_pF, if_pos ⟨rfl, rfl⟩]
section RW
variable {g : GL} {h : HP} {Φ : Value → HP → Prop} {a n : Nat}
theorem q_size (hR : isR h a n) : J g k_X4_size 0 [.ref a] [] [] h Φ = Φ (.int (nI n)) h := by
  obtain ⟨hs | hs, h0, h1, hn, hf⟩ := hR <;> simp only [s_X4_size_0, s_X4_size_1a, s_X4_size_1b, s_X4_size_4, hs, h1]
theorem q_isFull (hR : isR h a n) : J g k_X4_isFull 0 [.ref a] [] [] h Φ = Φ (.int (zI (decide (n = 6)))) h := by
  obtain ⟨hs | hs, h0, h1, hn, hf⟩ := hR
  all_goals
    simp only [s_X4_isFull_0, s_X4_isFull_1a, s_X4_isFull_1b, s_X4_isFull_4, s_X4_isFull_6, s_X4_isFull_9, s_X4_isFull_10, s_X4_isFull_13, s_X4_isFull_14, hs, h1, c6, lt_nI (show n < 2147483648 by omega) (show 6 < 2147483648 by decide), true_or, or_true]
    by_cases q : n < 6
    · rw [if_pos q, decide_eq_false (by omega)]; rfl
    · rw [if_neg q, decide_eq_true (by omega)]; rfl
theorem q_has (hR : isR h a n) (v : Int32) : J g k_X4_has 0 [.ref a, .int v] [] [] h Φ = Φ (.int (zI (decide (0 ≤ v ∧ v < nI n)))) h := by
  obtain ⟨hs | hs, h0, h1, hn, hf⟩ := hR
  all_goals
    simp only [s_X4_has_0, s_X4_has_1, s_X4_has_4, s_X4_has_5, s_X4_has_6a, s_X4_has_6b, s_X4_has_9, s_X4_has_12, s_X4_has_13, s_X4_has_16, s_X4_has_17, hs, h1, true_or, or_true]
    by_cases q : v < 0
    · rw [if_pos q, decide_eq_false (fun z => (Int32.not_le.mpr q) z.1)]; rfl
    · rw [if_neg q]
      by_cases q2 : nI n ≤ v
      · rw [if_pos q2, decide_eq_false (fun z => (Int32.not_lt.mpr q2) z.2)]; rfl
      · rw [if_neg q2, decide_eq_true ⟨Int32.not_lt.mp q, Int32.not_le.mp q2⟩]; rfl
theorem has_nI {j n : Nat} (hj : j < 2147483648) (hn : n < 2147483648) : decide (0 ≤ nI j ∧ nI j < nI n) = decide (j < n) := by
  simp [ge0 hj, lt_nI hj hn]
theorem q_empty (hR : isR h a n) : J g k_X4_empty 0 [.ref a] [] [] h Φ = Φ .null (pF h a 1 (.int (nI 0))) := by
  obtain ⟨hs | hs, h0, h1, hn, hf⟩ := hR <;> simp only [s_X4_empty_0, s_X4_empty_1, s_X4_empty_2a, s_X4_empty_2b, s_X4_empty_5, hs, c0]
def fcR (h : HP) (a n j w : Nat) : Int32 := if j < n then hI h (a + 1) (j * 4 + w) else 0
theorem q_fact (hR : isR h a n) {j w : Nat} (hj : j < 2147483648) (hw : w < 4) : J g k_X4_fact 0 [.ref a, .int (nI j), .int (nI w)] [] [] h Φ = Φ (.int (fcR h a n j w)) h := by
  have hR' := hR
  obtain ⟨hs, h0, h1, hn, hf⟩ := hR
  have hb : decide (0 ≤ nI w ∧ nI w < (4 : Int32)) = true := by rw [c4, has_nI (by omega) (by decide)]; simpa using hw
  rcases hs with hs | hs
  all_goals
    simp only [s_X4_fact_0, s_X4_fact_1, s_X4_fact_2a, s_X4_fact_2b, s_X4_fact_5, s_X4_fact_8, s_X4_fact_9, s_X4_fact_10, s_X4_fact_13, s_X4_fact_16, s_X4_fact_17a, s_X4_fact_17b, s_X4_fact_20, s_X4_fact_21, s_X4_fact_22, s_X4_fact_23, s_X4_fact_24, s_X4_fact_25, s_X4_fact_26, s_X4_fact_29, s_X4_fact_30, hs, q_has hR', KV_ap, has_nI hj (show n < 2147483648 by omega), zI_0, decide_eq_false_iff_not, q_isBelow, hb, Bool.true_eq_false, if_false, h0, m4, i_add]
    unfold fcR
    by_cases q : j < n
    · rw [if_pos q, if_neg (fun z => z q)]
      have hi : j * 4 + w < 24 := by omega
      rw [s_X4_fact_25 (by rw [hf]) (by rw [hf, inb_nI (by omega)]; simpa using hi)]
      simp only [s_X4_fact_0, s_X4_fact_1, s_X4_fact_2a, s_X4_fact_2b, s_X4_fact_5, s_X4_fact_8, s_X4_fact_9, s_X4_fact_10, s_X4_fact_13, s_X4_fact_16, s_X4_fact_17a, s_X4_fact_17b, s_X4_fact_20, s_X4_fact_21, s_X4_fact_22, s_X4_fact_23, s_X4_fact_24, s_X4_fact_25, s_X4_fact_26, s_X4_fact_29, s_X4_fact_30, cl_nI (show j * 4 + w < 2147483648 by omega)]
    · rw [if_neg q, if_pos q]
theorem q_fact0 (hR : isR h a n) {j : Nat} (hj : j < 2147483648) : J g k_X4_fact 0 [.ref a, .int (nI j), .int 0] [] [] h Φ = Φ (.int (fcR h a n j 0)) h := q_fact hR hj (by decide)
theorem q_fact1 (hR : isR h a n) {j : Nat} (hj : j < 2147483648) : J g k_X4_fact 0 [.ref a, .int (nI j), .int 1] [] [] h Φ = Φ (.int (fcR h a n j 1)) h := q_fact hR hj (by decide)
theorem q_fact2 (hR : isR h a n) {j : Nat} (hj : j < 2147483648) : J g k_X4_fact 0 [.ref a, .int (nI j), .int 2] [] [] h Φ = Φ (.int (fcR h a n j 2)) h := q_fact hR hj (by decide)
theorem q_fact3 (hR : isR h a n) {j : Nat} (hj : j < 2147483648) : J g k_X4_fact 0 [.ref a, .int (nI j), .int 3] [] [] h Φ = Φ (.int (fcR h a n j 3)) h := q_fact hR hj (by decide)
theorem q_put (hR : isR h a n) {j w : Nat} (hj : j < n) (hw : w < 4) (v : Int32) : J g k_X4_put 0 [.ref a, .int (nI j), .int (nI w), .int v] [] [] h Φ = Φ .null (pI h (a + 1) (upd (hI h (a + 1)) (j * 4 + w) v)) := by
  have hR' := hR
  obtain ⟨hs, h0, h1, hn, hf⟩ := hR
  have hb : decide (0 ≤ nI w ∧ nI w < (4 : Int32)) = true := by rw [c4, has_nI (by omega) (by decide)]; simpa using hw
  have hb2 : decide (j < n) = true := by simpa using hj
  rcases hs with hs | hs
  all_goals
    simp only [s_X4_put_0, s_X4_put_1, s_X4_put_2a, s_X4_put_2b, s_X4_put_5, s_X4_put_8, s_X4_put_9, s_X4_put_10, s_X4_put_13, s_X4_put_16, s_X4_put_17a, s_X4_put_17b, s_X4_put_20, s_X4_put_21, s_X4_put_22, s_X4_put_23, s_X4_put_24, s_X4_put_25, s_X4_put_26, s_X4_put_27, hs, q_has hR', KV_ap, has_nI (show j < 2147483648 by omega) (show n < 2147483648 by omega), zI_0, hb2, q_isBelow, hb, Bool.true_eq_false, if_false, h0, m4, i_add]
    have hi : j * 4 + w < 24 := by omega
    rw [s_X4_put_26 (by rw [hf]) (by rw [hf, inb_nI (by omega)]; simpa using hi)]
    simp only [s_X4_put_0, s_X4_put_1, s_X4_put_2a, s_X4_put_2b, s_X4_put_5, s_X4_put_8, s_X4_put_9, s_X4_put_10, s_X4_put_13, s_X4_put_16, s_X4_put_17a, s_X4_put_17b, s_X4_put_20, s_X4_put_21, s_X4_put_22, s_X4_put_23, s_X4_put_24, s_X4_put_25, s_X4_put_26, s_X4_put_27, cl_nI (show j * 4 + w < 2147483648 by omega)]
theorem q_put0 (hR : isR h a n) {j : Nat} (hj : j < n) (v : Int32) : J g k_X4_put 0 [.ref a, .int (nI j), .int 0, .int v] [] [] h Φ = Φ .null (pI h (a + 1) (upd (hI h (a + 1)) (j * 4 + 0) v)) := q_put hR hj (by decide) v
theorem q_put1 (hR : isR h a n) {j : Nat} (hj : j < n) (v : Int32) : J g k_X4_put 0 [.ref a, .int (nI j), .int 1, .int v] [] [] h Φ = Φ .null (pI h (a + 1) (upd (hI h (a + 1)) (j * 4 + 1) v)) := q_put hR hj (by decide) v
theorem q_put2 (hR : isR h a n) {j : Nat} (hj : j < n) (v : Int32) : J g k_X4_put 0 [.ref a, .int (nI j), .int 2, .int v] [] [] h Φ = Φ .null (pI h (a + 1) (upd (hI h (a + 1)) (j * 4 + 2) v)) := q_put hR hj (by decide) v
theorem q_put3 (hR : isR h a n) {j : Nat} (hj : j < n) (v : Int32) : J g k_X4_put 0 [.ref a, .int (nI j), .int 3, .int v] [] [] h Φ = Φ .null (pI h (a + 1) (upd (hI h (a + 1)) (j * 4 + 3) v)) := q_put hR hj (by decide) v
/-- one more row behind the n that there are -/
def rAdd (f : Nat → Int32) (n : Nat) (v0 v1 v2 v3 : Int32) : Nat → Int32 := upd (upd (upd (upd f (n * 4 + 0) v0) (n * 4 + 1) v1) (n * 4 + 2) v2) (n * 4 + 3) v3
theorem q_add (hR : isR h a n) (hn : n < 6) (v0 v1 v2 v3 : Int32) : J g k_X4_add 0 [.ref a, .int v0, .int v1, .int v2, .int v3, m_D] [] [] h Φ = Φ (.int (nI n)) (pI (pF h a 1 (.int (nI (n + 1)))) (a + 1) (rAdd (hI h (a + 1)) n v0 v1 v2 v3)) := by
  have hR' := hR
  have hR2 : isR (pF h a 1 (.int (nI (n + 1)))) a (n + 1) := isR_sz (by omega) hR
  obtain ⟨hs, h0, h1, hn6, hf⟩ := hR
  have hb2 : decide (n = 6) = false := decide_eq_false (by omega)
  rcases hs with hs | hs
  all_goals
    simp only [s_X4_add_0, s_X4_add_1a, s_X4_add_1b, s_X4_add_4, s_X4_add_7, s_X4_add_9, s_X4_add_10, s_X4_add_11a, s_X4_add_11b, s_X4_add_14, s_X4_add_16, s_X4_add_17, s_X4_add_18a, s_X4_add_18b, s_X4_add_21, s_X4_add_22, s_X4_add_23a, s_X4_add_23b, s_X4_add_26, s_X4_add_27, s_X4_add_29, s_X4_add_30, s_X4_add_31a, s_X4_add_31b, s_X4_add_34, s_X4_add_35, s_X4_add_37, s_X4_add_38, s_X4_add_39a, s_X4_add_39b, s_X4_add_42, s_X4_add_43, s_X4_add_45, s_X4_add_46, s_X4_add_47a, s_X4_add_47b, s_X4_add_50, s_X4_add_51, s_X4_add_53, s_X4_add_54, s_X4_add_56a, s_X4_add_56b, s_X4_add_59, s_X4_add_61, hs, hS_pF, hS_pI, q_isFull hR', KV_ap, hb2, zI_0, if_true, h1, dropL_nil, a1, q_put0 hR2 (show n < n + 1 by omega), KU_ap]
    rw [q_put1 (isR_pI hR2) (by omega)]
    simp only [s_X4_add_0, s_X4_add_1a, s_X4_add_1b, s_X4_add_4, s_X4_add_7, s_X4_add_9, s_X4_add_10, s_X4_add_11a, s_X4_add_11b, s_X4_add_14, s_X4_add_16, s_X4_add_17, s_X4_add_18a, s_X4_add_18b, s_X4_add_21, s_X4_add_22, s_X4_add_23a, s_X4_add_23b, s_X4_add_26, s_X4_add_27, s_X4_add_29, s_X4_add_30, s_X4_add_31a, s_X4_add_31b, s_X4_add_34, s_X4_add_35, s_X4_add_37, s_X4_add_38, s_X4_add_39a, s_X4_add_39b, s_X4_add_42, s_X4_add_43, s_X4_add_45, s_X4_add_46, s_X4_add_47a, s_X4_add_47b, s_X4_add_50, s_X4_add_51, s_X4_add_53, s_X4_add_54, s_X4_add_56a, s_X4_add_56b, s_X4_add_59, s_X4_add_61, hs, hS_pF, hS_pI, KU_ap]
    rw [q_put2 (isR_pI (isR_pI hR2)) (by omega)]
    simp only [s_X4_add_0, s_X4_add_1a, s_X4_add_1b, s_X4_add_4, s_X4_add_7, s_X4_add_9, s_X4_add_10, s_X4_add_11a, s_X4_add_11b, s_X4_add_14, s_X4_add_16, s_X4_add_17, s_X4_add_18a, s_X4_add_18b, s_X4_add_21, s_X4_add_22, s_X4_add_23a, s_X4_add_23b, s_X4_add_26, s_X4_add_27, s_X4_add_29, s_X4_add_30, s_X4_add_31a, s_X4_add_31b, s_X4_add_34, s_X4_add_35, s_X4_add_37, s_X4_add_38, s_X4_add_39a, s_X4_add_39b, s_X4_add_42, s_X4_add_43, s_X4_add_45, s_X4_add_46, s_X4_add_47a, s_X4_add_47b, s_X4_add_50, s_X4_add_51, s_X4_add_53, s_X4_add_54, s_X4_add_56a, s_X4_add_56b, s_X4_add_59, s_X4_add_61, hs, hS_pF, hS_pI, KU_ap]
    rw [q_put3 (isR_pI (isR_pI (isR_pI hR2))) (by omega)]
    simp only [s_X4_add_0, s_X4_add_1a, s_X4_add_1b, s_X4_add_4, s_X4_add_7, s_X4_add_9, s_X4_add_10, s_X4_add_11a, s_X4_add_11b, s_X4_add_14, s_X4_add_16, s_X4_add_17, s_X4_add_18a, s_X4_add_18b, s_X4_add_21, s_X4_add_22, s_X4_add_23a, s_X4_add_23b, s_X4_add_26, s_X4_add_27, s_X4_add_29, s_X4_add_30, s_X4_add_31a, s_X4_add_31b, s_X4_add_34, s_X4_add_35, s_X4_add_37, s_X4_add_38, s_X4_add_39a, s_X4_add_39b, s_X4_add_42, s_X4_add_43, s_X4_add_45, s_X4_add_46, s_X4_add_47a, s_X4_add_47b, s_X4_add_50, s_X4_add_51, s_X4_add_53, s_X4_add_54, s_X4_add_56a, s_X4_add_56b, s_X4_add_59, s_X4_add_61, KU_ap, hI_pI, if_true, hI_pF, pI_pI, rAdd]
end RW

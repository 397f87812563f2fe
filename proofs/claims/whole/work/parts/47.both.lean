/-! Two names laid together are a name -/
def tst (q : Nat × Nat) (m : Nat) : Nat × Nat := (if m = 0 then q.1 else q.1 + m * q.2, if m = 0 then q.2 else q.2 * 10)
def toD (m0 m1 m2 m3 m4 : Nat) : Nat := (tst (tst (tst (tst (tst (0, 1) m0) m1) m2) m3) m4).1
theorem toN_toD (a b : Nat) : toN a b = toD (mxN (paN a % 10) (paN b % 10)) (mxN (paN a / 10 % 10) (paN b / 10 % 10)) (mxN (paN a / 10 / 10 % 10) (paN b / 10 / 10 % 10)) (mxN (paN a / 10 / 10 / 10 % 10) (paN b / 10 / 10 / 10 % 10)) (mxN (paN a / 10 / 10 / 10 / 10 % 10) (paN b / 10 / 10 / 10 / 10 % 10)) := rfl
def isPd (m0 m1 m2 m3 m4 : Nat) : Bool := decide (m0 < 5) && decide (m1 < 5) && decide (m2 < 5) && decide (m3 < 5) && decide (m4 < 5) && decide (0 < m4) && (decide (0 < m3) || decide (m2 = 0)) && (decide (0 < m2) || decide (m1 = 0)) && (decide (0 < m1) || decide (m0 = 0))
theorem pd_chk : NM.all (fun n => isPd (paN n % 10) (paN n / 10 % 10) (paN n / 10 / 10 % 10) (paN n / 10 / 10 / 10 % 10) (paN n / 10 / 10 / 10 / 10 % 10)) = true := by decide +kernel
theorem pd_nm {n : Nat} (h : isNm n = true) : isPd (paN n % 10) (paN n / 10 % 10) (paN n / 10 / 10 % 10) (paN n / 10 / 10 / 10 % 10) (paN n / 10 / 10 / 10 / 10 % 10) = true := List.all_eq_true.mp pd_chk n (isNm_mem h)
theorem pd_nm2 : ∀ m4, m4 < 5 → ∀ m3, m3 < 5 → ∀ m2, m2 < 5 → ∀ m1, m1 < 5 → ∀ m0, m0 < 5 → (!isPd m0 m1 m2 m3 m4 || isNm (toD m0 m1 m2 m3 m4)) = true := by decide +kernel
theorem pd_iff (m0 m1 m2 m3 m4 : Nat) : isPd m0 m1 m2 m3 m4 = true ↔ (m0 < 5 ∧ m1 < 5 ∧ m2 < 5 ∧ m3 < 5 ∧ m4 < 5 ∧ 0 < m4 ∧ (0 < m3 ∨ m2 = 0) ∧ (0 < m2 ∨ m1 = 0) ∧ (0 < m1 ∨ m0 = 0)) := by
  simp only [isPd, Bool.and_eq_true, Bool.or_eq_true, decide_eq_true_eq, and_assoc]
theorem mx_lt {a b c : Nat} (h1 : a < c) (h2 : b < c) : mxN a b < c := by unfold mxN; split <;> assumption
theorem mx_pos {a b : Nat} (h : 0 < a ∨ 0 < b) : 0 < mxN a b := by unfold mxN; split <;> omega
theorem mx_0 {a b : Nat} (h1 : a = 0) (h2 : b = 0) : mxN a b = 0 := by subst h1; subst h2; rfl
theorem pd_mx {a0 a1 a2 a3 a4 b0 b1 b2 b3 b4 : Nat} (ha : isPd a0 a1 a2 a3 a4 = true) (hb : isPd b0 b1 b2 b3 b4 = true) : isPd (mxN a0 b0) (mxN a1 b1) (mxN a2 b2) (mxN a3 b3) (mxN a4 b4) = true := by
  rw [pd_iff] at ha hb ⊢
  obtain ⟨p0, p1, p2, p3, p4, p5, p6, p7, p8⟩ := ha
  obtain ⟨q0, q1, q2, q3, q4, q5, q6, q7, q8⟩ := hb
  refine ⟨mx_lt p0 q0, mx_lt p1 q1, mx_lt p2 q2, mx_lt p3 q3, mx_lt p4 q4, mx_pos (Or.inl p5), ?_, ?_, ?_⟩
  · by_cases h : 0 < a3 ∨ 0 < b3
    · exact Or.inl (mx_pos h)
    · exact Or.inr (mx_0 (by omega) (by omega))
  · by_cases h : 0 < a2 ∨ 0 < b2
    · exact Or.inl (mx_pos h)
    · exact Or.inr (mx_0 (by omega) (by omega))
  · by_cases h : 0 < a1 ∨ 0 < b1
    · exact Or.inl (mx_pos h)
    · exact Or.inr (mx_0 (by omega) (by omega))
theorem toN_nm {a b : Nat} (ha : isNm a = true) (hb : isNm b = true) : isNm (toN a b) = true := by
  have h := pd_mx (pd_nm ha) (pd_nm hb)
  obtain ⟨p0, p1, p2, p3, p4, _⟩ := (pd_iff _ _ _ _ _).mp h
  have := pd_nm2 _ p4 _ p3 _ p2 _ p1 _ p0
  rw [h] at this
  rw [toN_toD]
  simpa using this

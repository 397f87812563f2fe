/-! The model: two names letter by letter -/
def ctN (m0 m1 m2 m3 m4 : Nat) : Nat := if 0 < m0 then 5 else if 0 < m1 then 4 else if 0 < m2 then 3 else if 0 < m3 then 2 else if 0 < m4 then 1 else 0
theorem lop_chk : NM.all (fun n => decide (dg n = ctN (paN n % 10) (paN n / 10 % 10) (paN n / 10 / 10 % 10) (paN n / 10 / 10 / 10 % 10) (paN n / 10 / 10 / 10 / 10 % 10)) && (decide (loN n 4 = paN n % 10) && (decide (loN n 3 = paN n / 10 % 10) && (decide (loN n 2 = paN n / 10 / 10 % 10) && (decide (loN n 1 = paN n / 10 / 10 / 10 % 10) && decide (loN n 0 = paN n / 10 / 10 / 10 / 10 % 10)))))) = true := by decide +kernel
theorem lo_nm {n : Nat} (h : isNm n = true) : dg n = ctN (loN n 4) (loN n 3) (loN n 2) (loN n 1) (loN n 0) ∧ isPd (loN n 4) (loN n 3) (loN n 2) (loN n 1) (loN n 0) = true ∧ loN n 4 = paN n % 10 ∧ loN n 3 = paN n / 10 % 10 ∧ loN n 2 = paN n / 10 / 10 % 10 ∧ loN n 1 = paN n / 10 / 10 / 10 % 10 ∧ loN n 0 = paN n / 10 / 10 / 10 / 10 % 10 := by
  have h1 := List.all_eq_true.mp lop_chk n (isNm_mem h)
  simp only [Bool.and_eq_true, decide_eq_true_eq] at h1
  obtain ⟨a, b, c, d, e, f⟩ := h1
  have h2 := pd_nm h
  rw [b, c, d, e, f]
  exact ⟨a, h2, rfl, rfl, rfl, rfl, rfl⟩
def gdN (s m0 m1 m2 m3 m4 : Nat) : Nat := if s = 5 then 10 * (10 * (10 * (10 * m4 + m3) + m2) + m1) + m0 else if s = 4 then 10 * (10 * (10 * m4 + m3) + m2) + m1 else if s = 3 then 10 * (10 * m4 + m3) + m2 else if s = 2 then 10 * m4 + m3 else m4
theorem gd_chk : ∀ m4, m4 < 5 → ∀ m3, m3 < 5 → ∀ m2, m2 < 5 → ∀ m1, m1 < 5 → ∀ m0, m0 < 5 → (!isPd m0 m1 m2 m3 m4 || decide (toD m0 m1 m2 m3 m4 = gdN (ctN m0 m1 m2 m3 m4) m0 m1 m2 m3 m4)) = true := by decide +kernel
theorem mx_iff (a b : Nat) : (0 < mxN a b) ↔ (0 < a ∨ 0 < b) := by unfold mxN; split <;> omega
theorem ct_mx {a0 a1 a2 a3 a4 b0 b1 b2 b3 b4 : Nat} : ctN (mxN a0 b0) (mxN a1 b1) (mxN a2 b2) (mxN a3 b3) (mxN a4 b4) = max (ctN a0 a1 a2 a3 a4) (ctN b0 b1 b2 b3 b4) := by
  unfold ctN
  simp only [mx_iff]
  by_cases x0 : 0 < a0 ∨ 0 < b0
  · rw [if_pos x0]; repeat' split
    all_goals omega
  · rw [if_neg x0, if_neg (show ¬ 0 < a0 by omega), if_neg (show ¬ 0 < b0 by omega)]
    by_cases x1 : 0 < a1 ∨ 0 < b1
    · rw [if_pos x1]; repeat' split
      all_goals omega
    · rw [if_neg x1, if_neg (show ¬ 0 < a1 by omega), if_neg (show ¬ 0 < b1 by omega)]
      by_cases x2 : 0 < a2 ∨ 0 < b2
      · rw [if_pos x2]; repeat' split
        all_goals omega
      · rw [if_neg x2, if_neg (show ¬ 0 < a2 by omega), if_neg (show ¬ 0 < b2 by omega)]
        repeat' split
        all_goals omega
def btS (a b k r : Nat) : Nat := 10 * r + mxN (loN a k) (loN b k)
theorem bt_eq {a b : Nat} (ha : isNm a = true) (hb : isNm b = true) : it (fun k r => btS a b k r) (max (dg a) (dg b)) 0 0 = toN a b := by
  obtain ⟨a1, a2, a3, a4, a5, a6, a7⟩ := lo_nm ha
  obtain ⟨b1, b2, b3, b4, b5, b6, b7⟩ := lo_nm hb
  have hp := pd_mx a2 b2
  obtain ⟨p0, p1, p2, p3, p4, _⟩ := (pd_iff _ _ _ _ _).mp hp
  have h := gd_chk _ p4 _ p3 _ p2 _ p1 _ p0
  rw [hp] at h
  simp only [Bool.not_true, Bool.false_or, decide_eq_true_eq] at h
  rw [toN_toD, ← a3, ← a4, ← a5, ← a6, ← a7, ← b3, ← b4, ← b5, ← b6, ← b7, h, ct_mx, ← a1, ← b1]
  have h5 := (nm1 ha).2.2.2.2
  have h5' := (nm1 hb).2.2.2.2
  have h6 := dg_pos (n := a) (by have := (nm1 ha).2.1; omega)
  generalize hs : max (dg a) (dg b) = s
  have hs1 : 1 ≤ s := by omega
  have hs2 : s ≤ 5 := by omega
  clear hs h
  obtain e | e | e | e | e : s = 1 ∨ s = 2 ∨ s = 3 ∨ s = 4 ∨ s = 5 := by omega
  all_goals (subst e; simp [it, btS, gdN])
theorem toN_comm (a b : Nat) : toN a b = toN b a := by
  have m : ∀ x y, mxN x y = mxN y x := by intro x y; unfold mxN; split <;> split <;> omega
  rw [toN_toD, toN_toD, m (paN a % 10), m (paN a / 10 % 10), m (paN a / 10 / 10 % 10), m (paN a / 10 / 10 / 10 % 10), m (paN a / 10 / 10 / 10 / 10 % 10)]
section M18
variable {g : GL} {h : HP} {Φ : Value → HP → Prop} {M : Nat}
theorem gr_mx {a b : Nat} (ha : a < 2147483648) (hb : b < 2147483648) : (if nI b < nI a then nI a else nI b) = nI (mxN a b) := by
  simp only [lt_nI hb ha]
  unfold mxN
  split <;> split <;> first | rfl | (congr 1; omega)
theorem p_both {a b : Nat} (ha : isNm a = true) (hb : isNm b = true) : J g k_X9_both 0 [.int (nI a), .int (nI b), m_D, m_D, m_D] [] [] h Φ = Φ (.int (nI (toN a b))) h := by
  have la := (nm1 ha).1
  have lb := (nm1 hb).1
  have da := (nm1 ha).2.2.2.2
  have db := (nm1 hb).2.2.2.2
  have m10' : ∀ a : Nat, (10 : Int32) * nI a = nI (10 * a) := fun a => i_mul 10 a
  have mm : mxN (dg a) (dg b) = max (dg a) (dg b) := by unfold mxN; split <;> omega
  have hsz : max (dg a) (dg b) < 2147483648 := by omega
  simp only [s_X9_both_0, s_X9_both_1, s_X9_both_2, s_X9_both_3, s_X9_both_6, s_X9_both_7, s_X9_both_10, s_X9_both_13, s_X9_both_14, s_X9_both_15, s_X9_both_19, s_X9_both_20, s_X9_both_23, s_X9_both_25, s_X9_both_26, s_X9_both_27, s_X9_both_28, s_X9_both_30, s_X9_both_33, s_X9_both_34, s_X9_both_36, s_X9_both_39, s_X9_both_42, s_X9_both_43, s_X9_both_44, s_X9_both_47, s_X9_both_50, s_X9_both_51, dropL_nil, p_sizeOf (show a < 2147483648 by omega), p_sizeOf (show b < 2147483648 by omega), KV_ap, p_greater, gr_mx (show dg a < 2147483648 by omega) (show dg b < 2147483648 by omega), mm]
  have key := J_it0 (fun k (q : Nat) => J g k_X9_both 17 [.int (nI a), .int (nI b), .int (nI q), .int (nI (max (dg a) (dg b))), .int (nI k)] [] [] h Φ) (fun k q => btS a b k q) (max (dg a) (dg b)) (fun k q hk => by
    have h1 := loN_lt a k
    have h2 := loN_lt b k
    rw [s_X9_both_17]
    simp only [s_X9_both_0, s_X9_both_1, s_X9_both_2, s_X9_both_3, s_X9_both_6, s_X9_both_7, s_X9_both_10, s_X9_both_13, s_X9_both_14, s_X9_both_15, s_X9_both_19, s_X9_both_20, s_X9_both_23, s_X9_both_25, s_X9_both_26, s_X9_both_27, s_X9_both_28, s_X9_both_30, s_X9_both_33, s_X9_both_34, s_X9_both_36, s_X9_both_39, s_X9_both_42, s_X9_both_43, s_X9_both_44, s_X9_both_47, s_X9_both_50, s_X9_both_51, dropL_nil, le_nI hsz (show k < 2147483648 by omega), if_neg (Nat.not_le.mpr hk), p_letterOf (show a < 2147483648 by omega) (show k < 2147483648 by omega), p_letterOf (show b < 2147483648 by omega) (show k < 2147483648 by omega), KV_ap, p_greater, gr_mx (show loN a k < 2147483648 by omega) (show loN b k < 2147483648 by omega), m10', i_add, a1]
    rfl) 0
  refine Eq.trans key ?_
  rw [s_X9_both_17]
  simp only [s_X9_both_0, s_X9_both_1, s_X9_both_2, s_X9_both_3, s_X9_both_6, s_X9_both_7, s_X9_both_10, s_X9_both_13, s_X9_both_14, s_X9_both_15, s_X9_both_19, s_X9_both_20, s_X9_both_23, s_X9_both_25, s_X9_both_26, s_X9_both_27, s_X9_both_28, s_X9_both_30, s_X9_both_33, s_X9_both_34, s_X9_both_36, s_X9_both_39, s_X9_both_42, s_X9_both_43, s_X9_both_44, s_X9_both_47, s_X9_both_50, s_X9_both_51, le_nI hsz hsz, Nat.le_refl, if_true, bt_eq ha hb]
end M18

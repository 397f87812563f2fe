/-! The model: its sticks, what it reads in them; town, forget, clear, status -/
theorem ti_1 : ∀ n, n < 7 → (nI n - 1).toInt = (n : Int) - 1 ∧ (nI n).toInt = (n : Int) := by decide +kernel
theorem le_m1 {v : Int32} {n : Nat} (hn : n ≤ 6) : (v ≤ nI n - 1) = (v < nI n) := by
  obtain ⟨e1, e2⟩ := ti_1 n (by omega)
  apply propext
  rw [Int32.le_iff_toInt_le, Int32.lt_iff_toInt_lt, e1, e2]
  omega
section M5
variable {g : GL} {h : HP} {Φ : Value → HP → Prop} {M : Nat} {u : XS}
theorem p_isStick (hM : isM h M u) (v : Int32) : J g k_X9_isStick 0 [.ref M, .int v] [] [] h Φ = Φ (.int (zI (decide (0 ≤ v ∧ v < nI u.1.1.length)))) h := by
  simp only [s_X9_isStick_0, s_X9_isStick_1, s_X9_isStick_2, s_X9_isStick_3, s_X9_isStick_6, s_X9_isStick_7, s_X9_isStick_8, zI_0, Bool.true_eq_false, Bool.false_eq_true, not_true_eq_false, not_false_eq_true, if_true, if_false, KV_ap, KU_ap, dropL_nil, hM.1.1, hM.2.2.1.1, p_in, le_m1 hM.2.2.2.1.1]
  rw [s_X9_isStick_11 (by rw [zI_01]; trivial)]
theorem p_readIn (hM : isM h M u) {j x : Nat} (hj : j < u.1.1.length) (hx : x < 9) : J g k_X9_readIn 0 [.ref M, .int (nI j), .int (nI x)] [] [] h Φ = Φ (.int (nI (rS (gS u.1.1 j) x))) h := by
  have hl := hM.2.2.2.1.1
  obtain ⟨e0, e1, e2, e3⟩ := hM.2.2.2.2.1 j hj
  obtain ⟨w1, w2, w3, w4⟩ := hM.2.2.2.1.2.2.2.1 j hj
  have sh := hM.2.1.2.1
  have hi : m_inb (nI j) 6 = true := by rw [inb_nI (by omega)]; simpa using (show j < 6 by omega)
  simp only [s_X9_readIn_0, s_X9_readIn_1, s_X9_readIn_4, s_X9_readIn_5, s_X9_readIn_6, s_X9_readIn_7, s_X9_readIn_10, s_X9_readIn_11, s_X9_readIn_12, s_X9_readIn_13, s_X9_readIn_14, s_X9_readIn_17, s_X9_readIn_18, s_X9_readIn_19, s_X9_readIn_22, zI_0, Bool.true_eq_false, Bool.false_eq_true, not_true_eq_false, not_false_eq_true, if_true, if_false, KV_ap, KU_ap, dropL_nil, hM.1.1, hM.1.2.2.1, hM.1.2.2.2.1, hM.1.2.2.2.2.2.1, sh 2 (by decide) (by decide), sh 3 (by decide) (by decide), sh 5 (by decide) (by decide), hi, cl_nI (show j < 2147483648 by omega), e0, e1, e3, p_readBy w1 w2 hx (show (gS u.1.1 j).2.2.2 < 19 by omega)]
  rfl
theorem m_status (v : Int32) : cM k_X9_status [.int v] (aStatus v) := by
  intro g h M u Φ hM k
  have l2 : (v ≤ 2) = (v < 3) := le_m1 (n := 3) (by decide)
  cases g1 : decide (0 ≤ v ∧ v < 3)
  · have e : aStatus v u = (.int (-1), bdU u 0) := by simp only [aStatus, g1, Bool.false_eq_true, if_false]
    rw [e] at k
    simp only [s_X9_status_0, s_X9_status_1, s_X9_status_2, s_X9_status_3, s_X9_status_6, s_X9_status_9, s_X9_status_10, s_X9_status_13, s_X9_status_14, s_X9_status_15, s_X9_status_16, s_X9_status_17, s_X9_status_18, s_X9_status_19, s_X9_status_20, s_X9_status_21, s_X9_status_22, s_X9_status_25, s_X9_status_26, s_X9_status_27, zI_0, Bool.true_eq_false, Bool.false_eq_true, not_true_eq_false, not_false_eq_true, if_true, if_false, KV_ap, KU_ap, dropL_nil, p_in, l2, g1, hM.1.1, hM.1.2.1, hM.2.1.1, i03, z0]
    exact k _ (isM_bd hM (by decide)) (frm_bd 0)
  · obtain ⟨j, ej, hj⟩ := hs_ex (n := 3) (by decide) g1
    have e : aStatus v u = (.int (u.2.2.2.2 j), u) := by
      simp only [aStatus, g1, if_true]
      rw [ej, cl_nI (show j < 2147483648 by omega)]
    rw [e] at k
    subst ej
    have hi : m_inb (nI j) 3 = true := by rw [inb_nI (by omega)]; simpa using hj
    have r := hM.2.2.2.2.2.2.2.2.1 j hj
    simp only [s_X9_status_0, s_X9_status_1, s_X9_status_2, s_X9_status_3, s_X9_status_6, s_X9_status_9, s_X9_status_10, s_X9_status_13, s_X9_status_14, s_X9_status_15, s_X9_status_16, s_X9_status_17, s_X9_status_18, s_X9_status_19, s_X9_status_20, s_X9_status_21, s_X9_status_22, s_X9_status_25, s_X9_status_26, s_X9_status_27, zI_0, Bool.true_eq_false, Bool.false_eq_true, not_true_eq_false, not_false_eq_true, if_true, if_false, KV_ap, KU_ap, dropL_nil, p_in, l2, g1, hM.1.1, hM.1.2.1, hM.2.1.1, hi, cl_nI (show j < 2147483648 by omega), r]
    exact k h hM (frm_rfl h _ _)
end M5

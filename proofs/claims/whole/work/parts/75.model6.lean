/-! The model's calls: of, part, letters -/
theorem m_of (v0 v1 : Int32) : cM k_X9_of [.int v0, .int v1] (aOf v0 v1) := by
  intro g h M u Φ hM k
  have hl := hM.2.2.2.1.1
  have l2 : (v1 ≤ 3) = (v1 < 4) := le_m1 (n := 4) (by decide)
  have hbad : (decide (0 ≤ v0 ∧ v0 < nI u.1.1.length) && decide (0 ≤ v1 ∧ v1 < 4)) = false → aOf v0 v1 u = (.int (-2), bdU u 0) := fun z => by rw [aOf, z]; rfl
  cases g1 : decide (0 ≤ v0 ∧ v0 < nI u.1.1.length)
  · rw [hbad (by simp only [g1, Bool.false_and])] at k
    simp only [s_X9_of_0, s_X9_of_1, s_X9_of_2, s_X9_of_5, s_X9_of_8, s_X9_of_9, s_X9_of_10, s_X9_of_11, s_X9_of_14, s_X9_of_17, s_X9_of_18, s_X9_of_21, s_X9_of_22, s_X9_of_23, s_X9_of_26, s_X9_of_27, s_X9_of_30, s_X9_of_31, s_X9_of_32, s_X9_of_35, s_X9_of_36, s_X9_of_37, s_X9_of_40, s_X9_of_41, s_X9_of_44, s_X9_of_45, s_X9_of_46, s_X9_of_49, s_X9_of_50, s_X9_of_51, s_X9_of_54, s_X9_of_55, s_X9_of_58, s_X9_of_59, s_X9_of_60, s_X9_of_63, s_X9_of_64, s_X9_of_67, s_X9_of_68, s_X9_of_69, zI_0, Bool.true_eq_false, Bool.false_eq_true, not_true_eq_false, not_false_eq_true, if_true, if_false, KV_ap, KU_ap, dropL_nil, hM.1.1, p_isStick hM, g1]
    exact p_bad hM (fun h' hM' hf => by simp only [KV_ap, s_X9_of_0, s_X9_of_1, s_X9_of_2, s_X9_of_5, s_X9_of_8, s_X9_of_9, s_X9_of_10, s_X9_of_11, s_X9_of_14, s_X9_of_17, s_X9_of_18, s_X9_of_21, s_X9_of_22, s_X9_of_23, s_X9_of_26, s_X9_of_27, s_X9_of_30, s_X9_of_31, s_X9_of_32, s_X9_of_35, s_X9_of_36, s_X9_of_37, s_X9_of_40, s_X9_of_41, s_X9_of_44, s_X9_of_45, s_X9_of_46, s_X9_of_49, s_X9_of_50, s_X9_of_51, s_X9_of_54, s_X9_of_55, s_X9_of_58, s_X9_of_59, s_X9_of_60, s_X9_of_63, s_X9_of_64, s_X9_of_67, s_X9_of_68, s_X9_of_69]; exact k h' hM' hf)
  · cases g2 : decide (0 ≤ v1 ∧ v1 < 4)
    · rw [hbad (by simp only [g1, g2, Bool.and_false])] at k
      simp only [s_X9_of_0, s_X9_of_1, s_X9_of_2, s_X9_of_5, s_X9_of_8, s_X9_of_9, s_X9_of_10, s_X9_of_11, s_X9_of_14, s_X9_of_17, s_X9_of_18, s_X9_of_21, s_X9_of_22, s_X9_of_23, s_X9_of_26, s_X9_of_27, s_X9_of_30, s_X9_of_31, s_X9_of_32, s_X9_of_35, s_X9_of_36, s_X9_of_37, s_X9_of_40, s_X9_of_41, s_X9_of_44, s_X9_of_45, s_X9_of_46, s_X9_of_49, s_X9_of_50, s_X9_of_51, s_X9_of_54, s_X9_of_55, s_X9_of_58, s_X9_of_59, s_X9_of_60, s_X9_of_63, s_X9_of_64, s_X9_of_67, s_X9_of_68, s_X9_of_69, zI_0, Bool.true_eq_false, Bool.false_eq_true, not_true_eq_false, not_false_eq_true, if_true, if_false, KV_ap, KU_ap, dropL_nil, hM.1.1, p_isStick hM, p_in, l2, g1, g2]
      exact p_bad hM (fun h' hM' hf => by simp only [KV_ap, s_X9_of_0, s_X9_of_1, s_X9_of_2, s_X9_of_5, s_X9_of_8, s_X9_of_9, s_X9_of_10, s_X9_of_11, s_X9_of_14, s_X9_of_17, s_X9_of_18, s_X9_of_21, s_X9_of_22, s_X9_of_23, s_X9_of_26, s_X9_of_27, s_X9_of_30, s_X9_of_31, s_X9_of_32, s_X9_of_35, s_X9_of_36, s_X9_of_37, s_X9_of_40, s_X9_of_41, s_X9_of_44, s_X9_of_45, s_X9_of_46, s_X9_of_49, s_X9_of_50, s_X9_of_51, s_X9_of_54, s_X9_of_55, s_X9_of_58, s_X9_of_59, s_X9_of_60, s_X9_of_63, s_X9_of_64, s_X9_of_67, s_X9_of_68, s_X9_of_69]; exact k h' hM' hf)
    · obtain ⟨j, ej, hj⟩ := hs_ex (show u.1.1.length < 2147483648 by omega) g1
      obtain ⟨m, em, hm⟩ := hs_ex (n := 4) (by decide) g2
      have e : aOf v0 v1 u = (.int (nI (ofN (gS u.1.1 j) m)), u) := by
        simp only [aOf, g1, g2, Bool.and_self, if_true]
        rw [ej, em, cl_nI (show j < 2147483648 by omega), cl_nI (show m < 2147483648 by omega)]
      rw [e] at k
      subst ej; subst em
      have k' := k h hM (frm_rfl h _ _)
      have hi : m_inb (nI j) 6 = true := by rw [inb_nI (by omega)]; simpa using (show j < 6 by omega)
      obtain ⟨e0, e1, e2, e3⟩ := hM.2.2.2.2.1 j hj
      have sh := hM.2.1.2.1
      simp only [s_X9_of_0, s_X9_of_1, s_X9_of_2, s_X9_of_5, s_X9_of_8, s_X9_of_9, s_X9_of_10, s_X9_of_11, s_X9_of_14, s_X9_of_17, s_X9_of_18, s_X9_of_21, s_X9_of_22, s_X9_of_23, s_X9_of_26, s_X9_of_27, s_X9_of_30, s_X9_of_31, s_X9_of_32, s_X9_of_35, s_X9_of_36, s_X9_of_37, s_X9_of_40, s_X9_of_41, s_X9_of_44, s_X9_of_45, s_X9_of_46, s_X9_of_49, s_X9_of_50, s_X9_of_51, s_X9_of_54, s_X9_of_55, s_X9_of_58, s_X9_of_59, s_X9_of_60, s_X9_of_63, s_X9_of_64, s_X9_of_67, s_X9_of_68, s_X9_of_69, zI_0, Bool.true_eq_false, Bool.false_eq_true, not_true_eq_false, not_false_eq_true, if_true, if_false, KV_ap, KU_ap, dropL_nil, hM.1.1, p_isStick hM, p_in, l2, g1, g2, hM.1.2.2.1, hM.1.2.2.2.1, hM.1.2.2.2.2.1, hM.1.2.2.2.2.2.1, sh 2 (by decide) (by decide), sh 3 (by decide) (by decide), sh 4 (by decide) (by decide), sh 5 (by decide) (by decide), hi, cl_nI (show j < 2147483648 by omega), e0, e1, e2, e3, c1, c2, eq0 (show m < 2147483648 by omega), eq_nI (show m < 2147483648 by omega) (show 1 < 2147483648 by decide), eq_nI (show m < 2147483648 by omega) (show 2 < 2147483648 by decide)]
      obtain em | em | em | em : m = 0 ∨ m = 1 ∨ m = 2 ∨ m = 3 := by omega
      all_goals subst em
      · simp only [not_true_eq_false, if_false]; exact k'
      · simp only [show ¬ (1 = 0) by decide, not_true_eq_false, not_false_eq_true, if_true, if_false]; exact k'
      · simp only [show ¬ (2 = 0) by decide, show ¬ (2 = 1) by decide, not_true_eq_false, not_false_eq_true, if_true, if_false]; exact k'
      · simp only [show ¬ (3 = 0) by decide, show ¬ (3 = 1) by decide, show ¬ (3 = 2) by decide, not_false_eq_true, if_true]; exact k'
theorem m_letters (v : Int32) : cM k_X9_letters [.int v, m_D, m_D] (aLetters v) := by
  intro g h M u Φ hM k
  have hl := hM.2.2.2.1.1
  cases g1 : decide (0 ≤ v ∧ v < nI u.1.1.length)
  · have e : aLetters v u = (.int (-2), bdU u 0) := by simp only [aLetters, g1, Bool.false_eq_true, if_false]
    rw [e] at k
    simp only [s_X9_letters_0, s_X9_letters_1, s_X9_letters_2, s_X9_letters_5, s_X9_letters_8, s_X9_letters_9, s_X9_letters_12, s_X9_letters_13, s_X9_letters_14, s_X9_letters_15, s_X9_letters_16, s_X9_letters_18, s_X9_letters_19, s_X9_letters_22, s_X9_letters_23, s_X9_letters_24, s_X9_letters_27, s_X9_letters_28, s_X9_letters_29, s_X9_letters_30, s_X9_letters_31, s_X9_letters_34, s_X9_letters_37, s_X9_letters_38, s_X9_letters_39, s_X9_letters_42, s_X9_letters_45, s_X9_letters_46, zI_0, Bool.true_eq_false, Bool.false_eq_true, not_true_eq_false, not_false_eq_true, if_true, if_false, KV_ap, KU_ap, dropL_nil, hM.1.1, p_isStick hM, g1]
    exact p_bad hM (fun h' hM' hf => by simp only [KV_ap, s_X9_letters_0, s_X9_letters_1, s_X9_letters_2, s_X9_letters_5, s_X9_letters_8, s_X9_letters_9, s_X9_letters_12, s_X9_letters_13, s_X9_letters_14, s_X9_letters_15, s_X9_letters_16, s_X9_letters_18, s_X9_letters_19, s_X9_letters_22, s_X9_letters_23, s_X9_letters_24, s_X9_letters_27, s_X9_letters_28, s_X9_letters_29, s_X9_letters_30, s_X9_letters_31, s_X9_letters_34, s_X9_letters_37, s_X9_letters_38, s_X9_letters_39, s_X9_letters_42, s_X9_letters_45, s_X9_letters_46]; exact k h' hM' hf)
  · obtain ⟨j, ej, hj⟩ := hs_ex (show u.1.1.length < 2147483648 by omega) g1
    have e : aLetters v u = (.int (nI (ltN (gS u.1.1 j))), u) := by
      simp only [aLetters, g1, if_true]
      rw [ej, cl_nI (show j < 2147483648 by omega)]
    rw [e] at k
    subst ej
    have hi : m_inb (nI j) 6 = true := by rw [inb_nI (by omega)]; simpa using (show j < 6 by omega)
    obtain ⟨e0, e1, e2, e3⟩ := hM.2.2.2.2.1 j hj
    obtain ⟨w1, w2, w3, w4⟩ := hM.2.2.2.1.2.2.2.1 j hj
    have sh := hM.2.1.2.1
    simp only [s_X9_letters_0, s_X9_letters_1, s_X9_letters_2, s_X9_letters_5, s_X9_letters_8, s_X9_letters_9, s_X9_letters_12, s_X9_letters_13, s_X9_letters_14, s_X9_letters_15, s_X9_letters_16, s_X9_letters_18, s_X9_letters_19, s_X9_letters_22, s_X9_letters_23, s_X9_letters_24, s_X9_letters_27, s_X9_letters_28, s_X9_letters_29, s_X9_letters_30, s_X9_letters_31, s_X9_letters_34, s_X9_letters_37, s_X9_letters_38, s_X9_letters_39, s_X9_letters_42, s_X9_letters_45, s_X9_letters_46, zI_0, Bool.true_eq_false, Bool.false_eq_true, not_true_eq_false, not_false_eq_true, if_true, if_false, KV_ap, KU_ap, dropL_nil, hM.1.1, p_isStick hM, g1]
    have key := J_it0 (fun x a => J g k_X9_letters 17 [.ref M, .int (nI j), .int (nI a), .int (nI x)] [] [] h Φ) (fun x a => a + dg (rS (gS u.1.1 j) x)) (gS u.1.1 j).2.2.1 (fun x a hx => by
      have hr := rS_lt hM.2.2.2.1.2.2.2.1 (x := x) hj (by omega)
      rw [s_X9_letters_17]
      simp only [s_X9_letters_0, s_X9_letters_1, s_X9_letters_2, s_X9_letters_5, s_X9_letters_8, s_X9_letters_9, s_X9_letters_12, s_X9_letters_13, s_X9_letters_14, s_X9_letters_15, s_X9_letters_16, s_X9_letters_18, s_X9_letters_19, s_X9_letters_22, s_X9_letters_23, s_X9_letters_24, s_X9_letters_27, s_X9_letters_28, s_X9_letters_29, s_X9_letters_30, s_X9_letters_31, s_X9_letters_34, s_X9_letters_37, s_X9_letters_38, s_X9_letters_39, s_X9_letters_42, s_X9_letters_45, s_X9_letters_46, zI_0, Bool.true_eq_false, Bool.false_eq_true, not_true_eq_false, not_false_eq_true, if_true, if_false, KV_ap, KU_ap, dropL_nil, hM.1.1, hM.1.2.2.2.2.1, sh 4 (by decide) (by decide), hi, cl_nI (show j < 2147483648 by omega), e2, le_nI (show (gS u.1.1 j).2.2.1 < 2147483648 by omega) (show x < 2147483648 by omega), if_neg (Nat.not_le.mpr hx), p_readIn hM hj (show x < 9 by omega), p_sizeOf (show rS (gS u.1.1 j) x < 2147483648 by omega), i_add, a1]) 0
    refine Eq.mpr key ?_
    rw [s_X9_letters_17]
    simp only [s_X9_letters_0, s_X9_letters_1, s_X9_letters_2, s_X9_letters_5, s_X9_letters_8, s_X9_letters_9, s_X9_letters_12, s_X9_letters_13, s_X9_letters_14, s_X9_letters_15, s_X9_letters_16, s_X9_letters_18, s_X9_letters_19, s_X9_letters_22, s_X9_letters_23, s_X9_letters_24, s_X9_letters_27, s_X9_letters_28, s_X9_letters_29, s_X9_letters_30, s_X9_letters_31, s_X9_letters_34, s_X9_letters_37, s_X9_letters_38, s_X9_letters_39, s_X9_letters_42, s_X9_letters_45, s_X9_letters_46, zI_0, Bool.true_eq_false, Bool.false_eq_true, not_true_eq_false, not_false_eq_true, if_true, if_false, KV_ap, KU_ap, dropL_nil, hM.1.1, hM.1.2.2.2.2.1, sh 4 (by decide) (by decide), hi, cl_nI (show j < 2147483648 by omega), e2, le_nI (show (gS u.1.1 j).2.2.1 < 2147483648 by omega) (show (gS u.1.1 j).2.2.1 < 2147483648 by omega), Nat.le_refl]
    exact k h hM (frm_rfl h _ _)

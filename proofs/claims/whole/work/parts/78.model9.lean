/-! The model's calls: sucks -/
theorem m_sucks (v0 v1 : Int32) : cM k_X9_sucks [.int v0, .int v1, m_D] (aSucks v0 v1) := by
  intro g h M u Φ hM k
  have hl := hM.2.2.2.1.1
  have hbad : (decide (0 ≤ v0 ∧ v0 < nI u.1.1.length) && decide (0 ≤ v1 ∧ v1 < 9)) = false → aSucks v0 v1 u = (.int (-2), bdU u 0) := fun z => by rw [aSucks, z]; rfl
  cases g1 : decide (0 ≤ v0 ∧ v0 < nI u.1.1.length)
  · rw [hbad (by simp only [g1, Bool.false_and])] at k
    simp only [s_X9_sucks_0, s_X9_sucks_1, s_X9_sucks_2, s_X9_sucks_5, s_X9_sucks_8, s_X9_sucks_9, s_X9_sucks_10, s_X9_sucks_12, s_X9_sucks_15, s_X9_sucks_18, s_X9_sucks_19, s_X9_sucks_22, s_X9_sucks_23, s_X9_sucks_24, s_X9_sucks_26, s_X9_sucks_28, s_X9_sucks_31, s_X9_sucks_32, s_X9_sucks_35, s_X9_sucks_36, s_X9_sucks_37, s_X9_sucks_38, s_X9_sucks_41, s_X9_sucks_42, s_X9_sucks_43, s_X9_sucks_44, s_X9_sucks_45, s_X9_sucks_48, s_X9_sucks_49, s_X9_sucks_50, s_X9_sucks_51, s_X9_sucks_52, s_X9_sucks_55, s_X9_sucks_56, s_X9_sucks_57, s_X9_sucks_58, s_X9_sucks_61, s_X9_sucks_64, s_X9_sucks_67, s_X9_sucks_70, s_X9_sucks_71, s_X9_sucks_73, s_X9_sucks_76, s_X9_sucks_77, s_X9_sucks_80, s_X9_sucks_81, zI_0, Bool.true_eq_false, Bool.false_eq_true, not_true_eq_false, not_false_eq_true, if_true, if_false, KV_ap, KU_ap, dropL_nil, hM.1.1, p_isStick hM, g1]
    exact p_bad hM (fun h' hM' hf => by simp only [KV_ap, s_X9_sucks_0, s_X9_sucks_1, s_X9_sucks_2, s_X9_sucks_5, s_X9_sucks_8, s_X9_sucks_9, s_X9_sucks_10, s_X9_sucks_12, s_X9_sucks_15, s_X9_sucks_18, s_X9_sucks_19, s_X9_sucks_22, s_X9_sucks_23, s_X9_sucks_24, s_X9_sucks_26, s_X9_sucks_28, s_X9_sucks_31, s_X9_sucks_32, s_X9_sucks_35, s_X9_sucks_36, s_X9_sucks_37, s_X9_sucks_38, s_X9_sucks_41, s_X9_sucks_42, s_X9_sucks_43, s_X9_sucks_44, s_X9_sucks_45, s_X9_sucks_48, s_X9_sucks_49, s_X9_sucks_50, s_X9_sucks_51, s_X9_sucks_52, s_X9_sucks_55, s_X9_sucks_56, s_X9_sucks_57, s_X9_sucks_58, s_X9_sucks_61, s_X9_sucks_64, s_X9_sucks_67, s_X9_sucks_70, s_X9_sucks_71, s_X9_sucks_73, s_X9_sucks_76, s_X9_sucks_77, s_X9_sucks_80, s_X9_sucks_81]; exact k h' hM' hf)
  · cases g2 : decide (0 ≤ v1 ∧ v1 < 9)
    · rw [hbad (by simp only [g1, g2, Bool.and_false])] at k
      simp only [s_X9_sucks_0, s_X9_sucks_1, s_X9_sucks_2, s_X9_sucks_5, s_X9_sucks_8, s_X9_sucks_9, s_X9_sucks_10, s_X9_sucks_12, s_X9_sucks_15, s_X9_sucks_18, s_X9_sucks_19, s_X9_sucks_22, s_X9_sucks_23, s_X9_sucks_24, s_X9_sucks_26, s_X9_sucks_28, s_X9_sucks_31, s_X9_sucks_32, s_X9_sucks_35, s_X9_sucks_36, s_X9_sucks_37, s_X9_sucks_38, s_X9_sucks_41, s_X9_sucks_42, s_X9_sucks_43, s_X9_sucks_44, s_X9_sucks_45, s_X9_sucks_48, s_X9_sucks_49, s_X9_sucks_50, s_X9_sucks_51, s_X9_sucks_52, s_X9_sucks_55, s_X9_sucks_56, s_X9_sucks_57, s_X9_sucks_58, s_X9_sucks_61, s_X9_sucks_64, s_X9_sucks_67, s_X9_sucks_70, s_X9_sucks_71, s_X9_sucks_73, s_X9_sucks_76, s_X9_sucks_77, s_X9_sucks_80, s_X9_sucks_81, zI_0, Bool.true_eq_false, Bool.false_eq_true, not_true_eq_false, not_false_eq_true, if_true, if_false, KV_ap, KU_ap, dropL_nil, hM.1.1, p_isStick hM, p_in, le_8, g1, g2]
      exact p_bad hM (fun h' hM' hf => by simp only [KV_ap, s_X9_sucks_0, s_X9_sucks_1, s_X9_sucks_2, s_X9_sucks_5, s_X9_sucks_8, s_X9_sucks_9, s_X9_sucks_10, s_X9_sucks_12, s_X9_sucks_15, s_X9_sucks_18, s_X9_sucks_19, s_X9_sucks_22, s_X9_sucks_23, s_X9_sucks_24, s_X9_sucks_26, s_X9_sucks_28, s_X9_sucks_31, s_X9_sucks_32, s_X9_sucks_35, s_X9_sucks_36, s_X9_sucks_37, s_X9_sucks_38, s_X9_sucks_41, s_X9_sucks_42, s_X9_sucks_43, s_X9_sucks_44, s_X9_sucks_45, s_X9_sucks_48, s_X9_sucks_49, s_X9_sucks_50, s_X9_sucks_51, s_X9_sucks_52, s_X9_sucks_55, s_X9_sucks_56, s_X9_sucks_57, s_X9_sucks_58, s_X9_sucks_61, s_X9_sucks_64, s_X9_sucks_67, s_X9_sucks_70, s_X9_sucks_71, s_X9_sucks_73, s_X9_sucks_76, s_X9_sucks_77, s_X9_sucks_80, s_X9_sucks_81]; exact k h' hM' hf)
    · obtain ⟨j, ej, hj⟩ := hs_ex (show u.1.1.length < 2147483648 by omega) g1
      obtain ⟨x, ex, hx⟩ := hs_ex (n := 9) (by decide) g2
      have e : aSucks v0 v1 u = (.int (skF (gS u.1.1 j) x 9 1), u) := by
        simp only [aSucks, g1, g2, Bool.and_self, if_true]
        rw [ej, ex, cl_nI (show j < 2147483648 by omega), cl_nI (show x < 2147483648 by omega)]
      rw [e] at k
      subst ej; subst ex
      have k' := k h hM (frm_rfl h _ _)
      have hi : m_inb (nI j) 6 = true := by rw [inb_nI (by omega)]; simpa using (show j < 6 by omega)
      obtain ⟨e0, e1, e2, e3⟩ := hM.2.2.2.2.1 j hj
      obtain ⟨w1, w2, w3, w4⟩ := hM.2.2.2.1.2.2.2.1 j hj
      have sh := hM.2.1.2.1
      have hr := rS_lt hM.2.2.2.1.2.2.2.1 (x := x) hj hx
      simp only [s_X9_sucks_0, s_X9_sucks_1, s_X9_sucks_2, s_X9_sucks_5, s_X9_sucks_8, s_X9_sucks_9, s_X9_sucks_10, s_X9_sucks_12, s_X9_sucks_15, s_X9_sucks_18, s_X9_sucks_19, s_X9_sucks_22, s_X9_sucks_23, s_X9_sucks_24, s_X9_sucks_26, s_X9_sucks_28, s_X9_sucks_31, s_X9_sucks_32, s_X9_sucks_35, s_X9_sucks_36, s_X9_sucks_37, s_X9_sucks_38, s_X9_sucks_41, s_X9_sucks_42, s_X9_sucks_43, s_X9_sucks_44, s_X9_sucks_45, s_X9_sucks_48, s_X9_sucks_49, s_X9_sucks_50, s_X9_sucks_51, s_X9_sucks_52, s_X9_sucks_55, s_X9_sucks_56, s_X9_sucks_57, s_X9_sucks_58, s_X9_sucks_61, s_X9_sucks_64, s_X9_sucks_67, s_X9_sucks_70, s_X9_sucks_71, s_X9_sucks_73, s_X9_sucks_76, s_X9_sucks_77, s_X9_sucks_80, s_X9_sucks_81, zI_0, Bool.true_eq_false, Bool.false_eq_true, not_true_eq_false, not_false_eq_true, if_true, if_false, KV_ap, KU_ap, dropL_nil, hM.1.1, p_isStick hM, p_in, le_8, g1, g2]
      have key : ∀ m i, i + m = 10 → J g k_X9_sucks 25 [.ref M, .int (nI j), .int (nI x), .int (nI i)] [] [] h Φ = Φ (.int (skF (gS u.1.1 j) x m i)) h := by
        intro m
        induction m with
        | zero =>
          intro i hi'
          have : i = 10 := hi'
          subst this
          rw [s_X9_sucks_25]
          simp only [s_X9_sucks_0, s_X9_sucks_1, s_X9_sucks_2, s_X9_sucks_5, s_X9_sucks_8, s_X9_sucks_9, s_X9_sucks_10, s_X9_sucks_12, s_X9_sucks_15, s_X9_sucks_18, s_X9_sucks_19, s_X9_sucks_22, s_X9_sucks_23, s_X9_sucks_24, s_X9_sucks_26, s_X9_sucks_28, s_X9_sucks_31, s_X9_sucks_32, s_X9_sucks_35, s_X9_sucks_36, s_X9_sucks_37, s_X9_sucks_38, s_X9_sucks_41, s_X9_sucks_42, s_X9_sucks_43, s_X9_sucks_44, s_X9_sucks_45, s_X9_sucks_48, s_X9_sucks_49, s_X9_sucks_50, s_X9_sucks_51, s_X9_sucks_52, s_X9_sucks_55, s_X9_sucks_56, s_X9_sucks_57, s_X9_sucks_58, s_X9_sucks_61, s_X9_sucks_64, s_X9_sucks_67, s_X9_sucks_70, s_X9_sucks_71, s_X9_sucks_73, s_X9_sucks_76, s_X9_sucks_77, s_X9_sucks_80, s_X9_sucks_81, zI_0, Bool.true_eq_false, Bool.false_eq_true, not_true_eq_false, not_false_eq_true, if_true, if_false, KV_ap, KU_ap, dropL_nil, c9, lt_nI (show 9 < 2147483648 by decide) (show 10 < 2147483648 by decide), if_pos (show 9 < 10 by decide), skF]
        | succ m ih =>
          intro i hi'
          have hd := rdX_lt (k := (gS u.1.1 j).1) w2 hx (show (gS u.1.1 j).2.2.2 + i < 19 by omega)
          rw [s_X9_sucks_25, skF]
          simp only [s_X9_sucks_0, s_X9_sucks_1, s_X9_sucks_2, s_X9_sucks_5, s_X9_sucks_8, s_X9_sucks_9, s_X9_sucks_10, s_X9_sucks_12, s_X9_sucks_15, s_X9_sucks_18, s_X9_sucks_19, s_X9_sucks_22, s_X9_sucks_23, s_X9_sucks_24, s_X9_sucks_26, s_X9_sucks_28, s_X9_sucks_31, s_X9_sucks_32, s_X9_sucks_35, s_X9_sucks_36, s_X9_sucks_37, s_X9_sucks_38, s_X9_sucks_41, s_X9_sucks_42, s_X9_sucks_43, s_X9_sucks_44, s_X9_sucks_45, s_X9_sucks_48, s_X9_sucks_49, s_X9_sucks_50, s_X9_sucks_51, s_X9_sucks_52, s_X9_sucks_55, s_X9_sucks_56, s_X9_sucks_57, s_X9_sucks_58, s_X9_sucks_61, s_X9_sucks_64, s_X9_sucks_67, s_X9_sucks_70, s_X9_sucks_71, s_X9_sucks_73, s_X9_sucks_76, s_X9_sucks_77, s_X9_sucks_80, s_X9_sucks_81, zI_0, Bool.true_eq_false, Bool.false_eq_true, not_true_eq_false, not_false_eq_true, if_true, if_false, KV_ap, KU_ap, dropL_nil, c9, lt_nI (show 9 < 2147483648 by decide) (show i < 2147483648 by omega), if_neg (show ¬ 9 < i by omega), hM.1.1, hM.1.2.2.1, hM.1.2.2.2.1, hM.1.2.2.2.2.2.1, sh 2 (by decide) (by decide), sh 3 (by decide) (by decide), sh 5 (by decide) (by decide), hi, cl_nI (show j < 2147483648 by omega), e0, e1, e3, i_add, p_readBy w1 w2 hx (show (gS u.1.1 j).2.2.2 + i < 19 by omega), p_readIn hM hj hx, eq_nI (show rdX (gS u.1.1 j).1 (gS u.1.1 j).2.1 x ((gS u.1.1 j).2.2.2 + i) < 2147483648 by omega) (show rS (gS u.1.1 j) x < 2147483648 by omega), a1]
          by_cases hc : rdX (gS u.1.1 j).1 (gS u.1.1 j).2.1 x ((gS u.1.1 j).2.2.2 + i) = rS (gS u.1.1 j) x
          · simp only [hc, not_true_eq_false, if_false, if_true]
            exact ih (i + 1) (by omega)
          · simp only [hc, not_false_eq_true, if_false, if_true]
      refine Eq.mpr (key 9 1 rfl) ?_
      exact k'

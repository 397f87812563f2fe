/-! The model's calls: at -/
theorem p_likeIt {g : GL} {h : HP} {Φ : Value → HP → Prop} {M : Nat} {u : XS} (hM : isM h M u) (y : Int32) {x : Nat} (hx : x < 9) : J g k_X9_likeIt 0 [.ref M, .int y, .int (nI x), m_D, m_D] [] [] h Φ = Φ (.int (nI (saN u.1.1 x y))) h := by
  have hl := hM.2.2.2.1.1
  simp only [s_X9_likeIt_0, s_X9_likeIt_1, s_X9_likeIt_2, s_X9_likeIt_3, s_X9_likeIt_7, s_X9_likeIt_8, s_X9_likeIt_11, s_X9_likeIt_14, s_X9_likeIt_15, s_X9_likeIt_16, s_X9_likeIt_18, s_X9_likeIt_19, s_X9_likeIt_22, s_X9_likeIt_23, s_X9_likeIt_26, s_X9_likeIt_27, s_X9_likeIt_29, s_X9_likeIt_30, s_X9_likeIt_33, s_X9_likeIt_34, s_X9_likeIt_35, s_X9_likeIt_36, s_X9_likeIt_39, s_X9_likeIt_42, s_X9_likeIt_43, dropL_nil]
  have key := J_it (fun j b => J g k_X9_likeIt 5 [.ref M, .int y, .int (nI x), .int (nI b), .int (nI j)] [] [] h Φ) (fun j b => if decide (nI (rS (gS u.1.1 j) x) = y) = true then b + 2 ^ j else b) u.1.1.length (fun j b => b < 2 ^ j) (fun j b _ hb => by
      rw [Nat.pow_succ]; split <;> omega) (fun j b hj hb => by
    rw [s_X9_likeIt_5]
    simp only [s_X9_likeIt_0, s_X9_likeIt_1, s_X9_likeIt_2, s_X9_likeIt_3, s_X9_likeIt_7, s_X9_likeIt_8, s_X9_likeIt_11, s_X9_likeIt_14, s_X9_likeIt_15, s_X9_likeIt_16, s_X9_likeIt_18, s_X9_likeIt_19, s_X9_likeIt_22, s_X9_likeIt_23, s_X9_likeIt_26, s_X9_likeIt_27, s_X9_likeIt_29, s_X9_likeIt_30, s_X9_likeIt_33, s_X9_likeIt_34, s_X9_likeIt_35, s_X9_likeIt_36, s_X9_likeIt_39, s_X9_likeIt_42, s_X9_likeIt_43, zI_0, Bool.true_eq_false, Bool.false_eq_true, not_true_eq_false, not_false_eq_true, if_true, if_false, KV_ap, KU_ap, dropL_nil, hM.1.1, hM.2.2.1.1, le_nI (show u.1.1.length < 2147483648 by omega) (show j < 2147483648 by omega), if_neg (Nat.not_le.mpr hj), p_readIn hM hj hx, a1]
    by_cases hc : nI (rS (gS u.1.1 j) x) = y
    · simp only [hc, not_true_eq_false, if_false, decide_true, if_true, orb j (by omega) b hb]
    · simp only [hc, not_false_eq_true, if_true, decide_false, Bool.false_eq_true, if_false, Int32.or_zero]) u.1.1.length 0 0 (Nat.zero_add _) (by decide)
  refine Eq.trans key.1 ?_
  rw [s_X9_likeIt_5]
  simp only [s_X9_likeIt_0, s_X9_likeIt_1, s_X9_likeIt_2, s_X9_likeIt_3, s_X9_likeIt_7, s_X9_likeIt_8, s_X9_likeIt_11, s_X9_likeIt_14, s_X9_likeIt_15, s_X9_likeIt_16, s_X9_likeIt_18, s_X9_likeIt_19, s_X9_likeIt_22, s_X9_likeIt_23, s_X9_likeIt_26, s_X9_likeIt_27, s_X9_likeIt_29, s_X9_likeIt_30, s_X9_likeIt_33, s_X9_likeIt_34, s_X9_likeIt_35, s_X9_likeIt_36, s_X9_likeIt_39, s_X9_likeIt_42, s_X9_likeIt_43, zI_0, Bool.true_eq_false, Bool.false_eq_true, not_true_eq_false, not_false_eq_true, if_true, if_false, KV_ap, KU_ap, dropL_nil, hM.1.1, hM.2.2.1.1, le_nI (show u.1.1.length < 2147483648 by omega) (show u.1.1.length < 2147483648 by omega), Nat.le_refl]
  rfl
theorem le_8 (v : Int32) : (v ≤ 8) = (v < 9) := by
  apply propext
  rw [Int32.le_iff_toInt_le, Int32.lt_iff_toInt_lt, show ((8 : Int32)).toInt = 8 by decide, show ((9 : Int32)).toInt = 9 by decide]
  omega
theorem le_1 (v : Int32) : (v ≤ 1) = (v < 2) := le_m1 (n := 2) (by decide)
theorem m_at (v0 v1 v2 : Int32) : cM k_X9_at [.int v0, .int v1, .int v2] (aAt v0 v1 v2) := by
  intro g h M u Φ hM k
  have hl := hM.2.2.2.1.1
  have hbad : (decide (0 ≤ v0 ∧ v0 < nI u.1.1.length) && decide (0 ≤ v1 ∧ v1 < 9) && decide (0 ≤ v2 ∧ v2 < 2)) = false → aAt v0 v1 v2 u = (.int (-2), bdU u 0) := fun z => by rw [aAt, z]; rfl
  cases g1 : decide (0 ≤ v0 ∧ v0 < nI u.1.1.length)
  · rw [hbad (by simp only [g1, Bool.false_and])] at k
    simp only [s_X9_at_0, s_X9_at_1, s_X9_at_2, s_X9_at_5, s_X9_at_8, s_X9_at_9, s_X9_at_10, s_X9_at_12, s_X9_at_15, s_X9_at_18, s_X9_at_19, s_X9_at_20, s_X9_at_21, s_X9_at_24, s_X9_at_27, s_X9_at_28, s_X9_at_31, s_X9_at_32, s_X9_at_33, s_X9_at_36, s_X9_at_37, s_X9_at_38, s_X9_at_39, s_X9_at_42, s_X9_at_45, s_X9_at_46, s_X9_at_47, s_X9_at_48, s_X9_at_49, s_X9_at_52, s_X9_at_53, s_X9_at_56, zI_0, Bool.true_eq_false, Bool.false_eq_true, not_true_eq_false, not_false_eq_true, if_true, if_false, KV_ap, KU_ap, dropL_nil, hM.1.1, p_isStick hM, g1]
    exact p_bad hM (fun h' hM' hf => by simp only [KV_ap, s_X9_at_0, s_X9_at_1, s_X9_at_2, s_X9_at_5, s_X9_at_8, s_X9_at_9, s_X9_at_10, s_X9_at_12, s_X9_at_15, s_X9_at_18, s_X9_at_19, s_X9_at_20, s_X9_at_21, s_X9_at_24, s_X9_at_27, s_X9_at_28, s_X9_at_31, s_X9_at_32, s_X9_at_33, s_X9_at_36, s_X9_at_37, s_X9_at_38, s_X9_at_39, s_X9_at_42, s_X9_at_45, s_X9_at_46, s_X9_at_47, s_X9_at_48, s_X9_at_49, s_X9_at_52, s_X9_at_53, s_X9_at_56]; exact k h' hM' hf)
  · cases g2 : decide (0 ≤ v1 ∧ v1 < 9)
    · rw [hbad (by simp only [g1, g2, Bool.and_false, Bool.false_and])] at k
      simp only [s_X9_at_0, s_X9_at_1, s_X9_at_2, s_X9_at_5, s_X9_at_8, s_X9_at_9, s_X9_at_10, s_X9_at_12, s_X9_at_15, s_X9_at_18, s_X9_at_19, s_X9_at_20, s_X9_at_21, s_X9_at_24, s_X9_at_27, s_X9_at_28, s_X9_at_31, s_X9_at_32, s_X9_at_33, s_X9_at_36, s_X9_at_37, s_X9_at_38, s_X9_at_39, s_X9_at_42, s_X9_at_45, s_X9_at_46, s_X9_at_47, s_X9_at_48, s_X9_at_49, s_X9_at_52, s_X9_at_53, s_X9_at_56, zI_0, Bool.true_eq_false, Bool.false_eq_true, not_true_eq_false, not_false_eq_true, if_true, if_false, KV_ap, KU_ap, dropL_nil, hM.1.1, p_isStick hM, p_in, le_8, g1, g2]
      exact p_bad hM (fun h' hM' hf => by simp only [KV_ap, s_X9_at_0, s_X9_at_1, s_X9_at_2, s_X9_at_5, s_X9_at_8, s_X9_at_9, s_X9_at_10, s_X9_at_12, s_X9_at_15, s_X9_at_18, s_X9_at_19, s_X9_at_20, s_X9_at_21, s_X9_at_24, s_X9_at_27, s_X9_at_28, s_X9_at_31, s_X9_at_32, s_X9_at_33, s_X9_at_36, s_X9_at_37, s_X9_at_38, s_X9_at_39, s_X9_at_42, s_X9_at_45, s_X9_at_46, s_X9_at_47, s_X9_at_48, s_X9_at_49, s_X9_at_52, s_X9_at_53, s_X9_at_56]; exact k h' hM' hf)
    · cases g3 : decide (0 ≤ v2 ∧ v2 < 2)
      · rw [hbad (by simp only [g1, g2, g3, Bool.and_false])] at k
        simp only [s_X9_at_0, s_X9_at_1, s_X9_at_2, s_X9_at_5, s_X9_at_8, s_X9_at_9, s_X9_at_10, s_X9_at_12, s_X9_at_15, s_X9_at_18, s_X9_at_19, s_X9_at_20, s_X9_at_21, s_X9_at_24, s_X9_at_27, s_X9_at_28, s_X9_at_31, s_X9_at_32, s_X9_at_33, s_X9_at_36, s_X9_at_37, s_X9_at_38, s_X9_at_39, s_X9_at_42, s_X9_at_45, s_X9_at_46, s_X9_at_47, s_X9_at_48, s_X9_at_49, s_X9_at_52, s_X9_at_53, s_X9_at_56, zI_0, Bool.true_eq_false, Bool.false_eq_true, not_true_eq_false, not_false_eq_true, if_true, if_false, KV_ap, KU_ap, dropL_nil, hM.1.1, p_isStick hM, p_in, le_8, le_1, g1, g2, g3]
        exact p_bad hM (fun h' hM' hf => by simp only [KV_ap, s_X9_at_0, s_X9_at_1, s_X9_at_2, s_X9_at_5, s_X9_at_8, s_X9_at_9, s_X9_at_10, s_X9_at_12, s_X9_at_15, s_X9_at_18, s_X9_at_19, s_X9_at_20, s_X9_at_21, s_X9_at_24, s_X9_at_27, s_X9_at_28, s_X9_at_31, s_X9_at_32, s_X9_at_33, s_X9_at_36, s_X9_at_37, s_X9_at_38, s_X9_at_39, s_X9_at_42, s_X9_at_45, s_X9_at_46, s_X9_at_47, s_X9_at_48, s_X9_at_49, s_X9_at_52, s_X9_at_53, s_X9_at_56]; exact k h' hM' hf)
      · obtain ⟨j, ej, hj⟩ := hs_ex (show u.1.1.length < 2147483648 by omega) g1
        obtain ⟨x, ex, hx⟩ := hs_ex (n := 9) (by decide) g2
        have e : aAt v0 v1 v2 u = (.int (if v2 = 0 then nI (rS (gS u.1.1 j) x) else nI (saN u.1.1 x (nI (rS (gS u.1.1 j) x)))), u) := by
          simp only [aAt, g1, g2, g3, Bool.and_self, if_true]
          rw [ej, ex, cl_nI (show j < 2147483648 by omega), cl_nI (show x < 2147483648 by omega)]
        rw [e] at k
        subst ej; subst ex
        have k' := k h hM (frm_rfl h _ _)
        simp only [s_X9_at_0, s_X9_at_1, s_X9_at_2, s_X9_at_5, s_X9_at_8, s_X9_at_9, s_X9_at_10, s_X9_at_12, s_X9_at_15, s_X9_at_18, s_X9_at_19, s_X9_at_20, s_X9_at_21, s_X9_at_24, s_X9_at_27, s_X9_at_28, s_X9_at_31, s_X9_at_32, s_X9_at_33, s_X9_at_36, s_X9_at_37, s_X9_at_38, s_X9_at_39, s_X9_at_42, s_X9_at_45, s_X9_at_46, s_X9_at_47, s_X9_at_48, s_X9_at_49, s_X9_at_52, s_X9_at_53, s_X9_at_56, zI_0, Bool.true_eq_false, Bool.false_eq_true, not_true_eq_false, not_false_eq_true, if_true, if_false, KV_ap, KU_ap, dropL_nil, hM.1.1, p_isStick hM, p_in, le_8, le_1, g1, g2, g3, p_readIn hM hj hx, p_likeIt hM _ hx]
        by_cases hv : v2 = 0
        · rw [if_neg (fun z => z hv)]
          simp only [hv, if_true] at k'
          exact k'
        · rw [if_pos hv]
          simp only [hv, if_false] at k'
          exact k'

/-! The model's calls: note, is, whose -/
theorem le_9 (v : Int32) : (v ≤ 9) = (v < 10) := by
  rw [Int32.lt_iff_toInt_lt, Int32.le_iff_toInt_le]
  show (v.toInt ≤ 9) = (v.toInt < 10)
  apply propext
  omega
theorem m_whose (v0 v1 : Int32) : cM k_X9_whose [.int v0, .int v1] (aWhose v0 v1) := by
  intro g h M u Φ hM k
  have hbad : (decide (0 ≤ v0 ∧ v0 < 9) && rdI v1) = false → aWhose v0 v1 u = (.int (-2), bdU u 0) := fun z => by rw [aWhose, z]; rfl
  cases g1 : decide (0 ≤ v0 ∧ v0 < 9)
  · rw [hbad (by simp only [g1, Bool.false_and])] at k
    simp only [s_X9_whose_0, s_X9_whose_1, s_X9_whose_2, s_X9_whose_4, s_X9_whose_7, s_X9_whose_10, s_X9_whose_11, s_X9_whose_14, s_X9_whose_15, s_X9_whose_18, s_X9_whose_21, s_X9_whose_22, s_X9_whose_23, s_X9_whose_24, s_X9_whose_27, s_X9_whose_30, s_X9_whose_31, s_X9_whose_34, zI_0, Bool.true_eq_false, Bool.false_eq_true, not_true_eq_false, not_false_eq_true, if_true, if_false, KV_ap, KU_ap, dropL_nil, hM.1.1, p_in, le_8, g1]
    exact p_bad hM (fun h' hM' hf => by simp only [KV_ap, s_X9_whose_0, s_X9_whose_1, s_X9_whose_2, s_X9_whose_4, s_X9_whose_7, s_X9_whose_10, s_X9_whose_11, s_X9_whose_14, s_X9_whose_15, s_X9_whose_18, s_X9_whose_21, s_X9_whose_22, s_X9_whose_23, s_X9_whose_24, s_X9_whose_27, s_X9_whose_30, s_X9_whose_31, s_X9_whose_34]; exact k h' hM' hf)
  · obtain ⟨x, ex, hx⟩ := hs_ex (n := 9) (by decide) g1
    have good : rdI v1 = true → Φ (.int (nI (saN u.1.1 x v1))) h := fun z => by
      have e : aWhose v0 v1 u = (.int (nI (saN u.1.1 x v1)), u) := by
        simp only [aWhose, g1, z, Bool.and_self, if_true]
        rw [ex, cl_nI (show x < 2147483648 by omega)]
      rw [e] at k
      exact k h hM (frm_rfl h _ _)
    by_cases g2 : v1 = 0
    · have g3 := good (by rw [rdI, decide_eq_true g2]; rfl)
      subst ex
      simp only [s_X9_whose_0, s_X9_whose_1, s_X9_whose_2, s_X9_whose_4, s_X9_whose_7, s_X9_whose_10, s_X9_whose_11, s_X9_whose_14, s_X9_whose_15, s_X9_whose_18, s_X9_whose_21, s_X9_whose_22, s_X9_whose_23, s_X9_whose_24, s_X9_whose_27, s_X9_whose_30, s_X9_whose_31, s_X9_whose_34, zI_0, Bool.true_eq_false, Bool.false_eq_true, not_true_eq_false, not_false_eq_true, if_true, if_false, KV_ap, KU_ap, dropL_nil, hM.1.1, p_in, le_8, g1, g2, p_likeIt hM _ hx]
      rw [g2] at g3
      exact g3
    · cases g4 : nmI v1
      · rw [hbad (by simp only [g1, rdI, decide_eq_false g2, g4, Bool.or_self, Bool.and_false])] at k
        simp only [s_X9_whose_0, s_X9_whose_1, s_X9_whose_2, s_X9_whose_4, s_X9_whose_7, s_X9_whose_10, s_X9_whose_11, s_X9_whose_14, s_X9_whose_15, s_X9_whose_18, s_X9_whose_21, s_X9_whose_22, s_X9_whose_23, s_X9_whose_24, s_X9_whose_27, s_X9_whose_30, s_X9_whose_31, s_X9_whose_34, zI_0, Bool.true_eq_false, Bool.false_eq_true, not_true_eq_false, not_false_eq_true, if_true, if_false, KV_ap, KU_ap, dropL_nil, hM.1.1, p_in, le_8, g1, g2, p_isName, g4]
        exact p_bad hM (fun h' hM' hf => by simp only [KV_ap, s_X9_whose_0, s_X9_whose_1, s_X9_whose_2, s_X9_whose_4, s_X9_whose_7, s_X9_whose_10, s_X9_whose_11, s_X9_whose_14, s_X9_whose_15, s_X9_whose_18, s_X9_whose_21, s_X9_whose_22, s_X9_whose_23, s_X9_whose_24, s_X9_whose_27, s_X9_whose_30, s_X9_whose_31, s_X9_whose_34]; exact k h' hM' hf)
      · have g3 := good (by rw [rdI, g4, Bool.or_true])
        subst ex
        simp only [s_X9_whose_0, s_X9_whose_1, s_X9_whose_2, s_X9_whose_4, s_X9_whose_7, s_X9_whose_10, s_X9_whose_11, s_X9_whose_14, s_X9_whose_15, s_X9_whose_18, s_X9_whose_21, s_X9_whose_22, s_X9_whose_23, s_X9_whose_24, s_X9_whose_27, s_X9_whose_30, s_X9_whose_31, s_X9_whose_34, zI_0, Bool.true_eq_false, Bool.false_eq_true, not_true_eq_false, not_false_eq_true, if_true, if_false, KV_ap, KU_ap, dropL_nil, hM.1.1, p_in, le_8, g1, g2, p_isName, g4, p_likeIt hM _ hx]
        exact g3
section M22
variable {g : GL} {h : HP} {Φ : Value → HP → Prop} {M : Nat} {u : XS}
theorem p_isSo (hM : isM h M u) {i k n : Nat} (hi : i < 2147483648) (hk : k < 6) (hn : isNm n = true) : J g k_X9_isSo 0 [.ref M, .int (nI i), .int (nI k), .int (nI n), m_D, m_D, m_D] [] [] h Φ = Φ (.int (zI (fitN u.1.2.1 i k n))) h := by
  have hl := hM.2.2.2.1.2.1
  have f2 := hM.2.2.1.2.1
  have vn := hM.2.2.2.1.2.2.2.2
  have s := hM.1
  have q6 := hM.2.1.2.1 6 (by decide) (by decide)
  have q7 := hM.2.1.2.1 7 (by decide) (by decide)
  have q8 := hM.2.1.2.1 8 (by decide) (by decide)
  have q9 := hM.2.1.2.1 9 (by decide) (by decide)
  simp only [s_X9_isSo_0, s_X9_isSo_1, s_X9_isSo_3, s_X9_isSo_4, s_X9_isSo_8, s_X9_isSo_9, s_X9_isSo_12, s_X9_isSo_15, s_X9_isSo_16, s_X9_isSo_17, s_X9_isSo_18, s_X9_isSo_21, s_X9_isSo_23, s_X9_isSo_24, s_X9_isSo_25, s_X9_isSo_28, s_X9_isSo_30, s_X9_isSo_31, s_X9_isSo_34, s_X9_isSo_35, s_X9_isSo_38, s_X9_isSo_40, s_X9_isSo_41, s_X9_isSo_44, s_X9_isSo_45, s_X9_isSo_48, s_X9_isSo_49, s_X9_isSo_51, s_X9_isSo_53, s_X9_isSo_56, s_X9_isSo_57, s_X9_isSo_60, s_X9_isSo_62, s_X9_isSo_63, s_X9_isSo_64, s_X9_isSo_67, s_X9_isSo_69, s_X9_isSo_72, s_X9_isSo_73, s_X9_isSo_76, s_X9_isSo_77, s_X9_isSo_79, s_X9_isSo_82, s_X9_isSo_85, s_X9_isSo_87, zI_0, Bool.true_eq_false, Bool.false_eq_true, not_true_eq_false, not_false_eq_true, if_true, if_false, KV_ap, KU_ap, dropL_nil]
  have key := J_it0 (fun j (q : Bool × Value) => J g k_X9_isSo 6 [.ref M, .int (nI i), .int (nI k), .int (nI n), .int (zI q.1), .int (nI j), q.2] [] [] h Φ) (fun j q => (q.1 && (!decide ((gS u.1.2.1 j).1 = i) || decide (rdX k n (gS u.1.2.1 j).2.1 (gS u.1.2.1 j).2.2.1 = (gS u.1.2.1 j).2.2.2)), .int (zI (decide (rdX k n (gS u.1.2.1 j).2.1 (gS u.1.2.1 j).2.2.1 = (gS u.1.2.1 j).2.2.2))))) u.1.2.1.length (fun j q hj => by
    obtain ⟨v1, v2, v3, v4⟩ := vn j hj
    obtain ⟨d0, d1, d2, d3⟩ := hM.2.2.2.2.2.1 j hj
    have hr := rdX_lt (k := k) hn v2 (show (gS u.1.2.1 j).2.2.1 < 19 by omega)
    have b6 : m_inb (nI j) 6 = true := by rw [inb_nI (by omega)]; simpa using (show j < 6 by omega)
    rw [s_X9_isSo_6]
    simp only [s_X9_isSo_0, s_X9_isSo_1, s_X9_isSo_3, s_X9_isSo_4, s_X9_isSo_8, s_X9_isSo_9, s_X9_isSo_12, s_X9_isSo_15, s_X9_isSo_16, s_X9_isSo_17, s_X9_isSo_18, s_X9_isSo_21, s_X9_isSo_23, s_X9_isSo_24, s_X9_isSo_25, s_X9_isSo_28, s_X9_isSo_30, s_X9_isSo_31, s_X9_isSo_34, s_X9_isSo_35, s_X9_isSo_38, s_X9_isSo_40, s_X9_isSo_41, s_X9_isSo_44, s_X9_isSo_45, s_X9_isSo_48, s_X9_isSo_51, s_X9_isSo_53, s_X9_isSo_56, s_X9_isSo_57, s_X9_isSo_60, s_X9_isSo_62, s_X9_isSo_63, s_X9_isSo_64, s_X9_isSo_67, s_X9_isSo_69, s_X9_isSo_72, s_X9_isSo_73, s_X9_isSo_76, s_X9_isSo_77, s_X9_isSo_79, s_X9_isSo_82, s_X9_isSo_85, s_X9_isSo_87, zI_0, Bool.true_eq_false, Bool.false_eq_true, not_true_eq_false, not_false_eq_true, if_true, if_false, KV_ap, KU_ap, dropL_nil, s.1, s.2.2.2.2.2.2.1, s.2.2.2.2.2.2.2.1, s.2.2.2.2.2.2.2.2.1, s.2.2.2.2.2.2.2.2.2.1, f2, le_nI (show u.1.2.1.length < 2147483648 by omega) (show j < 2147483648 by omega), if_neg (Nat.not_le.mpr hj), q6, q7, q8, q9, b6, cl_nI (show j < 2147483648 by omega), d0, d1, d2, d3, p_readBy hk hn v2 (show (gS u.1.2.1 j).2.2.1 < 19 by omega), eq_nI (show rdX k n (gS u.1.2.1 j).2.1 (gS u.1.2.1 j).2.2.1 < 2147483648 by omega) (show (gS u.1.2.1 j).2.2.2 < 2147483648 by omega)]
    have two : ∀ z : Bool, J g k_X9_isSo 49 [.ref M, .int (nI i), .int (nI k), .int (nI n), .int (zI q.1), .int (nI j), q.2] [] [.int (zI z)] h Φ = J g k_X9_isSo 6 [.ref M, .int (nI i), .int (nI k), .int (nI n), .int (zI (q.1 && (!decide ((gS u.1.2.1 j).1 = i) || z))), .int (nI (j + 1)), .int (zI z)] [] [] h Φ := fun z => by
      simp only [s_X9_isSo_0, s_X9_isSo_1, s_X9_isSo_3, s_X9_isSo_4, s_X9_isSo_8, s_X9_isSo_9, s_X9_isSo_12, s_X9_isSo_15, s_X9_isSo_16, s_X9_isSo_17, s_X9_isSo_18, s_X9_isSo_21, s_X9_isSo_23, s_X9_isSo_24, s_X9_isSo_25, s_X9_isSo_28, s_X9_isSo_30, s_X9_isSo_31, s_X9_isSo_34, s_X9_isSo_35, s_X9_isSo_38, s_X9_isSo_40, s_X9_isSo_41, s_X9_isSo_44, s_X9_isSo_45, s_X9_isSo_48, s_X9_isSo_49, s_X9_isSo_51, s_X9_isSo_53, s_X9_isSo_56, s_X9_isSo_57, s_X9_isSo_60, s_X9_isSo_62, s_X9_isSo_63, s_X9_isSo_64, s_X9_isSo_67, s_X9_isSo_69, s_X9_isSo_72, s_X9_isSo_73, s_X9_isSo_76, s_X9_isSo_77, s_X9_isSo_79, s_X9_isSo_82, s_X9_isSo_85, s_X9_isSo_87, zI_0, Bool.true_eq_false, Bool.false_eq_true, not_true_eq_false, not_false_eq_true, if_true, if_false, KV_ap, KU_ap, dropL_nil, s.1, s.2.2.2.2.2.2.1, q6, b6, cl_nI (show j < 2147483648 by omega), d0, eq_nI (show (gS u.1.2.1 j).1 < 2147483648 by omega) hi, a1]
      cases q.1
      · simp only [if_true, Bool.false_and, zI_f]
      · by_cases e : (gS u.1.2.1 j).1 = i
        · cases z
          · simp only [e, decide_true, Bool.not_true, Bool.false_or, Bool.true_and, Bool.true_eq_false, if_false, if_true, not_true_eq_false, zI_f]
          · simp only [e, decide_true, Bool.not_true, Bool.false_or, Bool.true_and, Bool.true_eq_false, if_false, if_true, not_true_eq_false, zI_t]
        · simp only [e, decide_false, Bool.not_false, Bool.true_or, Bool.true_and, Bool.true_eq_false, if_false, if_true, not_false_eq_true, zI_t]
    by_cases e : rdX k n (gS u.1.2.1 j).2.1 (gS u.1.2.1 j).2.2.1 = (gS u.1.2.1 j).2.2.2
    · rw [if_neg (not_not_intro e), decide_eq_true e]
      exact two true
    · rw [if_pos e, decide_eq_false e]
      exact two false) (true, m_D)
  refine Eq.trans key ?_
  rw [s_X9_isSo_6]
  simp only [s_X9_isSo_0, s_X9_isSo_1, s_X9_isSo_3, s_X9_isSo_4, s_X9_isSo_8, s_X9_isSo_9, s_X9_isSo_12, s_X9_isSo_15, s_X9_isSo_16, s_X9_isSo_17, s_X9_isSo_18, s_X9_isSo_21, s_X9_isSo_23, s_X9_isSo_24, s_X9_isSo_25, s_X9_isSo_28, s_X9_isSo_30, s_X9_isSo_31, s_X9_isSo_34, s_X9_isSo_35, s_X9_isSo_38, s_X9_isSo_40, s_X9_isSo_41, s_X9_isSo_44, s_X9_isSo_45, s_X9_isSo_48, s_X9_isSo_49, s_X9_isSo_51, s_X9_isSo_53, s_X9_isSo_56, s_X9_isSo_57, s_X9_isSo_60, s_X9_isSo_62, s_X9_isSo_63, s_X9_isSo_64, s_X9_isSo_67, s_X9_isSo_69, s_X9_isSo_72, s_X9_isSo_73, s_X9_isSo_76, s_X9_isSo_77, s_X9_isSo_79, s_X9_isSo_82, s_X9_isSo_85, zI_0, Bool.true_eq_false, Bool.false_eq_true, not_true_eq_false, not_false_eq_true, if_true, if_false, KV_ap, KU_ap, dropL_nil, s.1, f2, le_nI (show u.1.2.1.length < 2147483648 by omega) (show u.1.2.1.length < 2147483648 by omega), Nat.le_refl]
  rw [s_X9_isSo_87 (by rw [zI_01]; trivial)]
  have e2 : ∀ m j (q : Bool × Value), (it (fun j (q : Bool × Value) => (q.1 && (!decide ((gS u.1.2.1 j).1 = i) || decide (rdX k n (gS u.1.2.1 j).2.1 (gS u.1.2.1 j).2.2.1 = (gS u.1.2.1 j).2.2.2)), Value.int (zI (decide (rdX k n (gS u.1.2.1 j).2.1 (gS u.1.2.1 j).2.2.1 = (gS u.1.2.1 j).2.2.2))))) m j q).1 = it (fun j b => b && (!decide ((gS u.1.2.1 j).1 = i) || decide (rdX k n (gS u.1.2.1 j).2.1 (gS u.1.2.1 j).2.2.1 = (gS u.1.2.1 j).2.2.2))) m j q.1 := by
    intro m
    induction m with
    | zero => intro i q; rfl
    | succ m ih => intro i q; rw [it, it, ih]
  rw [e2]
  congr 3
  rw [Bool.eq_iff_iff, it_and, fitN, decide_eq_true_eq]
  simp only [Nat.zero_le, Nat.zero_add, true_implies, true_and]
theorem p_kindsOf (hM : isM h M u) {i : Nat} (hi : i < u.1.1.length) : J g k_X9_kindsOf 0 [.ref M, .int (nI i), m_D, m_D] [] [] h Φ = Φ (.int (nI (kfN u.1.2.1 i (gS u.1.1 i).2.1))) h := by
  have hl := hM.2.2.2.1.1
  obtain ⟨v1, v2, v3, v4⟩ := hM.2.2.2.1.2.2.2.1 i hi
  obtain ⟨e0, e1, e2, e3⟩ := hM.2.2.2.2.1 i hi
  have s := hM.1
  have q3 := hM.2.1.2.1 3 (by decide) (by decide)
  have b6 : m_inb (nI i) 6 = true := by rw [inb_nI (by omega)]; simpa using (show i < 6 by omega)
  have c5' : ∀ j : Nat, j < 2147483648 → ((5 : Int32) < nI j) = (5 < j) := fun j hj => lt_nI (show 5 < 2147483648 by decide) hj
  simp only [s_X9_kindsOf_0, s_X9_kindsOf_1, s_X9_kindsOf_2, s_X9_kindsOf_3, s_X9_kindsOf_5, s_X9_kindsOf_6, s_X9_kindsOf_9, s_X9_kindsOf_10, s_X9_kindsOf_11, s_X9_kindsOf_12, s_X9_kindsOf_13, s_X9_kindsOf_14, s_X9_kindsOf_17, s_X9_kindsOf_18, s_X9_kindsOf_19, s_X9_kindsOf_22, s_X9_kindsOf_25, s_X9_kindsOf_26, s_X9_kindsOf_27, s_X9_kindsOf_28, s_X9_kindsOf_31, s_X9_kindsOf_32, s_X9_kindsOf_33, s_X9_kindsOf_34, s_X9_kindsOf_37, s_X9_kindsOf_40, s_X9_kindsOf_41, zI_0, Bool.true_eq_false, Bool.false_eq_true, not_true_eq_false, not_false_eq_true, if_true, if_false, KV_ap, KU_ap, dropL_nil]
  have key := J_it (fun j b => J g k_X9_kindsOf 4 [.ref M, .int (nI i), .int (nI b), .int (nI j)] [] [] h Φ) (fun j b => if fitN u.1.2.1 i j (gS u.1.1 i).2.1 = true then b + 2 ^ j else b) 6 (fun j b => b < 2 ^ j) (fun j b _ hb => by
      rw [Nat.pow_succ]; split <;> omega) (fun j b hj hb => by
    rw [s_X9_kindsOf_4]
    simp only [s_X9_kindsOf_0, s_X9_kindsOf_1, s_X9_kindsOf_2, s_X9_kindsOf_3, s_X9_kindsOf_5, s_X9_kindsOf_6, s_X9_kindsOf_9, s_X9_kindsOf_10, s_X9_kindsOf_11, s_X9_kindsOf_12, s_X9_kindsOf_13, s_X9_kindsOf_14, s_X9_kindsOf_17, s_X9_kindsOf_18, s_X9_kindsOf_19, s_X9_kindsOf_22, s_X9_kindsOf_25, s_X9_kindsOf_26, s_X9_kindsOf_27, s_X9_kindsOf_28, s_X9_kindsOf_31, s_X9_kindsOf_32, s_X9_kindsOf_33, s_X9_kindsOf_34, s_X9_kindsOf_37, s_X9_kindsOf_40, s_X9_kindsOf_41, zI_0, Bool.true_eq_false, Bool.false_eq_true, not_true_eq_false, not_false_eq_true, if_true, if_false, KV_ap, KU_ap, dropL_nil, s.1, s.2.2.2.1, c5' j (by omega), if_neg (show ¬ 5 < j by omega), q3, b6, cl_nI (show i < 2147483648 by omega), e1, p_isSo hM (show i < 2147483648 by omega) hj v2, a1]
    cases fitN u.1.2.1 i j (gS u.1.1 i).2.1
    · simp only [if_true, Bool.false_eq_true, if_false, Int32.or_zero]
    · simp only [if_true, Bool.true_eq_false, if_false, orb j (by omega) b hb]) 6 0 0 rfl (by decide)
  refine Eq.trans key.1 ?_
  rw [s_X9_kindsOf_4]
  simp only [s_X9_kindsOf_0, s_X9_kindsOf_1, s_X9_kindsOf_2, s_X9_kindsOf_3, s_X9_kindsOf_5, s_X9_kindsOf_6, s_X9_kindsOf_9, s_X9_kindsOf_10, s_X9_kindsOf_11, s_X9_kindsOf_12, s_X9_kindsOf_13, s_X9_kindsOf_14, s_X9_kindsOf_17, s_X9_kindsOf_18, s_X9_kindsOf_19, s_X9_kindsOf_22, s_X9_kindsOf_25, s_X9_kindsOf_26, s_X9_kindsOf_27, s_X9_kindsOf_28, s_X9_kindsOf_31, s_X9_kindsOf_32, s_X9_kindsOf_33, s_X9_kindsOf_34, s_X9_kindsOf_37, s_X9_kindsOf_40, s_X9_kindsOf_41, zI_0, Bool.true_eq_false, Bool.false_eq_true, not_true_eq_false, not_false_eq_true, if_true, if_false, KV_ap, KU_ap, dropL_nil, c5' 6 (by decide), show (5 < 6) = True by decide]
  rfl
end M22
theorem m_is (v : Int32) : cM k_X9_is [.int v] (aIs v) := by
  intro g h M u Φ hM k
  have hl := hM.2.2.2.1.1
  cases g1 : decide (0 ≤ v ∧ v < nI u.1.1.length)
  · have e : aIs v u = (.int (-2), bdU u 0) := by simp only [aIs, g1, Bool.false_eq_true, if_false]
    rw [e] at k
    simp only [s_X9_is_0, s_X9_is_1, s_X9_is_2, s_X9_is_5, s_X9_is_8, s_X9_is_9, s_X9_is_10, s_X9_is_13, s_X9_is_16, s_X9_is_17, s_X9_is_20, zI_0, Bool.true_eq_false, Bool.false_eq_true, not_true_eq_false, not_false_eq_true, if_true, if_false, KV_ap, KU_ap, dropL_nil, hM.1.1, p_isStick hM, g1]
    exact p_bad hM (fun h' hM' hf => by simp only [KV_ap, s_X9_is_0, s_X9_is_1, s_X9_is_2, s_X9_is_5, s_X9_is_8, s_X9_is_9, s_X9_is_10, s_X9_is_13, s_X9_is_16, s_X9_is_17, s_X9_is_20]; exact k h' hM' hf)
  · obtain ⟨j, ej, hj⟩ := hs_ex (show u.1.1.length < 2147483648 by omega) g1
    have e : aIs v u = (.int (nI (kfN u.1.2.1 j (gS u.1.1 j).2.1)), u) := by
      simp only [aIs, g1, if_true]
      rw [ej, cl_nI (show j < 2147483648 by omega)]
    rw [e] at k
    subst ej
    simp only [s_X9_is_0, s_X9_is_1, s_X9_is_2, s_X9_is_5, s_X9_is_8, s_X9_is_9, s_X9_is_10, s_X9_is_13, s_X9_is_16, s_X9_is_17, s_X9_is_20, zI_0, Bool.true_eq_false, Bool.false_eq_true, not_true_eq_false, not_false_eq_true, if_true, if_false, KV_ap, KU_ap, dropL_nil, hM.1.1, p_isStick hM, g1, p_kindsOf hM hj]
    exact k h hM (frm_rfl h _ _)
theorem m_note (v0 v1 v2 v3 : Int32) : cM k_X9_note [.int v0, .int v1, .int v2, .int v3] (aNote v0 v1 v2 v3) := by
  intro g h M u Φ hM k
  have hM' := hM
  obtain ⟨⟨L, N, P⟩, im, tx, fr, rf⟩ := u
  obtain ⟨s, sh, ⟨f1, f2, f12, f18, f22, f23⟩, vt, c, d, p, t, r, i0, i1⟩ := hM
  have f2' : hF h M 2 = .int (nI N.length) := f2
  have hl6 : L.length ≤ 6 := vt.1
  have hn6 : N.length ≤ 6 := vt.2.1
  have hbad : (decide (0 ≤ v0 ∧ v0 < nI L.length) && decide (0 ≤ v1 ∧ v1 < 9) && decide (0 ≤ v2 ∧ v2 < 10) && rdI v3) = false → aNote v0 v1 v2 v3 ((L, N, P), im, tx, fr, rf) = (.int (-2), bdU ((L, N, P), im, tx, fr, rf) 0) := fun z => by rw [aNote, z]; rfl
  cases g1 : decide (0 ≤ v0 ∧ v0 < nI L.length)
  · rw [hbad (by simp only [g1, Bool.false_and])] at k
    simp only [s_X9_note_0, s_X9_note_1, s_X9_note_2, s_X9_note_5, s_X9_note_8, s_X9_note_9, s_X9_note_10, s_X9_note_12, s_X9_note_15, s_X9_note_18, s_X9_note_19, s_X9_note_20, s_X9_note_22, s_X9_note_25, s_X9_note_28, s_X9_note_30, s_X9_note_33, s_X9_note_35, s_X9_note_38, s_X9_note_41, s_X9_note_42, s_X9_note_45, s_X9_note_46, s_X9_note_47, s_X9_note_50, s_X9_note_52, s_X9_note_55, s_X9_note_56, s_X9_note_59, s_X9_note_60, s_X9_note_61, s_X9_note_64, s_X9_note_65, s_X9_note_68, s_X9_note_69, s_X9_note_70, s_X9_note_71, s_X9_note_74, s_X9_note_75, s_X9_note_78, s_X9_note_79, s_X9_note_80, s_X9_note_81, s_X9_note_84, s_X9_note_85, s_X9_note_88, s_X9_note_89, s_X9_note_90, s_X9_note_91, s_X9_note_94, s_X9_note_95, s_X9_note_98, s_X9_note_100, s_X9_note_101, s_X9_note_102, s_X9_note_103, s_X9_note_106, s_X9_note_107, s_X9_note_108, s_X9_note_111, s_X9_note_112, s_X9_note_115, p_isStick hM', zI_0, Bool.true_eq_false, Bool.false_eq_true, not_true_eq_false, not_false_eq_true, if_true, if_false, KV_ap, KU_ap, dropL_nil, g1, s.1]
    exact p_bad hM' (fun h' hM' hf => by simp only [KV_ap, s_X9_note_0, s_X9_note_1, s_X9_note_2, s_X9_note_5, s_X9_note_8, s_X9_note_9, s_X9_note_10, s_X9_note_12, s_X9_note_15, s_X9_note_18, s_X9_note_19, s_X9_note_20, s_X9_note_22, s_X9_note_25, s_X9_note_28, s_X9_note_30, s_X9_note_33, s_X9_note_35, s_X9_note_38, s_X9_note_41, s_X9_note_42, s_X9_note_45, s_X9_note_46, s_X9_note_47, s_X9_note_50, s_X9_note_52, s_X9_note_55, s_X9_note_56, s_X9_note_59, s_X9_note_60, s_X9_note_61, s_X9_note_64, s_X9_note_65, s_X9_note_68, s_X9_note_69, s_X9_note_70, s_X9_note_71, s_X9_note_74, s_X9_note_75, s_X9_note_78, s_X9_note_79, s_X9_note_80, s_X9_note_81, s_X9_note_84, s_X9_note_85, s_X9_note_88, s_X9_note_89, s_X9_note_90, s_X9_note_91, s_X9_note_94, s_X9_note_95, s_X9_note_98, s_X9_note_100, s_X9_note_101, s_X9_note_102, s_X9_note_103, s_X9_note_106, s_X9_note_107, s_X9_note_108, s_X9_note_111, s_X9_note_112, s_X9_note_115]; exact k h' hM' hf)
  · cases g2 : decide (0 ≤ v1 ∧ v1 < 9)
    · rw [hbad (by simp only [g1, g2, Bool.and_false, Bool.false_and])] at k
      simp only [s_X9_note_0, s_X9_note_1, s_X9_note_2, s_X9_note_5, s_X9_note_8, s_X9_note_9, s_X9_note_10, s_X9_note_12, s_X9_note_15, s_X9_note_18, s_X9_note_19, s_X9_note_20, s_X9_note_22, s_X9_note_25, s_X9_note_28, s_X9_note_30, s_X9_note_33, s_X9_note_35, s_X9_note_38, s_X9_note_41, s_X9_note_42, s_X9_note_45, s_X9_note_46, s_X9_note_47, s_X9_note_50, s_X9_note_52, s_X9_note_55, s_X9_note_56, s_X9_note_59, s_X9_note_60, s_X9_note_61, s_X9_note_64, s_X9_note_65, s_X9_note_68, s_X9_note_69, s_X9_note_70, s_X9_note_71, s_X9_note_74, s_X9_note_75, s_X9_note_78, s_X9_note_79, s_X9_note_80, s_X9_note_81, s_X9_note_84, s_X9_note_85, s_X9_note_88, s_X9_note_89, s_X9_note_90, s_X9_note_91, s_X9_note_94, s_X9_note_95, s_X9_note_98, s_X9_note_100, s_X9_note_101, s_X9_note_102, s_X9_note_103, s_X9_note_106, s_X9_note_107, s_X9_note_108, s_X9_note_111, s_X9_note_112, s_X9_note_115, p_isStick hM', p_in, le_8, zI_0, Bool.true_eq_false, Bool.false_eq_true, not_true_eq_false, not_false_eq_true, if_true, if_false, KV_ap, KU_ap, dropL_nil, g1, g2, s.1]
      exact p_bad hM' (fun h' hM' hf => by simp only [KV_ap, s_X9_note_0, s_X9_note_1, s_X9_note_2, s_X9_note_5, s_X9_note_8, s_X9_note_9, s_X9_note_10, s_X9_note_12, s_X9_note_15, s_X9_note_18, s_X9_note_19, s_X9_note_20, s_X9_note_22, s_X9_note_25, s_X9_note_28, s_X9_note_30, s_X9_note_33, s_X9_note_35, s_X9_note_38, s_X9_note_41, s_X9_note_42, s_X9_note_45, s_X9_note_46, s_X9_note_47, s_X9_note_50, s_X9_note_52, s_X9_note_55, s_X9_note_56, s_X9_note_59, s_X9_note_60, s_X9_note_61, s_X9_note_64, s_X9_note_65, s_X9_note_68, s_X9_note_69, s_X9_note_70, s_X9_note_71, s_X9_note_74, s_X9_note_75, s_X9_note_78, s_X9_note_79, s_X9_note_80, s_X9_note_81, s_X9_note_84, s_X9_note_85, s_X9_note_88, s_X9_note_89, s_X9_note_90, s_X9_note_91, s_X9_note_94, s_X9_note_95, s_X9_note_98, s_X9_note_100, s_X9_note_101, s_X9_note_102, s_X9_note_103, s_X9_note_106, s_X9_note_107, s_X9_note_108, s_X9_note_111, s_X9_note_112, s_X9_note_115]; exact k h' hM' hf)
    · cases g3 : decide (0 ≤ v2 ∧ v2 < 10)
      · rw [hbad (by simp only [g1, g2, g3, Bool.and_false, Bool.false_and])] at k
        simp only [s_X9_note_0, s_X9_note_1, s_X9_note_2, s_X9_note_5, s_X9_note_8, s_X9_note_9, s_X9_note_10, s_X9_note_12, s_X9_note_15, s_X9_note_18, s_X9_note_19, s_X9_note_20, s_X9_note_22, s_X9_note_25, s_X9_note_28, s_X9_note_30, s_X9_note_33, s_X9_note_35, s_X9_note_38, s_X9_note_41, s_X9_note_42, s_X9_note_45, s_X9_note_46, s_X9_note_47, s_X9_note_50, s_X9_note_52, s_X9_note_55, s_X9_note_56, s_X9_note_59, s_X9_note_60, s_X9_note_61, s_X9_note_64, s_X9_note_65, s_X9_note_68, s_X9_note_69, s_X9_note_70, s_X9_note_71, s_X9_note_74, s_X9_note_75, s_X9_note_78, s_X9_note_79, s_X9_note_80, s_X9_note_81, s_X9_note_84, s_X9_note_85, s_X9_note_88, s_X9_note_89, s_X9_note_90, s_X9_note_91, s_X9_note_94, s_X9_note_95, s_X9_note_98, s_X9_note_100, s_X9_note_101, s_X9_note_102, s_X9_note_103, s_X9_note_106, s_X9_note_107, s_X9_note_108, s_X9_note_111, s_X9_note_112, s_X9_note_115, p_isStick hM', p_in, le_8, le_9, zI_0, Bool.true_eq_false, Bool.false_eq_true, not_true_eq_false, not_false_eq_true, if_true, if_false, KV_ap, KU_ap, dropL_nil, g1, g2, g3, s.1]
        exact p_bad hM' (fun h' hM' hf => by simp only [KV_ap, s_X9_note_0, s_X9_note_1, s_X9_note_2, s_X9_note_5, s_X9_note_8, s_X9_note_9, s_X9_note_10, s_X9_note_12, s_X9_note_15, s_X9_note_18, s_X9_note_19, s_X9_note_20, s_X9_note_22, s_X9_note_25, s_X9_note_28, s_X9_note_30, s_X9_note_33, s_X9_note_35, s_X9_note_38, s_X9_note_41, s_X9_note_42, s_X9_note_45, s_X9_note_46, s_X9_note_47, s_X9_note_50, s_X9_note_52, s_X9_note_55, s_X9_note_56, s_X9_note_59, s_X9_note_60, s_X9_note_61, s_X9_note_64, s_X9_note_65, s_X9_note_68, s_X9_note_69, s_X9_note_70, s_X9_note_71, s_X9_note_74, s_X9_note_75, s_X9_note_78, s_X9_note_79, s_X9_note_80, s_X9_note_81, s_X9_note_84, s_X9_note_85, s_X9_note_88, s_X9_note_89, s_X9_note_90, s_X9_note_91, s_X9_note_94, s_X9_note_95, s_X9_note_98, s_X9_note_100, s_X9_note_101, s_X9_note_102, s_X9_note_103, s_X9_note_106, s_X9_note_107, s_X9_note_108, s_X9_note_111, s_X9_note_112, s_X9_note_115]; exact k h' hM' hf)
      · have q6 : (nI N.length = 6) = (N.length = 6) := eq_nI (show N.length < 2147483648 by omega) (show 6 < 2147483648 by decide)
        have good : rdI v3 = true → J g k_X9_note 46 [.ref M, .int v0, .int v1, .int v2, .int v3] [] [] h Φ := fun g4 => by
          by_cases hl : N.length = 6
          · have e : aNote v0 v1 v2 v3 ((L, N, P), im, tx, fr, rf) = (.int (-4), bdU ((L, N, P), im, tx, fr, rf) 2) := by
              simp only [aNote, g1, g2, g3, g4, Bool.and_self, if_true, hl]
            rw [e] at k
            simp only [s_X9_note_0, s_X9_note_1, s_X9_note_2, s_X9_note_5, s_X9_note_8, s_X9_note_9, s_X9_note_10, s_X9_note_12, s_X9_note_15, s_X9_note_18, s_X9_note_19, s_X9_note_20, s_X9_note_22, s_X9_note_25, s_X9_note_28, s_X9_note_30, s_X9_note_33, s_X9_note_35, s_X9_note_38, s_X9_note_41, s_X9_note_42, s_X9_note_45, s_X9_note_46, s_X9_note_47, s_X9_note_50, s_X9_note_52, s_X9_note_55, s_X9_note_56, s_X9_note_59, s_X9_note_60, s_X9_note_61, s_X9_note_64, s_X9_note_65, s_X9_note_68, s_X9_note_69, s_X9_note_70, s_X9_note_71, s_X9_note_74, s_X9_note_75, s_X9_note_78, s_X9_note_79, s_X9_note_80, s_X9_note_81, s_X9_note_84, s_X9_note_85, s_X9_note_88, s_X9_note_89, s_X9_note_90, s_X9_note_91, s_X9_note_94, s_X9_note_95, s_X9_note_98, s_X9_note_100, s_X9_note_101, s_X9_note_102, s_X9_note_103, s_X9_note_106, s_X9_note_107, s_X9_note_108, s_X9_note_111, s_X9_note_112, s_X9_note_115, zI_0, Bool.true_eq_false, Bool.false_eq_true, not_true_eq_false, not_false_eq_true, if_true, if_false, KV_ap, KU_ap, dropL_nil, s.1, f2', q6, hl]
            exact p_full hM' (fun h' hM' hf => by simp only [KV_ap, s_X9_note_0, s_X9_note_1, s_X9_note_2, s_X9_note_5, s_X9_note_8, s_X9_note_9, s_X9_note_10, s_X9_note_12, s_X9_note_15, s_X9_note_18, s_X9_note_19, s_X9_note_20, s_X9_note_22, s_X9_note_25, s_X9_note_28, s_X9_note_30, s_X9_note_33, s_X9_note_35, s_X9_note_38, s_X9_note_41, s_X9_note_42, s_X9_note_45, s_X9_note_46, s_X9_note_47, s_X9_note_50, s_X9_note_52, s_X9_note_55, s_X9_note_56, s_X9_note_59, s_X9_note_60, s_X9_note_61, s_X9_note_64, s_X9_note_65, s_X9_note_68, s_X9_note_69, s_X9_note_70, s_X9_note_71, s_X9_note_74, s_X9_note_75, s_X9_note_78, s_X9_note_79, s_X9_note_80, s_X9_note_81, s_X9_note_84, s_X9_note_85, s_X9_note_88, s_X9_note_89, s_X9_note_90, s_X9_note_91, s_X9_note_94, s_X9_note_95, s_X9_note_98, s_X9_note_100, s_X9_note_101, s_X9_note_102, s_X9_note_103, s_X9_note_106, s_X9_note_107, s_X9_note_108, s_X9_note_111, s_X9_note_112, s_X9_note_115]; exact k h' hM' hf)
          · obtain ⟨j0, e0, l0'⟩ := hs_ex (show L.length < 2147483648 by omega) g1
            obtain ⟨j1, e1, l1'⟩ := hs_ex (n := 9) (by decide) g2
            obtain ⟨j2, e2, l2'⟩ := hs_ex (n := 10) (by decide) g3
            obtain ⟨j3, e3, l3'⟩ := rd_ex g4
            have e : aNote v0 v1 v2 v3 ((L, N, P), im, tx, fr, rf) = (.int (nI (N.length + 1)), ((L, N ++ [(j0, j1, j2, j3)], P), im, tx, fr, rf)) := by
              simp only [aNote, g1, g2, g3, g4, Bool.and_self, if_true]
              rw [if_neg hl, e0, e1, e2, e3, cl_nI (show j0 < 2147483648 by omega), cl_nI (show j1 < 2147483648 by omega), cl_nI (show j2 < 2147483648 by omega), cl_nI (show j3 < 2147483648 by omega)]
            rw [e] at k
            subst e0; subst e1; subst e2; subst e3
            have hin : m_inb (nI N.length) 6 = true := by rw [inb_nI (by omega)]; simpa using (show N.length < 6 by omega)
            have g1 : ∀ (h : HP) v, hF (pF h M 2 v) M 2 = v := fun h v => by rw [hF_pF, if_pos ⟨rfl, rfl⟩]
            have q6' := sh.2.1 6 (by decide) (by decide)
            have q7 := sh.2.1 7 (by decide) (by decide)
            have q8 := sh.2.1 8 (by decide) (by decide)
            have q9 := sh.2.1 9 (by decide) (by decide)
            simp only [s_X9_note_0, s_X9_note_1, s_X9_note_2, s_X9_note_5, s_X9_note_8, s_X9_note_9, s_X9_note_10, s_X9_note_12, s_X9_note_15, s_X9_note_18, s_X9_note_19, s_X9_note_20, s_X9_note_22, s_X9_note_25, s_X9_note_28, s_X9_note_30, s_X9_note_33, s_X9_note_35, s_X9_note_38, s_X9_note_41, s_X9_note_42, s_X9_note_45, s_X9_note_46, s_X9_note_47, s_X9_note_50, s_X9_note_52, s_X9_note_55, s_X9_note_56, s_X9_note_59, s_X9_note_60, s_X9_note_61, s_X9_note_64, s_X9_note_65, s_X9_note_68, s_X9_note_69, s_X9_note_70, s_X9_note_71, s_X9_note_74, s_X9_note_75, s_X9_note_78, s_X9_note_79, s_X9_note_80, s_X9_note_81, s_X9_note_84, s_X9_note_85, s_X9_note_88, s_X9_note_89, s_X9_note_90, s_X9_note_91, s_X9_note_94, s_X9_note_95, s_X9_note_98, s_X9_note_100, s_X9_note_101, s_X9_note_102, s_X9_note_103, s_X9_note_106, s_X9_note_107, s_X9_note_108, s_X9_note_111, s_X9_note_112, s_X9_note_115, zI_0, Bool.true_eq_false, Bool.false_eq_true, not_true_eq_false, not_false_eq_true, if_true, if_false, KV_ap, KU_ap, dropL_nil, hS_pF, hS_pI, hF_pI, g1, s.1, s.2.2.2.2.2.2.1, s.2.2.2.2.2.2.2.1, s.2.2.2.2.2.2.2.2.1, s.2.2.2.2.2.2.2.2.2.1, f2', q6, hl, q6', q7, q8, q9, hin, cl_nI (show N.length < 2147483648 by omega), a1]
            refine k _ ?_ (frm_pF (by omega) (by omega) (frm_pI (by omega) (by omega) (frm_pI (by omega) (by omega) (frm_pI (by omega) (by omega) (frm_pI (by omega) (by omega) (frm_rfl h _ _))))))
            refine isM_T hM' (fun x => rfl) ?_ ?_ ?_ ?_ ?_ ?_ ?_ ?_ ?_
            · intro j h1 h2 h3
              rw [hF_pF, if_neg (by omega)]
              rfl
            · intro x hx
              simp only [hI_pF, hI_pI, Nat.add_left_cancel_iff]
              rw [if_neg (by omega), if_neg (by omega), if_neg (by omega), if_neg (by omega)]
            · rw [hF_pF, if_neg (by omega)]; exact f1
            · rw [hF_pF, if_pos ⟨rfl, rfl⟩]
              show _ = Value.int (nI (N ++ [(j0, j1, j2, j3)]).length)
              rw [List.length_append, List.length_singleton]
            · rw [hF_pF, if_neg (by omega)]; exact f18
            · refine ⟨vt.1, ?_, vt.2.2.1, vt.2.2.2.1, ?_⟩
              · show (N ++ [(j0, j1, j2, j3)]).length ≤ 6
                rw [List.length_append, List.length_singleton]; omega
              · intro j hj
                have hj' : j < (N ++ [(j0, j1, j2, j3)]).length := hj
                rw [List.length_append, List.length_singleton] at hj'
                show vN (gS (N ++ [(j0, j1, j2, j3)]) j)
                rw [gS_app N _ j hj']
                split
                · exact ⟨by show j0 < 6; omega, l1', by show j2 ≤ 9; omega, l3'⟩
                · exact vt.2.2.2.2 j (show j < N.length by omega)
            · simp only [hI_pF, hI_pI, Nat.add_left_cancel_iff, Nat.reduceEqDiff, if_false, if_true]
              exact c
            · have := cl4_app (j0, j1, j2, j3) d
              simp only [hI_pF, hI_pI, Nat.add_left_cancel_iff, Nat.reduceEqDiff, if_false, if_true]
              exact this
            · simp only [hI_pF, hI_pI, Nat.add_left_cancel_iff, Nat.reduceEqDiff, if_false, if_true]
              exact p
        by_cases g4 : v3 = 0
        · have z := good (by rw [rdI, decide_eq_true g4]; rfl)
          simp only [s_X9_note_0, s_X9_note_1, s_X9_note_2, s_X9_note_5, s_X9_note_8, s_X9_note_9, s_X9_note_10, s_X9_note_12, s_X9_note_15, s_X9_note_18, s_X9_note_19, s_X9_note_20, s_X9_note_22, s_X9_note_25, s_X9_note_28, s_X9_note_30, s_X9_note_33, s_X9_note_35, s_X9_note_38, s_X9_note_41, s_X9_note_42, s_X9_note_45, s_X9_note_47, s_X9_note_50, s_X9_note_52, s_X9_note_55, s_X9_note_56, s_X9_note_59, s_X9_note_60, s_X9_note_61, s_X9_note_64, s_X9_note_65, s_X9_note_68, s_X9_note_69, s_X9_note_70, s_X9_note_71, s_X9_note_74, s_X9_note_75, s_X9_note_78, s_X9_note_79, s_X9_note_80, s_X9_note_81, s_X9_note_84, s_X9_note_85, s_X9_note_88, s_X9_note_89, s_X9_note_90, s_X9_note_91, s_X9_note_94, s_X9_note_95, s_X9_note_98, s_X9_note_100, s_X9_note_101, s_X9_note_102, s_X9_note_103, s_X9_note_106, s_X9_note_107, s_X9_note_108, s_X9_note_111, s_X9_note_112, s_X9_note_115, p_isStick hM', p_in, le_8, le_9, zI_0, Bool.true_eq_false, Bool.false_eq_true, not_true_eq_false, not_false_eq_true, if_true, if_false, KV_ap, KU_ap, dropL_nil, g1, g2, g3, s.1]
          rw [if_pos g4]
          exact z
        · cases g5 : nmI v3
          · rw [hbad (by simp only [g1, g2, g3, rdI, decide_eq_false g4, g5, Bool.or_self, Bool.and_false])] at k
            simp only [s_X9_note_0, s_X9_note_1, s_X9_note_2, s_X9_note_5, s_X9_note_8, s_X9_note_9, s_X9_note_10, s_X9_note_12, s_X9_note_15, s_X9_note_18, s_X9_note_19, s_X9_note_20, s_X9_note_22, s_X9_note_25, s_X9_note_28, s_X9_note_30, s_X9_note_33, s_X9_note_35, s_X9_note_38, s_X9_note_41, s_X9_note_42, s_X9_note_45, s_X9_note_47, s_X9_note_50, s_X9_note_52, s_X9_note_55, s_X9_note_56, s_X9_note_59, s_X9_note_60, s_X9_note_61, s_X9_note_64, s_X9_note_65, s_X9_note_68, s_X9_note_69, s_X9_note_70, s_X9_note_71, s_X9_note_74, s_X9_note_75, s_X9_note_78, s_X9_note_79, s_X9_note_80, s_X9_note_81, s_X9_note_84, s_X9_note_85, s_X9_note_88, s_X9_note_89, s_X9_note_90, s_X9_note_91, s_X9_note_94, s_X9_note_95, s_X9_note_98, s_X9_note_100, s_X9_note_101, s_X9_note_102, s_X9_note_103, s_X9_note_106, s_X9_note_107, s_X9_note_108, s_X9_note_111, s_X9_note_112, s_X9_note_115, p_isStick hM', p_in, le_8, le_9, zI_0, Bool.true_eq_false, Bool.false_eq_true, not_true_eq_false, not_false_eq_true, if_true, if_false, KV_ap, KU_ap, dropL_nil, g1, g2, g3, g4, p_isName, g5, s.1]
            exact p_bad hM' (fun h' hM' hf => by simp only [KV_ap, s_X9_note_0, s_X9_note_1, s_X9_note_2, s_X9_note_5, s_X9_note_8, s_X9_note_9, s_X9_note_10, s_X9_note_12, s_X9_note_15, s_X9_note_18, s_X9_note_19, s_X9_note_20, s_X9_note_22, s_X9_note_25, s_X9_note_28, s_X9_note_30, s_X9_note_33, s_X9_note_35, s_X9_note_38, s_X9_note_41, s_X9_note_42, s_X9_note_45, s_X9_note_46, s_X9_note_47, s_X9_note_50, s_X9_note_52, s_X9_note_55, s_X9_note_56, s_X9_note_59, s_X9_note_60, s_X9_note_61, s_X9_note_64, s_X9_note_65, s_X9_note_68, s_X9_note_69, s_X9_note_70, s_X9_note_71, s_X9_note_74, s_X9_note_75, s_X9_note_78, s_X9_note_79, s_X9_note_80, s_X9_note_81, s_X9_note_84, s_X9_note_85, s_X9_note_88, s_X9_note_89, s_X9_note_90, s_X9_note_91, s_X9_note_94, s_X9_note_95, s_X9_note_98, s_X9_note_100, s_X9_note_101, s_X9_note_102, s_X9_note_103, s_X9_note_106, s_X9_note_107, s_X9_note_108, s_X9_note_111, s_X9_note_112, s_X9_note_115]; exact k h' hM' hf)
          · have z := good (by rw [rdI, g5, Bool.or_true])
            simp only [s_X9_note_0, s_X9_note_1, s_X9_note_2, s_X9_note_5, s_X9_note_8, s_X9_note_9, s_X9_note_10, s_X9_note_12, s_X9_note_15, s_X9_note_18, s_X9_note_19, s_X9_note_20, s_X9_note_22, s_X9_note_25, s_X9_note_28, s_X9_note_30, s_X9_note_33, s_X9_note_35, s_X9_note_38, s_X9_note_41, s_X9_note_42, s_X9_note_45, s_X9_note_47, s_X9_note_50, s_X9_note_52, s_X9_note_55, s_X9_note_56, s_X9_note_59, s_X9_note_60, s_X9_note_61, s_X9_note_64, s_X9_note_65, s_X9_note_68, s_X9_note_69, s_X9_note_70, s_X9_note_71, s_X9_note_74, s_X9_note_75, s_X9_note_78, s_X9_note_79, s_X9_note_80, s_X9_note_81, s_X9_note_84, s_X9_note_85, s_X9_note_88, s_X9_note_89, s_X9_note_90, s_X9_note_91, s_X9_note_94, s_X9_note_95, s_X9_note_98, s_X9_note_100, s_X9_note_101, s_X9_note_102, s_X9_note_103, s_X9_note_106, s_X9_note_107, s_X9_note_108, s_X9_note_111, s_X9_note_112, s_X9_note_115, p_isStick hM', p_in, le_8, le_9, zI_0, Bool.true_eq_false, Bool.false_eq_true, not_true_eq_false, not_false_eq_true, if_true, if_false, KV_ap, KU_ap, dropL_nil, g1, g2, g3, g4, p_isName, g5, s.1]
            exact z

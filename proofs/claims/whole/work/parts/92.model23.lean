/-! The model's calls: breaks -/
theorem sh_bit : ∀ k, k < 9 → ∀ n, n < 512 → (nI n >>> (nI k &&& 31)) &&& 1 = nI (n / 2 ^ k % 2) := by decide +kernel
theorem sh_pw : ∀ s, s < 10 → (1 : Int32) <<< (nI s &&& 31) = nI (2 ^ s) := by decide +kernel
theorem taN_0 (s : St) : taN s 0 = false := by
  cases h : taN s 0
  · rfl
  · rw [taN_iff] at h
    have h1 := h 0 (by decide)
    have h2 := h 1 (by decide)
    unfold taK at h1 h2
    simp only [Nat.zero_and, decide_true, Bool.not_true, Bool.or_false, decide_eq_true_eq] at h1 h2
    omega
section M23
variable {g : GL} {h : HP} {Φ : Value → HP → Prop} {M : Nat} {u : XS}
theorem p_bits {n : Nat} (hn : n < 512) : J g k_X9_bits 0 [.int (nI n), m_D, m_D] [] [] h Φ = Φ (.int (nI (pcN n))) h := by
  simp only [s_X9_bits_0, s_X9_bits_1, s_X9_bits_2, s_X9_bits_3, s_X9_bits_5, s_X9_bits_7, s_X9_bits_10, s_X9_bits_11, s_X9_bits_12, s_X9_bits_13, s_X9_bits_14, s_X9_bits_15, s_X9_bits_16, s_X9_bits_17, s_X9_bits_18, s_X9_bits_21, s_X9_bits_24, s_X9_bits_25, zI_0, Bool.true_eq_false, Bool.false_eq_true, not_true_eq_false, not_false_eq_true, if_true, if_false, KV_ap, KU_ap, dropL_nil]
  have c9' : ∀ k : Nat, k < 2147483648 → ((9 : Int32) ≤ nI k) = (9 ≤ k) := fun k hk => le_nI (show 9 < 2147483648 by decide) hk
  have key := J_it0 (fun k (c : Nat) => J g k_X9_bits 4 [.int (nI n), .int (nI c), .int (nI k)] [] [] h Φ) (fun k c => c + n / 2 ^ k % 2) 9 (fun k c hk => by
    rw [s_X9_bits_4]
    simp only [s_X9_bits_0, s_X9_bits_1, s_X9_bits_2, s_X9_bits_3, s_X9_bits_5, s_X9_bits_7, s_X9_bits_10, s_X9_bits_11, s_X9_bits_12, s_X9_bits_13, s_X9_bits_14, s_X9_bits_15, s_X9_bits_16, s_X9_bits_17, s_X9_bits_18, s_X9_bits_21, s_X9_bits_24, s_X9_bits_25, zI_0, Bool.true_eq_false, Bool.false_eq_true, not_true_eq_false, not_false_eq_true, if_true, if_false, KV_ap, KU_ap, dropL_nil, c9' k (by omega), if_neg (Nat.not_le.mpr hk), sh_bit k hk n hn, i_add, a1]) 0
  refine Eq.trans key ?_
  rw [s_X9_bits_4]
  simp only [s_X9_bits_0, s_X9_bits_1, s_X9_bits_2, s_X9_bits_3, s_X9_bits_5, s_X9_bits_7, s_X9_bits_10, s_X9_bits_11, s_X9_bits_12, s_X9_bits_13, s_X9_bits_14, s_X9_bits_15, s_X9_bits_16, s_X9_bits_17, s_X9_bits_18, s_X9_bits_21, s_X9_bits_24, s_X9_bits_25, zI_0, Bool.true_eq_false, Bool.false_eq_true, not_true_eq_false, not_false_eq_true, if_true, if_false, KV_ap, KU_ap, dropL_nil, c9' 9 (by decide), Nat.le_refl]
  rfl
theorem p_otherAs (hM : isM h M u) {j k : Nat} (hj : j < u.1.1.length) (hk : k < 6) : J g k_X9_otherAs 0 [.ref M, .int (nI j), .int (nI k), m_D, m_D] [] [] h Φ = Φ (.int (nI (tlN (gS u.1.1 j) k))) h := by
  have hl := hM.2.2.2.1.1
  obtain ⟨v1, v2, v3, v4⟩ := hM.2.2.2.1.2.2.2.1 j hj
  obtain ⟨e0, e1, e2, e3⟩ := hM.2.2.2.2.1 j hj
  have s := hM.1
  have q3 := hM.2.1.2.1 3 (by decide) (by decide)
  have q4 := hM.2.1.2.1 4 (by decide) (by decide)
  have q5 := hM.2.1.2.1 5 (by decide) (by decide)
  have b6 : m_inb (nI j) 6 = true := by rw [inb_nI (by omega)]; simpa using (show j < 6 by omega)
  simp only [s_X9_otherAs_0, s_X9_otherAs_1, s_X9_otherAs_2, s_X9_otherAs_3, s_X9_otherAs_7, s_X9_otherAs_8, s_X9_otherAs_11, s_X9_otherAs_12, s_X9_otherAs_13, s_X9_otherAs_16, s_X9_otherAs_17, s_X9_otherAs_18, s_X9_otherAs_19, s_X9_otherAs_22, s_X9_otherAs_23, s_X9_otherAs_24, s_X9_otherAs_26, s_X9_otherAs_27, s_X9_otherAs_30, s_X9_otherAs_31, s_X9_otherAs_32, s_X9_otherAs_35, s_X9_otherAs_36, s_X9_otherAs_37, s_X9_otherAs_39, s_X9_otherAs_42, s_X9_otherAs_45, s_X9_otherAs_46, s_X9_otherAs_48, s_X9_otherAs_49, s_X9_otherAs_52, s_X9_otherAs_53, s_X9_otherAs_54, s_X9_otherAs_55, s_X9_otherAs_58, s_X9_otherAs_61, s_X9_otherAs_62, zI_0, Bool.true_eq_false, Bool.false_eq_true, not_true_eq_false, not_false_eq_true, if_true, if_false, KV_ap, KU_ap, dropL_nil]
  have key := J_it (fun x b => J g k_X9_otherAs 5 [.ref M, .int (nI j), .int (nI k), .int (nI b), .int (nI x)] [] [] h Φ) (fun x b => if (!decide (rdX k (gS u.1.1 j).2.1 x (gS u.1.1 j).2.2.2 = rS (gS u.1.1 j) x)) = true then b + 2 ^ x else b) (gS u.1.1 j).2.2.1 (fun x b => b < 2 ^ x) (fun x b _ hb => by
      rw [Nat.pow_succ]; split <;> omega) (fun x b hx hb => by
    have hr := rS_lt hM.2.2.2.1.2.2.2.1 (x := x) hj (by omega)
    have hr2 := rdX_lt (k := k) v2 (show x < 9 by omega) (show (gS u.1.1 j).2.2.2 < 19 by omega)
    rw [s_X9_otherAs_5]
    simp only [s_X9_otherAs_0, s_X9_otherAs_1, s_X9_otherAs_2, s_X9_otherAs_3, s_X9_otherAs_7, s_X9_otherAs_8, s_X9_otherAs_11, s_X9_otherAs_12, s_X9_otherAs_13, s_X9_otherAs_16, s_X9_otherAs_17, s_X9_otherAs_18, s_X9_otherAs_19, s_X9_otherAs_22, s_X9_otherAs_23, s_X9_otherAs_24, s_X9_otherAs_26, s_X9_otherAs_27, s_X9_otherAs_30, s_X9_otherAs_31, s_X9_otherAs_32, s_X9_otherAs_35, s_X9_otherAs_36, s_X9_otherAs_37, s_X9_otherAs_39, s_X9_otherAs_42, s_X9_otherAs_45, s_X9_otherAs_46, s_X9_otherAs_48, s_X9_otherAs_49, s_X9_otherAs_52, s_X9_otherAs_53, s_X9_otherAs_54, s_X9_otherAs_55, s_X9_otherAs_58, s_X9_otherAs_61, s_X9_otherAs_62, zI_0, Bool.true_eq_false, Bool.false_eq_true, not_true_eq_false, not_false_eq_true, if_true, if_false, KV_ap, KU_ap, dropL_nil, s.1, s.2.2.2.1, s.2.2.2.2.1, s.2.2.2.2.2.1, q3, q4, q5, b6, cl_nI (show j < 2147483648 by omega), e1, e2, e3, le_nI (show (gS u.1.1 j).2.2.1 < 2147483648 by omega) (show x < 2147483648 by omega), if_neg (Nat.not_le.mpr hx), p_readBy hk v2 (show x < 9 by omega) (show (gS u.1.1 j).2.2.2 < 19 by omega), p_readIn hM hj (show x < 9 by omega), eq_nI (show rdX k (gS u.1.1 j).2.1 x (gS u.1.1 j).2.2.2 < 2147483648 by omega) (show rS (gS u.1.1 j) x < 2147483648 by omega), a1]
    by_cases hc : rdX k (gS u.1.1 j).2.1 x (gS u.1.1 j).2.2.2 = rS (gS u.1.1 j) x
    · simp only [hc, if_true, decide_true, Bool.not_true, Bool.false_eq_true, if_false, Int32.or_zero]
    · simp only [hc, if_false, decide_false, Bool.not_false, if_true, orb x (by omega) b hb]) (gS u.1.1 j).2.2.1 0 0 (Nat.zero_add _) (by decide)
  refine Eq.trans key.1 ?_
  rw [s_X9_otherAs_5]
  simp only [s_X9_otherAs_0, s_X9_otherAs_1, s_X9_otherAs_2, s_X9_otherAs_3, s_X9_otherAs_7, s_X9_otherAs_8, s_X9_otherAs_11, s_X9_otherAs_12, s_X9_otherAs_13, s_X9_otherAs_16, s_X9_otherAs_17, s_X9_otherAs_18, s_X9_otherAs_19, s_X9_otherAs_22, s_X9_otherAs_23, s_X9_otherAs_24, s_X9_otherAs_26, s_X9_otherAs_27, s_X9_otherAs_30, s_X9_otherAs_31, s_X9_otherAs_32, s_X9_otherAs_35, s_X9_otherAs_36, s_X9_otherAs_37, s_X9_otherAs_39, s_X9_otherAs_42, s_X9_otherAs_45, s_X9_otherAs_46, s_X9_otherAs_48, s_X9_otherAs_49, s_X9_otherAs_52, s_X9_otherAs_53, s_X9_otherAs_54, s_X9_otherAs_55, s_X9_otherAs_58, s_X9_otherAs_61, s_X9_otherAs_62, zI_0, Bool.true_eq_false, Bool.false_eq_true, not_true_eq_false, not_false_eq_true, if_true, if_false, KV_ap, KU_ap, dropL_nil, s.1, s.2.2.2.2.1, q4, b6, cl_nI (show j < 2147483648 by omega), e2, le_nI (show (gS u.1.1 j).2.2.1 < 2147483648 by omega) (show (gS u.1.1 j).2.2.1 < 2147483648 by omega), Nat.le_refl]
  rfl
theorem p_isTold (hM : isM h M u) {j I : Nat} (hj : j < u.1.1.length) (hI : I < 512) : J g k_X9_isTold 0 [.ref M, .int (nI j), .int (nI I), m_D, m_D] [] [] h Φ = Φ (.int (zI (taN (gS u.1.1 j) I))) h := by
  have hl := hM.2.2.2.1.1
  have vs := hM.2.2.2.1.2.2.2.1 j hj
  obtain ⟨v1, v2, v3, v4⟩ := id vs
  obtain ⟨e0, e1, e2, e3⟩ := hM.2.2.2.2.1 j hj
  have s := hM.1
  have q2 := hM.2.1.2.1 2 (by decide) (by decide)
  have b6 : m_inb (nI j) 6 = true := by rw [inb_nI (by omega)]; simpa using (show j < 6 by omega)
  have c5' : ∀ j : Nat, j < 2147483648 → ((5 : Int32) < nI j) = (5 < j) := fun j hj => lt_nI (show 5 < 2147483648 by decide) hj
  simp only [s_X9_isTold_0, s_X9_isTold_1, s_X9_isTold_2, s_X9_isTold_3, s_X9_isTold_7, s_X9_isTold_8, s_X9_isTold_11, s_X9_isTold_12, s_X9_isTold_15, s_X9_isTold_17, s_X9_isTold_18, s_X9_isTold_21, s_X9_isTold_22, s_X9_isTold_23, s_X9_isTold_26, s_X9_isTold_27, s_X9_isTold_28, s_X9_isTold_30, s_X9_isTold_33, s_X9_isTold_34, s_X9_isTold_35, s_X9_isTold_38, s_X9_isTold_39, s_X9_isTold_42, s_X9_isTold_43, s_X9_isTold_44, s_X9_isTold_47, s_X9_isTold_50, s_X9_isTold_51, zI_0, Bool.true_eq_false, Bool.false_eq_true, not_true_eq_false, not_false_eq_true, if_true, if_false, KV_ap, KU_ap, dropL_nil]
  have key := J_it0 (fun k (b : Bool) => J g k_X9_isTold 5 [.ref M, .int (nI j), .int (nI I), .int (zI b), .int (nI k)] [] [] h Φ) (fun k b => b && taK (gS u.1.1 j) I k) 6 (fun k b hk => by
    have ht := tlN_lt vs k
    have ha : (tlN (gS u.1.1 j) k &&& I) < 2147483648 := Nat.lt_of_le_of_lt Nat.and_le_right (by omega)
    rw [s_X9_isTold_5]
    simp only [s_X9_isTold_0, s_X9_isTold_1, s_X9_isTold_2, s_X9_isTold_3, s_X9_isTold_7, s_X9_isTold_8, s_X9_isTold_11, s_X9_isTold_12, s_X9_isTold_15, s_X9_isTold_17, s_X9_isTold_18, s_X9_isTold_21, s_X9_isTold_22, s_X9_isTold_23, s_X9_isTold_26, s_X9_isTold_27, s_X9_isTold_28, s_X9_isTold_30, s_X9_isTold_33, s_X9_isTold_34, s_X9_isTold_35, s_X9_isTold_38, s_X9_isTold_39, s_X9_isTold_42, s_X9_isTold_43, s_X9_isTold_44, s_X9_isTold_47, s_X9_isTold_50, s_X9_isTold_51, zI_0, Bool.true_eq_false, Bool.false_eq_true, not_true_eq_false, not_false_eq_true, if_true, if_false, KV_ap, KU_ap, dropL_nil, c5' k (by omega), if_neg (show ¬ 5 < k by omega), s.1, s.2.2.1, q2, b6, cl_nI (show j < 2147483648 by omega), e0, eq_nI (show k < 2147483648 by omega) (show (gS u.1.1 j).1 < 2147483648 by omega), p_otherAs hM hj hk, i_and, eq0 ha, a1]
    unfold taK
    cases b
    · simp only [if_true, Bool.false_and, zI_f]
    · by_cases x : k = (gS u.1.1 j).1
      · simp only [x, Bool.true_eq_false, if_false, if_true, decide_true, Bool.true_or, Bool.true_and, zI_t]
      · by_cases y : tlN (gS u.1.1 j) k &&& I = 0
        · have y' : I &&& tlN (gS u.1.1 j) k = 0 := by rw [Nat.and_comm]; exact y
          simp only [x, y, y', Bool.true_eq_false, if_false, if_true, decide_false, decide_true, Bool.false_or, Bool.not_true, Bool.true_and, zI_f]
        · have y' : ¬ I &&& tlN (gS u.1.1 j) k = 0 := by rw [Nat.and_comm]; exact y
          simp only [x, y, y', Bool.true_eq_false, if_false, decide_false, Bool.false_or, Bool.not_false, Bool.true_and, zI_t]) true
  refine Eq.trans key ?_
  rw [s_X9_isTold_5]
  simp only [s_X9_isTold_0, s_X9_isTold_1, s_X9_isTold_2, s_X9_isTold_3, s_X9_isTold_7, s_X9_isTold_8, s_X9_isTold_11, s_X9_isTold_12, s_X9_isTold_15, s_X9_isTold_17, s_X9_isTold_18, s_X9_isTold_21, s_X9_isTold_22, s_X9_isTold_23, s_X9_isTold_26, s_X9_isTold_27, s_X9_isTold_28, s_X9_isTold_30, s_X9_isTold_33, s_X9_isTold_34, s_X9_isTold_35, s_X9_isTold_38, s_X9_isTold_39, s_X9_isTold_42, s_X9_isTold_43, s_X9_isTold_44, s_X9_isTold_47, s_X9_isTold_50, zI_0, Bool.true_eq_false, Bool.false_eq_true, not_true_eq_false, not_false_eq_true, if_true, if_false, KV_ap, KU_ap, dropL_nil, c5' 6 (by decide), show (5 < 6) = True by decide]
  rw [s_X9_isTold_51 (by rw [zI_01]; trivial)]
  congr 3
  rw [Bool.eq_iff_iff, it_and, taN_iff]
  simp only [Nat.zero_le, Nat.zero_add, true_implies, true_and]
end M23
theorem m_breaks (v0 v1 : Int32) : cM k_X9_breaks [.int v0, .int v1, m_D, m_D] (aBreaks v0 v1) := by
  intro g h M u Φ hM k
  have hl := hM.2.2.2.1.1
  have hbad : (decide (0 ≤ v0 ∧ v0 < nI u.1.1.length) && decide (0 ≤ v1 ∧ v1 < 2)) = false → aBreaks v0 v1 u = (.int (-2), bdU u 0) := fun z => by rw [aBreaks, z]; rfl
  cases g1 : decide (0 ≤ v0 ∧ v0 < nI u.1.1.length)
  · rw [hbad (by simp only [g1, Bool.false_and])] at k
    simp only [s_X9_breaks_0, s_X9_breaks_1, s_X9_breaks_2, s_X9_breaks_5, s_X9_breaks_8, s_X9_breaks_9, s_X9_breaks_10, s_X9_breaks_11, s_X9_breaks_14, s_X9_breaks_17, s_X9_breaks_18, s_X9_breaks_21, s_X9_breaks_22, s_X9_breaks_23, s_X9_breaks_24, s_X9_breaks_25, s_X9_breaks_29, s_X9_breaks_30, s_X9_breaks_31, s_X9_breaks_34, s_X9_breaks_35, s_X9_breaks_36, s_X9_breaks_37, s_X9_breaks_40, s_X9_breaks_41, s_X9_breaks_42, s_X9_breaks_45, s_X9_breaks_47, s_X9_breaks_50, s_X9_breaks_51, s_X9_breaks_54, s_X9_breaks_57, s_X9_breaks_58, s_X9_breaks_59, s_X9_breaks_61, s_X9_breaks_64, s_X9_breaks_67, s_X9_breaks_69, s_X9_breaks_72, s_X9_breaks_73, s_X9_breaks_74, s_X9_breaks_77, s_X9_breaks_80, s_X9_breaks_81, s_X9_breaks_82, s_X9_breaks_85, s_X9_breaks_86, s_X9_breaks_87, s_X9_breaks_90, s_X9_breaks_91, s_X9_breaks_94, s_X9_breaks_95, s_X9_breaks_98, zI_0, Bool.true_eq_false, Bool.false_eq_true, not_true_eq_false, not_false_eq_true, if_true, if_false, KV_ap, KU_ap, dropL_nil, hM.1.1, p_isStick hM, g1]
    exact p_bad hM (fun h' hM' hf => by simp only [KV_ap, s_X9_breaks_0, s_X9_breaks_1, s_X9_breaks_2, s_X9_breaks_5, s_X9_breaks_8, s_X9_breaks_9, s_X9_breaks_10, s_X9_breaks_11, s_X9_breaks_14, s_X9_breaks_17, s_X9_breaks_18, s_X9_breaks_21, s_X9_breaks_22, s_X9_breaks_23, s_X9_breaks_24, s_X9_breaks_25, s_X9_breaks_29, s_X9_breaks_30, s_X9_breaks_31, s_X9_breaks_34, s_X9_breaks_35, s_X9_breaks_36, s_X9_breaks_37, s_X9_breaks_40, s_X9_breaks_41, s_X9_breaks_42, s_X9_breaks_45, s_X9_breaks_47, s_X9_breaks_50, s_X9_breaks_51, s_X9_breaks_54, s_X9_breaks_57, s_X9_breaks_58, s_X9_breaks_59, s_X9_breaks_61, s_X9_breaks_64, s_X9_breaks_67, s_X9_breaks_69, s_X9_breaks_72, s_X9_breaks_73, s_X9_breaks_74, s_X9_breaks_77, s_X9_breaks_80, s_X9_breaks_81, s_X9_breaks_82, s_X9_breaks_85, s_X9_breaks_86, s_X9_breaks_87, s_X9_breaks_90, s_X9_breaks_91, s_X9_breaks_94, s_X9_breaks_95, s_X9_breaks_98]; exact k h' hM' hf)
  · cases g2 : decide (0 ≤ v1 ∧ v1 < 2)
    · rw [hbad (by simp only [g1, g2, Bool.and_false])] at k
      simp only [s_X9_breaks_0, s_X9_breaks_1, s_X9_breaks_2, s_X9_breaks_5, s_X9_breaks_8, s_X9_breaks_9, s_X9_breaks_10, s_X9_breaks_11, s_X9_breaks_14, s_X9_breaks_17, s_X9_breaks_18, s_X9_breaks_21, s_X9_breaks_22, s_X9_breaks_23, s_X9_breaks_24, s_X9_breaks_25, s_X9_breaks_29, s_X9_breaks_30, s_X9_breaks_31, s_X9_breaks_34, s_X9_breaks_35, s_X9_breaks_36, s_X9_breaks_37, s_X9_breaks_40, s_X9_breaks_41, s_X9_breaks_42, s_X9_breaks_45, s_X9_breaks_47, s_X9_breaks_50, s_X9_breaks_51, s_X9_breaks_54, s_X9_breaks_57, s_X9_breaks_58, s_X9_breaks_59, s_X9_breaks_61, s_X9_breaks_64, s_X9_breaks_67, s_X9_breaks_69, s_X9_breaks_72, s_X9_breaks_73, s_X9_breaks_74, s_X9_breaks_77, s_X9_breaks_80, s_X9_breaks_81, s_X9_breaks_82, s_X9_breaks_85, s_X9_breaks_86, s_X9_breaks_87, s_X9_breaks_90, s_X9_breaks_91, s_X9_breaks_94, s_X9_breaks_95, s_X9_breaks_98, zI_0, Bool.true_eq_false, Bool.false_eq_true, not_true_eq_false, not_false_eq_true, if_true, if_false, KV_ap, KU_ap, dropL_nil, hM.1.1, p_isStick hM, p_in, le_1, g1, g2]
      exact p_bad hM (fun h' hM' hf => by simp only [KV_ap, s_X9_breaks_0, s_X9_breaks_1, s_X9_breaks_2, s_X9_breaks_5, s_X9_breaks_8, s_X9_breaks_9, s_X9_breaks_10, s_X9_breaks_11, s_X9_breaks_14, s_X9_breaks_17, s_X9_breaks_18, s_X9_breaks_21, s_X9_breaks_22, s_X9_breaks_23, s_X9_breaks_24, s_X9_breaks_25, s_X9_breaks_29, s_X9_breaks_30, s_X9_breaks_31, s_X9_breaks_34, s_X9_breaks_35, s_X9_breaks_36, s_X9_breaks_37, s_X9_breaks_40, s_X9_breaks_41, s_X9_breaks_42, s_X9_breaks_45, s_X9_breaks_47, s_X9_breaks_50, s_X9_breaks_51, s_X9_breaks_54, s_X9_breaks_57, s_X9_breaks_58, s_X9_breaks_59, s_X9_breaks_61, s_X9_breaks_64, s_X9_breaks_67, s_X9_breaks_69, s_X9_breaks_72, s_X9_breaks_73, s_X9_breaks_74, s_X9_breaks_77, s_X9_breaks_80, s_X9_breaks_81, s_X9_breaks_82, s_X9_breaks_85, s_X9_breaks_86, s_X9_breaks_87, s_X9_breaks_90, s_X9_breaks_91, s_X9_breaks_94, s_X9_breaks_95, s_X9_breaks_98]; exact k h' hM' hf)
    · obtain ⟨j, ej, hj⟩ := hs_ex (show u.1.1.length < 2147483648 by omega) g1
      have e : aBreaks v0 v1 u = (.int (if (fbN (gS u.1.1 j)).1 = -1 then -1 else if v1 = 0 then bcI (fbN (gS u.1.1 j)).1 else (fbN (gS u.1.1 j)).1), u) := by
        simp only [aBreaks, g1, g2, Bool.and_self, if_true]
        rw [ej, cl_nI (show j < 2147483648 by omega)]
      rw [e] at k
      subst ej
      have k' := k h hM (frm_rfl h _ _)
      have vs := hM.2.2.2.1.2.2.2.1 j hj
      obtain ⟨w1, w2, w3, w4⟩ := id vs
      obtain ⟨e0, e1, e2, e3⟩ := hM.2.2.2.2.1 j hj
      have s := hM.1
      have q4 := hM.2.1.2.1 4 (by decide) (by decide)
      have b6 : m_inb (nI j) 6 = true := by rw [inb_nI (by omega)]; simpa using (show j < 6 by omega)
      simp only [s_X9_breaks_0, s_X9_breaks_1, s_X9_breaks_2, s_X9_breaks_5, s_X9_breaks_8, s_X9_breaks_9, s_X9_breaks_10, s_X9_breaks_11, s_X9_breaks_14, s_X9_breaks_17, s_X9_breaks_18, s_X9_breaks_21, s_X9_breaks_22, s_X9_breaks_23, s_X9_breaks_24, s_X9_breaks_25, s_X9_breaks_29, s_X9_breaks_30, s_X9_breaks_31, s_X9_breaks_34, s_X9_breaks_35, s_X9_breaks_36, s_X9_breaks_37, s_X9_breaks_40, s_X9_breaks_41, s_X9_breaks_42, s_X9_breaks_45, s_X9_breaks_47, s_X9_breaks_50, s_X9_breaks_51, s_X9_breaks_54, s_X9_breaks_57, s_X9_breaks_58, s_X9_breaks_59, s_X9_breaks_61, s_X9_breaks_64, s_X9_breaks_67, s_X9_breaks_69, s_X9_breaks_72, s_X9_breaks_73, s_X9_breaks_74, s_X9_breaks_77, s_X9_breaks_80, s_X9_breaks_81, s_X9_breaks_82, s_X9_breaks_85, s_X9_breaks_86, s_X9_breaks_87, s_X9_breaks_90, s_X9_breaks_91, s_X9_breaks_94, s_X9_breaks_95, s_X9_breaks_98, zI_0, Bool.true_eq_false, Bool.false_eq_true, not_true_eq_false, not_false_eq_true, if_true, if_false, KV_ap, KU_ap, dropL_nil, hM.1.1, p_isStick hM, p_in, le_1, g1, g2]
      have hpw : 2 ^ (gS u.1.1 j).2.2.1 ≤ 512 := by
        have : 2 ^ (gS u.1.1 j).2.2.1 ≤ 2 ^ 9 := Nat.pow_le_pow_right (by decide) w3.2
        omega
      have m1 : ∀ n : Nat, n < 512 → ¬ (nI n = (-1 : Int32)) := by decide +kernel
      have key := J_it (fun I (q : Int32 × Nat) => J g k_X9_breaks 27 [.ref M, .int (nI j), .int v1, .int q.1, .int (nI I)] [] [] h Φ) (fun I q => if (decide (pcN I < q.2) && taN (gS u.1.1 j) I) = true then (nI I, pcN I) else q) (2 ^ (gS u.1.1 j).2.2.1) (fun _ q => (q.1 = -1 ∧ q.2 = 10) ∨ ∃ n, n < 512 ∧ q.1 = nI n ∧ q.2 = pcN n) (fun I q hI hq => by
          split
          · exact Or.inr ⟨I, by omega, rfl, rfl⟩
          · exact hq) (fun I q hI hq => by
        have hp := pcN_le I
        rw [s_X9_breaks_27]
        simp only [s_X9_breaks_0, s_X9_breaks_1, s_X9_breaks_2, s_X9_breaks_5, s_X9_breaks_8, s_X9_breaks_9, s_X9_breaks_10, s_X9_breaks_11, s_X9_breaks_14, s_X9_breaks_17, s_X9_breaks_18, s_X9_breaks_21, s_X9_breaks_22, s_X9_breaks_23, s_X9_breaks_24, s_X9_breaks_25, s_X9_breaks_29, s_X9_breaks_30, s_X9_breaks_31, s_X9_breaks_34, s_X9_breaks_35, s_X9_breaks_36, s_X9_breaks_37, s_X9_breaks_40, s_X9_breaks_41, s_X9_breaks_42, s_X9_breaks_45, s_X9_breaks_47, s_X9_breaks_50, s_X9_breaks_51, s_X9_breaks_54, s_X9_breaks_57, s_X9_breaks_58, s_X9_breaks_59, s_X9_breaks_61, s_X9_breaks_64, s_X9_breaks_67, s_X9_breaks_69, s_X9_breaks_72, s_X9_breaks_73, s_X9_breaks_74, s_X9_breaks_77, s_X9_breaks_80, s_X9_breaks_81, s_X9_breaks_82, s_X9_breaks_85, s_X9_breaks_86, s_X9_breaks_87, s_X9_breaks_90, s_X9_breaks_91, s_X9_breaks_94, s_X9_breaks_95, s_X9_breaks_98, zI_0, Bool.true_eq_false, Bool.false_eq_true, not_true_eq_false, not_false_eq_true, if_true, if_false, KV_ap, KU_ap, dropL_nil, s.1, s.2.2.2.2.1, q4, b6, cl_nI (show j < 2147483648 by omega), e2, sh_pw (gS u.1.1 j).2.2.1 (by omega), le_nI (show 2 ^ (gS u.1.1 j).2.2.1 < 2147483648 by omega) (show I < 2147483648 by omega), if_neg (Nat.not_le.mpr hI), p_bits (show I < 512 by omega), p_isTold hM hj (show I < 512 by omega), a1]
        rcases hq with ⟨z1, z2⟩ | ⟨n, z0, z1, z2⟩
        · obtain ⟨q1, q2⟩ := q
          dsimp only at z1 z2
          subst z1; subst z2
          rw [if_pos rfl, decide_eq_true (show pcN I < 10 by omega)]
          cases taN (gS u.1.1 j) I
          · rfl
          · rfl
        · obtain ⟨q1, q2⟩ := q
          dsimp only at z1 z2
          subst z1; subst z2
          have hp2 := pcN_le n
          rw [if_neg (m1 n z0)]
          simp only [p_bits z0, s_X9_breaks_0, s_X9_breaks_1, s_X9_breaks_2, s_X9_breaks_5, s_X9_breaks_8, s_X9_breaks_9, s_X9_breaks_10, s_X9_breaks_11, s_X9_breaks_14, s_X9_breaks_17, s_X9_breaks_18, s_X9_breaks_21, s_X9_breaks_22, s_X9_breaks_23, s_X9_breaks_24, s_X9_breaks_25, s_X9_breaks_29, s_X9_breaks_30, s_X9_breaks_31, s_X9_breaks_34, s_X9_breaks_35, s_X9_breaks_36, s_X9_breaks_37, s_X9_breaks_40, s_X9_breaks_41, s_X9_breaks_42, s_X9_breaks_45, s_X9_breaks_47, s_X9_breaks_50, s_X9_breaks_51, s_X9_breaks_54, s_X9_breaks_57, s_X9_breaks_58, s_X9_breaks_59, s_X9_breaks_61, s_X9_breaks_64, s_X9_breaks_67, s_X9_breaks_69, s_X9_breaks_72, s_X9_breaks_73, s_X9_breaks_74, s_X9_breaks_77, s_X9_breaks_80, s_X9_breaks_81, s_X9_breaks_82, s_X9_breaks_85, s_X9_breaks_86, s_X9_breaks_87, s_X9_breaks_90, s_X9_breaks_91, s_X9_breaks_94, s_X9_breaks_95, s_X9_breaks_98, zI_0, Bool.true_eq_false, Bool.false_eq_true, not_true_eq_false, not_false_eq_true, if_true, if_false, KV_ap, KU_ap, dropL_nil, s.1, le_nI (show pcN n < 2147483648 by omega) (show pcN I < 2147483648 by omega), p_isTold hM hj (show I < 512 by omega), a1]
          by_cases y : pcN I < pcN n
          · rw [if_neg (by omega), decide_eq_true y]
            cases taN (gS u.1.1 j) I
            · rfl
            · rfl
          · rw [if_pos (by omega), decide_eq_false y]
            rfl) (2 ^ (gS u.1.1 j).2.2.1) 0 (-1, 10) (Nat.zero_add _) (Or.inl ⟨rfl, rfl⟩)
      have h2p : 0 < 2 ^ (gS u.1.1 j).2.2.1 := Nat.two_pow_pos _
      have ef : it (fun I (q : Int32 × Nat) => if (decide (pcN I < q.2) && taN (gS u.1.1 j) I) = true then (nI I, pcN I) else q) (2 ^ (gS u.1.1 j).2.2.1) 0 (-1, 10) = fbN (gS u.1.1 j) := by
        unfold fbN
        obtain ⟨m, hm⟩ : ∃ m, 2 ^ (gS u.1.1 j).2.2.1 = m + 1 := ⟨2 ^ (gS u.1.1 j).2.2.1 - 1, by omega⟩
        rw [hm, it, Nat.add_sub_cancel]
        simp only [taN_0, Bool.and_false, Bool.false_eq_true, if_false, Nat.zero_add]
      rw [ef] at key
      refine Eq.mpr key.1 ?_
      rw [s_X9_breaks_27]
      simp only [s_X9_breaks_0, s_X9_breaks_1, s_X9_breaks_2, s_X9_breaks_5, s_X9_breaks_8, s_X9_breaks_9, s_X9_breaks_10, s_X9_breaks_11, s_X9_breaks_14, s_X9_breaks_17, s_X9_breaks_18, s_X9_breaks_21, s_X9_breaks_22, s_X9_breaks_23, s_X9_breaks_24, s_X9_breaks_25, s_X9_breaks_29, s_X9_breaks_30, s_X9_breaks_31, s_X9_breaks_34, s_X9_breaks_35, s_X9_breaks_36, s_X9_breaks_37, s_X9_breaks_40, s_X9_breaks_41, s_X9_breaks_42, s_X9_breaks_45, s_X9_breaks_47, s_X9_breaks_50, s_X9_breaks_51, s_X9_breaks_54, s_X9_breaks_57, s_X9_breaks_58, s_X9_breaks_59, s_X9_breaks_61, s_X9_breaks_64, s_X9_breaks_67, s_X9_breaks_69, s_X9_breaks_72, s_X9_breaks_73, s_X9_breaks_74, s_X9_breaks_77, s_X9_breaks_80, s_X9_breaks_81, s_X9_breaks_82, s_X9_breaks_85, s_X9_breaks_86, s_X9_breaks_87, s_X9_breaks_90, s_X9_breaks_91, s_X9_breaks_94, s_X9_breaks_95, s_X9_breaks_98, zI_0, Bool.true_eq_false, Bool.false_eq_true, not_true_eq_false, not_false_eq_true, if_true, if_false, KV_ap, KU_ap, dropL_nil, s.1, s.2.2.2.2.1, q4, b6, cl_nI (show j < 2147483648 by omega), e2, sh_pw (gS u.1.1 j).2.2.1 (by omega), le_nI (show 2 ^ (gS u.1.1 j).2.2.1 < 2147483648 by omega) (show 2 ^ (gS u.1.1 j).2.2.1 < 2147483648 by omega), Nat.le_refl]
      rcases key.2 with ⟨z1, z2⟩ | ⟨n, z0, z1, z2⟩
      · rw [z1] at k' ⊢
        rw [if_pos rfl] at k'
        simp only [s_X9_breaks_0, s_X9_breaks_1, s_X9_breaks_2, s_X9_breaks_5, s_X9_breaks_8, s_X9_breaks_9, s_X9_breaks_10, s_X9_breaks_11, s_X9_breaks_14, s_X9_breaks_17, s_X9_breaks_18, s_X9_breaks_21, s_X9_breaks_22, s_X9_breaks_23, s_X9_breaks_24, s_X9_breaks_25, s_X9_breaks_29, s_X9_breaks_30, s_X9_breaks_31, s_X9_breaks_34, s_X9_breaks_35, s_X9_breaks_36, s_X9_breaks_37, s_X9_breaks_40, s_X9_breaks_41, s_X9_breaks_42, s_X9_breaks_45, s_X9_breaks_47, s_X9_breaks_50, s_X9_breaks_51, s_X9_breaks_54, s_X9_breaks_57, s_X9_breaks_58, s_X9_breaks_59, s_X9_breaks_61, s_X9_breaks_64, s_X9_breaks_67, s_X9_breaks_69, s_X9_breaks_72, s_X9_breaks_73, s_X9_breaks_74, s_X9_breaks_77, s_X9_breaks_80, s_X9_breaks_81, s_X9_breaks_82, s_X9_breaks_85, s_X9_breaks_86, s_X9_breaks_87, s_X9_breaks_90, s_X9_breaks_91, s_X9_breaks_94, s_X9_breaks_95, s_X9_breaks_98, zI_0, Bool.true_eq_false, Bool.false_eq_true, not_true_eq_false, not_false_eq_true, if_true, if_false, KV_ap, KU_ap, dropL_nil]
        exact k'
      · rw [z1] at k' ⊢
        rw [if_neg (m1 n z0)] at k'
        rw [if_neg (m1 n z0)]
        rcases lt2_01 g2 with z | z
        · subst z
          rw [if_pos rfl, bc_chk n z0] at k'
          rw [if_pos (by decide)]
          simp only [p_bits z0, s_X9_breaks_0, s_X9_breaks_1, s_X9_breaks_2, s_X9_breaks_5, s_X9_breaks_8, s_X9_breaks_9, s_X9_breaks_10, s_X9_breaks_11, s_X9_breaks_14, s_X9_breaks_17, s_X9_breaks_18, s_X9_breaks_21, s_X9_breaks_22, s_X9_breaks_23, s_X9_breaks_24, s_X9_breaks_25, s_X9_breaks_29, s_X9_breaks_30, s_X9_breaks_31, s_X9_breaks_34, s_X9_breaks_35, s_X9_breaks_36, s_X9_breaks_37, s_X9_breaks_40, s_X9_breaks_41, s_X9_breaks_42, s_X9_breaks_45, s_X9_breaks_47, s_X9_breaks_50, s_X9_breaks_51, s_X9_breaks_54, s_X9_breaks_57, s_X9_breaks_58, s_X9_breaks_59, s_X9_breaks_61, s_X9_breaks_64, s_X9_breaks_67, s_X9_breaks_69, s_X9_breaks_72, s_X9_breaks_73, s_X9_breaks_74, s_X9_breaks_77, s_X9_breaks_80, s_X9_breaks_81, s_X9_breaks_82, s_X9_breaks_85, s_X9_breaks_86, s_X9_breaks_87, s_X9_breaks_90, s_X9_breaks_91, s_X9_breaks_94, s_X9_breaks_95, s_X9_breaks_98, zI_0, Bool.true_eq_false, Bool.false_eq_true, not_true_eq_false, not_false_eq_true, if_true, if_false, KV_ap, KU_ap, dropL_nil]
          exact k'
        · subst z
          rw [if_neg (by decide)] at k'
          rw [if_neg (by decide)]
          exact k'

/-! The model's calls: count -/
theorem p_sumOf {g : GL} {h : HP} {Φ : Value → HP → Prop} {M : Nat} {u : XS} (hM : isM h M u) {a w : Nat} (ha : hS h a = (1, 6)) (hw : ∀ j, j < u.1.1.length → hI h a j = nI (ofN (gS u.1.1 j) w)) : J g k_X9_sumOf 0 [.ref M, .ref a, m_D, m_D] [] [] h Φ = Φ (.int (nI (smN u.1.1 w))) h := by
  have hl := hM.2.2.2.1.1
  simp only [s_X9_sumOf_0, s_X9_sumOf_1, s_X9_sumOf_2, s_X9_sumOf_3, s_X9_sumOf_5, s_X9_sumOf_6, s_X9_sumOf_9, s_X9_sumOf_12, s_X9_sumOf_13, s_X9_sumOf_14, s_X9_sumOf_15, s_X9_sumOf_16, s_X9_sumOf_17, s_X9_sumOf_18, s_X9_sumOf_21, s_X9_sumOf_24, s_X9_sumOf_25, dropL_nil]
  have key := J_it0 (fun i s => J g k_X9_sumOf 4 [.ref M, .ref a, .int (nI s), .int (nI i)] [] [] h Φ) (fun i s => s + ofN (gS u.1.1 i) w) u.1.1.length (fun i s hi => by
    have hin : m_inb (nI i) 6 = true := by rw [inb_nI (by omega)]; simpa using (show i < 6 by omega)
    rw [s_X9_sumOf_4]
    simp only [s_X9_sumOf_0, s_X9_sumOf_1, s_X9_sumOf_2, s_X9_sumOf_3, s_X9_sumOf_5, s_X9_sumOf_6, s_X9_sumOf_9, s_X9_sumOf_12, s_X9_sumOf_13, s_X9_sumOf_14, s_X9_sumOf_15, s_X9_sumOf_16, s_X9_sumOf_17, s_X9_sumOf_18, s_X9_sumOf_21, s_X9_sumOf_24, s_X9_sumOf_25, zI_0, Bool.true_eq_false, Bool.false_eq_true, not_true_eq_false, not_false_eq_true, if_true, if_false, KV_ap, KU_ap, dropL_nil, hM.1.1, hM.2.2.1.1, le_nI (show u.1.1.length < 2147483648 by omega) (show i < 2147483648 by omega), if_neg (Nat.not_le.mpr hi), ha, hin, cl_nI (show i < 2147483648 by omega), hw i hi, i_add, a1]) 0
  refine Eq.trans key ?_
  rw [s_X9_sumOf_4]
  simp only [s_X9_sumOf_0, s_X9_sumOf_1, s_X9_sumOf_2, s_X9_sumOf_3, s_X9_sumOf_5, s_X9_sumOf_6, s_X9_sumOf_9, s_X9_sumOf_12, s_X9_sumOf_13, s_X9_sumOf_14, s_X9_sumOf_15, s_X9_sumOf_16, s_X9_sumOf_17, s_X9_sumOf_18, s_X9_sumOf_21, s_X9_sumOf_24, s_X9_sumOf_25, zI_0, Bool.true_eq_false, Bool.false_eq_true, not_true_eq_false, not_false_eq_true, if_true, if_false, KV_ap, KU_ap, dropL_nil, hM.1.1, hM.2.2.1.1, le_nI (show u.1.1.length < 2147483648 by omega) (show u.1.1.length < 2147483648 by omega), Nat.le_refl]
  rfl
theorem p_countOf {g : GL} {h : HP} {Φ : Value → HP → Prop} {M : Nat} {u : XS} (hM : isM h M u) {w : Nat} (hw : w < 6) : J g k_X9_countOf 0 [.ref M, .int (nI w)] [] [] h Φ = Φ (.int (nI (amN u w))) h := by
  have sh := hM.2.1.2.1
  have c := hM.2.2.2.2.1
  obtain ⟨f1, f2, f12, f18, f22, f23⟩ := hM.2.2.1
  have q2 : ∀ Ψ : Value → HP → Prop, J g k_X9_sumOf 0 [.ref M, .ref (M + 4), m_D, m_D] [] [] h Ψ = Ψ (.int (nI (smN u.1.1 2))) h := fun Ψ => p_sumOf hM (sh 4 (by decide) (by decide)) (fun j hj => (c j hj).2.2.1)
  have q3 : ∀ Ψ : Value → HP → Prop, J g k_X9_sumOf 0 [.ref M, .ref (M + 5), m_D, m_D] [] [] h Ψ = Ψ (.int (nI (smN u.1.1 3))) h := fun Ψ => p_sumOf hM (sh 5 (by decide) (by decide)) (fun j hj => (c j hj).2.2.2)
  obtain e | e | e | e | e | e : w = 0 ∨ w = 1 ∨ w = 2 ∨ w = 3 ∨ w = 4 ∨ w = 5 := by omega
  all_goals subst e
  · rw [show nI 0 = (0 : Int32) from rfl]
    simp only [s_X9_countOf_0, s_X9_countOf_1_0, s_X9_countOf_1_1, s_X9_countOf_1_2, s_X9_countOf_1_3, s_X9_countOf_1_4, s_X9_countOf_1_d, s_X9_countOf_36, s_X9_countOf_37, s_X9_countOf_40, s_X9_countOf_41, s_X9_countOf_42, s_X9_countOf_43, s_X9_countOf_46, s_X9_countOf_49, s_X9_countOf_50, s_X9_countOf_51, s_X9_countOf_52, s_X9_countOf_55, s_X9_countOf_58, s_X9_countOf_59, s_X9_countOf_60, s_X9_countOf_63, s_X9_countOf_64, s_X9_countOf_65, s_X9_countOf_68, s_X9_countOf_69, s_X9_countOf_70, s_X9_countOf_73, zI_0, Bool.true_eq_false, Bool.false_eq_true, not_true_eq_false, not_false_eq_true, if_true, if_false, KV_ap, KU_ap, dropL_nil, hM.1.1, f1]
    rfl
  · rw [show nI 1 = (1 : Int32) from rfl]
    simp only [s_X9_countOf_0, s_X9_countOf_1_0, s_X9_countOf_1_1, s_X9_countOf_1_2, s_X9_countOf_1_3, s_X9_countOf_1_4, s_X9_countOf_1_d, s_X9_countOf_36, s_X9_countOf_37, s_X9_countOf_40, s_X9_countOf_41, s_X9_countOf_42, s_X9_countOf_43, s_X9_countOf_46, s_X9_countOf_49, s_X9_countOf_50, s_X9_countOf_51, s_X9_countOf_52, s_X9_countOf_55, s_X9_countOf_58, s_X9_countOf_59, s_X9_countOf_60, s_X9_countOf_63, s_X9_countOf_64, s_X9_countOf_65, s_X9_countOf_68, s_X9_countOf_69, s_X9_countOf_70, s_X9_countOf_73, zI_0, Bool.true_eq_false, Bool.false_eq_true, not_true_eq_false, not_false_eq_true, if_true, if_false, KV_ap, KU_ap, dropL_nil, hM.1.1, hM.1.2.2.2.2.1, q2]
    rfl
  · rw [show nI 2 = (2 : Int32) from rfl]
    simp only [s_X9_countOf_0, s_X9_countOf_1_0, s_X9_countOf_1_1, s_X9_countOf_1_2, s_X9_countOf_1_3, s_X9_countOf_1_4, s_X9_countOf_1_d, s_X9_countOf_36, s_X9_countOf_37, s_X9_countOf_40, s_X9_countOf_41, s_X9_countOf_42, s_X9_countOf_43, s_X9_countOf_46, s_X9_countOf_49, s_X9_countOf_50, s_X9_countOf_51, s_X9_countOf_52, s_X9_countOf_55, s_X9_countOf_58, s_X9_countOf_59, s_X9_countOf_60, s_X9_countOf_63, s_X9_countOf_64, s_X9_countOf_65, s_X9_countOf_68, s_X9_countOf_69, s_X9_countOf_70, s_X9_countOf_73, zI_0, Bool.true_eq_false, Bool.false_eq_true, not_true_eq_false, not_false_eq_true, if_true, if_false, KV_ap, KU_ap, dropL_nil, hM.1.1, hM.1.2.2.2.2.2.1, q3]
    rfl
  · rw [show nI 3 = (3 : Int32) from rfl]
    simp only [s_X9_countOf_0, s_X9_countOf_1_0, s_X9_countOf_1_1, s_X9_countOf_1_2, s_X9_countOf_1_3, s_X9_countOf_1_4, s_X9_countOf_1_d, s_X9_countOf_36, s_X9_countOf_37, s_X9_countOf_40, s_X9_countOf_41, s_X9_countOf_42, s_X9_countOf_43, s_X9_countOf_46, s_X9_countOf_49, s_X9_countOf_50, s_X9_countOf_51, s_X9_countOf_52, s_X9_countOf_55, s_X9_countOf_58, s_X9_countOf_59, s_X9_countOf_60, s_X9_countOf_63, s_X9_countOf_64, s_X9_countOf_65, s_X9_countOf_68, s_X9_countOf_69, s_X9_countOf_70, s_X9_countOf_73, zI_0, Bool.true_eq_false, Bool.false_eq_true, not_true_eq_false, not_false_eq_true, if_true, if_false, KV_ap, KU_ap, dropL_nil, hM.1.1, f2]
    rfl
  · rw [show nI 4 = (4 : Int32) from rfl]
    simp only [s_X9_countOf_0, s_X9_countOf_1_0, s_X9_countOf_1_1, s_X9_countOf_1_2, s_X9_countOf_1_3, s_X9_countOf_1_4, s_X9_countOf_1_d, s_X9_countOf_36, s_X9_countOf_37, s_X9_countOf_40, s_X9_countOf_41, s_X9_countOf_42, s_X9_countOf_43, s_X9_countOf_46, s_X9_countOf_49, s_X9_countOf_50, s_X9_countOf_51, s_X9_countOf_52, s_X9_countOf_55, s_X9_countOf_58, s_X9_countOf_59, s_X9_countOf_60, s_X9_countOf_63, s_X9_countOf_64, s_X9_countOf_65, s_X9_countOf_68, s_X9_countOf_69, s_X9_countOf_70, s_X9_countOf_73, zI_0, Bool.true_eq_false, Bool.false_eq_true, not_true_eq_false, not_false_eq_true, if_true, if_false, KV_ap, KU_ap, dropL_nil, hM.1.1, f18]
    rfl
  · rw [show nI 5 = (5 : Int32) from rfl, s_X9_countOf_0, s_X9_countOf_1_d (by decide)]
    simp only [s_X9_countOf_0, s_X9_countOf_36, s_X9_countOf_37, s_X9_countOf_40, s_X9_countOf_41, s_X9_countOf_42, s_X9_countOf_43, s_X9_countOf_46, s_X9_countOf_49, s_X9_countOf_50, s_X9_countOf_51, s_X9_countOf_52, s_X9_countOf_55, s_X9_countOf_58, s_X9_countOf_59, s_X9_countOf_60, s_X9_countOf_63, s_X9_countOf_64, s_X9_countOf_65, s_X9_countOf_68, s_X9_countOf_69, s_X9_countOf_70, s_X9_countOf_73, zI_0, Bool.true_eq_false, Bool.false_eq_true, not_true_eq_false, not_false_eq_true, if_true, if_false, KV_ap, KU_ap, dropL_nil, hM.1.1, f12]
    rfl
theorem m_count (v : Int32) : cM k_X9_count [.int v] (aCount v) := by
  intro g h M u Φ hM k
  have l5 : (v ≤ 5) = (v < 6) := le_m1 (n := 6) (by decide)
  cases g1 : decide (0 ≤ v ∧ v < 6)
  · have e : aCount v u = (.int (-2), bdU u 0) := by simp only [aCount, g1, Bool.false_eq_true, if_false]
    rw [e] at k
    simp only [s_X9_count_0, s_X9_count_1, s_X9_count_2, s_X9_count_3, s_X9_count_6, s_X9_count_9, s_X9_count_10, s_X9_count_11, s_X9_count_14, s_X9_count_17, s_X9_count_18, s_X9_count_21, zI_0, Bool.true_eq_false, Bool.false_eq_true, not_true_eq_false, not_false_eq_true, if_true, if_false, KV_ap, KU_ap, dropL_nil, p_in, l5, g1, hM.1.1]
    exact p_bad hM (fun h' hM' hf => by simp only [KV_ap, s_X9_count_0, s_X9_count_1, s_X9_count_2, s_X9_count_3, s_X9_count_6, s_X9_count_9, s_X9_count_10, s_X9_count_11, s_X9_count_14, s_X9_count_17, s_X9_count_18, s_X9_count_21]; exact k h' hM' hf)
  · obtain ⟨j, ej, hj⟩ := hs_ex (n := 6) (by decide) g1
    have e : aCount v u = (.int (nI (amN u j)), u) := by
      simp only [aCount, g1, if_true]
      rw [ej, cl_nI (show j < 2147483648 by omega)]
    rw [e] at k
    subst ej
    simp only [s_X9_count_0, s_X9_count_1, s_X9_count_2, s_X9_count_3, s_X9_count_6, s_X9_count_9, s_X9_count_10, s_X9_count_11, s_X9_count_14, s_X9_count_17, s_X9_count_18, s_X9_count_21, zI_0, Bool.true_eq_false, Bool.false_eq_true, not_true_eq_false, not_false_eq_true, if_true, if_false, KV_ap, KU_ap, dropL_nil, p_in, l5, g1, hM.1.1, p_countOf hM hj]
    exact k h hM (frm_rfl h _ _)

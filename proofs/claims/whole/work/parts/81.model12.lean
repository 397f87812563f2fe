/-! The model's calls: count -/
theorem p_sumOf {g : GL} {h : HP} {Φ : Value → HP → Prop} {M : Nat} {u : XS} (hM : isM h M u) {a w : Nat} (ha : hS h a = (1, 6)) (hw : ∀ j, j < u.1.1.length → hI h a j = nI (ofN (gS u.1.1 j) w)) : J g k_X9_sumOf 0 [.ref M, .ref a, m_D, m_D] [] [] h Φ = Φ (.int (nI (smN u.1.1 w))) h := by
  have hl := hM.2.2.2.1.1
  simp only [s_X9_sumOf_0, s_X9_sumOf_1, s_X9_sumOf_2, s_X9_sumOf_3, s_X9_sumOf_5, s_X9_sumOf_6, s_X9_sumOf_9, s_X9_sumOf_12, s_X9_sumOf_13, s_X9_sumOf_14, s_X9_sumOf_15, s_X9_sumOf_16, s_X9_sumOf_17, s_X9_sumOf_18, s_X9_sumOf_21, s_X9_sumOf_24, s_X9_sumOf_25, dropL_nil]
  have key := J_it0 (fun i s => J g k_X9_sumOf 4 [.ref M, .ref a, .int (nI s), .int (nI i)] [] [] h Φ) (fun i s => s + ofN (gS u.1.1 i) w) u.1.1.length (fun i s hi => by
    have hin : m_inb (nI i) 6 = true := by rw [inb_nI (by omega)]; simpa using (show i < 6 by omega)
    rw [s_X9_sumOf_4]
    simp only [s_X9_sumOf_0, s_X9_sumOf_1, s_X9_sumOf_2, s_X9_sumOf_3, s_X9_sumOf_5, s_X9_sumOf_6, s_X9_sumOf_9, s_X9_sumOf_12, s_X9_sumOf_13, s_X9_sumOf_14, s_X9_sumOf_15, s_X9_sumOf_16, s_X9_sumOf_17, s_X9_sumOf_18, s_X9_sumOf_21, s_X9_sumOf_24, s_X9_sumOf_25, zI_0, Bool.true_eq_false, Bool.false_eq_true, not_true_eq_false, not_false_eq_true, if_true, if_false, KV_ap, KU_ap, dropL_nil, hM.1.1, hM.2.2.1.1, le_nI (show u.1.1.length < 2147483648 by omega) (show i < 2147483648 by omega), if_neg (Nat.not_le.mpr hi), ha, hin, cl_nI (show i < 2147483648 by omega), hw i hi, i_add, a1]) 0
  refine Eq.trans key ?_
  rw [s_X9_sumOf_4]
  simp only [s_X9_sumOf_0, s_X9_sumOf_1, s_X9_sumOf_2, s_X9_sumOf_3, s_X9_sumOf_5, s_X9_sumOf_6, s_X9_sumOf_9, s_X9_sumOf_12, s_X9_sumOf_13, s_X9_sumOf_14, s_X9_sumOf_15, s_X9_sumOf_16, s_X9_sumOf_17, s_X9_sumOf_18, s_X9_sumOf_21, s_X9_sumOf_24, s_X9_sumOf_25, zI_0, Bool.true_eq_false, Bool.false_eq_true, not_true_eq_false, not_false_eq_true, if_true, if_false, KV_ap, KU_ap, dropL_nil, hM.1.1, hM.2.2.1.1, le_nI (show u.1.1.length < 2147483648 by omega) (show u.1.1.length < 2147483648 by omega), Nat.le_refl]
  rfl

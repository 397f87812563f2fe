/-! The model's calls: part, sucks -/
theorem lt2_01 {v : Int32} (h : decide (0 ≤ v ∧ v < 2) = true) : v = 0 ∨ v = 1 := by
  obtain ⟨j, e, hj⟩ := hs_ex (n := 2) (by decide) h
  obtain e0 | e0 : j = 0 ∨ j = 1 := by omega
  · subst e0; exact Or.inl e
  · subst e0; exact Or.inr e
theorem m_part (v : Int32) : cM k_X9_part [.int v] (aPart v) := by
  intro g h M u Φ hM k
  have f7 := hM.2.2.1.2.2.2.2.1
  have f8 := hM.2.2.1.2.2.2.2.2
  cases g1 : decide (0 ≤ v ∧ v < 2)
  · have e : aPart v u = (.long (-2 : Int32).toInt64, bdU u 0) := by simp only [aPart, g1, Bool.false_eq_true, if_false]
    rw [e] at k
    have n0 : ¬ v = 0 := fun z => by subst z; exact absurd g1 (by decide)
    have n1 : ¬ v = 1 := fun z => by subst z; exact absurd g1 (by decide)
    simp only [s_X9_part_0, s_X9_part_1, s_X9_part_4, s_X9_part_5, s_X9_part_8, s_X9_part_11, s_X9_part_12, s_X9_part_13, s_X9_part_16, s_X9_part_17, s_X9_part_20, s_X9_part_23, s_X9_part_24, s_X9_part_27, s_X9_part_28, zI_0, Bool.true_eq_false, Bool.false_eq_true, not_true_eq_false, not_false_eq_true, if_true, if_false, KV_ap, KU_ap, dropL_nil, n0, n1, hM.1.1]
    exact p_bad hM (fun h' hM' hf => by simp only [KV_ap, s_X9_part_0, s_X9_part_1, s_X9_part_4, s_X9_part_5, s_X9_part_8, s_X9_part_11, s_X9_part_12, s_X9_part_13, s_X9_part_16, s_X9_part_17, s_X9_part_20, s_X9_part_23, s_X9_part_24, s_X9_part_27, s_X9_part_28]; exact k h' hM' hf)
  · have e : aPart v u = (.long (if v = 0 then u.2.2.2.1.1 else u.2.2.2.1.2), u) := by
      simp only [aPart, g1, if_true]
    rw [e] at k
    have k' := k h hM (frm_rfl h _ _)
    rcases lt2_01 g1 with hv | hv
    · subst hv
      simp only [if_true] at k'
      simp only [s_X9_part_0, s_X9_part_1, s_X9_part_4, s_X9_part_5, s_X9_part_8, s_X9_part_11, s_X9_part_12, s_X9_part_13, s_X9_part_16, s_X9_part_17, s_X9_part_20, s_X9_part_23, s_X9_part_24, s_X9_part_27, s_X9_part_28, zI_0, Bool.true_eq_false, Bool.false_eq_true, not_true_eq_false, not_false_eq_true, if_true, if_false, KV_ap, KU_ap, dropL_nil, hM.1.1, f7]
      exact k'
    · subst hv
      have n1 : ((1 : Int32) = 0) = False := by decide
      simp only [n1, if_false] at k'
      simp only [s_X9_part_0, s_X9_part_1, s_X9_part_4, s_X9_part_5, s_X9_part_8, s_X9_part_11, s_X9_part_12, s_X9_part_13, s_X9_part_16, s_X9_part_17, s_X9_part_20, s_X9_part_23, s_X9_part_24, s_X9_part_27, s_X9_part_28, zI_0, Bool.true_eq_false, Bool.false_eq_true, not_true_eq_false, not_false_eq_true, if_true, if_false, KV_ap, KU_ap, dropL_nil, n1, hM.1.1, f8]
      exact k'

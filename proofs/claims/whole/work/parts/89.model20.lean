/-! The model's calls: lays -/
theorem mn_nI {a b : Nat} (ha : a < 2147483648) (hb : b < 2147483648) : (if nI a < nI b then nI a else nI b) = nI (min a b) := by
  simp only [lt_nI ha hb]
  split
  · rw [Nat.min_eq_left (by omega)]
  · rw [Nat.min_eq_right (by omega)]
theorem mx_max (a b : Nat) : mxN a b = max a b := by
  unfold mxN
  split
  · rw [Nat.max_eq_right (by omega)]
  · rw [Nat.max_eq_left (by omega)]
theorem cl4_er {f0 f1 f2 f3 : Nat → Int32} {L : List St} {t : Nat} (ht : t < L.length) (c : cl4 f0 f1 f2 f3 L) : cl4 (sfF f0 t (L.length - 1)) (sfF f1 t (L.length - 1)) (sfF f2 t (L.length - 1)) (sfF f3 t (L.length - 1)) (L.eraseIdx t) := by
  intro i hi
  rw [List.length_eraseIdx_of_lt ht] at hi
  rw [gS_eraseIdx]
  unfold sfF
  by_cases e : i < t
  · simp only [if_pos e, if_neg (show ¬ (t ≤ i ∧ i < L.length - 1) by omega)]
    exact c i (by omega)
  · simp only [if_neg e, if_pos (show (t ≤ i ∧ i < L.length - 1) by omega)]
    exact c (i + 1) (by omega)
theorem vL_er {L : List St} {t : Nat} (ht : t < L.length) (v : vL L) : vL (L.eraseIdx t) := by
  intro i hi
  rw [List.length_eraseIdx_of_lt ht] at hi
  rw [gS_eraseIdx]
  split
  · exact v i (by omega)
  · exact v (i + 1) (by omega)
theorem m_lays (v0 v1 : Int32) : cM k_X9_lays [.int v0, .int v1, m_D, m_D, m_D] (aLays v0 v1) := by
  intro g h M u Φ hM k
  obtain ⟨⟨L, N, P⟩, im, tx, fr, rf⟩ := u
  have hl : L.length ≤ 6 := hM.2.2.2.1.1
  have hbad : aTw v0 v1 L.length = false → aLays v0 v1 ((L, N, P), im, tx, fr, rf) = (.int (-2), bdU ((L, N, P), im, tx, fr, rf) 0) := fun z => by simp only [aLays, z, Bool.false_eq_true, if_false]
  cases g1 : decide (0 ≤ v0 ∧ v0 < nI L.length)
  · rw [hbad (by simp only [aTw, g1, Bool.false_and])] at k
    simp only [s_X9_lays_0, s_X9_lays_1, s_X9_lays_2, s_X9_lays_5, s_X9_lays_8, s_X9_lays_9, s_X9_lays_10, s_X9_lays_13, s_X9_lays_16, s_X9_lays_17, s_X9_lays_18, s_X9_lays_21, s_X9_lays_22, s_X9_lays_25, s_X9_lays_26, s_X9_lays_27, s_X9_lays_30, s_X9_lays_31, s_X9_lays_32, s_X9_lays_35, s_X9_lays_36, s_X9_lays_37, s_X9_lays_38, s_X9_lays_41, s_X9_lays_43, s_X9_lays_44, s_X9_lays_47, s_X9_lays_48, s_X9_lays_49, s_X9_lays_52, s_X9_lays_53, s_X9_lays_54, s_X9_lays_55, s_X9_lays_58, s_X9_lays_59, s_X9_lays_60, s_X9_lays_63, s_X9_lays_64, s_X9_lays_65, s_X9_lays_68, s_X9_lays_69, s_X9_lays_70, s_X9_lays_73, s_X9_lays_74, s_X9_lays_75, s_X9_lays_76, s_X9_lays_79, s_X9_lays_80, s_X9_lays_81, s_X9_lays_84, s_X9_lays_85, s_X9_lays_86, s_X9_lays_87, s_X9_lays_90, s_X9_lays_91, s_X9_lays_92, s_X9_lays_95, s_X9_lays_97, s_X9_lays_101, s_X9_lays_102, s_X9_lays_105, s_X9_lays_108, s_X9_lays_109, s_X9_lays_112, s_X9_lays_114, s_X9_lays_115, s_X9_lays_118, s_X9_lays_120, s_X9_lays_121, s_X9_lays_122, s_X9_lays_123, s_X9_lays_124, s_X9_lays_125, s_X9_lays_128, s_X9_lays_130, s_X9_lays_131, s_X9_lays_134, s_X9_lays_136, s_X9_lays_137, s_X9_lays_138, s_X9_lays_139, s_X9_lays_140, s_X9_lays_141, s_X9_lays_144, s_X9_lays_146, s_X9_lays_147, s_X9_lays_150, s_X9_lays_152, s_X9_lays_153, s_X9_lays_154, s_X9_lays_155, s_X9_lays_156, s_X9_lays_157, s_X9_lays_160, s_X9_lays_162, s_X9_lays_163, s_X9_lays_166, s_X9_lays_168, s_X9_lays_169, s_X9_lays_170, s_X9_lays_171, s_X9_lays_172, s_X9_lays_175, s_X9_lays_178, s_X9_lays_179, s_X9_lays_180, s_X9_lays_183, s_X9_lays_184, zI_0, Bool.true_eq_false, Bool.false_eq_true, not_true_eq_false, not_false_eq_true, if_true, if_false, KV_ap, KU_ap, dropL_nil, hM.1.1, p_isStick hM, g1]
    exact p_bad hM (fun h' hM' hf => by simp only [KV_ap, s_X9_lays_0, s_X9_lays_1, s_X9_lays_2, s_X9_lays_5, s_X9_lays_8, s_X9_lays_9, s_X9_lays_10, s_X9_lays_13, s_X9_lays_16, s_X9_lays_17, s_X9_lays_18, s_X9_lays_21, s_X9_lays_22, s_X9_lays_25, s_X9_lays_26, s_X9_lays_27, s_X9_lays_30, s_X9_lays_31, s_X9_lays_32, s_X9_lays_35, s_X9_lays_36, s_X9_lays_37, s_X9_lays_38, s_X9_lays_41, s_X9_lays_43, s_X9_lays_44, s_X9_lays_47, s_X9_lays_48, s_X9_lays_49, s_X9_lays_52, s_X9_lays_53, s_X9_lays_54, s_X9_lays_55, s_X9_lays_58, s_X9_lays_59, s_X9_lays_60, s_X9_lays_63, s_X9_lays_64, s_X9_lays_65, s_X9_lays_68, s_X9_lays_69, s_X9_lays_70, s_X9_lays_73, s_X9_lays_74, s_X9_lays_75, s_X9_lays_76, s_X9_lays_79, s_X9_lays_80, s_X9_lays_81, s_X9_lays_84, s_X9_lays_85, s_X9_lays_86, s_X9_lays_87, s_X9_lays_90, s_X9_lays_91, s_X9_lays_92, s_X9_lays_95, s_X9_lays_97, s_X9_lays_101, s_X9_lays_102, s_X9_lays_105, s_X9_lays_108, s_X9_lays_109, s_X9_lays_112, s_X9_lays_114, s_X9_lays_115, s_X9_lays_118, s_X9_lays_120, s_X9_lays_121, s_X9_lays_122, s_X9_lays_123, s_X9_lays_124, s_X9_lays_125, s_X9_lays_128, s_X9_lays_130, s_X9_lays_131, s_X9_lays_134, s_X9_lays_136, s_X9_lays_137, s_X9_lays_138, s_X9_lays_139, s_X9_lays_140, s_X9_lays_141, s_X9_lays_144, s_X9_lays_146, s_X9_lays_147, s_X9_lays_150, s_X9_lays_152, s_X9_lays_153, s_X9_lays_154, s_X9_lays_155, s_X9_lays_156, s_X9_lays_157, s_X9_lays_160, s_X9_lays_162, s_X9_lays_163, s_X9_lays_166, s_X9_lays_168, s_X9_lays_169, s_X9_lays_170, s_X9_lays_171, s_X9_lays_172, s_X9_lays_175, s_X9_lays_178, s_X9_lays_179, s_X9_lays_180, s_X9_lays_183, s_X9_lays_184]; exact k h' hM' hf)
  · cases g2 : decide (0 ≤ v1 ∧ v1 < nI L.length)
    · rw [hbad (by simp only [aTw, g1, g2, Bool.and_false, Bool.false_and])] at k
      simp only [s_X9_lays_0, s_X9_lays_1, s_X9_lays_2, s_X9_lays_5, s_X9_lays_8, s_X9_lays_9, s_X9_lays_10, s_X9_lays_13, s_X9_lays_16, s_X9_lays_17, s_X9_lays_18, s_X9_lays_21, s_X9_lays_22, s_X9_lays_25, s_X9_lays_26, s_X9_lays_27, s_X9_lays_30, s_X9_lays_31, s_X9_lays_32, s_X9_lays_35, s_X9_lays_36, s_X9_lays_37, s_X9_lays_38, s_X9_lays_41, s_X9_lays_43, s_X9_lays_44, s_X9_lays_47, s_X9_lays_48, s_X9_lays_49, s_X9_lays_52, s_X9_lays_53, s_X9_lays_54, s_X9_lays_55, s_X9_lays_58, s_X9_lays_59, s_X9_lays_60, s_X9_lays_63, s_X9_lays_64, s_X9_lays_65, s_X9_lays_68, s_X9_lays_69, s_X9_lays_70, s_X9_lays_73, s_X9_lays_74, s_X9_lays_75, s_X9_lays_76, s_X9_lays_79, s_X9_lays_80, s_X9_lays_81, s_X9_lays_84, s_X9_lays_85, s_X9_lays_86, s_X9_lays_87, s_X9_lays_90, s_X9_lays_91, s_X9_lays_92, s_X9_lays_95, s_X9_lays_97, s_X9_lays_101, s_X9_lays_102, s_X9_lays_105, s_X9_lays_108, s_X9_lays_109, s_X9_lays_112, s_X9_lays_114, s_X9_lays_115, s_X9_lays_118, s_X9_lays_120, s_X9_lays_121, s_X9_lays_122, s_X9_lays_123, s_X9_lays_124, s_X9_lays_125, s_X9_lays_128, s_X9_lays_130, s_X9_lays_131, s_X9_lays_134, s_X9_lays_136, s_X9_lays_137, s_X9_lays_138, s_X9_lays_139, s_X9_lays_140, s_X9_lays_141, s_X9_lays_144, s_X9_lays_146, s_X9_lays_147, s_X9_lays_150, s_X9_lays_152, s_X9_lays_153, s_X9_lays_154, s_X9_lays_155, s_X9_lays_156, s_X9_lays_157, s_X9_lays_160, s_X9_lays_162, s_X9_lays_163, s_X9_lays_166, s_X9_lays_168, s_X9_lays_169, s_X9_lays_170, s_X9_lays_171, s_X9_lays_172, s_X9_lays_175, s_X9_lays_178, s_X9_lays_179, s_X9_lays_180, s_X9_lays_183, s_X9_lays_184, zI_0, Bool.true_eq_false, Bool.false_eq_true, not_true_eq_false, not_false_eq_true, if_true, if_false, KV_ap, KU_ap, dropL_nil, hM.1.1, p_isStick hM, g1, g2]
      exact p_bad hM (fun h' hM' hf => by simp only [KV_ap, s_X9_lays_0, s_X9_lays_1, s_X9_lays_2, s_X9_lays_5, s_X9_lays_8, s_X9_lays_9, s_X9_lays_10, s_X9_lays_13, s_X9_lays_16, s_X9_lays_17, s_X9_lays_18, s_X9_lays_21, s_X9_lays_22, s_X9_lays_25, s_X9_lays_26, s_X9_lays_27, s_X9_lays_30, s_X9_lays_31, s_X9_lays_32, s_X9_lays_35, s_X9_lays_36, s_X9_lays_37, s_X9_lays_38, s_X9_lays_41, s_X9_lays_43, s_X9_lays_44, s_X9_lays_47, s_X9_lays_48, s_X9_lays_49, s_X9_lays_52, s_X9_lays_53, s_X9_lays_54, s_X9_lays_55, s_X9_lays_58, s_X9_lays_59, s_X9_lays_60, s_X9_lays_63, s_X9_lays_64, s_X9_lays_65, s_X9_lays_68, s_X9_lays_69, s_X9_lays_70, s_X9_lays_73, s_X9_lays_74, s_X9_lays_75, s_X9_lays_76, s_X9_lays_79, s_X9_lays_80, s_X9_lays_81, s_X9_lays_84, s_X9_lays_85, s_X9_lays_86, s_X9_lays_87, s_X9_lays_90, s_X9_lays_91, s_X9_lays_92, s_X9_lays_95, s_X9_lays_97, s_X9_lays_101, s_X9_lays_102, s_X9_lays_105, s_X9_lays_108, s_X9_lays_109, s_X9_lays_112, s_X9_lays_114, s_X9_lays_115, s_X9_lays_118, s_X9_lays_120, s_X9_lays_121, s_X9_lays_122, s_X9_lays_123, s_X9_lays_124, s_X9_lays_125, s_X9_lays_128, s_X9_lays_130, s_X9_lays_131, s_X9_lays_134, s_X9_lays_136, s_X9_lays_137, s_X9_lays_138, s_X9_lays_139, s_X9_lays_140, s_X9_lays_141, s_X9_lays_144, s_X9_lays_146, s_X9_lays_147, s_X9_lays_150, s_X9_lays_152, s_X9_lays_153, s_X9_lays_154, s_X9_lays_155, s_X9_lays_156, s_X9_lays_157, s_X9_lays_160, s_X9_lays_162, s_X9_lays_163, s_X9_lays_166, s_X9_lays_168, s_X9_lays_169, s_X9_lays_170, s_X9_lays_171, s_X9_lays_172, s_X9_lays_175, s_X9_lays_178, s_X9_lays_179, s_X9_lays_180, s_X9_lays_183, s_X9_lays_184]; exact k h' hM' hf)
    · by_cases g3 : v0 = v1
      · rw [hbad (by simp only [aTw, g1, g2, g3, decide_true, Bool.not_true, Bool.and_false])] at k
        simp only [s_X9_lays_0, s_X9_lays_1, s_X9_lays_2, s_X9_lays_5, s_X9_lays_8, s_X9_lays_9, s_X9_lays_10, s_X9_lays_13, s_X9_lays_16, s_X9_lays_17, s_X9_lays_18, s_X9_lays_21, s_X9_lays_22, s_X9_lays_25, s_X9_lays_26, s_X9_lays_27, s_X9_lays_30, s_X9_lays_31, s_X9_lays_32, s_X9_lays_35, s_X9_lays_36, s_X9_lays_37, s_X9_lays_38, s_X9_lays_41, s_X9_lays_43, s_X9_lays_44, s_X9_lays_47, s_X9_lays_48, s_X9_lays_49, s_X9_lays_52, s_X9_lays_53, s_X9_lays_54, s_X9_lays_55, s_X9_lays_58, s_X9_lays_59, s_X9_lays_60, s_X9_lays_63, s_X9_lays_64, s_X9_lays_65, s_X9_lays_68, s_X9_lays_69, s_X9_lays_70, s_X9_lays_73, s_X9_lays_74, s_X9_lays_75, s_X9_lays_76, s_X9_lays_79, s_X9_lays_80, s_X9_lays_81, s_X9_lays_84, s_X9_lays_85, s_X9_lays_86, s_X9_lays_87, s_X9_lays_90, s_X9_lays_91, s_X9_lays_92, s_X9_lays_95, s_X9_lays_97, s_X9_lays_101, s_X9_lays_102, s_X9_lays_105, s_X9_lays_108, s_X9_lays_109, s_X9_lays_112, s_X9_lays_114, s_X9_lays_115, s_X9_lays_118, s_X9_lays_120, s_X9_lays_121, s_X9_lays_122, s_X9_lays_123, s_X9_lays_124, s_X9_lays_125, s_X9_lays_128, s_X9_lays_130, s_X9_lays_131, s_X9_lays_134, s_X9_lays_136, s_X9_lays_137, s_X9_lays_138, s_X9_lays_139, s_X9_lays_140, s_X9_lays_141, s_X9_lays_144, s_X9_lays_146, s_X9_lays_147, s_X9_lays_150, s_X9_lays_152, s_X9_lays_153, s_X9_lays_154, s_X9_lays_155, s_X9_lays_156, s_X9_lays_157, s_X9_lays_160, s_X9_lays_162, s_X9_lays_163, s_X9_lays_166, s_X9_lays_168, s_X9_lays_169, s_X9_lays_170, s_X9_lays_171, s_X9_lays_172, s_X9_lays_175, s_X9_lays_178, s_X9_lays_179, s_X9_lays_180, s_X9_lays_183, s_X9_lays_184, zI_0, Bool.true_eq_false, Bool.false_eq_true, not_true_eq_false, not_false_eq_true, if_true, if_false, KV_ap, KU_ap, dropL_nil, hM.1.1, p_isStick hM, g1, g2, g3]
        exact p_bad hM (fun h' hM' hf => by simp only [KV_ap, s_X9_lays_0, s_X9_lays_1, s_X9_lays_2, s_X9_lays_5, s_X9_lays_8, s_X9_lays_9, s_X9_lays_10, s_X9_lays_13, s_X9_lays_16, s_X9_lays_17, s_X9_lays_18, s_X9_lays_21, s_X9_lays_22, s_X9_lays_25, s_X9_lays_26, s_X9_lays_27, s_X9_lays_30, s_X9_lays_31, s_X9_lays_32, s_X9_lays_35, s_X9_lays_36, s_X9_lays_37, s_X9_lays_38, s_X9_lays_41, s_X9_lays_43, s_X9_lays_44, s_X9_lays_47, s_X9_lays_48, s_X9_lays_49, s_X9_lays_52, s_X9_lays_53, s_X9_lays_54, s_X9_lays_55, s_X9_lays_58, s_X9_lays_59, s_X9_lays_60, s_X9_lays_63, s_X9_lays_64, s_X9_lays_65, s_X9_lays_68, s_X9_lays_69, s_X9_lays_70, s_X9_lays_73, s_X9_lays_74, s_X9_lays_75, s_X9_lays_76, s_X9_lays_79, s_X9_lays_80, s_X9_lays_81, s_X9_lays_84, s_X9_lays_85, s_X9_lays_86, s_X9_lays_87, s_X9_lays_90, s_X9_lays_91, s_X9_lays_92, s_X9_lays_95, s_X9_lays_97, s_X9_lays_101, s_X9_lays_102, s_X9_lays_105, s_X9_lays_108, s_X9_lays_109, s_X9_lays_112, s_X9_lays_114, s_X9_lays_115, s_X9_lays_118, s_X9_lays_120, s_X9_lays_121, s_X9_lays_122, s_X9_lays_123, s_X9_lays_124, s_X9_lays_125, s_X9_lays_128, s_X9_lays_130, s_X9_lays_131, s_X9_lays_134, s_X9_lays_136, s_X9_lays_137, s_X9_lays_138, s_X9_lays_139, s_X9_lays_140, s_X9_lays_141, s_X9_lays_144, s_X9_lays_146, s_X9_lays_147, s_X9_lays_150, s_X9_lays_152, s_X9_lays_153, s_X9_lays_154, s_X9_lays_155, s_X9_lays_156, s_X9_lays_157, s_X9_lays_160, s_X9_lays_162, s_X9_lays_163, s_X9_lays_166, s_X9_lays_168, s_X9_lays_169, s_X9_lays_170, s_X9_lays_171, s_X9_lays_172, s_X9_lays_175, s_X9_lays_178, s_X9_lays_179, s_X9_lays_180, s_X9_lays_183, s_X9_lays_184]; exact k h' hM' hf)
      · obtain ⟨i, ei, hi⟩ := hs_ex (show L.length < 2147483648 by omega) g1
        obtain ⟨j, ej, hj⟩ := hs_ex (show L.length < 2147483648 by omega) g2
        have hne : i ≠ j := fun z => g3 (by rw [ei, ej, z])
        have g4 : aTw v0 v1 L.length = true := by simp only [aTw, g1, g2, g3, decide_false, Bool.not_false, Bool.and_self]
        have e : aLays v0 v1 ((L, N, P), im, tx, fr, rf) = (.int (nI (min i j)), ((jnL L (min i j) (max i j), [], kpP P L), im, tx, fr, rf)) := by
          simp only [aLays, g4, if_true]
          rw [ei, ej, cl_nI (show i < 2147483648 by omega), cl_nI (show j < 2147483648 by omega)]
        rw [e] at k
        subst ei; subst ej
        simp only [s_X9_lays_0, s_X9_lays_1, s_X9_lays_2, s_X9_lays_5, s_X9_lays_8, s_X9_lays_9, s_X9_lays_10, s_X9_lays_13, s_X9_lays_16, s_X9_lays_17, s_X9_lays_18, s_X9_lays_21, s_X9_lays_22, s_X9_lays_25, s_X9_lays_26, s_X9_lays_27, s_X9_lays_30, s_X9_lays_31, s_X9_lays_32, s_X9_lays_35, s_X9_lays_36, s_X9_lays_37, s_X9_lays_38, s_X9_lays_41, s_X9_lays_43, s_X9_lays_44, s_X9_lays_47, s_X9_lays_48, s_X9_lays_49, s_X9_lays_52, s_X9_lays_53, s_X9_lays_54, s_X9_lays_55, s_X9_lays_58, s_X9_lays_59, s_X9_lays_60, s_X9_lays_63, s_X9_lays_64, s_X9_lays_65, s_X9_lays_68, s_X9_lays_69, s_X9_lays_70, s_X9_lays_73, s_X9_lays_74, s_X9_lays_75, s_X9_lays_76, s_X9_lays_79, s_X9_lays_80, s_X9_lays_81, s_X9_lays_84, s_X9_lays_85, s_X9_lays_86, s_X9_lays_87, s_X9_lays_90, s_X9_lays_91, s_X9_lays_92, s_X9_lays_95, s_X9_lays_97, s_X9_lays_101, s_X9_lays_102, s_X9_lays_105, s_X9_lays_108, s_X9_lays_109, s_X9_lays_112, s_X9_lays_114, s_X9_lays_115, s_X9_lays_118, s_X9_lays_120, s_X9_lays_121, s_X9_lays_122, s_X9_lays_123, s_X9_lays_124, s_X9_lays_125, s_X9_lays_128, s_X9_lays_130, s_X9_lays_131, s_X9_lays_134, s_X9_lays_136, s_X9_lays_137, s_X9_lays_138, s_X9_lays_139, s_X9_lays_140, s_X9_lays_141, s_X9_lays_144, s_X9_lays_146, s_X9_lays_147, s_X9_lays_150, s_X9_lays_152, s_X9_lays_153, s_X9_lays_154, s_X9_lays_155, s_X9_lays_156, s_X9_lays_157, s_X9_lays_160, s_X9_lays_162, s_X9_lays_163, s_X9_lays_166, s_X9_lays_168, s_X9_lays_169, s_X9_lays_170, s_X9_lays_171, s_X9_lays_172, s_X9_lays_175, s_X9_lays_178, s_X9_lays_179, s_X9_lays_180, s_X9_lays_183, s_X9_lays_184, zI_0, Bool.true_eq_false, Bool.false_eq_true, not_true_eq_false, not_false_eq_true, if_true, if_false, KV_ap, KU_ap, dropL_nil, hM.1.1, p_isStick hM, g1, g2, g3]
        refine p_notes hM (fun h' hM2 hf hh => ?_)
        have hM3 := hM2
        obtain ⟨s, sh, ⟨f1, f2, f12, f18, f22, f23⟩, vt, c, d, p, t, rr, i0, i1⟩ := hM2
        have f1' : hF h' M 1 = .int (nI L.length) := f1
        have bi : m_inb (nI i) 6 = true := by rw [inb_nI (by omega)]; simpa using (show i < 6 by omega)
        have bj : m_inb (nI j) 6 = true := by rw [inb_nI (by omega)]; simpa using (show j < 6 by omega)
        have hmn : min i j < 6 := by omega
        have bm : m_inb (nI (min i j)) 6 = true := by rw [inb_nI (by omega)]; simpa using hmn
        obtain ⟨ci0, ci1, ci2, ci3⟩ := c i hi
        obtain ⟨cj0, cj1, cj2, cj3⟩ := c j hj
        have ci1' : hI h' (M + 3) i = nI (gS L i).2.1 := ci1
        have cj1' : hI h' (M + 3) j = nI (gS L j).2.1 := cj1
        have ci3' : hI h' (M + 5) i = nI (gS L i).2.2.2 := ci3
        have cj3' : hI h' (M + 5) j = nI (gS L j).2.2.2 := cj3
        obtain ⟨wi1, wi2, wi3, wi4⟩ := vt.2.2.2.1 i hi
        obtain ⟨wj1, wj2, wj3, wj4⟩ := vt.2.2.2.1 j hj
        have wi4' : (gS L i).2.2.2 ≤ 9 := wi4
        have wj4' : (gS L j).2.2.2 ≤ 9 := wj4
        have q2 := sh.2.1 2 (by decide) (by decide)
        have q3 := sh.2.1 3 (by decide) (by decide)
        have q4 := sh.2.1 4 (by decide) (by decide)
        have q5 := sh.2.1 5 (by decide) (by decide)
        have u5 : ∀ (h : HP) f, hI (pI h (M + 3) f) (M + 5) = hI h (M + 5) := fun h f => by rw [hI_pI, if_neg (by omega)]
        have gf : ∀ (h : HP) v, hF (pF h M 1 v) M 1 = v := fun h v => by rw [hF_pF, if_pos ⟨rfl, rfl⟩]
        simp only [s_X9_lays_0, s_X9_lays_1, s_X9_lays_2, s_X9_lays_5, s_X9_lays_8, s_X9_lays_9, s_X9_lays_10, s_X9_lays_13, s_X9_lays_16, s_X9_lays_17, s_X9_lays_18, s_X9_lays_21, s_X9_lays_22, s_X9_lays_25, s_X9_lays_26, s_X9_lays_27, s_X9_lays_30, s_X9_lays_31, s_X9_lays_32, s_X9_lays_35, s_X9_lays_36, s_X9_lays_37, s_X9_lays_38, s_X9_lays_41, s_X9_lays_43, s_X9_lays_44, s_X9_lays_47, s_X9_lays_48, s_X9_lays_49, s_X9_lays_52, s_X9_lays_53, s_X9_lays_54, s_X9_lays_55, s_X9_lays_58, s_X9_lays_59, s_X9_lays_60, s_X9_lays_63, s_X9_lays_64, s_X9_lays_65, s_X9_lays_68, s_X9_lays_69, s_X9_lays_70, s_X9_lays_73, s_X9_lays_74, s_X9_lays_75, s_X9_lays_76, s_X9_lays_79, s_X9_lays_80, s_X9_lays_81, s_X9_lays_84, s_X9_lays_85, s_X9_lays_86, s_X9_lays_87, s_X9_lays_90, s_X9_lays_91, s_X9_lays_92, s_X9_lays_95, s_X9_lays_97, s_X9_lays_101, s_X9_lays_102, s_X9_lays_105, s_X9_lays_108, s_X9_lays_109, s_X9_lays_112, s_X9_lays_114, s_X9_lays_115, s_X9_lays_118, s_X9_lays_120, s_X9_lays_121, s_X9_lays_122, s_X9_lays_123, s_X9_lays_124, s_X9_lays_125, s_X9_lays_128, s_X9_lays_130, s_X9_lays_131, s_X9_lays_134, s_X9_lays_136, s_X9_lays_137, s_X9_lays_138, s_X9_lays_139, s_X9_lays_140, s_X9_lays_141, s_X9_lays_144, s_X9_lays_146, s_X9_lays_147, s_X9_lays_150, s_X9_lays_152, s_X9_lays_153, s_X9_lays_154, s_X9_lays_155, s_X9_lays_156, s_X9_lays_157, s_X9_lays_160, s_X9_lays_162, s_X9_lays_163, s_X9_lays_166, s_X9_lays_168, s_X9_lays_169, s_X9_lays_170, s_X9_lays_171, s_X9_lays_172, s_X9_lays_175, s_X9_lays_178, s_X9_lays_179, s_X9_lays_180, s_X9_lays_183, s_X9_lays_184, zI_0, Bool.true_eq_false, Bool.false_eq_true, not_true_eq_false, not_false_eq_true, if_true, if_false, KV_ap, KU_ap, dropL_nil, s.1, s.2.2.2.1, s.2.2.2.2.2.1, q3, q5, f1', bi, bj, bm, p_lesser, p_greater, mn_nI (show i < 2147483648 by omega) (show j < 2147483648 by omega), gr_mx (show i < 2147483648 by omega) (show j < 2147483648 by omega), mx_max, cl_nI (show i < 2147483648 by omega), cl_nI (show j < 2147483648 by omega), cl_nI (show min i j < 2147483648 by omega), hS_pI, hF_pI, u5, ci1', cj1', ci3', cj3', p_both wi2 wj2, gr_mx (show (gS L i).2.2.2 < 2147483648 by omega) (show (gS L j).2.2.2 < 2147483648 by omega), s1 (show 1 ≤ L.length by omega)]
        -- the list with the two made one
        have hsL : min i j < L.length := by omega
        have htL : max i j < L.length := by omega
        have nmE : toN (gS L (min i j)).2.1 (gS L (max i j)).2.1 = toN (gS L i).2.1 (gS L j).2.1 := by
          by_cases z : i ≤ j
          · rw [Nat.min_eq_left z, Nat.max_eq_right z]
          · rw [Nat.min_eq_right (by omega), Nat.max_eq_left (by omega), toN_comm]
        have wrE : mxN (gS L (min i j)).2.2.2 (gS L (max i j)).2.2.2 = max (gS L i).2.2.2 (gS L j).2.2.2 := by
          rw [mx_max]
          by_cases z : i ≤ j
          · rw [Nat.min_eq_left z, Nat.max_eq_right z]
          · rw [Nat.min_eq_right (show j ≤ i by omega), Nat.max_eq_left (show j ≤ i by omega), Nat.max_comm]
        have cs := c (min i j) hsL
        have cS := cl4_set (s := ((gS L (min i j)).1, toN (gS L (min i j)).2.1 (gS L (max i j)).2.1, (gS L (min i j)).2.2.1, mxN (gS L (min i j)).2.2.2 (gS L (max i j)).2.2.2)) hsL c
        rw [upd_id cs.1, upd_id cs.2.2.1] at cS
        have hLs : (L.set (min i j) ((gS L (min i j)).1, toN (gS L (min i j)).2.1 (gS L (max i j)).2.1, (gS L (min i j)).2.2.1, mxN (gS L (min i j)).2.2.2 (gS L (max i j)).2.2.2)).length = L.length := List.length_set
        have cE := cl4_er (t := max i j) (by rw [hLs]; exact htL) cS
        rw [hLs] at cE
        dsimp only at cE
        rw [nmE, wrE] at cE
        obtain ⟨ws1, ws2, ws3, ws4⟩ := vt.2.2.2.1 (min i j) hsL
        obtain ⟨wt1, wt2, wt3, wt4⟩ := vt.2.2.2.1 (max i j) htL
        have vE : vL (jnL L (min i j) (max i j)) := vL_er (by rw [hLs]; exact htL) (vL_set hsL vt.2.2.2.1 ⟨ws1, toN_nm ws2 wt2, ws3, by have a1 : (gS L (min i j)).2.2.2 ≤ 9 := ws4; have a2 : (gS L (max i j)).2.2.2 ≤ 9 := wt4; show mxN _ _ ≤ 9; rw [mx_max]; omega⟩)
        have lE : (jnL L (min i j) (max i j)).length = L.length - 1 := by rw [jnL, List.length_eraseIdx_of_lt (by rw [hLs]; exact htL), hLs]
        generalize hh1 : pF (pI (pI h' (M + 3) (upd (hI h' (M + 3)) (min i j) (nI (toN (gS L i).2.1 (gS L j).2.1)))) (M + 5) (upd (hI h' (M + 5)) (min i j) (nI (max (gS L i).2.2.2 (gS L j).2.2.2)))) M 1 (.int (nI (L.length - 1))) = h1
        have S1 : ∀ x, hS h1 x = hS h' x := fun x => by rw [← hh1]; rfl
        have s1' : sM h1 M := by rw [← hh1]; exact sM_pF (by decide) s
        have F1 : hF h1 M 1 = .int (nI (L.length - 1)) := by rw [← hh1]; exact gf _ _
        have Fo : ∀ j, j ≠ 1 → hF h1 M j = hF h' M j := fun j hj => by rw [← hh1, hF_pF, if_neg (by omega)]; rfl
        have I2 : hI h1 (M + 2) = hI h' (M + 2) := by rw [← hh1]; simp only [hI_pF, hI_pI, Nat.add_left_cancel_iff, Nat.reduceEqDiff, if_false]
        have I4 : hI h1 (M + 4) = hI h' (M + 4) := by rw [← hh1]; simp only [hI_pF, hI_pI, Nat.add_left_cancel_iff, Nat.reduceEqDiff, if_false]
        have I3 : hI h1 (M + 3) = upd (hI h' (M + 3)) (min i j) (nI (toN (gS L i).2.1 (gS L j).2.1)) := by rw [← hh1]; simp only [hI_pF, hI_pI, Nat.add_left_cancel_iff, Nat.reduceEqDiff, if_false, if_true]
        have I5 : hI h1 (M + 5) = upd (hI h' (M + 5)) (min i j) (nI (max (gS L i).2.2.2 (gS L j).2.2.2)) := by rw [← hh1]; simp only [hI_pF, hI_pI, Nat.add_left_cancel_iff, Nat.reduceEqDiff, if_false, if_true]
        have Io : ∀ x, x ≠ 3 → x ≠ 5 → hI h1 (M + x) = hI h' (M + x) := fun x h3 h5 => by rw [← hh1]; simp only [hI_pF, hI_pI, Nat.add_left_cancel_iff, h3, h5, if_false]
        have fr1 : frm h' h1 M (M + 19) := by rw [← hh1]; exact frm_pF (by omega) (by omega) (frm_pI (by omega) (by omega) (frm_pI (by omega) (by omega) (frm_rfl h' _ _)))
        rw [← I2, ← I3, ← I4, ← I5] at cE
        clear hh1
        have key : ∀ m y hh, y + m = L.length - 1 → max i j ≤ y → clQ h1 hh M (sfF (hI h1 (M + 2)) (max i j) y) (sfF (hI h1 (M + 3)) (max i j) y) (sfF (hI h1 (M + 4)) (max i j) y) (sfF (hI h1 (M + 5)) (max i j) y) → J g k_X9_lays 99 [.ref M, .int (nI i), .int (nI j), .int (nI (min i j)), .int (nI (max i j)), .int (nI y)] [] [] hh Φ := by
          intro m
          induction m with
          | zero =>
            intro y hh hy _ hc
            have : y = L.length - 1 := by omega
            subst this
            have hc' := hc
            obtain ⟨z1, z2, z3, z4, z5, z6, z7, z8⟩ := hc
            rw [s_X9_lays_99]
            simp only [s_X9_lays_0, s_X9_lays_1, s_X9_lays_2, s_X9_lays_5, s_X9_lays_8, s_X9_lays_9, s_X9_lays_10, s_X9_lays_13, s_X9_lays_16, s_X9_lays_17, s_X9_lays_18, s_X9_lays_21, s_X9_lays_22, s_X9_lays_25, s_X9_lays_26, s_X9_lays_27, s_X9_lays_30, s_X9_lays_31, s_X9_lays_32, s_X9_lays_35, s_X9_lays_36, s_X9_lays_37, s_X9_lays_38, s_X9_lays_41, s_X9_lays_43, s_X9_lays_44, s_X9_lays_47, s_X9_lays_48, s_X9_lays_49, s_X9_lays_52, s_X9_lays_53, s_X9_lays_54, s_X9_lays_55, s_X9_lays_58, s_X9_lays_59, s_X9_lays_60, s_X9_lays_63, s_X9_lays_64, s_X9_lays_65, s_X9_lays_68, s_X9_lays_69, s_X9_lays_70, s_X9_lays_73, s_X9_lays_74, s_X9_lays_75, s_X9_lays_76, s_X9_lays_79, s_X9_lays_80, s_X9_lays_81, s_X9_lays_84, s_X9_lays_85, s_X9_lays_86, s_X9_lays_87, s_X9_lays_90, s_X9_lays_91, s_X9_lays_92, s_X9_lays_95, s_X9_lays_97, s_X9_lays_101, s_X9_lays_102, s_X9_lays_105, s_X9_lays_108, s_X9_lays_109, s_X9_lays_112, s_X9_lays_114, s_X9_lays_115, s_X9_lays_118, s_X9_lays_120, s_X9_lays_121, s_X9_lays_122, s_X9_lays_123, s_X9_lays_124, s_X9_lays_125, s_X9_lays_128, s_X9_lays_130, s_X9_lays_131, s_X9_lays_134, s_X9_lays_136, s_X9_lays_137, s_X9_lays_138, s_X9_lays_139, s_X9_lays_140, s_X9_lays_141, s_X9_lays_144, s_X9_lays_146, s_X9_lays_147, s_X9_lays_150, s_X9_lays_152, s_X9_lays_153, s_X9_lays_154, s_X9_lays_155, s_X9_lays_156, s_X9_lays_157, s_X9_lays_160, s_X9_lays_162, s_X9_lays_163, s_X9_lays_166, s_X9_lays_168, s_X9_lays_169, s_X9_lays_170, s_X9_lays_171, s_X9_lays_172, s_X9_lays_175, s_X9_lays_178, s_X9_lays_179, s_X9_lays_180, s_X9_lays_183, s_X9_lays_184, zI_0, Bool.true_eq_false, Bool.false_eq_true, not_true_eq_false, not_false_eq_true, if_true, if_false, KV_ap, KU_ap, dropL_nil, z1, z2, S1, s.1, F1, le_nI (show L.length - 1 < 2147483648 by omega) (show L.length - 1 < 2147483648 by omega), Nat.le_refl]
            have g1' : ∀ x, x ≠ 2 → hF (pF hh M 2 (.int 0)) M x = hF h1 M x := fun x hx => by rw [hF_pF, if_neg (by omega), z2]
            refine k _ ?_ (frm_trans hf (frm_trans fr1 (frm_pF (by omega) (by omega) z8)))
            refine isM_T hM3 (fun x => by rw [hS_pF, z1, S1]) ?_ ?_ ?_ ?_ ?_ ?_ ?_ cl4_nil ?_
            · intro x h1 h2 h3
              rw [g1' x h2, Fo x h1]
            · intro x hx
              rw [hI_pF, z3 x (by omega) (by omega) (by omega) (by omega), Io x (by omega) (by omega)]
            · rw [g1' 1 (by decide), F1]
              show _ = Value.int (nI (jnL L (min i j) (max i j)).length)
              rw [lE]
            · rw [hF_pF, if_pos ⟨rfl, rfl⟩]; rfl
            · rw [g1' 18 (by decide), Fo 18 (by decide)]; exact f18
            · refine ⟨?_, Nat.zero_le _, vt.2.2.1, vE, fun j hj => absurd hj (Nat.not_lt_zero j)⟩
              show (jnL L (min i j) (max i j)).length ≤ 6
              omega
            · rw [hI_pF, hI_pF, hI_pF, hI_pF, z4, z5, z6, z7]
              show cl4 _ _ _ _ (jnL L (min i j) (max i j))
              rw [jnL, nmE, wrE]
              exact cE
            · rw [hI_pF, z3 12 (by decide) (by decide) (by decide) (by decide), Io 12 (by decide) (by decide)]; exact p
          | succ m ih =>
            intro y hh hy hm hc
            have b6 : m_inb (nI y) 6 = true := by rw [inb_nI (by omega)]; simpa using (show y < 6 by omega)
            have b7 : m_inb (nI (y + 1)) 6 = true := by rw [inb_nI (by omega)]; simpa using (show y + 1 < 6 by omega)
            have hc' := hc
            obtain ⟨z1, z2, z3, z4, z5, z6, z7, z8⟩ := hc
            have sh' := clQ_sM hc' s1'
            have F1' : hF hh M 1 = .int (nI (L.length - 1)) := by rw [z2, F1]
            have w3 : ∀ (h : HP) f, hI (pI h (M + 2) f) (M + 3) = hI h (M + 3) := fun h f => by rw [hI_pI, if_neg (by omega)]
            have w4 : ∀ (h : HP) f, hI (pI h (M + 2) f) (M + 4) = hI h (M + 4) := fun h f => by rw [hI_pI, if_neg (by omega)]
            have w5 : ∀ (h : HP) f, hI (pI h (M + 2) f) (M + 5) = hI h (M + 5) := fun h f => by rw [hI_pI, if_neg (by omega)]
            have y4 : ∀ (h : HP) f, hI (pI h (M + 3) f) (M + 4) = hI h (M + 4) := fun h f => by rw [hI_pI, if_neg (by omega)]
            have y5 : ∀ (h : HP) f, hI (pI h (M + 3) f) (M + 5) = hI h (M + 5) := fun h f => by rw [hI_pI, if_neg (by omega)]
            have x5 : ∀ (h : HP) f, hI (pI h (M + 4) f) (M + 5) = hI h (M + 5) := fun h f => by rw [hI_pI, if_neg (by omega)]
            rw [s_X9_lays_99]
            simp only [s_X9_lays_0, s_X9_lays_1, s_X9_lays_2, s_X9_lays_5, s_X9_lays_8, s_X9_lays_9, s_X9_lays_10, s_X9_lays_13, s_X9_lays_16, s_X9_lays_17, s_X9_lays_18, s_X9_lays_21, s_X9_lays_22, s_X9_lays_25, s_X9_lays_26, s_X9_lays_27, s_X9_lays_30, s_X9_lays_31, s_X9_lays_32, s_X9_lays_35, s_X9_lays_36, s_X9_lays_37, s_X9_lays_38, s_X9_lays_41, s_X9_lays_43, s_X9_lays_44, s_X9_lays_47, s_X9_lays_48, s_X9_lays_49, s_X9_lays_52, s_X9_lays_53, s_X9_lays_54, s_X9_lays_55, s_X9_lays_58, s_X9_lays_59, s_X9_lays_60, s_X9_lays_63, s_X9_lays_64, s_X9_lays_65, s_X9_lays_68, s_X9_lays_69, s_X9_lays_70, s_X9_lays_73, s_X9_lays_74, s_X9_lays_75, s_X9_lays_76, s_X9_lays_79, s_X9_lays_80, s_X9_lays_81, s_X9_lays_84, s_X9_lays_85, s_X9_lays_86, s_X9_lays_87, s_X9_lays_90, s_X9_lays_91, s_X9_lays_92, s_X9_lays_95, s_X9_lays_97, s_X9_lays_101, s_X9_lays_102, s_X9_lays_105, s_X9_lays_108, s_X9_lays_109, s_X9_lays_112, s_X9_lays_114, s_X9_lays_115, s_X9_lays_118, s_X9_lays_120, s_X9_lays_121, s_X9_lays_122, s_X9_lays_123, s_X9_lays_124, s_X9_lays_125, s_X9_lays_128, s_X9_lays_130, s_X9_lays_131, s_X9_lays_134, s_X9_lays_136, s_X9_lays_137, s_X9_lays_138, s_X9_lays_139, s_X9_lays_140, s_X9_lays_141, s_X9_lays_144, s_X9_lays_146, s_X9_lays_147, s_X9_lays_150, s_X9_lays_152, s_X9_lays_153, s_X9_lays_154, s_X9_lays_155, s_X9_lays_156, s_X9_lays_157, s_X9_lays_160, s_X9_lays_162, s_X9_lays_163, s_X9_lays_166, s_X9_lays_168, s_X9_lays_169, s_X9_lays_170, s_X9_lays_171, s_X9_lays_172, s_X9_lays_175, s_X9_lays_178, s_X9_lays_179, s_X9_lays_180, s_X9_lays_183, s_X9_lays_184, dropL_nil, le_nI (show L.length - 1 < 2147483648 by omega) (show y < 2147483648 by omega), show ¬ L.length - 1 ≤ y by omega, if_false, hS_pI, hF_pI, z1, S1, F1', sh'.2.2.1, sh'.2.2.2.1, sh'.2.2.2.2.1, sh'.2.2.2.2.2.1, s.1, q2, q3, q4, q5, a1, b6, b7, cl_nI (show y < 2147483648 by omega), cl_nI (show y + 1 < 2147483648 by omega), w3, w4, w5, y4, y5, x5, z4, z5, z6, z7, sfF_s hm]
            exact ih (y + 1) _ (by omega) (by omega) (clQ_up _ _ _ _ hc')
        refine key (L.length - 1 - max i j) (max i j) h1 (by omega) (Nat.le_refl _) ?_
        simp only [sfF_0]
        exact clQ_rfl h1 M

/-! The model's calls: type -/
theorem m_type (v : Int32) : cM k_X9_type [.int v] (aType v) := by
  intro g h M u Φ hM k
  have hM' := hM
  obtain ⟨⟨L, N, P⟩, im, tx, fr, rf⟩ := u
  obtain ⟨s, sh, ⟨f1, f2, f12, f18, f22, f23⟩, vt, c, d, p, t, r, i0, i1⟩ := hM
  have ht : tx.length ≤ 150 := t.1
  have c150 : (150 : Int32) = nI 150 := rfl
  cases g1 : decide (0 ≤ v ∧ v ≤ 127)
  · have e : aType v ((L, N, P), im, tx, fr, rf) = (.int (-2), bdU ((L, N, P), im, tx, fr, rf) 0) := by simp only [aType, g1, Bool.false_eq_true, if_false]
    rw [e] at k
    simp only [s_X9_type_0, s_X9_type_1, s_X9_type_2, s_X9_type_4, s_X9_type_7, s_X9_type_10, s_X9_type_11, s_X9_type_14, s_X9_type_15, s_X9_type_16, s_X9_type_19, s_X9_type_22, s_X9_type_25, s_X9_type_26, s_X9_type_29, s_X9_type_30, s_X9_type_31, s_X9_type_34, s_X9_type_35, s_X9_type_38, s_X9_type_39, s_X9_type_40, s_X9_type_41, s_X9_type_42, s_X9_type_45, s_X9_type_46, s_X9_type_47, s_X9_type_50, s_X9_type_51, s_X9_type_54, zI_0, Bool.true_eq_false, Bool.false_eq_true, not_true_eq_false, not_false_eq_true, if_true, if_false, KV_ap, KU_ap, dropL_nil, p_in, g1, s.1]
    exact p_bad hM' (fun h' hM' hf => by simp only [KV_ap, s_X9_type_0, s_X9_type_1, s_X9_type_2, s_X9_type_4, s_X9_type_7, s_X9_type_10, s_X9_type_11, s_X9_type_14, s_X9_type_15, s_X9_type_16, s_X9_type_19, s_X9_type_22, s_X9_type_25, s_X9_type_26, s_X9_type_29, s_X9_type_30, s_X9_type_31, s_X9_type_34, s_X9_type_35, s_X9_type_38, s_X9_type_39, s_X9_type_40, s_X9_type_41, s_X9_type_42, s_X9_type_45, s_X9_type_46, s_X9_type_47, s_X9_type_50, s_X9_type_51, s_X9_type_54]; exact k h' hM' hf)
  · obtain ⟨b, eb, _, hb⟩ := wi_ex (a := 0) (b := 127) (by decide) (by decide) g1
    by_cases hl : tx.length = 150
    · have e : aType v ((L, N, P), im, tx, fr, rf) = (.int (-4), bdU ((L, N, P), im, tx, fr, rf) 2) := by
        simp only [aType, g1, if_true, hl]
      rw [e] at k
      simp only [s_X9_type_0, s_X9_type_1, s_X9_type_2, s_X9_type_4, s_X9_type_7, s_X9_type_10, s_X9_type_11, s_X9_type_14, s_X9_type_15, s_X9_type_16, s_X9_type_19, s_X9_type_22, s_X9_type_25, s_X9_type_26, s_X9_type_29, s_X9_type_30, s_X9_type_31, s_X9_type_34, s_X9_type_35, s_X9_type_38, s_X9_type_39, s_X9_type_40, s_X9_type_41, s_X9_type_42, s_X9_type_45, s_X9_type_46, s_X9_type_47, s_X9_type_50, s_X9_type_51, s_X9_type_54, zI_0, Bool.true_eq_false, Bool.false_eq_true, not_true_eq_false, not_false_eq_true, if_true, if_false, KV_ap, KU_ap, dropL_nil, p_in, g1, s.1, f12, c150, eq_nI (show tx.length < 2147483648 by omega) (show 150 < 2147483648 by decide), hl]
      exact p_full hM' (fun h' hM' hf => by simp only [KV_ap, s_X9_type_0, s_X9_type_1, s_X9_type_2, s_X9_type_4, s_X9_type_7, s_X9_type_10, s_X9_type_11, s_X9_type_14, s_X9_type_15, s_X9_type_16, s_X9_type_19, s_X9_type_22, s_X9_type_25, s_X9_type_26, s_X9_type_29, s_X9_type_30, s_X9_type_31, s_X9_type_34, s_X9_type_35, s_X9_type_38, s_X9_type_39, s_X9_type_40, s_X9_type_41, s_X9_type_42, s_X9_type_45, s_X9_type_46, s_X9_type_47, s_X9_type_50, s_X9_type_51, s_X9_type_54]; exact k h' hM' hf)
    · have e : aType v ((L, N, P), im, tx, fr, rf) = (.int (nI (tx.length + 1)), ((L, N, P), im, tx ++ [b], fr, rf)) := by
        simp only [aType, g1, if_true]
        rw [if_neg hl, eb, cl_nI (show b < 2147483648 by omega)]
      rw [e] at k
      subst eb
      have hin : m_inb (nI tx.length) 150 = true := by rw [inb_nI (by omega)]; simpa using (show tx.length < 150 by omega)
      have g12 : ∀ (h : HP) v, hF (pF h M 12 v) M 12 = v := fun h v => by rw [hF_pF, if_pos ⟨rfl, rfl⟩]
      simp only [s_X9_type_0, s_X9_type_1, s_X9_type_2, s_X9_type_4, s_X9_type_7, s_X9_type_10, s_X9_type_11, s_X9_type_14, s_X9_type_15, s_X9_type_16, s_X9_type_19, s_X9_type_22, s_X9_type_25, s_X9_type_26, s_X9_type_29, s_X9_type_30, s_X9_type_31, s_X9_type_34, s_X9_type_35, s_X9_type_38, s_X9_type_39, s_X9_type_40, s_X9_type_41, s_X9_type_42, s_X9_type_45, s_X9_type_46, s_X9_type_47, s_X9_type_50, s_X9_type_51, s_X9_type_54, zI_0, Bool.true_eq_false, Bool.false_eq_true, not_true_eq_false, not_false_eq_true, if_true, if_false, KV_ap, KU_ap, dropL_nil, p_in, g1, hS_pF, hS_pI, hF_pI, g12, s.1, s.2.2.2.2.2.2.2.2.2.2.1, f12, c150, eq_nI (show tx.length < 2147483648 by omega) (show 150 < 2147483648 by decide), hl, sh.2.2.1, hin, cl_nI (show tx.length < 2147483648 by omega), a1]
      have e0 : ∀ x, x ≠ 10 → hI (pI h (M + 10) (upd (hI h (M + 10)) tx.length (nI b))) (M + x) = hI h (M + x) := fun x hx => by rw [hI_pI, if_neg (by omega)]
      refine k _ ⟨sM_pF (by decide) s, sh, ⟨?_, ?_, ?_, ?_, ?_, ?_⟩, vt, ?_, ?_, ?_, ⟨?_, ?_⟩, ?_, ?_, ?_⟩ (frm_pF (by omega) (by omega) (frm_pI (by omega) (by omega) (frm_rfl h _ _)))
      · rw [hF_pF, if_neg (by omega)]; exact f1
      · rw [hF_pF, if_neg (by omega)]; exact f2
      · rw [hF_pF, if_pos ⟨rfl, rfl⟩]
        show _ = Value.int (nI (tx ++ [b]).length)
        rw [List.length_append, List.length_singleton]
      · rw [hF_pF, if_neg (by omega)]; exact f18
      · rw [hF_pF, if_neg (by omega)]; exact f22
      · rw [hF_pF, if_neg (by omega)]; exact f23
      · rw [hI_pF, hI_pF, hI_pF, hI_pF, e0 2 (by decide), e0 3 (by decide), e0 4 (by decide), e0 5 (by decide)]; exact c
      · rw [hI_pF, hI_pF, hI_pF, hI_pF, e0 6 (by decide), e0 7 (by decide), e0 8 (by decide), e0 9 (by decide)]; exact d
      · rw [hI_pF, e0 12 (by decide)]; exact p
      · show (tx ++ [b]).length ≤ 150
        rw [List.length_append, List.length_singleton]; omega
      · rw [hI_pF, hI_pIs]; exact txR_app (by omega) t.2
      · intro i hi; rw [hI_pF, e0 1 (by decide)]; exact r i hi
      · intro i hi hn; rw [hI_pF, e0 18 (by decide)]; exact i0 i hi hn
      · intro i hi T hT; rw [hI_pF, hI_pF, e0 18 (by decide), e0 17 (by decide)]; exact i1 i hi T hT

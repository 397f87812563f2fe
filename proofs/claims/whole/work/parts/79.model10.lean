/-! The model's calls: forget, clear -/
theorem sM_pF {h : HP} {M j : Nat} {v : Value} (hj : j = 1 ∨ j = 2 ∨ j = 12 ∨ j = 13 ∨ j = 14 ∨ j = 16 ∨ j = 18 ∨ j = 22 ∨ j = 23 ∨ j = 27) (hS : sM h M) : sM (pF h M j v) M := by
  obtain ⟨a0, a1, a2, a3, a4, a5, a6, a7, a8, a9, b0, b1, b2, b3, b4, b5, b6, b7, b8⟩ := hS
  refine ⟨a0, ?_, ?_, ?_, ?_, ?_, ?_, ?_, ?_, ?_, ?_, ?_, ?_, ?_, ?_, ?_, ?_, ?_, ?_⟩
  all_goals (rw [hF_pF, if_neg (by omega)]; assumption)
theorem m_forget : cM k_X9_forget [m_D] aForget := by
  intro g h M u Φ hM k
  obtain ⟨⟨L, N, P⟩, im, tx, fr, rf⟩ := u
  obtain ⟨s, sh, ⟨f1, f2, f12, f18, f22, f23⟩, v, c, d, p, t, r, i0, i1⟩ := hM
  simp only [s_X9_forget_0, s_X9_forget_1, s_X9_forget_4, s_X9_forget_5, s_X9_forget_6, s_X9_forget_7, s_X9_forget_10, s_X9_forget_11, zI_0, Bool.true_eq_false, Bool.false_eq_true, not_true_eq_false, not_false_eq_true, if_true, if_false, KV_ap, KU_ap, dropL_nil, s.1, f2]
  refine k _ ⟨sM_pF (by decide) s, sh, ⟨?_, ?_, ?_, ?_, ?_, ?_⟩, ⟨v.1, Nat.zero_le _, v.2.2.1, v.2.2.2.1, fun j hj => absurd hj (Nat.not_lt_zero j)⟩, c, fun j hj => absurd hj (Nat.not_lt_zero j), p, t, r, i0, i1⟩ (frm_pF (by omega) (by omega) (frm_rfl h _ _))
  · rw [hF_pF, if_neg (by omega)]; exact f1
  · rw [hF_pF, if_pos ⟨rfl, rfl⟩]; rfl
  · rw [hF_pF, if_neg (by omega)]; exact f12
  · rw [hF_pF, if_neg (by omega)]; exact f18
  · rw [hF_pF, if_neg (by omega)]; exact f22
  · rw [hF_pF, if_neg (by omega)]; exact f23
theorem m_clear : cM k_X9_clear [m_D] aClear := by
  intro g h M u Φ hM k
  obtain ⟨⟨L, N, P⟩, im, tx, fr, rf⟩ := u
  obtain ⟨s, sh, ⟨f1, f2, f12, f18, f22, f23⟩, v, c, d, p, t, r, i0, i1⟩ := hM
  simp only [s_X9_clear_0, s_X9_clear_1, s_X9_clear_4, s_X9_clear_5, s_X9_clear_6, s_X9_clear_7, s_X9_clear_10, s_X9_clear_11, zI_0, Bool.true_eq_false, Bool.false_eq_true, not_true_eq_false, not_false_eq_true, if_true, if_false, KV_ap, KU_ap, dropL_nil, s.1, f12]
  refine k _ ⟨sM_pF (by decide) s, sh, ⟨?_, ?_, ?_, ?_, ?_, ?_⟩, v, c, d, p, ⟨Nat.zero_le _, fun j hj => absurd hj (Nat.not_lt_zero j)⟩, r, i0, i1⟩ (frm_pF (by omega) (by omega) (frm_rfl h _ _))
  · rw [hF_pF, if_neg (by omega)]; exact f1
  · rw [hF_pF, if_neg (by omega)]; exact f2
  · rw [hF_pF, if_pos ⟨rfl, rfl⟩]; rfl
  · rw [hF_pF, if_neg (by omega)]; exact f18
  · rw [hF_pF, if_neg (by omega)]; exact f22
  · rw [hF_pF, if_neg (by omega)]; exact f23

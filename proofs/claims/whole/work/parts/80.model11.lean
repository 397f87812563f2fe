/-! The model's calls: town -/
theorem m_town : cM k_X9_town [m_D] aTown := by
  intro g h M u Φ hM k
  obtain ⟨⟨L, N, P⟩, im, tx, fr, rf⟩ := u
  obtain ⟨s, sh, ⟨f1, f2, f12, f18, f22, f23⟩, v, c, d, p, t, r, i0, i1⟩ := hM
  simp only [s_X9_town_0, s_X9_town_1, s_X9_town_4, s_X9_town_5, s_X9_town_6, s_X9_town_9, s_X9_town_10, s_X9_begin_0, s_X9_begin_1, s_X9_begin_2, s_X9_begin_5, s_X9_begin_6, s_X9_begin_7, s_X9_begin_10, s_X9_begin_11, s_X9_begin_12, s_X9_begin_15, zI_0, Bool.true_eq_false, Bool.false_eq_true, not_true_eq_false, not_false_eq_true, if_true, if_false, KV_ap, KU_ap, dropL_nil, hS_pF, s.1, f1]
  refine k _ ⟨sM_pF (by decide) (sM_pF (by decide) (sM_pF (by decide) s)), sh, ⟨?_, ?_, ?_, ?_, ?_, ?_⟩, ⟨Nat.zero_le _, Nat.zero_le _, Nat.zero_le _, fun j hj => absurd hj (Nat.not_lt_zero j), fun j hj => absurd hj (Nat.not_lt_zero j)⟩, fun j hj => absurd hj (Nat.not_lt_zero j), fun j hj => absurd hj (Nat.not_lt_zero j), fun j hj => absurd hj (Nat.not_lt_zero j), t, r, i0, i1⟩ (frm_pF (by omega) (by omega) (frm_pF (by omega) (by omega) (frm_pF (by omega) (by omega) (frm_rfl h _ _))))
  · rw [hF_pF, if_neg (by omega), hF_pF, if_neg (by omega), hF_pF, if_pos ⟨rfl, rfl⟩]; rfl
  · rw [hF_pF, if_neg (by omega), hF_pF, if_pos ⟨rfl, rfl⟩]; rfl
  · rw [hF_pF, if_neg (by omega), hF_pF, if_neg (by omega), hF_pF, if_neg (by omega)]; exact f12
  · rw [hF_pF, if_pos ⟨rfl, rfl⟩]; rfl
  · rw [hF_pF, if_neg (by omega), hF_pF, if_neg (by omega), hF_pF, if_neg (by omega)]; exact f22
  · rw [hF_pF, if_neg (by omega), hF_pF, if_neg (by omega), hF_pF, if_neg (by omega)]; exact f23

/-! The model's calls: suck, snap -/
theorem cl4_set {f0 f1 f2 f3 : Nat → Int32} {L : List St} {j : Nat} {s : St} (hj : j < L.length) (c : cl4 f0 f1 f2 f3 L) : cl4 (upd f0 j (nI s.1)) (upd f1 j (nI s.2.1)) (upd f2 j (nI s.2.2.1)) (upd f3 j (nI s.2.2.2)) (L.set j s) := by
  intro i hi
  rw [List.length_set] at hi
  rw [gS_set L j i s hj]
  unfold upd
  by_cases e : i = j
  · simp only [if_pos e, and_self]
  · simp only [if_neg e]
    exact c i hi
theorem upd_id {f : Nat → Int32} {j : Nat} {v : Int32} (h : f j = v) : upd f j v = f := by
  funext i
  unfold upd
  split
  · rename_i e; subst e; exact h.symm
  · rfl
theorem min9 {a b : Nat} (h : a + b < 2147483648) : (if (9 : Int32) < nI (a + b) then (9 : Int32) else nI (a + b)) = nI (min 9 (a + b)) := by
  simp only [c9, lt_nI (show 9 < 2147483648 by decide) h]
  split
  · rw [Nat.min_eq_left (by omega)]
  · rw [Nat.min_eq_right (by omega)]
theorem m_suck (v0 v1 : Int32) : cM k_X9_suck [.int v0, .int v1] (aSuck v0 v1) := by
  intro g h M u Φ hM k
  obtain ⟨⟨L, N, P⟩, im, tx, fr, rf⟩ := u
  have hl : L.length ≤ 6 := hM.2.2.2.1.1
  have hbad : (decide (0 ≤ v0 ∧ v0 < nI L.length) && decide (1 ≤ v1 ∧ v1 ≤ 9)) = false → aSuck v0 v1 ((L, N, P), im, tx, fr, rf) = (.int (-2), bdU ((L, N, P), im, tx, fr, rf) 0) := fun z => by rw [aSuck, z]; rfl
  cases g1 : decide (0 ≤ v0 ∧ v0 < nI L.length)
  · rw [hbad (by simp only [g1, Bool.false_and])] at k
    simp only [s_X9_suck_0, s_X9_suck_1, s_X9_suck_2, s_X9_suck_5, s_X9_suck_8, s_X9_suck_9, s_X9_suck_10, s_X9_suck_12, s_X9_suck_15, s_X9_suck_18, s_X9_suck_19, s_X9_suck_22, s_X9_suck_23, s_X9_suck_24, s_X9_suck_27, s_X9_suck_28, s_X9_suck_31, s_X9_suck_32, s_X9_suck_34, s_X9_suck_35, s_X9_suck_38, s_X9_suck_39, s_X9_suck_40, s_X9_suck_41, s_X9_suck_42, s_X9_suck_45, s_X9_suck_46, s_X9_suck_47, s_X9_suck_50, s_X9_suck_51, s_X9_suck_52, zI_0, Bool.true_eq_false, Bool.false_eq_true, not_true_eq_false, not_false_eq_true, if_true, if_false, KV_ap, KU_ap, dropL_nil, hM.1.1, p_isStick hM, g1]
    exact p_bad hM (fun h' hM' hf => by simp only [KV_ap, s_X9_suck_0, s_X9_suck_1, s_X9_suck_2, s_X9_suck_5, s_X9_suck_8, s_X9_suck_9, s_X9_suck_10, s_X9_suck_12, s_X9_suck_15, s_X9_suck_18, s_X9_suck_19, s_X9_suck_22, s_X9_suck_23, s_X9_suck_24, s_X9_suck_27, s_X9_suck_28, s_X9_suck_31, s_X9_suck_32, s_X9_suck_34, s_X9_suck_35, s_X9_suck_38, s_X9_suck_39, s_X9_suck_40, s_X9_suck_41, s_X9_suck_42, s_X9_suck_45, s_X9_suck_46, s_X9_suck_47, s_X9_suck_50, s_X9_suck_51, s_X9_suck_52]; exact k h' hM' hf)
  · cases g2 : decide (1 ≤ v1 ∧ v1 ≤ 9)
    · rw [hbad (by simp only [g1, g2, Bool.and_false])] at k
      simp only [s_X9_suck_0, s_X9_suck_1, s_X9_suck_2, s_X9_suck_5, s_X9_suck_8, s_X9_suck_9, s_X9_suck_10, s_X9_suck_12, s_X9_suck_15, s_X9_suck_18, s_X9_suck_19, s_X9_suck_22, s_X9_suck_23, s_X9_suck_24, s_X9_suck_27, s_X9_suck_28, s_X9_suck_31, s_X9_suck_32, s_X9_suck_34, s_X9_suck_35, s_X9_suck_38, s_X9_suck_39, s_X9_suck_40, s_X9_suck_41, s_X9_suck_42, s_X9_suck_45, s_X9_suck_46, s_X9_suck_47, s_X9_suck_50, s_X9_suck_51, s_X9_suck_52, zI_0, Bool.true_eq_false, Bool.false_eq_true, not_true_eq_false, not_false_eq_true, if_true, if_false, KV_ap, KU_ap, dropL_nil, hM.1.1, p_isStick hM, p_in, g1, g2]
      exact p_bad hM (fun h' hM' hf => by simp only [KV_ap, s_X9_suck_0, s_X9_suck_1, s_X9_suck_2, s_X9_suck_5, s_X9_suck_8, s_X9_suck_9, s_X9_suck_10, s_X9_suck_12, s_X9_suck_15, s_X9_suck_18, s_X9_suck_19, s_X9_suck_22, s_X9_suck_23, s_X9_suck_24, s_X9_suck_27, s_X9_suck_28, s_X9_suck_31, s_X9_suck_32, s_X9_suck_34, s_X9_suck_35, s_X9_suck_38, s_X9_suck_39, s_X9_suck_40, s_X9_suck_41, s_X9_suck_42, s_X9_suck_45, s_X9_suck_46, s_X9_suck_47, s_X9_suck_50, s_X9_suck_51, s_X9_suck_52]; exact k h' hM' hf)
    · obtain ⟨j, ej, hj⟩ := hs_ex (show L.length < 2147483648 by omega) g1
      obtain ⟨m, em, hm⟩ := wi_ex (a := 1) (b := 9) (by decide) (by decide) g2
      have e : aSuck v0 v1 ((L, N, P), im, tx, fr, rf) = (.int (nI (min 9 ((gS L j).2.2.2 + m))), ((wdL L j m, N, kpP P L), im, tx, fr, rf)) := by
        simp only [aSuck, g1, g2, Bool.and_self, if_true]
        rw [ej, em, cl_nI (show j < 2147483648 by omega), cl_nI (show m < 2147483648 by omega)]
      rw [e] at k
      subst ej; subst em
      simp only [s_X9_suck_0, s_X9_suck_1, s_X9_suck_2, s_X9_suck_5, s_X9_suck_8, s_X9_suck_9, s_X9_suck_10, s_X9_suck_12, s_X9_suck_15, s_X9_suck_18, s_X9_suck_19, s_X9_suck_22, s_X9_suck_23, s_X9_suck_24, s_X9_suck_27, s_X9_suck_28, s_X9_suck_31, s_X9_suck_32, s_X9_suck_34, s_X9_suck_35, s_X9_suck_38, s_X9_suck_39, s_X9_suck_40, s_X9_suck_41, s_X9_suck_42, s_X9_suck_45, s_X9_suck_46, s_X9_suck_47, s_X9_suck_50, s_X9_suck_51, s_X9_suck_52, zI_0, Bool.true_eq_false, Bool.false_eq_true, not_true_eq_false, not_false_eq_true, if_true, if_false, KV_ap, KU_ap, dropL_nil, hM.1.1, p_isStick hM, p_in, g1, g2]
      refine p_notes hM (fun h' hM2 hf hh => ?_)
      have hM3 := hM2
      obtain ⟨s, sh, ⟨f1, f2, f12, f18, f22, f23⟩, vt, c, d, p, t, rr, i0, i1⟩ := hM2
      have hi : m_inb (nI j) 6 = true := by rw [inb_nI (by omega)]; simpa using (show j < 6 by omega)
      obtain ⟨c0', c1', c2', c3'⟩ := c j hj
      obtain ⟨w1, w2, w3, w4⟩ := vt.2.2.2.1 j hj
      have c3'' : hI h' (M + 5) j = nI (gS L j).2.2.2 := c3'
      have w4' : (gS L j).2.2.2 ≤ 9 := w4
      have q5 := sh.2.1 5 (by decide) (by decide)
      have u5 : ∀ (f : Nat → Int32) v, upd f j v j = v := fun f v => by rw [upd, if_pos rfl]
      simp only [s_X9_suck_0, s_X9_suck_1, s_X9_suck_2, s_X9_suck_5, s_X9_suck_8, s_X9_suck_9, s_X9_suck_10, s_X9_suck_12, s_X9_suck_15, s_X9_suck_18, s_X9_suck_19, s_X9_suck_22, s_X9_suck_23, s_X9_suck_24, s_X9_suck_27, s_X9_suck_28, s_X9_suck_31, s_X9_suck_32, s_X9_suck_34, s_X9_suck_35, s_X9_suck_38, s_X9_suck_39, s_X9_suck_40, s_X9_suck_41, s_X9_suck_42, s_X9_suck_45, s_X9_suck_46, s_X9_suck_47, s_X9_suck_50, s_X9_suck_51, s_X9_suck_52, zI_0, Bool.true_eq_false, Bool.false_eq_true, not_true_eq_false, not_false_eq_true, if_true, if_false, KV_ap, KU_ap, dropL_nil, s.1, s.2.2.2.2.2.1, q5, hi, cl_nI (show j < 2147483648 by omega), c3'', i_add, p_lesser, min9 (show (gS L j).2.2.2 + m < 2147483648 by omega), hS_pI, hF_pI, hI_pIs, u5]
      refine k _ ?_ (frm_trans hf (frm_pI (by omega) (by omega) (frm_rfl h' _ _)))
      refine isM_T hM3 (fun x => rfl) (fun j _ _ _ => rfl) ?_ ?_ f2 f18 ?_ ?_ ?_ ?_
      · intro x hx
        rw [hI_pI, if_neg (by omega)]
      · show hF h' M 1 = .int (nI (wdL L j m).length)
        rw [wdL, List.length_set]; exact f1
      · refine ⟨?_, vt.2.1, vt.2.2.1, vL_set hj vt.2.2.2.1 ⟨w1, w2, w3, Nat.min_le_left _ _⟩, vt.2.2.2.2⟩
        show (wdL L j m).length ≤ 6
        rw [wdL, List.length_set]; exact hl
      · have z := cl4_set (s := ((gS L j).1, (gS L j).2.1, (gS L j).2.2.1, min 9 ((gS L j).2.2.2 + m))) hj c
        rw [upd_id c0', upd_id c1', upd_id c2'] at z
        simp only [hI_pI, Nat.add_left_cancel_iff, Nat.reduceEqDiff, if_false, if_true]
        exact z
      · simp only [hI_pI, Nat.add_left_cancel_iff, Nat.reduceEqDiff, if_false, if_true]
        exact d
      · simp only [hI_pI, Nat.add_left_cancel_iff, Nat.reduceEqDiff, if_false, if_true]
        exact p
theorem m_snap (v0 v1 : Int32) : cM k_X9_snap [.int v0, .int v1] (aSnap v0 v1) := by
  intro g h M u Φ hM k
  obtain ⟨⟨L, N, P⟩, im, tx, fr, rf⟩ := u
  have hl : L.length ≤ 6 := hM.2.2.2.1.1
  have hbad : (decide (0 ≤ v0 ∧ v0 < nI L.length) && decide (1 ≤ v1 ∧ v1 ≤ 8)) = false → aSnap v0 v1 ((L, N, P), im, tx, fr, rf) = (.int (-2), bdU ((L, N, P), im, tx, fr, rf) 0) := fun z => by rw [aSnap, z]; rfl
  cases g1 : decide (0 ≤ v0 ∧ v0 < nI L.length)
  · rw [hbad (by simp only [g1, Bool.false_and])] at k
    simp only [s_X9_snap_0, s_X9_snap_1, s_X9_snap_2, s_X9_snap_5, s_X9_snap_8, s_X9_snap_9, s_X9_snap_10, s_X9_snap_12, s_X9_snap_15, s_X9_snap_18, s_X9_snap_19, s_X9_snap_22, s_X9_snap_23, s_X9_snap_24, s_X9_snap_25, s_X9_snap_28, s_X9_snap_29, s_X9_snap_30, s_X9_snap_33, s_X9_snap_34, s_X9_snap_37, s_X9_snap_38, s_X9_snap_39, s_X9_snap_42, s_X9_snap_43, s_X9_snap_46, s_X9_snap_47, s_X9_snap_48, s_X9_snap_49, s_X9_snap_50, s_X9_snap_51, s_X9_snap_52, s_X9_snap_53, s_X9_snap_54, s_X9_snap_57, zI_0, Bool.true_eq_false, Bool.false_eq_true, not_true_eq_false, not_false_eq_true, if_true, if_false, KV_ap, KU_ap, dropL_nil, hM.1.1, p_isStick hM, g1]
    exact p_bad hM (fun h' hM' hf => by simp only [KV_ap, s_X9_snap_0, s_X9_snap_1, s_X9_snap_2, s_X9_snap_5, s_X9_snap_8, s_X9_snap_9, s_X9_snap_10, s_X9_snap_12, s_X9_snap_15, s_X9_snap_18, s_X9_snap_19, s_X9_snap_22, s_X9_snap_23, s_X9_snap_24, s_X9_snap_25, s_X9_snap_28, s_X9_snap_29, s_X9_snap_30, s_X9_snap_33, s_X9_snap_34, s_X9_snap_37, s_X9_snap_38, s_X9_snap_39, s_X9_snap_42, s_X9_snap_43, s_X9_snap_46, s_X9_snap_47, s_X9_snap_48, s_X9_snap_49, s_X9_snap_50, s_X9_snap_51, s_X9_snap_52, s_X9_snap_53, s_X9_snap_54, s_X9_snap_57]; exact k h' hM' hf)
  · cases g2 : decide (1 ≤ v1 ∧ v1 ≤ 8)
    · rw [hbad (by simp only [g1, g2, Bool.and_false])] at k
      simp only [s_X9_snap_0, s_X9_snap_1, s_X9_snap_2, s_X9_snap_5, s_X9_snap_8, s_X9_snap_9, s_X9_snap_10, s_X9_snap_12, s_X9_snap_15, s_X9_snap_18, s_X9_snap_19, s_X9_snap_22, s_X9_snap_23, s_X9_snap_24, s_X9_snap_25, s_X9_snap_28, s_X9_snap_29, s_X9_snap_30, s_X9_snap_33, s_X9_snap_34, s_X9_snap_37, s_X9_snap_38, s_X9_snap_39, s_X9_snap_42, s_X9_snap_43, s_X9_snap_46, s_X9_snap_47, s_X9_snap_48, s_X9_snap_49, s_X9_snap_50, s_X9_snap_51, s_X9_snap_52, s_X9_snap_53, s_X9_snap_54, s_X9_snap_57, zI_0, Bool.true_eq_false, Bool.false_eq_true, not_true_eq_false, not_false_eq_true, if_true, if_false, KV_ap, KU_ap, dropL_nil, hM.1.1, p_isStick hM, p_in, g1, g2]
      exact p_bad hM (fun h' hM' hf => by simp only [KV_ap, s_X9_snap_0, s_X9_snap_1, s_X9_snap_2, s_X9_snap_5, s_X9_snap_8, s_X9_snap_9, s_X9_snap_10, s_X9_snap_12, s_X9_snap_15, s_X9_snap_18, s_X9_snap_19, s_X9_snap_22, s_X9_snap_23, s_X9_snap_24, s_X9_snap_25, s_X9_snap_28, s_X9_snap_29, s_X9_snap_30, s_X9_snap_33, s_X9_snap_34, s_X9_snap_37, s_X9_snap_38, s_X9_snap_39, s_X9_snap_42, s_X9_snap_43, s_X9_snap_46, s_X9_snap_47, s_X9_snap_48, s_X9_snap_49, s_X9_snap_50, s_X9_snap_51, s_X9_snap_52, s_X9_snap_53, s_X9_snap_54, s_X9_snap_57]; exact k h' hM' hf)
    · obtain ⟨j, ej, hj⟩ := hs_ex (show L.length < 2147483648 by omega) g1
      obtain ⟨m, em, hm⟩ := wi_ex (a := 1) (b := 8) (by decide) (by decide) g2
      have hi : m_inb (nI j) 6 = true := by rw [inb_nI (by omega)]; simpa using (show j < 6 by omega)
      have z := hM.2.2.2.2.1 j hj
      have z2 : hI h (M + 4) j = nI (gS L j).2.2.1 := z.2.2.1
      obtain ⟨w1, w2, w3, w4⟩ := hM.2.2.2.1.2.2.2.1 j hj
      have w3' : (gS L j).2.2.1 ≤ 9 := w3.2
      have q4 := hM.2.1.2.1 4 (by decide) (by decide)
      by_cases hc : (gS L j).2.2.1 ≤ m
      · have e : aSnap v0 v1 ((L, N, P), im, tx, fr, rf) = (.int (-3), bdU ((L, N, P), im, tx, fr, rf) 1) := by
          simp only [aSnap, g1, g2, Bool.and_self, if_true]
          rw [ej, em, cl_nI (show j < 2147483648 by omega), cl_nI (show m < 2147483648 by omega), if_pos hc]
        rw [e] at k
        subst ej; subst em
        simp only [s_X9_snap_0, s_X9_snap_1, s_X9_snap_2, s_X9_snap_5, s_X9_snap_8, s_X9_snap_9, s_X9_snap_10, s_X9_snap_12, s_X9_snap_15, s_X9_snap_18, s_X9_snap_19, s_X9_snap_22, s_X9_snap_23, s_X9_snap_24, s_X9_snap_25, s_X9_snap_28, s_X9_snap_29, s_X9_snap_30, s_X9_snap_33, s_X9_snap_34, s_X9_snap_37, s_X9_snap_38, s_X9_snap_39, s_X9_snap_42, s_X9_snap_43, s_X9_snap_46, s_X9_snap_47, s_X9_snap_48, s_X9_snap_49, s_X9_snap_50, s_X9_snap_51, s_X9_snap_52, s_X9_snap_53, s_X9_snap_54, s_X9_snap_57, zI_0, Bool.true_eq_false, Bool.false_eq_true, not_true_eq_false, not_false_eq_true, if_true, if_false, KV_ap, KU_ap, dropL_nil, hM.1.1, hM.1.2.2.2.2.1, p_isStick hM, p_in, g1, g2, q4, hi, cl_nI (show j < 2147483648 by omega), z2, lt_nI (show m < 2147483648 by omega) (show (gS L j).2.2.1 < 2147483648 by omega), if_neg (show ¬ m < (gS L j).2.2.1 by omega)]
        exact p_no hM (fun h' hM' hf => by simp only [KV_ap, s_X9_snap_0, s_X9_snap_1, s_X9_snap_2, s_X9_snap_5, s_X9_snap_8, s_X9_snap_9, s_X9_snap_10, s_X9_snap_12, s_X9_snap_15, s_X9_snap_18, s_X9_snap_19, s_X9_snap_22, s_X9_snap_23, s_X9_snap_24, s_X9_snap_25, s_X9_snap_28, s_X9_snap_29, s_X9_snap_30, s_X9_snap_33, s_X9_snap_34, s_X9_snap_37, s_X9_snap_38, s_X9_snap_39, s_X9_snap_42, s_X9_snap_43, s_X9_snap_46, s_X9_snap_47, s_X9_snap_48, s_X9_snap_49, s_X9_snap_50, s_X9_snap_51, s_X9_snap_52, s_X9_snap_53, s_X9_snap_54, s_X9_snap_57]; exact k h' hM' hf)
      · have e : aSnap v0 v1 ((L, N, P), im, tx, fr, rf) = (.int (nI (rS (gS L j) (m - 1))), ((snL L j m, N, kpP P L), im, tx, fr, rf)) := by
          simp only [aSnap, g1, g2, Bool.and_self, if_true]
          rw [ej, em, cl_nI (show j < 2147483648 by omega), cl_nI (show m < 2147483648 by omega), if_neg hc]
        rw [e] at k
        subst ej; subst em
        simp only [s_X9_snap_0, s_X9_snap_1, s_X9_snap_2, s_X9_snap_5, s_X9_snap_8, s_X9_snap_9, s_X9_snap_10, s_X9_snap_12, s_X9_snap_15, s_X9_snap_18, s_X9_snap_19, s_X9_snap_22, s_X9_snap_23, s_X9_snap_24, s_X9_snap_25, s_X9_snap_28, s_X9_snap_29, s_X9_snap_30, s_X9_snap_33, s_X9_snap_34, s_X9_snap_37, s_X9_snap_38, s_X9_snap_39, s_X9_snap_42, s_X9_snap_43, s_X9_snap_46, s_X9_snap_47, s_X9_snap_48, s_X9_snap_49, s_X9_snap_50, s_X9_snap_51, s_X9_snap_52, s_X9_snap_53, s_X9_snap_54, s_X9_snap_57, zI_0, Bool.true_eq_false, Bool.false_eq_true, not_true_eq_false, not_false_eq_true, if_true, if_false, KV_ap, KU_ap, dropL_nil, hM.1.1, hM.1.2.2.2.2.1, p_isStick hM, p_in, g1, g2, q4, hi, cl_nI (show j < 2147483648 by omega), z2, lt_nI (show m < 2147483648 by omega) (show (gS L j).2.2.1 < 2147483648 by omega), if_pos (show m < (gS L j).2.2.1 by omega)]
        refine p_notes hM (fun h' hM2 hf hh => ?_)
        have hM3 := hM2
        obtain ⟨s, sh, ⟨f1, f2, f12, f18, f22, f23⟩, vt, c, d, p, t, rr, i0, i1⟩ := hM2
        obtain ⟨c0', c1', c2', c3'⟩ := c j hj
        have hM4 : isM (pI h' (M + 4) (upd (hI h' (M + 4)) j (nI m))) M ((snL L j m, N, kpP P L), im, tx, fr, rf) := by
          refine isM_T hM3 (fun x => rfl) (fun j _ _ _ => rfl) ?_ ?_ f2 f18 ?_ ?_ ?_ ?_
          · intro x hx
            rw [hI_pI, if_neg (by omega)]
          · show hF h' M 1 = .int (nI (snL L j m).length)
            rw [snL, List.length_set]; exact f1
          · refine ⟨?_, vt.2.1, vt.2.2.1, vL_set hj vt.2.2.2.1 ⟨w1, w2, ⟨hm.1, by show m ≤ 9; omega⟩, w4⟩, vt.2.2.2.2⟩
            show (snL L j m).length ≤ 6
            rw [snL, List.length_set]; exact hl
          · have z := cl4_set (s := ((gS L j).1, (gS L j).2.1, m, (gS L j).2.2.2)) hj c
            rw [upd_id c0', upd_id c1', upd_id c3'] at z
            simp only [hI_pI, Nat.add_left_cancel_iff, Nat.reduceEqDiff, if_false, if_true]
            exact z
          · simp only [hI_pI, Nat.add_left_cancel_iff, Nat.reduceEqDiff, if_false, if_true]
            exact d
          · simp only [hI_pI, Nat.add_left_cancel_iff, Nat.reduceEqDiff, if_false, if_true]
            exact p
        have hj' : j < (snL L j m).length := by rw [snL, List.length_set]; exact hj
        have e1 : rS (gS (snL L j m) j) (m - 1) = rS (gS L j) (m - 1) := by rw [gS_sn hj]; rfl
        have pr := fun Ψ => p_readIn (g := g) (Φ := Ψ) hM4 (j := j) (x := m - 1) hj' (show m - 1 < 9 by omega)
        have e1' : rS (gS (((snL L j m, N, kpP P L), im, tx, fr, rf) : XS).1.1 j) (m - 1) = rS (gS L j) (m - 1) := e1
        rw [e1'] at pr
        simp only [s_X9_snap_0, s_X9_snap_1, s_X9_snap_2, s_X9_snap_5, s_X9_snap_8, s_X9_snap_9, s_X9_snap_10, s_X9_snap_12, s_X9_snap_15, s_X9_snap_18, s_X9_snap_19, s_X9_snap_22, s_X9_snap_23, s_X9_snap_24, s_X9_snap_25, s_X9_snap_28, s_X9_snap_29, s_X9_snap_30, s_X9_snap_33, s_X9_snap_34, s_X9_snap_37, s_X9_snap_38, s_X9_snap_39, s_X9_snap_42, s_X9_snap_43, s_X9_snap_46, s_X9_snap_47, s_X9_snap_48, s_X9_snap_49, s_X9_snap_50, s_X9_snap_51, s_X9_snap_52, s_X9_snap_53, s_X9_snap_54, s_X9_snap_57, zI_0, Bool.true_eq_false, Bool.false_eq_true, not_true_eq_false, not_false_eq_true, if_true, if_false, KV_ap, KU_ap, dropL_nil, s.1, s.2.2.2.2.1, q4, sh.2.1 4 (by decide) (by decide), hi, cl_nI (show j < 2147483648 by omega), hS_pI, s1 hm.1, pr]
        exact k _ hM4 (frm_trans hf (frm_pI (by omega) (by omega) (frm_rfl h' _ _)))

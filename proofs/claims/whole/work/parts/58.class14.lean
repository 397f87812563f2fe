/-! The class's calls: from -/
def aFrom (v : Int32) (u : XS) : Value × XS := if decide (0 ≤ v ∧ v < 2) = true then (match u.2.1 v.toNatClampNeg with | none => (.int (-3), bdU u 1) | some T => (.int 1, (T, u.2))) else (.int (-2), bdU u 0)
theorem x_from (v : Int32) : cX k_X8_from [.int v, m_D] (aFrom v) := by
  intro g h B u Φ hX k
  obtain ⟨⟨L, N, P⟩, im, tx, fr, rf⟩ := u
  have o := hX.1
  have t := hX.2.1
  obtain ⟨t0, t1, t2, t3, t4, t5, t6⟩ := id t
  have t4 : isS h (B + 1 + 1) L := t4
  have t5 : isN h (B + 1 + 3) N := t5
  have t6 : isP h (B + 1 + 5) P := t6
  have hl6 : L.length ≤ 6 := t4.2.1.2.2.2.1
  cases g1 : decide (0 ≤ v ∧ v < 2)
  · have e : aFrom v ((L, N, P), im, tx, fr, rf) = (.int (-2), bdU ((L, N, P), im, tx, fr, rf) 0) := by simp only [aFrom, g1, Bool.false_eq_true, if_false]
    rw [e] at k
    simp only [s_X8_from_0, s_X8_from_1, s_X8_from_2, s_X8_from_5, s_X8_from_8, s_X8_from_8n, s_X8_from_9, s_X8_from_12, s_X8_from_13, s_X8_from_13n, s_X8_from_14, s_X8_from_17, s_X8_from_18, s_X8_from_19, s_X8_from_19n, s_X8_from_20, s_X8_from_20n, s_X8_from_21, s_X8_from_21n, s_X8_from_24, s_X8_from_24n, s_X8_from_25, s_X8_from_28, s_X8_from_29, s_X8_from_29n, s_X8_from_30, s_X8_from_33, s_X8_from_33n, s_X8_from_34, s_X8_from_37, s_X8_from_38, o.1, q_isBelow, zI_0, Bool.true_eq_false, Bool.false_eq_true, not_true_eq_false, not_false_eq_true, if_true, if_false, KV_ap, KU_ap, dropL_nil, g1]
    exact q_bad hX (fun h' hX' hf => by simp only [KV_ap, s_X8_from_0, s_X8_from_1, s_X8_from_2, s_X8_from_5, s_X8_from_8, s_X8_from_8n, s_X8_from_9, s_X8_from_12, s_X8_from_13, s_X8_from_13n, s_X8_from_14, s_X8_from_17, s_X8_from_18, s_X8_from_19, s_X8_from_19n, s_X8_from_20, s_X8_from_20n, s_X8_from_21, s_X8_from_21n, s_X8_from_24, s_X8_from_24n, s_X8_from_25, s_X8_from_28, s_X8_from_29, s_X8_from_29n, s_X8_from_30, s_X8_from_33, s_X8_from_33n, s_X8_from_34, s_X8_from_37, s_X8_from_38]; exact k h' hX' hf)
  · obtain ⟨j, ej, hj⟩ := hs_ex (n := 2) (by decide) g1
    obtain ⟨m1, m2, m3, m4⟩ := hX.2.2.1
    have hi' : m_inb (nI j) 2 = true := by rw [inb_nI (by omega)]; simpa using hj
    cases hm : im j with
    | none =>
      have e : aFrom v ((L, N, P), im, tx, fr, rf) = (.int (-3), bdU ((L, N, P), im, tx, fr, rf) 1) := by
        simp only [aFrom, g1, if_true]
        rw [ej, cl_nI (show j < 2147483648 by omega), hm]
      rw [e] at k
      subst ej
      have hnul := m2 j hj hm
      simp only [s_X8_from_0, s_X8_from_1, s_X8_from_2, s_X8_from_5, s_X8_from_8, s_X8_from_8n, s_X8_from_9, s_X8_from_12, s_X8_from_13, s_X8_from_13n, s_X8_from_14, s_X8_from_17, s_X8_from_18, s_X8_from_19, s_X8_from_19n, s_X8_from_20, s_X8_from_20n, s_X8_from_21, s_X8_from_21n, s_X8_from_24, s_X8_from_24n, s_X8_from_25, s_X8_from_28, s_X8_from_29, s_X8_from_29n, s_X8_from_30, s_X8_from_33, s_X8_from_33n, s_X8_from_34, s_X8_from_37, s_X8_from_38, o.1, o.2.2.1, q_isBelow, zI_0, Bool.true_eq_false, Bool.false_eq_true, not_true_eq_false, not_false_eq_true, if_true, if_false, KV_ap, KU_ap, dropL_nil, g1, m1, hi', cl_nI (show j < 2147483648 by omega), hnul, rfO, va_rf]
      exact q_no hX (fun h' hX' hf => by simp only [KV_ap, s_X8_from_0, s_X8_from_1, s_X8_from_2, s_X8_from_5, s_X8_from_8, s_X8_from_8n, s_X8_from_9, s_X8_from_12, s_X8_from_13, s_X8_from_13n, s_X8_from_14, s_X8_from_17, s_X8_from_18, s_X8_from_19, s_X8_from_19n, s_X8_from_20, s_X8_from_20n, s_X8_from_21, s_X8_from_21n, s_X8_from_24, s_X8_from_24n, s_X8_from_25, s_X8_from_28, s_X8_from_29, s_X8_from_29n, s_X8_from_30, s_X8_from_33, s_X8_from_33n, s_X8_from_34, s_X8_from_37, s_X8_from_38]; exact k h' hX' hf)
    | some T =>
      have e : aFrom v ((L, N, P), im, tx, fr, rf) = (.int 1, (T, im, tx, fr, rf)) := by
        simp only [aFrom, g1, if_true]
        rw [ej, cl_nI (show j < 2147483648 by omega), hm]
      rw [e] at k
      subst ej
      obtain ⟨a, r1, r2, r3, r4⟩ := m3 j hj T hm
      simp only [s_X8_from_0, s_X8_from_1, s_X8_from_2, s_X8_from_5, s_X8_from_8, s_X8_from_8n, s_X8_from_9, s_X8_from_12, s_X8_from_13, s_X8_from_13n, s_X8_from_14, s_X8_from_17, s_X8_from_18, s_X8_from_19, s_X8_from_19n, s_X8_from_20, s_X8_from_20n, s_X8_from_21, s_X8_from_21n, s_X8_from_24, s_X8_from_24n, s_X8_from_25, s_X8_from_28, s_X8_from_29, s_X8_from_29n, s_X8_from_30, s_X8_from_33, s_X8_from_33n, s_X8_from_34, s_X8_from_37, s_X8_from_38, o.1, o.2.1, o.2.2.1, q_isBelow, zI_0, Bool.true_eq_false, Bool.false_eq_true, not_true_eq_false, not_false_eq_true, if_true, if_false, KV_ap, KU_ap, dropL_nil, g1, m1, hi', cl_nI (show j < 2147483648 by omega), r1, rfO, va_rf, t0]
      refine q_Tcopy t r4 (Or.inr (by omega)) (fun h' hT hf => ?_)
      simp only [KU_ap, s_X8_from_0, s_X8_from_1, s_X8_from_2, s_X8_from_5, s_X8_from_8, s_X8_from_8n, s_X8_from_9, s_X8_from_12, s_X8_from_13, s_X8_from_13n, s_X8_from_14, s_X8_from_17, s_X8_from_18, s_X8_from_19, s_X8_from_19n, s_X8_from_20, s_X8_from_20n, s_X8_from_21, s_X8_from_21n, s_X8_from_24, s_X8_from_24n, s_X8_from_25, s_X8_from_28, s_X8_from_29, s_X8_from_29n, s_X8_from_30, s_X8_from_33, s_X8_from_33n, s_X8_from_34, s_X8_from_37, s_X8_from_38]
      exact k h' (isX_T hX hf hT) (frX_of (by omega) (by omega) hf)

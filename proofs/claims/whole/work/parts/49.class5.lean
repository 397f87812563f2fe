/-! The class's calls, fifth part: what changes nothing -/
def ofN (s : St) (w : Nat) : Nat := match w with
  | 0 => s.1
  | 1 => s.2.1
  | 2 => s.2.2.1
  | _ => s.2.2.2
theorem fcw {h : HP} {a : Nat} {L : List St} (hR : sR (hI h (a + 1)) L) {j w : Nat} (hj : j < L.length) (hw : w < 4) : fcR h a L.length j w = nI (ofN (gS L j) w) := by
  rw [fcR, if_pos hj]
  obtain ⟨e0, e1, e2, e3⟩ := hR j hj
  obtain e | e | e | e : w = 0 ∨ w = 1 ∨ w = 2 ∨ w = 3 := by omega
  all_goals subst e
  · exact e0
  · exact e1
  · exact e2
  · exact e3
def aOf (v0 v1 : Int32) (u : XS) : Value × XS := if (decide (0 ≤ v0 ∧ v0 < nI u.1.1.length) && decide (0 ≤ v1 ∧ v1 < 4)) = true then (.int (nI (ofN (gS u.1.1 v0.toNatClampNeg) v1.toNatClampNeg)), u) else (.int (-2), bdU u 0)
theorem x_of (v0 v1 : Int32) : cX k_X8_of [.int v0, .int v1] (aOf v0 v1) := by
  intro g h B u Φ hX k
  obtain ⟨⟨L, N, P⟩, im, tx, fr, rf⟩ := u
  have o := hX.1
  have t := hX.2.1
  obtain ⟨t0, t1, t2, t3, t4, t5, t6⟩ := id t
  have t4 : isS h (B + 1 + 1) L := t4
  have t5 : isN h (B + 1 + 3) N := t5
  have t6 : isP h (B + 1 + 5) P := t6
  have hl6 : L.length ≤ 6 := t4.2.1.2.2.2.1
  have hbad : (decide (0 ≤ v0 ∧ v0 < nI L.length) && decide (0 ≤ v1 ∧ v1 < 4)) = false → aOf v0 v1 ((L, N, P), im, tx, fr, rf) = (.int (-2), bdU ((L, N, P), im, tx, fr, rf) 0) := fun z => by rw [aOf, z]; rfl
  cases g1 : decide (0 ≤ v0 ∧ v0 < nI L.length)
  · rw [hbad (by simp only [g1, Bool.false_and])] at k
    simp only [s_X8_of_0, s_X8_of_1, s_X8_of_4, s_X8_of_7, s_X8_of_8, s_X8_of_11, s_X8_of_14, s_X8_of_15, s_X8_of_16, s_X8_of_19, s_X8_of_22, s_X8_of_23, s_X8_of_26, s_X8_of_27, s_X8_of_28, s_X8_of_31, s_X8_of_34, s_X8_of_35, s_X8_of_36, s_X8_of_39, o.1, o.2.1, t0, t1, t4.1, q_has t4.2.1, zI_0, Bool.true_eq_false, Bool.false_eq_true, not_true_eq_false, not_false_eq_true, if_true, if_false, KV_ap, KU_ap, dropL_nil, g1]
    exact q_bad hX (fun h' hX' hf => by simp only [KV_ap, s_X8_of_0, s_X8_of_1, s_X8_of_4, s_X8_of_7, s_X8_of_8, s_X8_of_11, s_X8_of_14, s_X8_of_15, s_X8_of_16, s_X8_of_19, s_X8_of_22, s_X8_of_23, s_X8_of_26, s_X8_of_27, s_X8_of_28, s_X8_of_31, s_X8_of_34, s_X8_of_35, s_X8_of_36, s_X8_of_39]; exact k h' hX' hf)
  · cases g2 : decide (0 ≤ v1 ∧ v1 < 4)
    · rw [hbad (by simp only [g1, g2, Bool.and_false])] at k
      simp only [s_X8_of_0, s_X8_of_1, s_X8_of_4, s_X8_of_7, s_X8_of_8, s_X8_of_11, s_X8_of_14, s_X8_of_15, s_X8_of_16, s_X8_of_19, s_X8_of_22, s_X8_of_23, s_X8_of_26, s_X8_of_27, s_X8_of_28, s_X8_of_31, s_X8_of_34, s_X8_of_35, s_X8_of_36, s_X8_of_39, o.1, o.2.1, t0, t1, t4.1, q_has t4.2.1, q_isBelow, zI_0, Bool.true_eq_false, Bool.false_eq_true, not_true_eq_false, not_false_eq_true, if_true, if_false, KV_ap, KU_ap, dropL_nil, g1, g2]
      exact q_bad hX (fun h' hX' hf => by simp only [KV_ap, s_X8_of_0, s_X8_of_1, s_X8_of_4, s_X8_of_7, s_X8_of_8, s_X8_of_11, s_X8_of_14, s_X8_of_15, s_X8_of_16, s_X8_of_19, s_X8_of_22, s_X8_of_23, s_X8_of_26, s_X8_of_27, s_X8_of_28, s_X8_of_31, s_X8_of_34, s_X8_of_35, s_X8_of_36, s_X8_of_39]; exact k h' hX' hf)
    · obtain ⟨j, ej, hj⟩ := hs_ex (show L.length < 2147483648 by omega) g1
      obtain ⟨m, em, hm⟩ := hs_ex (n := 4) (by decide) g2
      have e : aOf v0 v1 ((L, N, P), im, tx, fr, rf) = (.int (nI (ofN (gS L j) m)), ((L, N, P), im, tx, fr, rf)) := by
        simp only [aOf, g1, g2, Bool.and_self, if_true]
        rw [ej, em, cl_nI (show j < 2147483648 by omega), cl_nI (show m < 2147483648 by omega)]
      rw [e] at k
      subst ej; subst em
      simp only [s_X8_of_0, s_X8_of_1, s_X8_of_4, s_X8_of_7, s_X8_of_8, s_X8_of_11, s_X8_of_14, s_X8_of_15, s_X8_of_16, s_X8_of_19, s_X8_of_22, s_X8_of_23, s_X8_of_26, s_X8_of_27, s_X8_of_28, s_X8_of_31, s_X8_of_34, s_X8_of_35, s_X8_of_36, s_X8_of_39, o.1, o.2.1, t0, t1, t4.1, q_has t4.2.1, q_isBelow, zI_0, Bool.true_eq_false, Bool.false_eq_true, not_true_eq_false, not_false_eq_true, if_true, if_false, KV_ap, KU_ap, dropL_nil, g1, g2, q_fact t4.2.1 (show j < 2147483648 by omega) hm, fcw t4.2.2.1 hj hm]
      exact k h hX (frX_rfl h B)
def saN (L : List St) (x : Nat) (y : Int32) : Nat := bN (fun j => decide (nI (rS (gS L j) x) = y)) L.length
def aAt (v0 v1 v2 : Int32) (u : XS) : Value × XS := if (decide (0 ≤ v0 ∧ v0 < nI u.1.1.length) && decide (0 ≤ v1 ∧ v1 < 9) && decide (0 ≤ v2 ∧ v2 < 2)) = true then (.int (if v2 = 0 then nI (rS (gS u.1.1 v0.toNatClampNeg) v1.toNatClampNeg) else nI (saN u.1.1 v1.toNatClampNeg (nI (rS (gS u.1.1 v0.toNatClampNeg) v1.toNatClampNeg)))), u) else (.int (-2), bdU u 0)
theorem x_at (v0 v1 v2 : Int32) : cX k_X8_at [.int v0, .int v1, .int v2, m_D] (aAt v0 v1 v2) := by
  intro g h B u Φ hX k
  obtain ⟨⟨L, N, P⟩, im, tx, fr, rf⟩ := u
  have o := hX.1
  have t := hX.2.1
  obtain ⟨t0, t1, t2, t3, t4, t5, t6⟩ := id t
  have t4 : isS h (B + 1 + 1) L := t4
  have t5 : isN h (B + 1 + 3) N := t5
  have t6 : isP h (B + 1 + 5) P := t6
  have hl6 : L.length ≤ 6 := t4.2.1.2.2.2.1
  have hbad : (decide (0 ≤ v0 ∧ v0 < nI L.length) && decide (0 ≤ v1 ∧ v1 < 9) && decide (0 ≤ v2 ∧ v2 < 2)) = false → aAt v0 v1 v2 ((L, N, P), im, tx, fr, rf) = (.int (-2), bdU ((L, N, P), im, tx, fr, rf) 0) := fun z => by rw [aAt, z]; rfl
  cases g1 : decide (0 ≤ v0 ∧ v0 < nI L.length)
  · rw [hbad (by simp only [g1, Bool.false_and])] at k
    simp only [s_X8_at_0, s_X8_at_1, s_X8_at_4, s_X8_at_7, s_X8_at_8, s_X8_at_11, s_X8_at_14, s_X8_at_15, s_X8_at_17, s_X8_at_20, s_X8_at_23, s_X8_at_24, s_X8_at_25, s_X8_at_28, s_X8_at_31, s_X8_at_32, s_X8_at_35, s_X8_at_36, s_X8_at_37, s_X8_at_40, s_X8_at_43, s_X8_at_44, s_X8_at_45, s_X8_at_48, s_X8_at_50, s_X8_at_51, s_X8_at_54, s_X8_at_56, s_X8_at_59, s_X8_at_60, s_X8_at_63, s_X8_at_66, s_X8_at_67, s_X8_at_69, s_X8_at_72, o.1, o.2.1, t0, t1, t4.1, q_has t4.2.1, zI_0, Bool.true_eq_false, Bool.false_eq_true, not_true_eq_false, not_false_eq_true, if_true, if_false, KV_ap, KU_ap, dropL_nil, g1]
    exact q_bad hX (fun h' hX' hf => by simp only [KV_ap, s_X8_at_0, s_X8_at_1, s_X8_at_4, s_X8_at_7, s_X8_at_8, s_X8_at_11, s_X8_at_14, s_X8_at_15, s_X8_at_17, s_X8_at_20, s_X8_at_23, s_X8_at_24, s_X8_at_25, s_X8_at_28, s_X8_at_31, s_X8_at_32, s_X8_at_35, s_X8_at_36, s_X8_at_37, s_X8_at_40, s_X8_at_43, s_X8_at_44, s_X8_at_45, s_X8_at_48, s_X8_at_50, s_X8_at_51, s_X8_at_54, s_X8_at_56, s_X8_at_59, s_X8_at_60, s_X8_at_63, s_X8_at_66, s_X8_at_67, s_X8_at_69, s_X8_at_72]; exact k h' hX' hf)
  · cases g2 : decide (0 ≤ v1 ∧ v1 < 9)
    · rw [hbad (by simp only [g1, g2, Bool.and_false, Bool.false_and])] at k
      simp only [s_X8_at_0, s_X8_at_1, s_X8_at_4, s_X8_at_7, s_X8_at_8, s_X8_at_11, s_X8_at_14, s_X8_at_15, s_X8_at_17, s_X8_at_20, s_X8_at_23, s_X8_at_24, s_X8_at_25, s_X8_at_28, s_X8_at_31, s_X8_at_32, s_X8_at_35, s_X8_at_36, s_X8_at_37, s_X8_at_40, s_X8_at_43, s_X8_at_44, s_X8_at_45, s_X8_at_48, s_X8_at_50, s_X8_at_51, s_X8_at_54, s_X8_at_56, s_X8_at_59, s_X8_at_60, s_X8_at_63, s_X8_at_66, s_X8_at_67, s_X8_at_69, s_X8_at_72, o.1, o.2.1, t0, t1, t4.1, q_has t4.2.1, q_isBelow, zI_0, Bool.true_eq_false, Bool.false_eq_true, not_true_eq_false, not_false_eq_true, if_true, if_false, KV_ap, KU_ap, dropL_nil, g1, g2]
      exact q_bad hX (fun h' hX' hf => by simp only [KV_ap, s_X8_at_0, s_X8_at_1, s_X8_at_4, s_X8_at_7, s_X8_at_8, s_X8_at_11, s_X8_at_14, s_X8_at_15, s_X8_at_17, s_X8_at_20, s_X8_at_23, s_X8_at_24, s_X8_at_25, s_X8_at_28, s_X8_at_31, s_X8_at_32, s_X8_at_35, s_X8_at_36, s_X8_at_37, s_X8_at_40, s_X8_at_43, s_X8_at_44, s_X8_at_45, s_X8_at_48, s_X8_at_50, s_X8_at_51, s_X8_at_54, s_X8_at_56, s_X8_at_59, s_X8_at_60, s_X8_at_63, s_X8_at_66, s_X8_at_67, s_X8_at_69, s_X8_at_72]; exact k h' hX' hf)
    · cases g3 : decide (0 ≤ v2 ∧ v2 < 2)
      · rw [hbad (by simp only [g1, g2, g3, Bool.and_false])] at k
        simp only [s_X8_at_0, s_X8_at_1, s_X8_at_4, s_X8_at_7, s_X8_at_8, s_X8_at_11, s_X8_at_14, s_X8_at_15, s_X8_at_17, s_X8_at_20, s_X8_at_23, s_X8_at_24, s_X8_at_25, s_X8_at_28, s_X8_at_31, s_X8_at_32, s_X8_at_35, s_X8_at_36, s_X8_at_37, s_X8_at_40, s_X8_at_43, s_X8_at_44, s_X8_at_45, s_X8_at_48, s_X8_at_50, s_X8_at_51, s_X8_at_54, s_X8_at_56, s_X8_at_59, s_X8_at_60, s_X8_at_63, s_X8_at_66, s_X8_at_67, s_X8_at_69, s_X8_at_72, o.1, o.2.1, t0, t1, t4.1, q_has t4.2.1, q_isBelow, zI_0, Bool.true_eq_false, Bool.false_eq_true, not_true_eq_false, not_false_eq_true, if_true, if_false, KV_ap, KU_ap, dropL_nil, g1, g2, g3]
        exact q_bad hX (fun h' hX' hf => by simp only [KV_ap, s_X8_at_0, s_X8_at_1, s_X8_at_4, s_X8_at_7, s_X8_at_8, s_X8_at_11, s_X8_at_14, s_X8_at_15, s_X8_at_17, s_X8_at_20, s_X8_at_23, s_X8_at_24, s_X8_at_25, s_X8_at_28, s_X8_at_31, s_X8_at_32, s_X8_at_35, s_X8_at_36, s_X8_at_37, s_X8_at_40, s_X8_at_43, s_X8_at_44, s_X8_at_45, s_X8_at_48, s_X8_at_50, s_X8_at_51, s_X8_at_54, s_X8_at_56, s_X8_at_59, s_X8_at_60, s_X8_at_63, s_X8_at_66, s_X8_at_67, s_X8_at_69, s_X8_at_72]; exact k h' hX' hf)
      · obtain ⟨j, ej, hj⟩ := hs_ex (show L.length < 2147483648 by omega) g1
        obtain ⟨x, ex, hx⟩ := hs_ex (n := 9) (by decide) g2
        have e : aAt v0 v1 v2 ((L, N, P), im, tx, fr, rf) = (.int (if v2 = 0 then nI (rS (gS L j) x) else nI (saN L x (nI (rS (gS L j) x)))), ((L, N, P), im, tx, fr, rf)) := by
          simp only [aAt, g1, g2, g3, Bool.and_self, if_true]
          rw [ej, ex, cl_nI (show j < 2147483648 by omega), cl_nI (show x < 2147483648 by omega)]
        rw [e] at k
        subst ej; subst ex
        simp only [s_X8_at_0, s_X8_at_1, s_X8_at_4, s_X8_at_7, s_X8_at_8, s_X8_at_11, s_X8_at_14, s_X8_at_15, s_X8_at_17, s_X8_at_20, s_X8_at_23, s_X8_at_24, s_X8_at_25, s_X8_at_28, s_X8_at_31, s_X8_at_32, s_X8_at_35, s_X8_at_36, s_X8_at_37, s_X8_at_40, s_X8_at_43, s_X8_at_44, s_X8_at_45, s_X8_at_48, s_X8_at_50, s_X8_at_51, s_X8_at_54, s_X8_at_56, s_X8_at_59, s_X8_at_60, s_X8_at_63, s_X8_at_66, s_X8_at_67, s_X8_at_69, s_X8_at_72, o.1, o.2.1, t0, t1, t4.1, q_has t4.2.1, q_isBelow, zI_0, Bool.true_eq_false, Bool.false_eq_true, not_true_eq_false, not_false_eq_true, if_true, if_false, KV_ap, KU_ap, dropL_nil, g1, g2, g3, q_seenAt t4 hj hx, q_seenAs t4 hx]
        have k' := k h hX (frX_rfl h B)
        by_cases hv : v2 = 0
        · rw [if_neg (fun z => z hv)]
          simp only [hv, if_true] at k'
          exact k'
        · rw [if_pos hv]
          simp only [hv, if_false] at k'
          exact k'
def aWhose (v0 v1 : Int32) (u : XS) : Value × XS := if (decide (0 ≤ v0 ∧ v0 < 9) && rdI v1) = true then (.int (nI (saN u.1.1 v0.toNatClampNeg v1)), u) else (.int (-2), bdU u 0)
theorem x_whose (v0 v1 : Int32) : cX k_X8_whose [.int v0, .int v1] (aWhose v0 v1) := by
  intro g h B u Φ hX k
  obtain ⟨⟨L, N, P⟩, im, tx, fr, rf⟩ := u
  have o := hX.1
  have t := hX.2.1
  obtain ⟨t0, t1, t2, t3, t4, t5, t6⟩ := id t
  have t4 : isS h (B + 1 + 1) L := t4
  have t5 : isN h (B + 1 + 3) N := t5
  have t6 : isP h (B + 1 + 5) P := t6
  have hl6 : L.length ≤ 6 := t4.2.1.2.2.2.1
  have hbad : (decide (0 ≤ v0 ∧ v0 < 9) && rdI v1) = false → aWhose v0 v1 ((L, N, P), im, tx, fr, rf) = (.int (-2), bdU ((L, N, P), im, tx, fr, rf) 0) := fun z => by rw [aWhose, z]; rfl
  cases g1 : decide (0 ≤ v0 ∧ v0 < 9)
  · rw [hbad (by simp only [g1, Bool.false_and])] at k
    simp only [s_X8_whose_0, s_X8_whose_1, s_X8_whose_3, s_X8_whose_6, s_X8_whose_9, s_X8_whose_10, s_X8_whose_13, s_X8_whose_16, s_X8_whose_17, s_X8_whose_20, s_X8_whose_21, s_X8_whose_22, s_X8_whose_25, s_X8_whose_28, s_X8_whose_29, s_X8_whose_30, s_X8_whose_33, o.1, q_isBelow, zI_0, Bool.true_eq_false, Bool.false_eq_true, not_true_eq_false, not_false_eq_true, if_true, if_false, KV_ap, KU_ap, dropL_nil, g1]
    exact q_bad hX (fun h' hX' hf => by simp only [KV_ap, s_X8_whose_0, s_X8_whose_1, s_X8_whose_3, s_X8_whose_6, s_X8_whose_9, s_X8_whose_10, s_X8_whose_13, s_X8_whose_16, s_X8_whose_17, s_X8_whose_20, s_X8_whose_21, s_X8_whose_22, s_X8_whose_25, s_X8_whose_28, s_X8_whose_29, s_X8_whose_30, s_X8_whose_33]; exact k h' hX' hf)
  · cases g2 : rdI v1
    · rw [hbad (by simp only [g1, g2, Bool.and_false])] at k
      simp only [s_X8_whose_0, s_X8_whose_1, s_X8_whose_3, s_X8_whose_6, s_X8_whose_9, s_X8_whose_10, s_X8_whose_13, s_X8_whose_16, s_X8_whose_17, s_X8_whose_20, s_X8_whose_21, s_X8_whose_22, s_X8_whose_25, s_X8_whose_28, s_X8_whose_29, s_X8_whose_30, s_X8_whose_33, o.1, q_isBelow, q_isReading, zI_0, Bool.true_eq_false, Bool.false_eq_true, not_true_eq_false, not_false_eq_true, if_true, if_false, KV_ap, KU_ap, dropL_nil, g1, g2]
      exact q_bad hX (fun h' hX' hf => by simp only [KV_ap, s_X8_whose_0, s_X8_whose_1, s_X8_whose_3, s_X8_whose_6, s_X8_whose_9, s_X8_whose_10, s_X8_whose_13, s_X8_whose_16, s_X8_whose_17, s_X8_whose_20, s_X8_whose_21, s_X8_whose_22, s_X8_whose_25, s_X8_whose_28, s_X8_whose_29, s_X8_whose_30, s_X8_whose_33]; exact k h' hX' hf)
    · obtain ⟨x, ex, hx⟩ := hs_ex (n := 9) (by decide) g1
      have e : aWhose v0 v1 ((L, N, P), im, tx, fr, rf) = (.int (nI (saN L x v1)), ((L, N, P), im, tx, fr, rf)) := by
        simp only [aWhose, g1, g2, Bool.and_self, if_true]
        rw [ex, cl_nI (show x < 2147483648 by omega)]
      rw [e] at k
      subst ex
      simp only [s_X8_whose_0, s_X8_whose_1, s_X8_whose_3, s_X8_whose_6, s_X8_whose_9, s_X8_whose_10, s_X8_whose_13, s_X8_whose_16, s_X8_whose_17, s_X8_whose_20, s_X8_whose_21, s_X8_whose_22, s_X8_whose_25, s_X8_whose_28, s_X8_whose_29, s_X8_whose_30, s_X8_whose_33, o.1, o.2.1, t0, t1, t4.1, q_isBelow, q_isReading, zI_0, Bool.true_eq_false, Bool.false_eq_true, not_true_eq_false, not_false_eq_true, if_true, if_false, KV_ap, KU_ap, dropL_nil, g1, g2, q_seenAs t4 hx]
      exact k h hX (frX_rfl h B)
def aNote (v0 v1 v2 v3 : Int32) (u : XS) : Value × XS := if (decide (0 ≤ v0 ∧ v0 < nI u.1.1.length) && decide (0 ≤ v1 ∧ v1 < 9) && decide (0 ≤ v2 ∧ v2 < 10) && rdI v3) = true then (if u.1.2.1.length = 6 then (.int (-4), bdU u 2) else (.int (nI (u.1.2.1.length + 1)), ((u.1.1, u.1.2.1 ++ [(v0.toNatClampNeg, v1.toNatClampNeg, v2.toNatClampNeg, v3.toNatClampNeg)], u.1.2.2), u.2))) else (.int (-2), bdU u 0)
theorem x_note (v0 v1 v2 v3 : Int32) : cX k_X8_note [.int v0, .int v1, .int v2, .int v3, m_D] (aNote v0 v1 v2 v3) := by
  intro g h B u Φ hX k
  obtain ⟨⟨L, N, P⟩, im, tx, fr, rf⟩ := u
  have o := hX.1
  have t := hX.2.1
  obtain ⟨t0, t1, t2, t3, t4, t5, t6⟩ := id t
  have t4 : isS h (B + 1 + 1) L := t4
  have t5 : isN h (B + 1 + 3) N := t5
  have t6 : isP h (B + 1 + 5) P := t6
  have hl6 : L.length ≤ 6 := t4.2.1.2.2.2.1
  have hn6 : N.length ≤ 6 := t5.2.1.2.2.2.1
  have hbad : (decide (0 ≤ v0 ∧ v0 < nI L.length) && decide (0 ≤ v1 ∧ v1 < 9) && decide (0 ≤ v2 ∧ v2 < 10) && rdI v3) = false → aNote v0 v1 v2 v3 ((L, N, P), im, tx, fr, rf) = (.int (-2), bdU ((L, N, P), im, tx, fr, rf) 0) := fun z => by rw [aNote, z]; rfl
  cases g1 : decide (0 ≤ v0 ∧ v0 < nI L.length)
  · rw [hbad (by simp only [g1, Bool.false_and])] at k
    simp only [s_X8_note_0, s_X8_note_1, s_X8_note_4, s_X8_note_7, s_X8_note_8, s_X8_note_11, s_X8_note_14, s_X8_note_15, s_X8_note_17, s_X8_note_20, s_X8_note_23, s_X8_note_24, s_X8_note_26, s_X8_note_29, s_X8_note_32, s_X8_note_33, s_X8_note_36, s_X8_note_37, s_X8_note_39, s_X8_note_41, s_X8_note_44, s_X8_note_46, s_X8_note_49, s_X8_note_52, s_X8_note_53, s_X8_note_56, s_X8_note_57, s_X8_note_58, s_X8_note_61, s_X8_note_64, s_X8_note_67, s_X8_note_70, s_X8_note_71, s_X8_note_74, s_X8_note_75, s_X8_note_76, s_X8_note_79, s_X8_note_82, s_X8_note_83, s_X8_note_84, s_X8_note_85, s_X8_note_87, s_X8_note_90, s_X8_note_91, s_X8_note_92, s_X8_note_95, s_X8_note_98, s_X8_note_101, o.1, o.2.1, t0, t1, t4.1, q_has t4.2.1, zI_0, Bool.true_eq_false, Bool.false_eq_true, not_true_eq_false, not_false_eq_true, if_true, if_false, KV_ap, KU_ap, dropL_nil, g1]
    exact q_bad hX (fun h' hX' hf => by simp only [KV_ap, s_X8_note_0, s_X8_note_1, s_X8_note_4, s_X8_note_7, s_X8_note_8, s_X8_note_11, s_X8_note_14, s_X8_note_15, s_X8_note_17, s_X8_note_20, s_X8_note_23, s_X8_note_24, s_X8_note_26, s_X8_note_29, s_X8_note_32, s_X8_note_33, s_X8_note_36, s_X8_note_37, s_X8_note_39, s_X8_note_41, s_X8_note_44, s_X8_note_46, s_X8_note_49, s_X8_note_52, s_X8_note_53, s_X8_note_56, s_X8_note_57, s_X8_note_58, s_X8_note_61, s_X8_note_64, s_X8_note_67, s_X8_note_70, s_X8_note_71, s_X8_note_74, s_X8_note_75, s_X8_note_76, s_X8_note_79, s_X8_note_82, s_X8_note_83, s_X8_note_84, s_X8_note_85, s_X8_note_87, s_X8_note_90, s_X8_note_91, s_X8_note_92, s_X8_note_95, s_X8_note_98, s_X8_note_101]; exact k h' hX' hf)
  · cases g2 : decide (0 ≤ v1 ∧ v1 < 9)
    · rw [hbad (by simp only [g1, g2, Bool.and_false, Bool.false_and])] at k
      simp only [s_X8_note_0, s_X8_note_1, s_X8_note_4, s_X8_note_7, s_X8_note_8, s_X8_note_11, s_X8_note_14, s_X8_note_15, s_X8_note_17, s_X8_note_20, s_X8_note_23, s_X8_note_24, s_X8_note_26, s_X8_note_29, s_X8_note_32, s_X8_note_33, s_X8_note_36, s_X8_note_37, s_X8_note_39, s_X8_note_41, s_X8_note_44, s_X8_note_46, s_X8_note_49, s_X8_note_52, s_X8_note_53, s_X8_note_56, s_X8_note_57, s_X8_note_58, s_X8_note_61, s_X8_note_64, s_X8_note_67, s_X8_note_70, s_X8_note_71, s_X8_note_74, s_X8_note_75, s_X8_note_76, s_X8_note_79, s_X8_note_82, s_X8_note_83, s_X8_note_84, s_X8_note_85, s_X8_note_87, s_X8_note_90, s_X8_note_91, s_X8_note_92, s_X8_note_95, s_X8_note_98, s_X8_note_101, o.1, o.2.1, t0, t1, t4.1, q_has t4.2.1, q_isBelow, zI_0, Bool.true_eq_false, Bool.false_eq_true, not_true_eq_false, not_false_eq_true, if_true, if_false, KV_ap, KU_ap, dropL_nil, g1, g2]
      exact q_bad hX (fun h' hX' hf => by simp only [KV_ap, s_X8_note_0, s_X8_note_1, s_X8_note_4, s_X8_note_7, s_X8_note_8, s_X8_note_11, s_X8_note_14, s_X8_note_15, s_X8_note_17, s_X8_note_20, s_X8_note_23, s_X8_note_24, s_X8_note_26, s_X8_note_29, s_X8_note_32, s_X8_note_33, s_X8_note_36, s_X8_note_37, s_X8_note_39, s_X8_note_41, s_X8_note_44, s_X8_note_46, s_X8_note_49, s_X8_note_52, s_X8_note_53, s_X8_note_56, s_X8_note_57, s_X8_note_58, s_X8_note_61, s_X8_note_64, s_X8_note_67, s_X8_note_70, s_X8_note_71, s_X8_note_74, s_X8_note_75, s_X8_note_76, s_X8_note_79, s_X8_note_82, s_X8_note_83, s_X8_note_84, s_X8_note_85, s_X8_note_87, s_X8_note_90, s_X8_note_91, s_X8_note_92, s_X8_note_95, s_X8_note_98, s_X8_note_101]; exact k h' hX' hf)
    · cases g3 : decide (0 ≤ v2 ∧ v2 < 10)
      · rw [hbad (by simp only [g1, g2, g3, Bool.and_false, Bool.false_and])] at k
        simp only [s_X8_note_0, s_X8_note_1, s_X8_note_4, s_X8_note_7, s_X8_note_8, s_X8_note_11, s_X8_note_14, s_X8_note_15, s_X8_note_17, s_X8_note_20, s_X8_note_23, s_X8_note_24, s_X8_note_26, s_X8_note_29, s_X8_note_32, s_X8_note_33, s_X8_note_36, s_X8_note_37, s_X8_note_39, s_X8_note_41, s_X8_note_44, s_X8_note_46, s_X8_note_49, s_X8_note_52, s_X8_note_53, s_X8_note_56, s_X8_note_57, s_X8_note_58, s_X8_note_61, s_X8_note_64, s_X8_note_67, s_X8_note_70, s_X8_note_71, s_X8_note_74, s_X8_note_75, s_X8_note_76, s_X8_note_79, s_X8_note_82, s_X8_note_83, s_X8_note_84, s_X8_note_85, s_X8_note_87, s_X8_note_90, s_X8_note_91, s_X8_note_92, s_X8_note_95, s_X8_note_98, s_X8_note_101, o.1, o.2.1, t0, t1, t4.1, q_has t4.2.1, q_isBelow, zI_0, Bool.true_eq_false, Bool.false_eq_true, not_true_eq_false, not_false_eq_true, if_true, if_false, KV_ap, KU_ap, dropL_nil, g1, g2, g3]
        exact q_bad hX (fun h' hX' hf => by simp only [KV_ap, s_X8_note_0, s_X8_note_1, s_X8_note_4, s_X8_note_7, s_X8_note_8, s_X8_note_11, s_X8_note_14, s_X8_note_15, s_X8_note_17, s_X8_note_20, s_X8_note_23, s_X8_note_24, s_X8_note_26, s_X8_note_29, s_X8_note_32, s_X8_note_33, s_X8_note_36, s_X8_note_37, s_X8_note_39, s_X8_note_41, s_X8_note_44, s_X8_note_46, s_X8_note_49, s_X8_note_52, s_X8_note_53, s_X8_note_56, s_X8_note_57, s_X8_note_58, s_X8_note_61, s_X8_note_64, s_X8_note_67, s_X8_note_70, s_X8_note_71, s_X8_note_74, s_X8_note_75, s_X8_note_76, s_X8_note_79, s_X8_note_82, s_X8_note_83, s_X8_note_84, s_X8_note_85, s_X8_note_87, s_X8_note_90, s_X8_note_91, s_X8_note_92, s_X8_note_95, s_X8_note_98, s_X8_note_101]; exact k h' hX' hf)
      · have n1 : ((1 : Int32) = 0) = False := by decide
        cases g4 : rdI v3
        · rw [hbad (by simp only [g1, g2, g3, g4, Bool.and_false])] at k
          simp only [s_X8_note_0, s_X8_note_1, s_X8_note_4, s_X8_note_7, s_X8_note_8, s_X8_note_11, s_X8_note_14, s_X8_note_15, s_X8_note_17, s_X8_note_20, s_X8_note_23, s_X8_note_24, s_X8_note_26, s_X8_note_29, s_X8_note_32, s_X8_note_33, s_X8_note_36, s_X8_note_37, s_X8_note_39, s_X8_note_41, s_X8_note_44, s_X8_note_46, s_X8_note_49, s_X8_note_52, s_X8_note_53, s_X8_note_56, s_X8_note_57, s_X8_note_58, s_X8_note_61, s_X8_note_64, s_X8_note_67, s_X8_note_70, s_X8_note_71, s_X8_note_74, s_X8_note_75, s_X8_note_76, s_X8_note_79, s_X8_note_82, s_X8_note_83, s_X8_note_84, s_X8_note_85, s_X8_note_87, s_X8_note_90, s_X8_note_91, s_X8_note_92, s_X8_note_95, s_X8_note_98, s_X8_note_101, o.1, o.2.1, t0, t1, t4.1, q_has t4.2.1, q_isBelow, q_isReading, zI_0, Bool.true_eq_false, Bool.false_eq_true, not_true_eq_false, not_false_eq_true, if_true, if_false, KV_ap, KU_ap, dropL_nil, g1, g2, g3, g4, n1]
          exact q_bad hX (fun h' hX' hf => by simp only [KV_ap, s_X8_note_0, s_X8_note_1, s_X8_note_4, s_X8_note_7, s_X8_note_8, s_X8_note_11, s_X8_note_14, s_X8_note_15, s_X8_note_17, s_X8_note_20, s_X8_note_23, s_X8_note_24, s_X8_note_26, s_X8_note_29, s_X8_note_32, s_X8_note_33, s_X8_note_36, s_X8_note_37, s_X8_note_39, s_X8_note_41, s_X8_note_44, s_X8_note_46, s_X8_note_49, s_X8_note_52, s_X8_note_53, s_X8_note_56, s_X8_note_57, s_X8_note_58, s_X8_note_61, s_X8_note_64, s_X8_note_67, s_X8_note_70, s_X8_note_71, s_X8_note_74, s_X8_note_75, s_X8_note_76, s_X8_note_79, s_X8_note_82, s_X8_note_83, s_X8_note_84, s_X8_note_85, s_X8_note_87, s_X8_note_90, s_X8_note_91, s_X8_note_92, s_X8_note_95, s_X8_note_98, s_X8_note_101]; exact k h' hX' hf)
        · by_cases hl : N.length = 6
          · have e : aNote v0 v1 v2 v3 ((L, N, P), im, tx, fr, rf) = (.int (-4), bdU ((L, N, P), im, tx, fr, rf) 2) := by
              simp only [aNote, g1, g2, g3, g4, Bool.and_self, if_true, hl]
            rw [e] at k
            simp only [s_X8_note_0, s_X8_note_1, s_X8_note_4, s_X8_note_7, s_X8_note_8, s_X8_note_11, s_X8_note_14, s_X8_note_15, s_X8_note_17, s_X8_note_20, s_X8_note_23, s_X8_note_24, s_X8_note_26, s_X8_note_29, s_X8_note_32, s_X8_note_33, s_X8_note_36, s_X8_note_37, s_X8_note_39, s_X8_note_41, s_X8_note_44, s_X8_note_46, s_X8_note_49, s_X8_note_52, s_X8_note_53, s_X8_note_56, s_X8_note_57, s_X8_note_58, s_X8_note_61, s_X8_note_64, s_X8_note_67, s_X8_note_70, s_X8_note_71, s_X8_note_74, s_X8_note_75, s_X8_note_76, s_X8_note_79, s_X8_note_82, s_X8_note_83, s_X8_note_84, s_X8_note_85, s_X8_note_87, s_X8_note_90, s_X8_note_91, s_X8_note_92, s_X8_note_95, s_X8_note_98, s_X8_note_101, o.1, o.2.1, t0, t1, t2, t4.1, t5.1, q_has t4.2.1, q_isBelow, q_isReading, zI_0, Bool.true_eq_false, Bool.false_eq_true, not_true_eq_false, not_false_eq_true, if_true, if_false, KV_ap, KU_ap, dropL_nil, g1, g2, g3, g4, n1, q_isFull t5.2.1, decide_eq_true hl]
            exact q_full hX (fun h' hX' hf => by simp only [KV_ap, s_X8_note_0, s_X8_note_1, s_X8_note_4, s_X8_note_7, s_X8_note_8, s_X8_note_11, s_X8_note_14, s_X8_note_15, s_X8_note_17, s_X8_note_20, s_X8_note_23, s_X8_note_24, s_X8_note_26, s_X8_note_29, s_X8_note_32, s_X8_note_33, s_X8_note_36, s_X8_note_37, s_X8_note_39, s_X8_note_41, s_X8_note_44, s_X8_note_46, s_X8_note_49, s_X8_note_52, s_X8_note_53, s_X8_note_56, s_X8_note_57, s_X8_note_58, s_X8_note_61, s_X8_note_64, s_X8_note_67, s_X8_note_70, s_X8_note_71, s_X8_note_74, s_X8_note_75, s_X8_note_76, s_X8_note_79, s_X8_note_82, s_X8_note_83, s_X8_note_84, s_X8_note_85, s_X8_note_87, s_X8_note_90, s_X8_note_91, s_X8_note_92, s_X8_note_95, s_X8_note_98, s_X8_note_101]; exact k h' hX' hf)
          · obtain ⟨j0, e0, l0'⟩ := hs_ex (show L.length < 2147483648 by omega) g1
            obtain ⟨j1, e1, l1'⟩ := hs_ex (n := 9) (by decide) g2
            obtain ⟨j2, e2, l2'⟩ := hs_ex (n := 10) (by decide) g3
            obtain ⟨j3, e3, l3'⟩ := rd_ex g4
            have e : aNote v0 v1 v2 v3 ((L, N, P), im, tx, fr, rf) = (.int (nI (N.length + 1)), ((L, N ++ [(j0, j1, j2, j3)], P), im, tx, fr, rf)) := by
              simp only [aNote, g1, g2, g3, g4, Bool.and_self, if_true]
              rw [if_neg hl, e0, e1, e2, e3, cl_nI (show j0 < 2147483648 by omega), cl_nI (show j1 < 2147483648 by omega), cl_nI (show j2 < 2147483648 by omega), cl_nI (show j3 < 2147483648 by omega)]
            rw [e] at k
            subst e0; subst e1; subst e2; subst e3
            have w := isN_add (s := (j0, j1, j2, j3)) t5 (show N.length < 6 by omega) ⟨Nat.lt_of_lt_of_le l0' hl6, l1', Nat.le_of_lt_succ l2', l3'⟩
            have f : frm h _ (B + 4) (B + 6) := frm_pI (a := B + 1 + 3 + 1) (f := rAdd (hI h (B + 1 + 3 + 1)) N.length (nI j0) (nI j1) (nI j2) (nI j3)) (by omega) (by omega) (frm_pF (a := B + 1 + 3) (j := 1) (v := .int (nI (N.length + 1))) (by omega) (by omega) (frm_rfl h _ _))
            have o1 := f.1 B (by omega)
            have o2 := f.1 (B + 1) (by omega)
            simp only [s_X8_note_0, s_X8_note_1, s_X8_note_4, s_X8_note_7, s_X8_note_8, s_X8_note_11, s_X8_note_14, s_X8_note_15, s_X8_note_17, s_X8_note_20, s_X8_note_23, s_X8_note_24, s_X8_note_26, s_X8_note_29, s_X8_note_32, s_X8_note_33, s_X8_note_36, s_X8_note_37, s_X8_note_39, s_X8_note_41, s_X8_note_44, s_X8_note_46, s_X8_note_49, s_X8_note_52, s_X8_note_53, s_X8_note_56, s_X8_note_57, s_X8_note_58, s_X8_note_61, s_X8_note_64, s_X8_note_67, s_X8_note_70, s_X8_note_71, s_X8_note_75, s_X8_note_76, s_X8_note_79, s_X8_note_82, s_X8_note_83, s_X8_note_84, s_X8_note_85, s_X8_note_87, s_X8_note_90, s_X8_note_91, s_X8_note_92, s_X8_note_95, s_X8_note_98, s_X8_note_101, o.1, o.2.1, t0, t1, t2, t4.1, t5.1, q_has t4.2.1, q_isBelow, q_isReading, zI_0, Bool.true_eq_false, Bool.false_eq_true, not_true_eq_false, not_false_eq_true, if_true, if_false, KV_ap, KU_ap, dropL_nil, g1, g2, g3, g4, n1, q_isFull t5.2.1, decide_eq_false hl, q_add t5.2.1 (show N.length < 6 by omega)]
            have hT := isT_mk t o2 (isS_agr (fun x a b => f.1 x (by omega)) t4) w (isP_agr (fun x a b => f.1 x (by omega)) t6)
            generalize pI (pF h (B + 1 + 3) 1 (.int (nI (N.length + 1)))) (B + 1 + 3 + 1) (rAdd (hI h (B + 1 + 3 + 1)) N.length (nI j0) (nI j1) (nI j2) (nI j3)) = m1 at w f o1 o2 hT
            have ws := q_size (g := g) w.2.1 (Φ := KV g k_X8_note 0 [] [] [] Φ)
            simp only [s_X8_note_0, s_X8_note_1, s_X8_note_4, s_X8_note_7, s_X8_note_8, s_X8_note_11, s_X8_note_14, s_X8_note_15, s_X8_note_17, s_X8_note_20, s_X8_note_23, s_X8_note_24, s_X8_note_26, s_X8_note_29, s_X8_note_32, s_X8_note_33, s_X8_note_36, s_X8_note_37, s_X8_note_39, s_X8_note_41, s_X8_note_44, s_X8_note_46, s_X8_note_49, s_X8_note_52, s_X8_note_53, s_X8_note_56, s_X8_note_57, s_X8_note_58, s_X8_note_61, s_X8_note_64, s_X8_note_67, s_X8_note_70, s_X8_note_71, s_X8_note_74, s_X8_note_75, s_X8_note_76, s_X8_note_79, s_X8_note_82, s_X8_note_83, s_X8_note_84, s_X8_note_85, s_X8_note_87, s_X8_note_90, s_X8_note_91, s_X8_note_92, s_X8_note_95, s_X8_note_98, s_X8_note_101, o1.1, o1.2.1, o2.1, o2.2.1, o.1, o.2.1, t0, t2, w.1, q_size w.2.1, List.length_append, List.length_singleton, zI_0, Bool.true_eq_false, Bool.false_eq_true, not_true_eq_false, not_false_eq_true, if_true, if_false, KV_ap, KU_ap, dropL_nil]
            exact k _ (isX_T hX (frm_mono (by omega) (by omega) f) hT) (frX_of (by omega) (by omega) f)

/-! The class's calls, second part -/
def aStick (v0 v1 v2 : Int32) (u : XS) : Value × XS := if (decide (0 ≤ v0 ∧ v0 < 6) && nmI v1 && decide (1 ≤ v2 ∧ v2 ≤ 9)) = true then (if u.1.1.length = 6 then (.int (-4), bdU u 2) else (.int (nI u.1.1.length), ((u.1.1 ++ [(v0.toNatClampNeg, v1.toNatClampNeg, v2.toNatClampNeg, 0)], u.1.2.1, []), u.2))) else (.int (-2), bdU u 0)
theorem x_stick (v0 v1 v2 : Int32) : cX k_X8_stick [.int v0, .int v1, .int v2] (aStick v0 v1 v2) := by
  intro g h B u Φ hX k
  obtain ⟨⟨L, N, P⟩, im, tx, fr, rf⟩ := u
  have o := hX.1
  have t := hX.2.1
  obtain ⟨t0, t1, t2, t3, t4, t5, t6⟩ := id t
  have hbad : (decide (0 ≤ v0 ∧ v0 < 6) && nmI v1 && decide (1 ≤ v2 ∧ v2 ≤ 9)) = false → aStick v0 v1 v2 ((L, N, P), im, tx, fr, rf) = (.int (-2), bdU ((L, N, P), im, tx, fr, rf) 0) := fun z => by rw [aStick, z]; rfl
  cases g1 : decide (0 ≤ v0 ∧ v0 < 6)
  · rw [hbad (by simp only [g1, Bool.false_and])] at k
    simp only [s_X8_stick_0, s_X8_stick_1, s_X8_stick_3, s_X8_stick_6, s_X8_stick_9, s_X8_stick_10, s_X8_stick_13, s_X8_stick_16, s_X8_stick_17, s_X8_stick_18, s_X8_stick_20, s_X8_stick_23, s_X8_stick_26, s_X8_stick_27, s_X8_stick_30, s_X8_stick_31, s_X8_stick_32, s_X8_stick_35, s_X8_stick_38, s_X8_stick_41, s_X8_stick_44, s_X8_stick_45, s_X8_stick_48, s_X8_stick_49, s_X8_stick_50, s_X8_stick_53, s_X8_stick_56, s_X8_stick_59, s_X8_stick_60, s_X8_stick_63, s_X8_stick_66, s_X8_stick_67, s_X8_stick_68, s_X8_stick_69, s_X8_stick_70, s_X8_stick_73, q_isBelow, zI_0, Bool.true_eq_false, Bool.false_eq_true, not_true_eq_false, not_false_eq_true, if_true, if_false, KV_ap, KU_ap, dropL_nil, g1, o.1]
    refine q_bad hX (fun h' hX' hf => ?_)
    simp only [KV_ap, s_X8_stick_0, s_X8_stick_1, s_X8_stick_3, s_X8_stick_6, s_X8_stick_9, s_X8_stick_10, s_X8_stick_13, s_X8_stick_16, s_X8_stick_17, s_X8_stick_18, s_X8_stick_20, s_X8_stick_23, s_X8_stick_26, s_X8_stick_27, s_X8_stick_30, s_X8_stick_31, s_X8_stick_32, s_X8_stick_35, s_X8_stick_38, s_X8_stick_41, s_X8_stick_44, s_X8_stick_45, s_X8_stick_48, s_X8_stick_49, s_X8_stick_50, s_X8_stick_53, s_X8_stick_56, s_X8_stick_59, s_X8_stick_60, s_X8_stick_63, s_X8_stick_66, s_X8_stick_67, s_X8_stick_68, s_X8_stick_69, s_X8_stick_70, s_X8_stick_73]
    exact k h' hX' hf
  · cases g2 : nmI v1
    · rw [hbad (by simp only [g1, g2, Bool.and_false, Bool.false_and])] at k
      simp only [s_X8_stick_0, s_X8_stick_1, s_X8_stick_3, s_X8_stick_6, s_X8_stick_9, s_X8_stick_10, s_X8_stick_13, s_X8_stick_16, s_X8_stick_17, s_X8_stick_18, s_X8_stick_20, s_X8_stick_23, s_X8_stick_26, s_X8_stick_27, s_X8_stick_30, s_X8_stick_31, s_X8_stick_32, s_X8_stick_35, s_X8_stick_38, s_X8_stick_41, s_X8_stick_44, s_X8_stick_45, s_X8_stick_48, s_X8_stick_49, s_X8_stick_50, s_X8_stick_53, s_X8_stick_56, s_X8_stick_59, s_X8_stick_60, s_X8_stick_63, s_X8_stick_66, s_X8_stick_67, s_X8_stick_68, s_X8_stick_69, s_X8_stick_70, s_X8_stick_73, q_isBelow, q_isName, zI_0, Bool.true_eq_false, Bool.false_eq_true, not_true_eq_false, not_false_eq_true, if_true, if_false, KV_ap, KU_ap, dropL_nil, g1, g2, o.1]
      refine q_bad hX (fun h' hX' hf => ?_)
      simp only [KV_ap, s_X8_stick_0, s_X8_stick_1, s_X8_stick_3, s_X8_stick_6, s_X8_stick_9, s_X8_stick_10, s_X8_stick_13, s_X8_stick_16, s_X8_stick_17, s_X8_stick_18, s_X8_stick_20, s_X8_stick_23, s_X8_stick_26, s_X8_stick_27, s_X8_stick_30, s_X8_stick_31, s_X8_stick_32, s_X8_stick_35, s_X8_stick_38, s_X8_stick_41, s_X8_stick_44, s_X8_stick_45, s_X8_stick_48, s_X8_stick_49, s_X8_stick_50, s_X8_stick_53, s_X8_stick_56, s_X8_stick_59, s_X8_stick_60, s_X8_stick_63, s_X8_stick_66, s_X8_stick_67, s_X8_stick_68, s_X8_stick_69, s_X8_stick_70, s_X8_stick_73]
      exact k h' hX' hf
    · cases g3 : decide (1 ≤ v2 ∧ v2 ≤ 9)
      · rw [hbad (by simp only [g1, g2, g3, Bool.and_false])] at k
        simp only [s_X8_stick_0, s_X8_stick_1, s_X8_stick_3, s_X8_stick_6, s_X8_stick_9, s_X8_stick_10, s_X8_stick_13, s_X8_stick_16, s_X8_stick_17, s_X8_stick_18, s_X8_stick_20, s_X8_stick_23, s_X8_stick_26, s_X8_stick_27, s_X8_stick_30, s_X8_stick_31, s_X8_stick_32, s_X8_stick_35, s_X8_stick_38, s_X8_stick_41, s_X8_stick_44, s_X8_stick_45, s_X8_stick_48, s_X8_stick_49, s_X8_stick_50, s_X8_stick_53, s_X8_stick_56, s_X8_stick_59, s_X8_stick_60, s_X8_stick_63, s_X8_stick_66, s_X8_stick_67, s_X8_stick_68, s_X8_stick_69, s_X8_stick_70, s_X8_stick_73, q_isBelow, q_isName, q_isWithin, zI_0, Bool.true_eq_false, Bool.false_eq_true, not_true_eq_false, not_false_eq_true, if_true, if_false, KV_ap, KU_ap, dropL_nil, g1, g2, g3, o.1]
        refine q_bad hX (fun h' hX' hf => ?_)
        simp only [KV_ap, s_X8_stick_0, s_X8_stick_1, s_X8_stick_3, s_X8_stick_6, s_X8_stick_9, s_X8_stick_10, s_X8_stick_13, s_X8_stick_16, s_X8_stick_17, s_X8_stick_18, s_X8_stick_20, s_X8_stick_23, s_X8_stick_26, s_X8_stick_27, s_X8_stick_30, s_X8_stick_31, s_X8_stick_32, s_X8_stick_35, s_X8_stick_38, s_X8_stick_41, s_X8_stick_44, s_X8_stick_45, s_X8_stick_48, s_X8_stick_49, s_X8_stick_50, s_X8_stick_53, s_X8_stick_56, s_X8_stick_59, s_X8_stick_60, s_X8_stick_63, s_X8_stick_66, s_X8_stick_67, s_X8_stick_68, s_X8_stick_69, s_X8_stick_70, s_X8_stick_73]
        exact k h' hX' hf
      · by_cases hl : L.length = 6
        · have e : aStick v0 v1 v2 ((L, N, P), im, tx, fr, rf) = (.int (-4), bdU ((L, N, P), im, tx, fr, rf) 2) := by
            simp only [aStick, g1, g2, g3, Bool.and_self, if_true, hl]
          rw [e] at k
          simp only [s_X8_stick_0, s_X8_stick_1, s_X8_stick_3, s_X8_stick_6, s_X8_stick_9, s_X8_stick_10, s_X8_stick_13, s_X8_stick_16, s_X8_stick_17, s_X8_stick_18, s_X8_stick_20, s_X8_stick_23, s_X8_stick_26, s_X8_stick_27, s_X8_stick_30, s_X8_stick_31, s_X8_stick_32, s_X8_stick_35, s_X8_stick_38, s_X8_stick_41, s_X8_stick_44, s_X8_stick_45, s_X8_stick_48, s_X8_stick_49, s_X8_stick_50, s_X8_stick_53, s_X8_stick_56, s_X8_stick_59, s_X8_stick_60, s_X8_stick_63, s_X8_stick_66, s_X8_stick_67, s_X8_stick_68, s_X8_stick_69, s_X8_stick_70, s_X8_stick_73, q_isBelow, q_isName, q_isWithin, zI_0, Bool.true_eq_false, Bool.false_eq_true, not_true_eq_false, not_false_eq_true, if_true, if_false, KV_ap, KU_ap, dropL_nil, g1, g2, g3, o.1, o.2.1, t0, t1, t4.1, q_isFull t4.2.1, decide_eq_true hl]
          refine q_full hX (fun h' hX' hf => ?_)
          simp only [KV_ap, s_X8_stick_0, s_X8_stick_1, s_X8_stick_3, s_X8_stick_6, s_X8_stick_9, s_X8_stick_10, s_X8_stick_13, s_X8_stick_16, s_X8_stick_17, s_X8_stick_18, s_X8_stick_20, s_X8_stick_23, s_X8_stick_26, s_X8_stick_27, s_X8_stick_30, s_X8_stick_31, s_X8_stick_32, s_X8_stick_35, s_X8_stick_38, s_X8_stick_41, s_X8_stick_44, s_X8_stick_45, s_X8_stick_48, s_X8_stick_49, s_X8_stick_50, s_X8_stick_53, s_X8_stick_56, s_X8_stick_59, s_X8_stick_60, s_X8_stick_63, s_X8_stick_66, s_X8_stick_67, s_X8_stick_68, s_X8_stick_69, s_X8_stick_70, s_X8_stick_73]
          exact k h' hX' hf
        · have hl6 : L.length ≤ 6 := t4.2.1.2.2.2.1
          obtain ⟨j0, e0, l0'⟩ := hs_ex (n := 6) (by decide) g1
          obtain ⟨j1, e1, l1'⟩ := nm_ex g2
          obtain ⟨j2, e2, l2'⟩ := wi_ex (a := 1) (b := 9) (by decide) (by decide) g3
          have m1 := nm3 l1'
          have e : aStick v0 v1 v2 ((L, N, P), im, tx, fr, rf) = (.int (nI L.length), ((L ++ [(j0, j1, j2, 0)], N, []), im, tx, fr, rf)) := by
            simp only [aStick, g1, g2, g3, Bool.and_self, if_true]
            rw [if_neg hl, e0, e1, e2, cl_nI (by omega), cl_nI (by have := nm1 l1'; omega), cl_nI (by omega)]
          rw [e] at k
          have f1 : frm h (pF h (B + 1 + 5) 2 (.int (nI 0))) (B + 6) (B + 9) := frm_pF (by omega) (by omega) (frm_rfl h _ _)
          have s1' := isS_agr (fun x a b => f1.1 x (by omega)) t4
          have o1 := f1.1 B (by omega)
          have o2 := f1.1 (B + 1) (by omega)
          have z : (0 : Int32) = nI (0 : Nat) := rfl
          simp only [s_X8_stick_0, s_X8_stick_1, s_X8_stick_3, s_X8_stick_6, s_X8_stick_9, s_X8_stick_10, s_X8_stick_13, s_X8_stick_16, s_X8_stick_17, s_X8_stick_18, s_X8_stick_20, s_X8_stick_23, s_X8_stick_26, s_X8_stick_27, s_X8_stick_30, s_X8_stick_31, s_X8_stick_32, s_X8_stick_35, s_X8_stick_38, s_X8_stick_41, s_X8_stick_44, s_X8_stick_45, s_X8_stick_48, s_X8_stick_49, s_X8_stick_50, s_X8_stick_53, s_X8_stick_56, s_X8_stick_59, s_X8_stick_60, s_X8_stick_63, s_X8_stick_66, s_X8_stick_67, s_X8_stick_68, s_X8_stick_70, s_X8_stick_73, q_isBelow, q_isName, q_isWithin, zI_0, Bool.true_eq_false, Bool.false_eq_true, not_true_eq_false, not_false_eq_true, if_true, if_false, KV_ap, KU_ap, dropL_nil, g1, g2, g3, o.1, o.2.1, t0, t1, t3, t4.1, q_isFull t4.2.1, decide_eq_false hl, t6.1.1, q_pempty t6.1, hS_pF, o1.2.1, o2.2.1]
          rw [s_X8_stick_69]
          simp only [s_X8_stick_0, s_X8_stick_1, s_X8_stick_3, s_X8_stick_6, s_X8_stick_9, s_X8_stick_10, s_X8_stick_13, s_X8_stick_16, s_X8_stick_17, s_X8_stick_18, s_X8_stick_20, s_X8_stick_23, s_X8_stick_26, s_X8_stick_27, s_X8_stick_30, s_X8_stick_31, s_X8_stick_32, s_X8_stick_35, s_X8_stick_38, s_X8_stick_41, s_X8_stick_44, s_X8_stick_45, s_X8_stick_48, s_X8_stick_49, s_X8_stick_50, s_X8_stick_53, s_X8_stick_56, s_X8_stick_59, s_X8_stick_60, s_X8_stick_63, s_X8_stick_66, s_X8_stick_67, s_X8_stick_68, s_X8_stick_69, s_X8_stick_70, s_X8_stick_73, hS_pF, t4.1, q_add s1'.2.1 (show L.length < 6 by omega), KV_ap]
          have s2 := isS_add (s := (j0, j1, j2, 0)) s1' (show L.length < 6 by omega) (show vS (j0, j1, j2, 0) from ⟨l0', l1', l2', Nat.zero_le 9⟩)
          rw [e0, e1, e2, c0]
          have f2 := frm_pI (a := B + 1 + 1 + 1) (f := rAdd (hI (pF h (B + 1 + 5) 2 (.int (nI 0))) (B + 1 + 1 + 1)) L.length (nI j0) (nI j1) (nI j2) (nI 0)) (lo := B + 1) (hi := B + 9) (by omega) (by omega) (frm_pF (a := B + 1 + 1) (j := 1) (v := .int (nI (L.length + 1))) (by omega) (by omega) (frm_mono (lo' := B + 1) (hi' := B + 9) (by omega) (by omega) f1))
          have f3 := frm_pI (a := B + 1 + 1 + 1) (f := rAdd (hI (pF h (B + 1 + 5) 2 (.int (nI 0))) (B + 1 + 1 + 1)) L.length (nI j0) (nI j1) (nI j2) (nI 0)) (lo := B + 2) (hi := B + 4) (by omega) (by omega) (frm_pF (a := B + 1 + 1) (j := 1) (v := .int (nI (L.length + 1))) (by omega) (by omega) (frm_rfl (pF h (B + 1 + 5) 2 (.int (nI 0))) _ _))
          refine k _ (isX_T hX f2 (isT_mk t (agr_trans o2 (f3.1 _ (by omega))) s2 ?_ ?_)) (frX_of (by omega) (by omega) f2)
          · exact isN_agr (fun x a b => agr_trans (f1.1 x (by omega)) (f3.1 x (by omega))) t5
          · exact isP_agr (fun x a b => f3.1 x (by omega)) (isP_nil t6)

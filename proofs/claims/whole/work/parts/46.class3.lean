/-! The class's calls, third part: suck, snap, undo -/
theorem isT_kp {h : HP} {t : Nat} {L N : List St} {P : List (List St)} (hT : isT h t (L, N, P)) : isT (kpH h (t + 5) (t + 1) L P.length) t (L, N, kpP P L) ∧ frm h (kpH h (t + 5) (t + 1) L P.length) (t + 5) (t + 8) := by
  obtain ⟨t0, t1, t2, t3, t4, t5, t6⟩ := id hT
  have f : frm h (kpH h (t + 5) (t + 1) L P.length) (t + 5) (t + 8) := frm_pF (by omega) (by omega) (frm_pI (by omega) (by omega) (frm_pI (by omega) (by omega) (frm_rfl h _ _)))
  exact ⟨isT_mk hT (f.1 _ (by omega)) (isS_agr (fun x a b => f.1 x (by omega)) t4) (isN_agr (fun x a b => f.1 x (by omega)) t5) (isP_kp t6 t4), f⟩
theorem isT_S {h h' : HP} {t : Nat} {L L' N : List St} {P : List (List St)} (hT : isT h t (L, N, P)) (f : frm h h' (t + 1) (t + 3)) (hS : isS h' (t + 1) L') : isT h' t (L', N, P) :=
  isT_mk hT (f.1 _ (by omega)) hS (isN_agr (fun x a b => f.1 x (by omega)) hT.2.2.2.2.2.1) (isP_agr (fun x a b => f.1 x (by omega)) hT.2.2.2.2.2.2)
def aSuck (v0 v1 : Int32) (u : XS) : Value × XS := if (decide (0 ≤ v0 ∧ v0 < nI u.1.1.length) && decide (1 ≤ v1 ∧ v1 ≤ 9)) = true then (.int (nI (min 9 ((gS u.1.1 v0.toNatClampNeg).2.2.2 + v1.toNatClampNeg))), ((wdL u.1.1 v0.toNatClampNeg v1.toNatClampNeg, u.1.2.1, kpP u.1.2.2 u.1.1), u.2)) else (.int (-2), bdU u 0)
theorem gS_wd {L : List St} {j m : Nat} (hj : j < L.length) : (gS (wdL L j m) j).2.2.2 = min 9 ((gS L j).2.2.2 + m) := by rw [wdL, gS_set _ _ _ _ hj, if_pos rfl]
theorem gS_sn {L : List St} {j x : Nat} (hj : j < L.length) : gS (snL L j x) j = ((gS L j).1, (gS L j).2.1, x, (gS L j).2.2.2) := by rw [snL, gS_set _ _ _ _ hj, if_pos rfl]
theorem x_suck (v0 v1 : Int32) : cX k_X8_suck [.int v0, .int v1] (aSuck v0 v1) := by
  intro g h B u Φ hX k
  obtain ⟨⟨L, N, P⟩, im, tx, fr, rf⟩ := u
  have o := hX.1
  have t := hX.2.1
  obtain ⟨t0, t1, t2, t3, t4, t5, t6⟩ := id t
  have t4 : isS h (B + 1 + 1) L := t4
  have t5 : isN h (B + 1 + 3) N := t5
  have t6 : isP h (B + 1 + 5) P := t6
  have hl6 : L.length ≤ 6 := t4.2.1.2.2.2.1
  have hbad : (decide (0 ≤ v0 ∧ v0 < nI L.length) && decide (1 ≤ v1 ∧ v1 ≤ 9)) = false → aSuck v0 v1 ((L, N, P), im, tx, fr, rf) = (.int (-2), bdU ((L, N, P), im, tx, fr, rf) 0) := fun z => by rw [aSuck, z]; rfl
  cases g1 : decide (0 ≤ v0 ∧ v0 < nI L.length)
  · rw [hbad (by simp only [g1, Bool.false_and])] at k
    simp only [s_X8_suck_0, s_X8_suck_1, s_X8_suck_4, s_X8_suck_7, s_X8_suck_8, s_X8_suck_11, s_X8_suck_14, s_X8_suck_15, s_X8_suck_16, s_X8_suck_18, s_X8_suck_21, s_X8_suck_24, s_X8_suck_25, s_X8_suck_28, s_X8_suck_29, s_X8_suck_30, s_X8_suck_33, s_X8_suck_36, s_X8_suck_37, s_X8_suck_40, s_X8_suck_43, s_X8_suck_46, s_X8_suck_47, s_X8_suck_50, s_X8_suck_53, s_X8_suck_54, s_X8_suck_55, s_X8_suck_58, s_X8_suck_59, s_X8_suck_62, s_X8_suck_65, s_X8_suck_66, s_X8_suck_67, s_X8_suck_70, o.1, o.2.1, t0, t1, t4.1, q_has t4.2.1, zI_0, Bool.true_eq_false, Bool.false_eq_true, not_true_eq_false, not_false_eq_true, if_true, if_false, KV_ap, KU_ap, dropL_nil, g1]
    exact q_bad hX (fun h' hX' hf => by simp only [KV_ap, s_X8_suck_0, s_X8_suck_1, s_X8_suck_4, s_X8_suck_7, s_X8_suck_8, s_X8_suck_11, s_X8_suck_14, s_X8_suck_15, s_X8_suck_16, s_X8_suck_18, s_X8_suck_21, s_X8_suck_24, s_X8_suck_25, s_X8_suck_28, s_X8_suck_29, s_X8_suck_30, s_X8_suck_33, s_X8_suck_36, s_X8_suck_37, s_X8_suck_40, s_X8_suck_43, s_X8_suck_46, s_X8_suck_47, s_X8_suck_50, s_X8_suck_53, s_X8_suck_54, s_X8_suck_55, s_X8_suck_58, s_X8_suck_59, s_X8_suck_62, s_X8_suck_65, s_X8_suck_66, s_X8_suck_67, s_X8_suck_70]; exact k h' hX' hf)
  · cases g2 : decide (1 ≤ v1 ∧ v1 ≤ 9)
    · rw [hbad (by simp only [g1, g2, Bool.and_false])] at k
      simp only [s_X8_suck_0, s_X8_suck_1, s_X8_suck_4, s_X8_suck_7, s_X8_suck_8, s_X8_suck_11, s_X8_suck_14, s_X8_suck_15, s_X8_suck_16, s_X8_suck_18, s_X8_suck_21, s_X8_suck_24, s_X8_suck_25, s_X8_suck_28, s_X8_suck_29, s_X8_suck_30, s_X8_suck_33, s_X8_suck_36, s_X8_suck_37, s_X8_suck_40, s_X8_suck_43, s_X8_suck_46, s_X8_suck_47, s_X8_suck_50, s_X8_suck_53, s_X8_suck_54, s_X8_suck_55, s_X8_suck_58, s_X8_suck_59, s_X8_suck_62, s_X8_suck_65, s_X8_suck_66, s_X8_suck_67, s_X8_suck_70, o.1, o.2.1, t0, t1, t4.1, q_has t4.2.1, q_isWithin, zI_0, Bool.true_eq_false, Bool.false_eq_true, not_true_eq_false, not_false_eq_true, if_true, if_false, KV_ap, KU_ap, dropL_nil, g1, g2]
      exact q_bad hX (fun h' hX' hf => by simp only [KV_ap, s_X8_suck_0, s_X8_suck_1, s_X8_suck_4, s_X8_suck_7, s_X8_suck_8, s_X8_suck_11, s_X8_suck_14, s_X8_suck_15, s_X8_suck_16, s_X8_suck_18, s_X8_suck_21, s_X8_suck_24, s_X8_suck_25, s_X8_suck_28, s_X8_suck_29, s_X8_suck_30, s_X8_suck_33, s_X8_suck_36, s_X8_suck_37, s_X8_suck_40, s_X8_suck_43, s_X8_suck_46, s_X8_suck_47, s_X8_suck_50, s_X8_suck_53, s_X8_suck_54, s_X8_suck_55, s_X8_suck_58, s_X8_suck_59, s_X8_suck_62, s_X8_suck_65, s_X8_suck_66, s_X8_suck_67, s_X8_suck_70]; exact k h' hX' hf)
    · obtain ⟨j, ej, hj⟩ := hs_ex (show L.length < 2147483648 by omega) g1
      obtain ⟨m, em, hm⟩ := wi_ex (a := 1) (b := 9) (by decide) (by decide) g2
      have e : aSuck v0 v1 ((L, N, P), im, tx, fr, rf) = (.int (nI (min 9 ((gS L j).2.2.2 + m))), ((wdL L j m, N, kpP P L), im, tx, fr, rf)) := by
        simp only [aSuck, g1, g2, Bool.and_self, if_true]
        rw [ej, em, cl_nI (show j < 2147483648 by omega), cl_nI (show m < 2147483648 by omega)]
      rw [e] at k
      subst ej; subst em
      obtain ⟨hT, hf⟩ := isT_kp t
      simp only [s_X8_suck_0, s_X8_suck_1, s_X8_suck_4, s_X8_suck_7, s_X8_suck_8, s_X8_suck_11, s_X8_suck_14, s_X8_suck_15, s_X8_suck_16, s_X8_suck_18, s_X8_suck_21, s_X8_suck_24, s_X8_suck_25, s_X8_suck_29, s_X8_suck_30, s_X8_suck_33, s_X8_suck_36, s_X8_suck_37, s_X8_suck_40, s_X8_suck_43, s_X8_suck_46, s_X8_suck_47, s_X8_suck_50, s_X8_suck_53, s_X8_suck_54, s_X8_suck_55, s_X8_suck_58, s_X8_suck_59, s_X8_suck_62, s_X8_suck_65, s_X8_suck_66, s_X8_suck_67, s_X8_suck_70, o.1, o.2.1, t0, t1, t3, t4.1, t6.1.1, q_has t4.2.1, q_isWithin, zI_0, Bool.true_eq_false, Bool.false_eq_true, not_true_eq_false, not_false_eq_true, if_true, if_false, KV_ap, KU_ap, dropL_nil, g1, g2, q_keepS t6 t4 (show B + 1 + 1 ≠ B + 1 + 5 by omega) (show B + 1 + 1 ≠ B + 1 + 5 + 1 by omega)]
      generalize hm1 : kpH h (B + 1 + 5) (B + 1 + 1) L P.length = m1 at hT hf
      have o1 := hf.1 B (by omega)
      obtain ⟨r0, r1, r2, r3, r4, r5, r6⟩ := id hT
      have w := isS_wd (m := m) r4 hj
      have fw : frm m1 (pI m1 (B + 1 + 1 + 1) (upd (hI m1 (B + 1 + 1 + 1)) (j * 4 + 3) (nI (min 9 ((gS L j).2.2.2 + m))))) (B + 2) (B + 4) := frm_pI (by omega) (by omega) (frm_rfl m1 _ _)
      have hw : j < (wdL L j m).length := by rw [wdL, List.length_set]; exact hj
      simp only [s_X8_suck_0, s_X8_suck_1, s_X8_suck_4, s_X8_suck_7, s_X8_suck_8, s_X8_suck_11, s_X8_suck_14, s_X8_suck_15, s_X8_suck_16, s_X8_suck_18, s_X8_suck_21, s_X8_suck_24, s_X8_suck_25, s_X8_suck_28, s_X8_suck_29, s_X8_suck_30, s_X8_suck_33, s_X8_suck_36, s_X8_suck_37, s_X8_suck_40, s_X8_suck_43, s_X8_suck_46, s_X8_suck_47, s_X8_suck_50, s_X8_suck_53, s_X8_suck_54, s_X8_suck_55, s_X8_suck_58, s_X8_suck_59, s_X8_suck_62, s_X8_suck_65, s_X8_suck_66, s_X8_suck_67, s_X8_suck_70, o1.1, o1.2.1, o.1, o.2.1, r0, r1, r4.1, q_wearDown r4 hj (show m < 100 by omega), zI_0, Bool.true_eq_false, Bool.false_eq_true, not_true_eq_false, not_false_eq_true, if_true, if_false, KV_ap, KU_ap, dropL_nil, hS_pI, hF_pI, q_fact3 w.2.1 (show j < 2147483648 by omega), fc3 w hw, gS_wd hj]
      have f2 : frm h (pI m1 (B + 1 + 1 + 1) (upd (hI m1 (B + 1 + 1 + 1)) (j * 4 + 3) (nI (min 9 ((gS L j).2.2.2 + m))))) (B + 1) (B + 9) := frm_trans (frm_mono (by omega) (by omega) hf) (frm_mono (by omega) (by omega) fw)
      exact k _ (isX_T hX f2 (isT_S hT fw w)) (frX_of (by omega) (by omega) f2)
def aSnap (v0 v1 : Int32) (u : XS) : Value × XS := if (decide (0 ≤ v0 ∧ v0 < nI u.1.1.length) && decide (1 ≤ v1 ∧ v1 ≤ 8)) = true then (if (gS u.1.1 v0.toNatClampNeg).2.2.1 ≤ v1.toNatClampNeg then (.int (-3), bdU u 1) else (.int (nI (rS (gS u.1.1 v0.toNatClampNeg) (v1.toNatClampNeg - 1))), ((snL u.1.1 v0.toNatClampNeg v1.toNatClampNeg, u.1.2.1, kpP u.1.2.2 u.1.1), u.2))) else (.int (-2), bdU u 0)
theorem x_snap (v0 v1 : Int32) : cX k_X8_snap [.int v0, .int v1] (aSnap v0 v1) := by
  intro g h B u Φ hX k
  obtain ⟨⟨L, N, P⟩, im, tx, fr, rf⟩ := u
  have o := hX.1
  have t := hX.2.1
  obtain ⟨t0, t1, t2, t3, t4, t5, t6⟩ := id t
  have t4 : isS h (B + 1 + 1) L := t4
  have t5 : isN h (B + 1 + 3) N := t5
  have t6 : isP h (B + 1 + 5) P := t6
  have hl6 : L.length ≤ 6 := t4.2.1.2.2.2.1
  have hbad : (decide (0 ≤ v0 ∧ v0 < nI L.length) && decide (1 ≤ v1 ∧ v1 ≤ 8)) = false → aSnap v0 v1 ((L, N, P), im, tx, fr, rf) = (.int (-2), bdU ((L, N, P), im, tx, fr, rf) 0) := fun z => by rw [aSnap, z]; rfl
  cases g1 : decide (0 ≤ v0 ∧ v0 < nI L.length)
  · rw [hbad (by simp only [g1, Bool.false_and])] at k
    simp only [s_X8_snap_0, s_X8_snap_1, s_X8_snap_4, s_X8_snap_7, s_X8_snap_8, s_X8_snap_11, s_X8_snap_14, s_X8_snap_15, s_X8_snap_16, s_X8_snap_18, s_X8_snap_21, s_X8_snap_24, s_X8_snap_25, s_X8_snap_28, s_X8_snap_29, s_X8_snap_30, s_X8_snap_31, s_X8_snap_34, s_X8_snap_37, s_X8_snap_38, s_X8_snap_39, s_X8_snap_42, s_X8_snap_45, s_X8_snap_46, s_X8_snap_49, s_X8_snap_50, s_X8_snap_51, s_X8_snap_54, s_X8_snap_57, s_X8_snap_58, s_X8_snap_61, s_X8_snap_64, s_X8_snap_67, s_X8_snap_68, s_X8_snap_71, s_X8_snap_74, s_X8_snap_75, s_X8_snap_76, s_X8_snap_77, s_X8_snap_80, s_X8_snap_81, s_X8_snap_84, s_X8_snap_87, s_X8_snap_88, s_X8_snap_89, s_X8_snap_90, s_X8_snap_91, s_X8_snap_94, o.1, o.2.1, t0, t1, t4.1, q_has t4.2.1, zI_0, Bool.true_eq_false, Bool.false_eq_true, not_true_eq_false, not_false_eq_true, if_true, if_false, KV_ap, KU_ap, dropL_nil, g1]
    exact q_bad hX (fun h' hX' hf => by simp only [KV_ap, s_X8_snap_0, s_X8_snap_1, s_X8_snap_4, s_X8_snap_7, s_X8_snap_8, s_X8_snap_11, s_X8_snap_14, s_X8_snap_15, s_X8_snap_16, s_X8_snap_18, s_X8_snap_21, s_X8_snap_24, s_X8_snap_25, s_X8_snap_28, s_X8_snap_29, s_X8_snap_30, s_X8_snap_31, s_X8_snap_34, s_X8_snap_37, s_X8_snap_38, s_X8_snap_39, s_X8_snap_42, s_X8_snap_45, s_X8_snap_46, s_X8_snap_49, s_X8_snap_50, s_X8_snap_51, s_X8_snap_54, s_X8_snap_57, s_X8_snap_58, s_X8_snap_61, s_X8_snap_64, s_X8_snap_67, s_X8_snap_68, s_X8_snap_71, s_X8_snap_74, s_X8_snap_75, s_X8_snap_76, s_X8_snap_77, s_X8_snap_80, s_X8_snap_81, s_X8_snap_84, s_X8_snap_87, s_X8_snap_88, s_X8_snap_89, s_X8_snap_90, s_X8_snap_91, s_X8_snap_94]; exact k h' hX' hf)
  · cases g2 : decide (1 ≤ v1 ∧ v1 ≤ 8)
    · rw [hbad (by simp only [g1, g2, Bool.and_false])] at k
      simp only [s_X8_snap_0, s_X8_snap_1, s_X8_snap_4, s_X8_snap_7, s_X8_snap_8, s_X8_snap_11, s_X8_snap_14, s_X8_snap_15, s_X8_snap_16, s_X8_snap_18, s_X8_snap_21, s_X8_snap_24, s_X8_snap_25, s_X8_snap_28, s_X8_snap_29, s_X8_snap_30, s_X8_snap_31, s_X8_snap_34, s_X8_snap_37, s_X8_snap_38, s_X8_snap_39, s_X8_snap_42, s_X8_snap_45, s_X8_snap_46, s_X8_snap_49, s_X8_snap_50, s_X8_snap_51, s_X8_snap_54, s_X8_snap_57, s_X8_snap_58, s_X8_snap_61, s_X8_snap_64, s_X8_snap_67, s_X8_snap_68, s_X8_snap_71, s_X8_snap_74, s_X8_snap_75, s_X8_snap_76, s_X8_snap_77, s_X8_snap_80, s_X8_snap_81, s_X8_snap_84, s_X8_snap_87, s_X8_snap_88, s_X8_snap_89, s_X8_snap_90, s_X8_snap_91, s_X8_snap_94, o.1, o.2.1, t0, t1, t4.1, q_has t4.2.1, q_isWithin, zI_0, Bool.true_eq_false, Bool.false_eq_true, not_true_eq_false, not_false_eq_true, if_true, if_false, KV_ap, KU_ap, dropL_nil, g1, g2]
      exact q_bad hX (fun h' hX' hf => by simp only [KV_ap, s_X8_snap_0, s_X8_snap_1, s_X8_snap_4, s_X8_snap_7, s_X8_snap_8, s_X8_snap_11, s_X8_snap_14, s_X8_snap_15, s_X8_snap_16, s_X8_snap_18, s_X8_snap_21, s_X8_snap_24, s_X8_snap_25, s_X8_snap_28, s_X8_snap_29, s_X8_snap_30, s_X8_snap_31, s_X8_snap_34, s_X8_snap_37, s_X8_snap_38, s_X8_snap_39, s_X8_snap_42, s_X8_snap_45, s_X8_snap_46, s_X8_snap_49, s_X8_snap_50, s_X8_snap_51, s_X8_snap_54, s_X8_snap_57, s_X8_snap_58, s_X8_snap_61, s_X8_snap_64, s_X8_snap_67, s_X8_snap_68, s_X8_snap_71, s_X8_snap_74, s_X8_snap_75, s_X8_snap_76, s_X8_snap_77, s_X8_snap_80, s_X8_snap_81, s_X8_snap_84, s_X8_snap_87, s_X8_snap_88, s_X8_snap_89, s_X8_snap_90, s_X8_snap_91, s_X8_snap_94]; exact k h' hX' hf)
    · obtain ⟨j, ej, hj⟩ := hs_ex (show L.length < 2147483648 by omega) g1
      obtain ⟨m, em, hm⟩ := wi_ex (a := 1) (b := 8) (by decide) (by decide) g2
      obtain ⟨v1', v2', v3', v4'⟩ := t4.2.2.2 j hj
      by_cases hc : (gS L j).2.2.1 ≤ m
      · have e : aSnap v0 v1 ((L, N, P), im, tx, fr, rf) = (.int (-3), bdU ((L, N, P), im, tx, fr, rf) 1) := by
          simp only [aSnap, g1, g2, Bool.and_self, if_true]
          rw [ej, em, cl_nI (show j < 2147483648 by omega), cl_nI (show m < 2147483648 by omega), if_pos hc]
        rw [e] at k
        subst ej; subst em
        simp only [s_X8_snap_0, s_X8_snap_1, s_X8_snap_4, s_X8_snap_7, s_X8_snap_8, s_X8_snap_11, s_X8_snap_14, s_X8_snap_15, s_X8_snap_16, s_X8_snap_18, s_X8_snap_21, s_X8_snap_24, s_X8_snap_25, s_X8_snap_28, s_X8_snap_29, s_X8_snap_30, s_X8_snap_31, s_X8_snap_34, s_X8_snap_37, s_X8_snap_38, s_X8_snap_39, s_X8_snap_42, s_X8_snap_45, s_X8_snap_46, s_X8_snap_49, s_X8_snap_50, s_X8_snap_51, s_X8_snap_54, s_X8_snap_57, s_X8_snap_58, s_X8_snap_61, s_X8_snap_64, s_X8_snap_67, s_X8_snap_68, s_X8_snap_71, s_X8_snap_74, s_X8_snap_75, s_X8_snap_76, s_X8_snap_77, s_X8_snap_80, s_X8_snap_81, s_X8_snap_84, s_X8_snap_87, s_X8_snap_88, s_X8_snap_89, s_X8_snap_90, s_X8_snap_91, s_X8_snap_94, o.1, o.2.1, t0, t1, t4.1, q_has t4.2.1, q_isWithin, zI_0, Bool.true_eq_false, Bool.false_eq_true, not_true_eq_false, not_false_eq_true, if_true, if_false, KV_ap, KU_ap, dropL_nil, g1, g2, q_fact2 t4.2.1 (show j < 2147483648 by omega), fc2 t4 hj, lt_nI (show m < 2147483648 by omega) (show (gS L j).2.2.1 < 2147483648 by omega), if_neg (show ¬ m < (gS L j).2.2.1 by omega)]
        exact q_no hX (fun h' hX' hf => by simp only [KV_ap, s_X8_snap_0, s_X8_snap_1, s_X8_snap_4, s_X8_snap_7, s_X8_snap_8, s_X8_snap_11, s_X8_snap_14, s_X8_snap_15, s_X8_snap_16, s_X8_snap_18, s_X8_snap_21, s_X8_snap_24, s_X8_snap_25, s_X8_snap_28, s_X8_snap_29, s_X8_snap_30, s_X8_snap_31, s_X8_snap_34, s_X8_snap_37, s_X8_snap_38, s_X8_snap_39, s_X8_snap_42, s_X8_snap_45, s_X8_snap_46, s_X8_snap_49, s_X8_snap_50, s_X8_snap_51, s_X8_snap_54, s_X8_snap_57, s_X8_snap_58, s_X8_snap_61, s_X8_snap_64, s_X8_snap_67, s_X8_snap_68, s_X8_snap_71, s_X8_snap_74, s_X8_snap_75, s_X8_snap_76, s_X8_snap_77, s_X8_snap_80, s_X8_snap_81, s_X8_snap_84, s_X8_snap_87, s_X8_snap_88, s_X8_snap_89, s_X8_snap_90, s_X8_snap_91, s_X8_snap_94]; exact k h' hX' hf)
      · have e : aSnap v0 v1 ((L, N, P), im, tx, fr, rf) = (.int (nI (rS (gS L j) (m - 1))), ((snL L j m, N, kpP P L), im, tx, fr, rf)) := by
          simp only [aSnap, g1, g2, Bool.and_self, if_true]
          rw [ej, em, cl_nI (show j < 2147483648 by omega), cl_nI (show m < 2147483648 by omega), if_neg hc]
        rw [e] at k
        subst ej; subst em
        obtain ⟨hT, hf⟩ := isT_kp t
        simp only [s_X8_snap_0, s_X8_snap_1, s_X8_snap_4, s_X8_snap_7, s_X8_snap_8, s_X8_snap_11, s_X8_snap_14, s_X8_snap_15, s_X8_snap_16, s_X8_snap_18, s_X8_snap_21, s_X8_snap_24, s_X8_snap_25, s_X8_snap_28, s_X8_snap_29, s_X8_snap_30, s_X8_snap_31, s_X8_snap_34, s_X8_snap_37, s_X8_snap_38, s_X8_snap_39, s_X8_snap_42, s_X8_snap_45, s_X8_snap_46, s_X8_snap_49, s_X8_snap_50, s_X8_snap_51, s_X8_snap_54, s_X8_snap_57, s_X8_snap_58, s_X8_snap_61, s_X8_snap_64, s_X8_snap_67, s_X8_snap_68, s_X8_snap_71, s_X8_snap_74, s_X8_snap_75, s_X8_snap_76, s_X8_snap_77, s_X8_snap_80, s_X8_snap_81, s_X8_snap_84, s_X8_snap_87, s_X8_snap_88, s_X8_snap_89, s_X8_snap_90, s_X8_snap_91, s_X8_snap_94, o.1, o.2.1, t0, t1, t3, t4.1, t6.1.1, q_has t4.2.1, q_isWithin, zI_0, Bool.true_eq_false, Bool.false_eq_true, not_true_eq_false, not_false_eq_true, if_true, if_false, KV_ap, KU_ap, dropL_nil, g1, g2, q_fact2 t4.2.1 (show j < 2147483648 by omega), fc2 t4 hj, lt_nI (show m < 2147483648 by omega) (show (gS L j).2.2.1 < 2147483648 by omega), if_pos (show m < (gS L j).2.2.1 by omega), q_keepS t6 t4 (show B + 1 + 1 ≠ B + 1 + 5 by omega) (show B + 1 + 1 ≠ B + 1 + 5 + 1 by omega)]
        generalize hm1 : kpH h (B + 1 + 5) (B + 1 + 1) L P.length = m1 at hT hf
        have o1 := hf.1 B (by omega)
        obtain ⟨r0, r1, r2, r3, r4, r5, r6⟩ := id hT
        have w := isS_sn (x := m) r4 hj (by omega)
        have fw : frm m1 (pI m1 (B + 1 + 1 + 1) (upd (hI m1 (B + 1 + 1 + 1)) (j * 4 + 2) (nI m))) (B + 2) (B + 4) := frm_pI (by omega) (by omega) (frm_rfl m1 _ _)
        have hw : j < (snL L j m).length := by rw [snL, List.length_set]; exact hj
        simp only [s_X8_snap_0, s_X8_snap_1, s_X8_snap_4, s_X8_snap_7, s_X8_snap_8, s_X8_snap_11, s_X8_snap_14, s_X8_snap_15, s_X8_snap_16, s_X8_snap_18, s_X8_snap_21, s_X8_snap_24, s_X8_snap_25, s_X8_snap_28, s_X8_snap_29, s_X8_snap_30, s_X8_snap_31, s_X8_snap_34, s_X8_snap_37, s_X8_snap_38, s_X8_snap_39, s_X8_snap_42, s_X8_snap_45, s_X8_snap_46, s_X8_snap_49, s_X8_snap_50, s_X8_snap_51, s_X8_snap_54, s_X8_snap_57, s_X8_snap_58, s_X8_snap_61, s_X8_snap_64, s_X8_snap_67, s_X8_snap_68, s_X8_snap_71, s_X8_snap_74, s_X8_snap_75, s_X8_snap_76, s_X8_snap_77, s_X8_snap_80, s_X8_snap_81, s_X8_snap_84, s_X8_snap_87, s_X8_snap_88, s_X8_snap_89, s_X8_snap_90, s_X8_snap_91, s_X8_snap_94, o1.1, o1.2.1, o.1, o.2.1, r0, r1, r4.1, q_put2 r4.2.1 hj, zI_0, Bool.true_eq_false, Bool.false_eq_true, not_true_eq_false, not_false_eq_true, if_true, if_false, KV_ap, KU_ap, dropL_nil, hS_pI, hF_pI, s1 (show 1 ≤ m by omega), q_seenAt w hw (show m - 1 < 9 by omega), gS_sn hj]
        have f2 : frm h (pI m1 (B + 1 + 1 + 1) (upd (hI m1 (B + 1 + 1 + 1)) (j * 4 + 2) (nI m))) (B + 1) (B + 9) := frm_trans (frm_mono (by omega) (by omega) hf) (frm_mono (by omega) (by omega) fw)
        exact k _ (isX_T hX f2 (isT_S hT fw w)) (frX_of (by omega) (by omega) f2)

/-! The class's calls: row -/
def aRow (v : Int32) (u : XS) : Value × XS := if -1 ≤ v then (if u.1.1.length = 0 then (.int (-1), u) else if v < nI u.1.1.length then (.int (if v = -1 then nI (rwN u.1.1.length (uN u.1.1)).1 else nI ((rwN u.1.1.length (uN u.1.1)).2.getD v.toNatClampNeg 0)), u) else (.int (-5), u)) else (.int (-10), bdU u 0)
theorem ge_m1 {v : Int32} (h : -1 ≤ v) (h1 : ¬ v = -1) : 0 ≤ v := by
  have h2 := Int32.le_iff_toInt_le.mp h
  have h3 : ((-1 : Int32)).toInt = -1 := by decide
  have h4 : ((0 : Int32)).toInt = 0 := by decide
  apply Int32.le_iff_toInt_le.mpr
  have h5 : v.toInt ≠ -1 := fun z => h1 (Int32.toInt_inj.mp (by rw [z, h3]))
  omega
theorem rwX_tH {h : HP} {a n : Nat} {U : Nat → Nat → Nat} (hR : tR h a n U) (q : TQ) : rwX (tH h a q) a := by
  obtain ⟨⟨r0, r1, r2, r3, r4, r5, r6⟩, _⟩ := hR
  refine ⟨r0, ?_, ?_, ?_, r4, r5, r6⟩
  all_goals (unfold tH; rw [hF_pF, if_neg (by omega)]; assumption)
theorem x_row (v : Int32) : cX k_X8_row [.int v] (aRow v) := by
  intro g h B u Φ hX k
  obtain ⟨⟨L, N, P⟩, im, tx, fr, rf⟩ := u
  have o := hX.1
  have t := hX.2.1
  obtain ⟨t0, t1, t2, t3, t4, t5, t6⟩ := id t
  have t4 : isS h (B + 1 + 1) L := t4
  have t5 : isN h (B + 1 + 3) N := t5
  have t6 : isP h (B + 1 + 5) P := t6
  have hl6 : L.length ≤ 6 := t4.2.1.2.2.2.1
  by_cases g1 : -1 ≤ v
  · by_cases g2 : L.length = 0
    · have e : aRow v ((L, N, P), im, tx, fr, rf) = (.int (-1), ((L, N, P), im, tx, fr, rf)) := by
        simp only [aRow, if_pos g1, g2, if_true]
      rw [e] at k
      simp only [s_X8_row_0, s_X8_row_1, s_X8_row_2, s_X8_row_5, s_X8_row_6, s_X8_row_9, s_X8_row_10, s_X8_row_12, s_X8_row_13, s_X8_row_14, s_X8_row_17, s_X8_row_20, s_X8_row_23, s_X8_row_26, s_X8_row_27, s_X8_row_28, s_X8_row_29, s_X8_row_30, s_X8_row_33, s_X8_row_36, s_X8_row_39, s_X8_row_42, s_X8_row_44, s_X8_row_45, s_X8_row_46, s_X8_row_49, s_X8_row_50, s_X8_row_53, s_X8_row_56, s_X8_row_59, s_X8_row_60, s_X8_row_61, s_X8_row_64, s_X8_row_65, s_X8_row_68, s_X8_row_71, s_X8_row_74, s_X8_row_75, s_X8_row_78, s_X8_row_79, s_X8_row_82, o.1, o.2.1, t0, t1, t4.1, q_size t4.2.1, zI_0, Bool.true_eq_false, Bool.false_eq_true, not_true_eq_false, not_false_eq_true, if_true, if_false, KV_ap, KU_ap, dropL_nil, g1, eq0 (show L.length < 2147483648 by omega), g2]
      exact k h hX (frX_rfl h B)
    · by_cases g3 : v < nI L.length
      · have e : aRow v ((L, N, P), im, tx, fr, rf) = (.int (if v = -1 then nI (rwN L.length (uN L)).1 else nI ((rwN L.length (uN L)).2.getD v.toNatClampNeg 0)), ((L, N, P), im, tx, fr, rf)) := by
          simp only [aRow, if_pos g1, g2, if_false, if_pos g3]
        rw [e] at k
        have hrw : rwX h (B + 17) := hX.2.2.2.2.1
        simp only [s_X8_row_0, s_X8_row_1, s_X8_row_2, s_X8_row_5, s_X8_row_6, s_X8_row_9, s_X8_row_10, s_X8_row_12, s_X8_row_13, s_X8_row_14, s_X8_row_17, s_X8_row_20, s_X8_row_23, s_X8_row_26, s_X8_row_27, s_X8_row_28, s_X8_row_29, s_X8_row_30, s_X8_row_33, s_X8_row_36, s_X8_row_39, s_X8_row_42, s_X8_row_44, s_X8_row_45, s_X8_row_46, s_X8_row_49, s_X8_row_50, s_X8_row_53, s_X8_row_56, s_X8_row_59, s_X8_row_61, s_X8_row_64, s_X8_row_65, s_X8_row_68, s_X8_row_71, s_X8_row_74, s_X8_row_75, s_X8_row_78, s_X8_row_79, s_X8_row_82, o.1, o.2.1, o.2.2.2.2.1, t0, t1, t4.1, hrw.1, q_size t4.2.1, zI_0, Bool.true_eq_false, Bool.false_eq_true, not_true_eq_false, not_false_eq_true, if_true, if_false, KV_ap, KU_ap, dropL_nil, g1, eq0 (show L.length < 2147483648 by omega), g2, g3]
        refine q_search t4 hrw (by omega) (by omega) (fun h0 F hT hF0 => ?_)
        have hcp := tf_cp L.length hl6 (uN L) 7 0 0 0 0 [] (1000, hI h (B + 17 + 3), hI h (B + 17 + 2)) (1000, []) (Nat.zero_le _) rfl rfl ⟨rfl, fun z => absurd z (Nat.lt_irrefl _), fun k hk => absurd hk (Nat.not_lt_zero k)⟩
        have hlt := rwN_lt L.length hl6 (uN L) (fun i j => upN_le _ _)
        generalize tf L.length (uN L) 7 0 0 0 0 (1000, hI h (B + 17 + 3), hI h (B + 17 + 2)) = q' at hcp
        obtain ⟨c1', c2', _⟩ := hcp
        have c1'' : q'.1 = (rwN L.length (uN L)).1 := c1'
        have fR : frm h (tH h0 (B + 17) q') (B + 17) (B + 21) := by
          subst hF0
          exact frm_pF (by omega) (by omega) (frm_pI (by omega) (by omega) (frm_pI (by omega) (by omega) (frm_pI (by omega) (by omega) (frm_pF (by omega) (by omega) (frm_rfl h _ _)))))
        have wR := rwX_tH hT q'
        have k' := k _ (isX_rw hX fR wR) (frX_of (by omega) (by omega) fR)
        have o1 := fR.1 B (by omega)
        have f4 : hF (tH h0 (B + 17) q') (B + 17) 4 = .int (nI q'.1) := by unfold tH; rw [hF_pF, if_pos ⟨rfl, rfl⟩]
        have f3 : hF (tH h0 (B + 17) q') (B + 17) 3 = .int (nI L.length) := by unfold tH; rw [hF_pF, if_neg (by omega)]; exact hT.2.1
        have i3 : hI (tH h0 (B + 17) q') (B + 17 + 3) = q'.2.1 := by unfold tH; rw [hI_pF, hI_pIs]
        simp only [KU_ap, s_X8_row_0, s_X8_row_1, s_X8_row_2, s_X8_row_5, s_X8_row_6, s_X8_row_9, s_X8_row_10, s_X8_row_12, s_X8_row_13, s_X8_row_14, s_X8_row_17, s_X8_row_20, s_X8_row_23, s_X8_row_26, s_X8_row_27, s_X8_row_28, s_X8_row_29, s_X8_row_30, s_X8_row_33, s_X8_row_36, s_X8_row_39, s_X8_row_42, s_X8_row_44, s_X8_row_45, s_X8_row_46, s_X8_row_49, s_X8_row_50, s_X8_row_53, s_X8_row_56, s_X8_row_59, s_X8_row_60, s_X8_row_61, s_X8_row_64, s_X8_row_65, s_X8_row_68, s_X8_row_71, s_X8_row_74, s_X8_row_75, s_X8_row_78, s_X8_row_79, s_X8_row_82, o1.1, o1.2.1, o.1, o.2.2.2.2.1, wR.1, f4]
        by_cases g4 : v = -1
        · rw [if_neg (fun z => z g4)]
          simp only [g4, if_true] at k'
          rw [c1'']
          exact k'
        · rw [if_pos g4]
          have g0 := ge_m1 g1 g4
          obtain ⟨j, ej, hj⟩ := hs_ex (show L.length < 2147483648 by omega) (decide_eq_true ⟨g0, g3⟩)
          simp only [g4, if_false] at k'
          subst ej
          rw [cl_nI (show j < 2147483648 by omega)] at k'
          have hin : m_inb (nI j) 6 = true := by rw [inb_nI (by omega)]; simpa using (show j < 6 by omega)
          have hbj : q'.2.1 j = nI ((rwN L.length (uN L)).2.getD j 0) := c2' (by rw [c1'']; exact hlt) j hj
          simp only [s_X3_placed_0, s_X3_placed_1, s_X3_placed_2, s_X3_placed_5, s_X3_placed_8, s_X3_placed_11, s_X3_placed_12, s_X3_placed_15, s_X3_placed_16, s_X3_placed_17, s_X3_placed_20, s_X3_placed_21, zI_0, Bool.true_eq_false, Bool.false_eq_true, not_true_eq_false, not_false_eq_true, if_true, if_false, KV_ap, KU_ap, dropL_nil, wR.1, f3, q_isBelow, has_nI (show j < 2147483648 by omega) (show L.length < 2147483648 by omega), decide_eq_true hj, wR.2.2.2.1, wR.2.2.2.2.2.2, hin, cl_nI (show j < 2147483648 by omega), i3, hbj, s_X8_row_0, s_X8_row_1, s_X8_row_2, s_X8_row_5, s_X8_row_6, s_X8_row_9, s_X8_row_10, s_X8_row_12, s_X8_row_13, s_X8_row_14, s_X8_row_17, s_X8_row_20, s_X8_row_23, s_X8_row_26, s_X8_row_27, s_X8_row_28, s_X8_row_29, s_X8_row_30, s_X8_row_33, s_X8_row_36, s_X8_row_39, s_X8_row_42, s_X8_row_44, s_X8_row_45, s_X8_row_46, s_X8_row_49, s_X8_row_50, s_X8_row_53, s_X8_row_56, s_X8_row_59, s_X8_row_60, s_X8_row_61, s_X8_row_64, s_X8_row_65, s_X8_row_68, s_X8_row_71, s_X8_row_74, s_X8_row_75, s_X8_row_78, s_X8_row_79, s_X8_row_82]
          exact k'
      · have e : aRow v ((L, N, P), im, tx, fr, rf) = (.int (-5), ((L, N, P), im, tx, fr, rf)) := by
          simp only [aRow, if_pos g1, g2, if_false, if_neg g3]
        rw [e] at k
        simp only [s_X8_row_0, s_X8_row_1, s_X8_row_2, s_X8_row_5, s_X8_row_6, s_X8_row_9, s_X8_row_10, s_X8_row_12, s_X8_row_13, s_X8_row_14, s_X8_row_17, s_X8_row_20, s_X8_row_23, s_X8_row_26, s_X8_row_27, s_X8_row_28, s_X8_row_29, s_X8_row_30, s_X8_row_33, s_X8_row_36, s_X8_row_39, s_X8_row_42, s_X8_row_44, s_X8_row_45, s_X8_row_46, s_X8_row_49, s_X8_row_50, s_X8_row_53, s_X8_row_56, s_X8_row_59, s_X8_row_60, s_X8_row_61, s_X8_row_64, s_X8_row_65, s_X8_row_68, s_X8_row_71, s_X8_row_74, s_X8_row_75, s_X8_row_78, s_X8_row_79, s_X8_row_82, o.1, o.2.1, t0, t1, t4.1, q_size t4.2.1, zI_0, Bool.true_eq_false, Bool.false_eq_true, not_true_eq_false, not_false_eq_true, if_true, if_false, KV_ap, KU_ap, dropL_nil, g1, eq0 (show L.length < 2147483648 by omega), g2, g3]
        exact k h hX (frX_rfl h B)
  · have e : aRow v ((L, N, P), im, tx, fr, rf) = (.int (-10), bdU ((L, N, P), im, tx, fr, rf) 0) := by simp only [aRow, if_neg g1]
    rw [e] at k
    simp only [s_X8_row_0, s_X8_row_1, s_X8_row_2, s_X8_row_5, s_X8_row_6, s_X8_row_9, s_X8_row_10, s_X8_row_12, s_X8_row_13, s_X8_row_14, s_X8_row_17, s_X8_row_20, s_X8_row_23, s_X8_row_26, s_X8_row_27, s_X8_row_28, s_X8_row_29, s_X8_row_30, s_X8_row_33, s_X8_row_36, s_X8_row_39, s_X8_row_42, s_X8_row_44, s_X8_row_45, s_X8_row_46, s_X8_row_49, s_X8_row_50, s_X8_row_53, s_X8_row_56, s_X8_row_59, s_X8_row_60, s_X8_row_61, s_X8_row_64, s_X8_row_65, s_X8_row_68, s_X8_row_71, s_X8_row_74, s_X8_row_75, s_X8_row_78, s_X8_row_79, s_X8_row_82, o.1, zI_0, Bool.true_eq_false, Bool.false_eq_true, not_true_eq_false, not_false_eq_true, if_true, if_false, KV_ap, KU_ap, dropL_nil, g1]
    exact q_bad hX (fun h' hX' hf => by simp only [KV_ap, s_X8_row_0, s_X8_row_1, s_X8_row_2, s_X8_row_5, s_X8_row_6, s_X8_row_9, s_X8_row_10, s_X8_row_12, s_X8_row_13, s_X8_row_14, s_X8_row_17, s_X8_row_20, s_X8_row_23, s_X8_row_26, s_X8_row_27, s_X8_row_28, s_X8_row_29, s_X8_row_30, s_X8_row_33, s_X8_row_36, s_X8_row_39, s_X8_row_42, s_X8_row_44, s_X8_row_45, s_X8_row_46, s_X8_row_49, s_X8_row_50, s_X8_row_53, s_X8_row_56, s_X8_row_59, s_X8_row_60, s_X8_row_61, s_X8_row_64, s_X8_row_65, s_X8_row_68, s_X8_row_71, s_X8_row_74, s_X8_row_75, s_X8_row_78, s_X8_row_79, s_X8_row_82]; exact k h' hX' hf)

/-! The class's calls: read -/
theorem m10_neg : ∀ f, f < 151 → (-10 - nI f < (0 : Int32)) := by decide +kernel
theorem x_read : cX k_X8_read [m_D] aRead := by
  intro g h B u Φ hX k
  obtain ⟨⟨L, N, P⟩, im, tx, fr, rf⟩ := u
  have o := hX.1
  have t := hX.2.1
  obtain ⟨t0, t1, t2, t3, t4, t5, t6⟩ := id t
  have t4 : isS h (B + 1 + 1) L := t4
  have t5 : isN h (B + 1 + 3) N := t5
  have t6 : isP h (B + 1 + 5) P := t6
  have hl6 : L.length ≤ 6 := t4.2.1.2.2.2.1
  have tt : txX h (B + 10) tx := hX.2.2.2.1
  have hl : tx.length ≤ 150 := tt.2.2.2.2.2.2.2.1
  simp only [s_X8_read_0, s_X8_read_1, s_X8_read_4, s_X8_read_7, s_X8_read_8, s_X8_read_9, s_X8_read_12, s_X8_read_13, s_X8_read_16, s_X8_read_19, s_X8_read_20, s_X8_read_23, s_X8_read_26, s_X8_read_27, s_X8_read_30, s_X8_read_33, s_X8_read_36, s_X8_read_37, zI_0, Bool.true_eq_false, Bool.false_eq_true, not_true_eq_false, not_false_eq_true, if_true, if_false, KV_ap, KU_ap, dropL_nil, o.1, o.2.2.2.1, tt.1]
  refine c_tell tt (fun f h1 D er hf x1 d1 f1 => ?_) (fun r h1 er hr x1 d1 f1 => ?_)
  · have e : aRead ((L, N, P), im, tx, fr, rf) = (.int (-10 - nI f), ((L, N, P), im, tx, fr, rf)) := by simp only [aRead, er]
    rw [e] at k
    simp only [KV_ap, s_X8_read_0, s_X8_read_1, s_X8_read_4, s_X8_read_7, s_X8_read_8, s_X8_read_9, s_X8_read_12, s_X8_read_13, s_X8_read_16, s_X8_read_19, s_X8_read_20, s_X8_read_23, s_X8_read_26, s_X8_read_27, s_X8_read_30, s_X8_read_33, s_X8_read_36, s_X8_read_37, zI_0, Bool.true_eq_false, Bool.false_eq_true, not_true_eq_false, not_false_eq_true, if_true, if_false, KV_ap, KU_ap, dropL_nil]
    rw [if_pos (m10_neg f (by omega))]
    exact k h1 (isX_tx hX f1 x1) (frX_of (by omega) (by omega) f1)
  · have e : aRead ((L, N, P), im, tx, fr, rf) = (.int (nI r.1), ((r.2, [], []), im, tx, fr, rf)) := by simp only [aRead, er]
    rw [e] at k
    have hX1 : isX h1 B ((L, N, P), im, tx, fr, rf) := isX_tx hX f1 x1
    have o1 := hX1.1
    have t1' := hX1.2.1
    simp only [KV_ap, s_X8_read_0, s_X8_read_1, s_X8_read_4, s_X8_read_7, s_X8_read_8, s_X8_read_9, s_X8_read_12, s_X8_read_13, s_X8_read_16, s_X8_read_19, s_X8_read_20, s_X8_read_23, s_X8_read_26, s_X8_read_27, s_X8_read_30, s_X8_read_33, s_X8_read_36, s_X8_read_37, zI_0, Bool.true_eq_false, Bool.false_eq_true, not_true_eq_false, not_false_eq_true, if_true, if_false, KV_ap, KU_ap, dropL_nil, lt0 (show r.1 < 2147483648 by omega), o1.1, o1.2.1, t1'.1]
    refine q_Tempty t1' (fun h2 T2 f2 => ?_)
    have hX2 := isX_T hX1 f2 T2
    have o2 := hX2.1
    have x2 : txX h2 (B + 10) tx := hX2.2.2.2.1
    have d2 : isS h2 (B + 10 + 1) r.2 := isS_agr (fun x a b => f2.1 x (by omega)) d1
    obtain ⟨a0, a1', a2', a3', b1, b2, b3⟩ := id T2
    have iC := isS_cpy b1 d2
    simp only [KU_ap, s_X8_read_0, s_X8_read_1, s_X8_read_4, s_X8_read_7, s_X8_read_8, s_X8_read_9, s_X8_read_12, s_X8_read_13, s_X8_read_16, s_X8_read_19, s_X8_read_20, s_X8_read_23, s_X8_read_26, s_X8_read_27, s_X8_read_30, s_X8_read_33, s_X8_read_36, s_X8_read_37, zI_0, Bool.true_eq_false, Bool.false_eq_true, not_true_eq_false, not_false_eq_true, if_true, if_false, KV_ap, KU_ap, dropL_nil, o2.1, o2.2.1, o2.2.2.2.1, a0, a1', x2.1, x2.2.1, b1.1, q_copyFrom b1.2.1 d2.2.1]
    have f3 : frm h2 (pF (pI h2 (B + 1 + 1 + 1) (va_cpy (hI h2 (B + 10 + 1 + 1)) (hI h2 (B + 1 + 1 + 1)) 0 0 24)) (B + 1 + 1) 1 (.int (nI r.2.length))) (B + 1 + 1) (B + 1 + 3) := frm_pF (by omega) (by omega) (frm_pI (by omega) (by omega) (frm_rfl h2 _ _))
    refine k _ (isX_T hX2 (frm_mono (by omega) (by omega) f3) (isT_mk T2 (f3.1 _ (by omega)) iC (isN_agr (fun x a b => f3.1 x (by omega)) b2) (isP_agr (fun x a b => f3.1 x (by omega)) b3))) ?_
    have g1 : frm h h1 (B + 1) (B + 17) := frm_mono (by omega) (by omega) f1
    have g2 : frm h1 h2 (B + 1) (B + 17) := frm_mono (by omega) (by omega) f2
    exact frX_of (by omega) (by omega) (frm_trans g1 (frm_trans g2 (frm_mono (lo' := B + 1) (hi' := B + 17) (by omega) (by omega) f3)))

/-! The class's calls, fourth part: lays, undo -/
def aTw (v0 v1 : Int32) (n : Nat) : Bool := decide (0 ≤ v0 ∧ v0 < nI n) && decide (0 ≤ v1 ∧ v1 < nI n) && !decide (v0 = v1)
theorem q_areTwo {g : GL} {h : HP} {Φ : Value → HP → Prop} {B : Nat} {u : XS} (hX : isX h B u) (v0 v1 : Int32) : J g k_X8_areTwo 0 [.ref B, .int v0, .int v1] [] [] h Φ = Φ (.int (zI (aTw v0 v1 u.1.1.length))) h := by
  have o := hX.1
  obtain ⟨t0, t1, t2, t3, t4, t5, t6⟩ := hX.2.1
  unfold aTw
  simp only [s_X8_areTwo_0, s_X8_areTwo_1, s_X8_areTwo_4, s_X8_areTwo_7, s_X8_areTwo_8, s_X8_areTwo_11, s_X8_areTwo_14, s_X8_areTwo_15, s_X8_areTwo_18, s_X8_areTwo_21, s_X8_areTwo_22, s_X8_areTwo_25, s_X8_areTwo_28, s_X8_areTwo_29, s_X8_areTwo_30, s_X8_areTwo_33, s_X8_areTwo_34, s_X8_areTwo_37, s_X8_areTwo_38, o.1, o.2.1, t0, t1, t4.1, q_has t4.2.1, zI_0, Bool.true_eq_false, Bool.false_eq_true, not_true_eq_false, not_false_eq_true, if_true, if_false, KV_ap, KU_ap, dropL_nil, true_or, or_true]
  cases g1 : decide (0 ≤ v0 ∧ v0 < nI u.1.1.length)
  · simp only [if_true, Bool.false_and, zI_f]
  · cases g2 : decide (0 ≤ v1 ∧ v1 < nI u.1.1.length)
    · simp only [if_true, if_false, Bool.true_eq_false, Bool.false_and, Bool.and_false, zI_f]
    · by_cases g3 : v0 = v1
      · simp only [if_true, if_false, Bool.true_eq_false, g3, decide_true, Bool.not_true, Bool.and_false, zI_f]
      · simp only [if_false, Bool.true_eq_false, g3, decide_false, Bool.not_false, Bool.and_self, zI_t]
def aLays (v0 v1 : Int32) (u : XS) : Value × XS := if aTw v0 v1 u.1.1.length = true then (.int (nI (min v0.toNatClampNeg v1.toNatClampNeg)), ((jnL u.1.1 (min v0.toNatClampNeg v1.toNatClampNeg) (max v0.toNatClampNeg v1.toNatClampNeg), [], kpP u.1.2.2 u.1.1), u.2)) else (.int (-2), bdU u 0)
theorem x_lays (v0 v1 : Int32) : cX k_X8_lays [.int v0, .int v1, m_D] (aLays v0 v1) := by
  intro g h B u Φ hX k
  obtain ⟨⟨L, N, P⟩, im, tx, fr, rf⟩ := u
  have o := hX.1
  have t := hX.2.1
  obtain ⟨t0, t1, t2, t3, t4, t5, t6⟩ := id t
  have t4 : isS h (B + 1 + 1) L := t4
  have t5 : isN h (B + 1 + 3) N := t5
  have t6 : isP h (B + 1 + 5) P := t6
  have hl6 : L.length ≤ 6 := t4.2.1.2.2.2.1
  cases g1 : aTw v0 v1 L.length
  · have e : aLays v0 v1 ((L, N, P), im, tx, fr, rf) = (.int (-2), bdU ((L, N, P), im, tx, fr, rf) 0) := by simp only [aLays, g1, Bool.false_eq_true, if_false]
    rw [e] at k
    simp only [s_X8_lays_0, s_X8_lays_1, s_X8_lays_2, s_X8_lays_3, s_X8_lays_6, s_X8_lays_9, s_X8_lays_10, s_X8_lays_13, s_X8_lays_14, s_X8_lays_15, s_X8_lays_18, s_X8_lays_21, s_X8_lays_22, s_X8_lays_25, s_X8_lays_28, s_X8_lays_31, s_X8_lays_32, s_X8_lays_35, s_X8_lays_38, s_X8_lays_41, s_X8_lays_42, s_X8_lays_43, s_X8_lays_46, s_X8_lays_47, s_X8_lays_48, s_X8_lays_51, s_X8_lays_54, s_X8_lays_55, s_X8_lays_56, s_X8_lays_57, s_X8_lays_60, s_X8_lays_63, s_X8_lays_64, o.1, q_areTwo hX, zI_0, Bool.true_eq_false, Bool.false_eq_true, not_true_eq_false, not_false_eq_true, if_true, if_false, KV_ap, KU_ap, dropL_nil, g1]
    exact q_bad hX (fun h' hX' hf => by simp only [KV_ap, s_X8_lays_0, s_X8_lays_1, s_X8_lays_2, s_X8_lays_3, s_X8_lays_6, s_X8_lays_9, s_X8_lays_10, s_X8_lays_13, s_X8_lays_14, s_X8_lays_15, s_X8_lays_18, s_X8_lays_21, s_X8_lays_22, s_X8_lays_25, s_X8_lays_28, s_X8_lays_31, s_X8_lays_32, s_X8_lays_35, s_X8_lays_38, s_X8_lays_41, s_X8_lays_42, s_X8_lays_43, s_X8_lays_46, s_X8_lays_47, s_X8_lays_48, s_X8_lays_51, s_X8_lays_54, s_X8_lays_55, s_X8_lays_56, s_X8_lays_57, s_X8_lays_60, s_X8_lays_63, s_X8_lays_64]; exact k h' hX' hf)
  · have g0 := g1
    unfold aTw at g0
    simp only [Bool.and_eq_true, Bool.not_eq_true', decide_eq_false_iff_not] at g0
    obtain ⟨i, ei, hi⟩ := hs_ex (show L.length < 2147483648 by omega) g0.1.1
    obtain ⟨j, ej, hj⟩ := hs_ex (show L.length < 2147483648 by omega) g0.1.2
    have hne : i ≠ j := fun z => g0.2 (by rw [ei, ej, z])
    have e : aLays v0 v1 ((L, N, P), im, tx, fr, rf) = (.int (nI (min i j)), ((jnL L (min i j) (max i j), [], kpP P L), im, tx, fr, rf)) := by
      simp only [aLays, g1, if_true]
      rw [ei, ej, cl_nI (show i < 2147483648 by omega), cl_nI (show j < 2147483648 by omega)]
    rw [e] at k
    subst ei; subst ej
    have emin : (if nI j < nI i then nI j else nI i) = nI (min i j) := by
      simp only [lt_nI (show j < 2147483648 by omega) (show i < 2147483648 by omega), Nat.min_def]
      split <;> split <;> first | rfl | (exfalso; omega)
    have emax : (if nI i < nI j then nI j else nI i) = nI (max i j) := by
      simp only [lt_nI (show i < 2147483648 by omega) (show j < 2147483648 by omega), Nat.max_def]
      split <;> split <;> first | rfl | (exfalso; omega)
    obtain ⟨hT, hf⟩ := isT_kp t
    simp only [s_X8_lays_0, s_X8_lays_1, s_X8_lays_2, s_X8_lays_3, s_X8_lays_6, s_X8_lays_9, s_X8_lays_10, s_X8_lays_13, s_X8_lays_14, s_X8_lays_15, s_X8_lays_18, s_X8_lays_21, s_X8_lays_22, s_X8_lays_25, s_X8_lays_28, s_X8_lays_31, s_X8_lays_41, s_X8_lays_42, s_X8_lays_43, s_X8_lays_46, s_X8_lays_47, s_X8_lays_51, s_X8_lays_54, s_X8_lays_55, s_X8_lays_56, s_X8_lays_57, s_X8_lays_60, s_X8_lays_63, s_X8_lays_64, o.1, o.2.1, t0, t1, t3, t4.1, t6.1.1, q_areTwo hX, zI_0, Bool.true_eq_false, Bool.false_eq_true, not_true_eq_false, not_false_eq_true, if_true, if_false, KV_ap, KU_ap, dropL_nil, g1, q_keepS t6 t4 (show B + 1 + 1 ≠ B + 1 + 5 by omega) (show B + 1 + 1 ≠ B + 1 + 5 + 1 by omega)]
    generalize hm1 : kpH h (B + 1 + 5) (B + 1 + 1) L P.length = m1 at hT hf
    have o1 := hf.1 B (by omega)
    obtain ⟨r0, r1, r2, r3, r4, r5, r6⟩ := id hT
    have r4 : isS m1 (B + 1 + 1) L := r4
    have r5 : isN m1 (B + 1 + 3) N := r5
    simp only [s_X8_lays_0, s_X8_lays_1, s_X8_lays_2, s_X8_lays_3, s_X8_lays_6, s_X8_lays_9, s_X8_lays_10, s_X8_lays_13, s_X8_lays_14, s_X8_lays_15, s_X8_lays_18, s_X8_lays_21, s_X8_lays_22, s_X8_lays_25, s_X8_lays_28, s_X8_lays_31, s_X8_lays_32, s_X8_lays_35, s_X8_lays_38, s_X8_lays_41, s_X8_lays_42, s_X8_lays_43, s_X8_lays_46, s_X8_lays_47, s_X8_lays_51, s_X8_lays_54, s_X8_lays_55, s_X8_lays_56, s_X8_lays_57, s_X8_lays_60, s_X8_lays_63, s_X8_lays_64, o1.1, o1.2.1, o.1, o.2.1, r0, r2, r5.1, q_empty r5.2.1, zI_0, Bool.true_eq_false, Bool.false_eq_true, not_true_eq_false, not_false_eq_true, if_true, if_false, KV_ap, KU_ap, dropL_nil, emin]
    have f1 : frm m1 (pF m1 (B + 1 + 3) 1 (.int (nI 0))) (B + 4) (B + 6) := frm_pF (by omega) (by omega) (frm_rfl m1 _ _)
    have w1 := isN_nil r5
    have s4 := isS_agr (fun x a b => f1.1 x (by omega)) r4
    have s6 := isP_agr (fun x a b => f1.1 x (by omega)) r6
    have p1 := agr_trans o1 (f1.1 B (by omega))
    have p2 := f1.1 (B + 1) (by omega)
    have hT1 : isT (pF m1 (B + 1 + 3) 1 (.int (nI 0))) (B + 1) (L, [], kpP P L) := isT_mk hT p2 s4 w1 s6
    have f01 : frm h (pF m1 (B + 1 + 3) 1 (.int (nI 0))) (B + 1) (B + 9) := frm_trans (frm_mono (by omega) (by omega) hf) (frm_mono (by omega) (by omega) f1)
    generalize pF m1 (B + 1 + 3) 1 (.int (nI 0)) = m2 at f1 w1 s4 s6 p1 p2 hT1 f01
    have hlt : min i j < max i j := by omega
    have hmx : max i j < L.length := by omega
    simp only [s_X8_lays_0, s_X8_lays_1, s_X8_lays_2, s_X8_lays_3, s_X8_lays_6, s_X8_lays_9, s_X8_lays_10, s_X8_lays_13, s_X8_lays_14, s_X8_lays_15, s_X8_lays_18, s_X8_lays_21, s_X8_lays_22, s_X8_lays_25, s_X8_lays_28, s_X8_lays_31, s_X8_lays_32, s_X8_lays_35, s_X8_lays_38, s_X8_lays_41, s_X8_lays_42, s_X8_lays_43, s_X8_lays_46, s_X8_lays_47, s_X8_lays_48, s_X8_lays_51, s_X8_lays_54, s_X8_lays_55, s_X8_lays_56, s_X8_lays_57, s_X8_lays_60, s_X8_lays_63, s_X8_lays_64, p1.1, p1.2.1, o.1, o.2.1, p2.1, p2.2.1, r0, r1, s4.1, emin, emax, q_join s4 hlt hmx, zI_0, Bool.true_eq_false, Bool.false_eq_true, not_true_eq_false, not_false_eq_true, if_true, if_false, KV_ap, KU_ap, dropL_nil]
    have hmn : min i j < L.length := by omega
    have hnm := toN_nm (s4.2.2.2 (min i j) hmn).2.1 (s4.2.2.2 (max i j) hmx).2.1
    have w2 := isS_jn s4 hlt hmx hnm
    have f2 : frm m2 _ (B + 2) (B + 4) := frm_pF (a := B + 1 + 1) (j := 1) (v := .int (nI (L.length - 1))) (by omega) (by omega) (frm_pI (a := B + 1 + 1 + 1) (f := jnF (hI m2 (B + 1 + 1 + 1)) L.length (min i j) (max i j) (nI (toN (gS L (min i j)).2.1 (gS L (max i j)).2.1)) (nI (mxN (gS L (min i j)).2.2.2 (gS L (max i j)).2.2.2))) (by omega) (by omega) (frm_rfl m2 _ _))
    have f3 := frm_trans f01 (frm_mono (show B + 1 ≤ B + 2 by omega) (show B + 4 ≤ B + 9 by omega) f2)
    exact k _ (isX_T hX f3 (isT_S hT1 f2 w2)) (frX_of (by omega) (by omega) f3)
def aUndo (u : XS) : Value × XS := if u.1.2.2.length = 0 then (.int (-3), bdU u 1) else (.int (nI (gP u.1.2.2 (u.1.2.2.length - 1)).length), ((gP u.1.2.2 (u.1.2.2.length - 1), u.1.2.1, u.1.2.2.dropLast), u.2))
theorem gP_dl (P : List (List St)) (j : Nat) (hj : j < P.length - 1) : gP P.dropLast j = gP P j := by
  unfold gP
  rw [List.getD_eq_getElem?_getD, List.getD_eq_getElem?_getD, List.getElem?_dropLast, if_pos hj]
theorem x_undo : cX k_X8_undo [] aUndo := by
  intro g h B u Φ hX k
  obtain ⟨⟨L, N, P⟩, im, tx, fr, rf⟩ := u
  have o := hX.1
  have t := hX.2.1
  obtain ⟨t0, t1, t2, t3, t4, t5, t6⟩ := id t
  have t4 : isS h (B + 1 + 1) L := t4
  have t5 : isN h (B + 1 + 3) N := t5
  have t6 : isP h (B + 1 + 5) P := t6
  have hl6 : L.length ≤ 6 := t4.2.1.2.2.2.1
  have hp6 : P.length ≤ 6 := t6.1.2.2.2.2.1
  by_cases hc : P.length = 0
  · have e : aUndo ((L, N, P), im, tx, fr, rf) = (.int (-3), bdU ((L, N, P), im, tx, fr, rf) 1) := by simp only [aUndo, hc, if_true]
    rw [e] at k
    simp only [s_X8_undo_0, s_X8_undo_1, s_X8_undo_4, s_X8_undo_7, s_X8_undo_10, s_X8_undo_13, s_X8_undo_14, s_X8_undo_17, s_X8_undo_18, s_X8_undo_19, s_X8_undo_22, s_X8_undo_25, s_X8_undo_26, s_X8_undo_29, s_X8_undo_32, s_X8_undo_35, s_X8_undo_36, s_X8_undo_39, s_X8_undo_42, s_X8_undo_45, o.1, o.2.1, t0, t3, t6.1.1, q_psize t6.1, zI_0, Bool.true_eq_false, Bool.false_eq_true, not_true_eq_false, not_false_eq_true, if_true, if_false, KV_ap, KU_ap, dropL_nil, eq0 (show P.length < 2147483648 by omega), hc]
    exact q_no hX (fun h' hX' hf => by simp only [KV_ap, s_X8_undo_0, s_X8_undo_1, s_X8_undo_4, s_X8_undo_7, s_X8_undo_10, s_X8_undo_13, s_X8_undo_14, s_X8_undo_17, s_X8_undo_18, s_X8_undo_19, s_X8_undo_22, s_X8_undo_25, s_X8_undo_26, s_X8_undo_29, s_X8_undo_32, s_X8_undo_35, s_X8_undo_36, s_X8_undo_39, s_X8_undo_42, s_X8_undo_45]; exact k h' hX' hf)
  · have e : aUndo ((L, N, P), im, tx, fr, rf) = (.int (nI (gP P (P.length - 1)).length), ((gP P (P.length - 1), N, P.dropLast), im, tx, fr, rf)) := by simp only [aUndo, hc, if_false]
    rw [e] at k
    obtain ⟨pz, pr, pv, pl⟩ := t6.2 (P.length - 1) (by omega)
    simp only [s_X8_undo_0, s_X8_undo_1, s_X8_undo_4, s_X8_undo_7, s_X8_undo_10, s_X8_undo_13, s_X8_undo_14, s_X8_undo_17, s_X8_undo_18, s_X8_undo_19, s_X8_undo_22, s_X8_undo_25, s_X8_undo_26, s_X8_undo_29, s_X8_undo_32, s_X8_undo_35, s_X8_undo_45, o.1, o.2.1, t0, t1, t3, t6.1.1, q_psize t6.1, zI_0, Bool.true_eq_false, Bool.false_eq_true, not_true_eq_false, not_false_eq_true, if_true, if_false, KV_ap, KU_ap, dropL_nil, eq0 (show P.length < 2147483648 by omega), hc, q_giveBack t6.1 (show 0 < P.length by omega) (show B + 1 + 1 ≠ B + 1 + 5 by omega) (show B + 1 + 1 + 1 ≠ B + 1 + 5 + 2 by omega) t4.1 t4.2.1.2.1 t4.2.1.2.2.2.2, pz]
    have f : frm h _ (B + 1) (B + 9) := frm_pF (a := B + 1 + 1) (j := 1) (v := .int (nI (gP P (P.length - 1)).length)) (by omega) (by omega) (frm_pI (a := B + 1 + 1 + 1) (f := va_cpy (hI h (B + 1 + 5 + 1)) (hI h (B + 1 + 1 + 1)) ((P.length - 1) * 24) 0 24) (by omega) (by omega) (frm_pF (a := B + 1 + 5) (j := 2) (v := .int (nI (P.length - 1))) (by omega) (by omega) (frm_rfl h _ _)))
    have o1 := f.1 B (by omega)
    have w : isS (pF (pI (pF h (B + 1 + 5) 2 (.int (nI (P.length - 1)))) (B + 1 + 1 + 1) (va_cpy (hI h (B + 1 + 5 + 1)) (hI h (B + 1 + 1 + 1)) ((P.length - 1) * 24) 0 24)) (B + 1 + 1) 1 (.int (nI (gP P (P.length - 1)).length))) (B + 1 + 1) (gP P (P.length - 1)) := by
      refine ⟨t4.1, isR_sz pl (isR_pI (isR_pF (by omega) t4.2.1)), ?_, pv⟩
      rw [hI_pF, hI_pIs]
      refine sR_congr pl (fun x hx => ?_) pr
      show (if 0 ≤ x ∧ x < 0 + 24 then hI h (B + 1 + 5 + 1) ((P.length - 1) * 24 + (x - 0)) else _) = _
      rw [if_pos (by omega)]; congr 1
    have w6 : isP (pF (pI (pF h (B + 1 + 5) 2 (.int (nI (P.length - 1)))) (B + 1 + 1 + 1) (va_cpy (hI h (B + 1 + 5 + 1)) (hI h (B + 1 + 1 + 1)) ((P.length - 1) * 24) 0 24)) (B + 1 + 1) 1 (.int (nI (gP P (P.length - 1)).length))) (B + 1 + 5) P.dropLast := by
      obtain ⟨⟨ps, h0, h1, h2, hd, hf, hz⟩, hq⟩ := t6
      refine ⟨⟨ps, ?_, ?_, ?_, by rw [List.length_dropLast]; omega, hf, hz⟩, ?_⟩
      · rw [hF_pF, if_neg (by omega), hF_pI, hF_pF, if_neg (by omega)]; exact h0
      · rw [hF_pF, if_neg (by omega), hF_pI, hF_pF, if_neg (by omega)]; exact h1
      · rw [hF_pF, if_neg (by omega), hF_pI, hF_pF, if_pos ⟨rfl, rfl⟩, List.length_dropLast]
      · rw [hI_pF, hI_pI, if_neg (by omega), hI_pF, hI_pF, hI_pI, if_neg (by omega), hI_pF]
        intro j hj
        rw [List.length_dropLast] at hj
        rw [gP_dl P j hj]
        exact hq j (by omega)
    have p1 : agr h (pF (pI (pF h (B + 1 + 5) 2 (.int (nI (P.length - 1)))) (B + 1 + 1 + 1) (va_cpy (hI h (B + 1 + 5 + 1)) (hI h (B + 1 + 1 + 1)) ((P.length - 1) * 24) 0 24)) (B + 1 + 1) 1 (.int (nI (gP P (P.length - 1)).length))) (B + 1) := agr_pF (by omega) (agr_pI (by omega) (agr_pF (by omega) (agr_rfl h _)))
    have w5 : isN (pF (pI (pF h (B + 1 + 5) 2 (.int (nI (P.length - 1)))) (B + 1 + 1 + 1) (va_cpy (hI h (B + 1 + 5 + 1)) (hI h (B + 1 + 1 + 1)) ((P.length - 1) * 24) 0 24)) (B + 1 + 1) 1 (.int (nI (gP P (P.length - 1)).length))) (B + 1 + 3) N := isN_agr (fun x a b => agr_pF (by omega) (agr_pI (by omega) (agr_pF (by omega) (agr_rfl h _)))) t5
    generalize pF (pI (pF h (B + 1 + 5) 2 (.int (nI (P.length - 1)))) (B + 1 + 1 + 1) (va_cpy (hI h (B + 1 + 5 + 1)) (hI h (B + 1 + 1 + 1)) ((P.length - 1) * 24) 0 24)) (B + 1 + 1) 1 (.int (nI (gP P (P.length - 1)).length)) = m1 at f o1 w w6 p1 w5
    simp only [s_X8_undo_0, s_X8_undo_1, s_X8_undo_4, s_X8_undo_7, s_X8_undo_10, s_X8_undo_13, s_X8_undo_14, s_X8_undo_17, s_X8_undo_18, s_X8_undo_19, s_X8_undo_22, s_X8_undo_25, s_X8_undo_26, s_X8_undo_29, s_X8_undo_32, s_X8_undo_35, s_X8_undo_36, s_X8_undo_39, s_X8_undo_42, s_X8_undo_45, o1.1, o1.2.1, o.1, o.2.1, p1.1, p1.2.1, t0, t1, w.1, q_size w.2.1, zI_0, Bool.true_eq_false, Bool.false_eq_true, not_true_eq_false, not_false_eq_true, if_true, if_false, KV_ap, KU_ap, dropL_nil]
    exact k _ (isX_T hX f (isT_mk t p1 w w5 w6)) (frX_of (by omega) (by omega) f)

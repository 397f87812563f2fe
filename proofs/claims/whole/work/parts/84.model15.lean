/-! The model's calls: a town anew, stick -/
theorem isM_T {h h' : HP} {M : Nat} {T T' : TW} {r : (Nat → Option TW) × List Nat × (Int64 × Int64) × (Nat → Int32)} (hM : isM h M (T, r)) (eS : ∀ x, hS h' x = hS h x) (eF : ∀ j, j ≠ 1 → j ≠ 2 → j ≠ 18 → hF h' M j = hF h M j) (eI : ∀ x, x = 1 ∨ x = 10 ∨ x = 17 ∨ x = 18 → hI h' (M + x) = hI h (M + x)) (f1 : hF h' M 1 = .int (nI T'.1.length)) (f2 : hF h' M 2 = .int (nI T'.2.1.length)) (f18 : hF h' M 18 = .int (nI T'.2.2.length)) (v : vT T') (c : cl4 (hI h' (M + 2)) (hI h' (M + 3)) (hI h' (M + 4)) (hI h' (M + 5)) T'.1) (d : cl4 (hI h' (M + 6)) (hI h' (M + 7)) (hI h' (M + 8)) (hI h' (M + 9)) T'.2.1) (p : mP (hI h' (M + 12)) T'.2.2) : isM h' M (T', r) := by
  obtain ⟨s, sh, ⟨g1, g2, g12, g18, g22, g23⟩, v', c', d', p', t, rr, i0, i1⟩ := hM
  have e := fun j h1 h2 h3 => eF j h1 h2 h3
  refine ⟨?_, ?_, ⟨f1, f2, ?_, f18, ?_, ?_⟩, v, c, d, p, ⟨t.1, ?_⟩, ?_, ?_, ?_⟩
  · unfold sM
    rw [eS]
    rw [e 0 (by decide) (by decide) (by decide), e 3 (by decide) (by decide) (by decide), e 4 (by decide) (by decide) (by decide), e 5 (by decide) (by decide) (by decide), e 6 (by decide) (by decide) (by decide), e 7 (by decide) (by decide) (by decide), e 8 (by decide) (by decide) (by decide), e 9 (by decide) (by decide) (by decide), e 10 (by decide) (by decide) (by decide), e 11 (by decide) (by decide) (by decide), e 15 (by decide) (by decide) (by decide), e 17 (by decide) (by decide) (by decide), e 19 (by decide) (by decide) (by decide), e 20 (by decide) (by decide) (by decide), e 21 (by decide) (by decide) (by decide), e 24 (by decide) (by decide) (by decide), e 25 (by decide) (by decide) (by decide), e 26 (by decide) (by decide) (by decide)]
    exact s
  · unfold shM
    simp only [eS]
    exact sh
  · rw [e 12 (by decide) (by decide) (by decide)]; exact g12
  · rw [e 22 (by decide) (by decide) (by decide)]; exact g22
  · rw [e 23 (by decide) (by decide) (by decide)]; exact g23
  · rw [eI 10 (by decide)]; exact t.2
  · rw [eI 1 (by decide)]; exact rr
  · rw [eI 18 (by decide)]; exact i0
  · rw [eI 18 (by decide), eI 17 (by decide)]; exact i1
theorem cl4_app {f0 f1 f2 f3 : Nat → Int32} {L : List St} (s : St) (c : cl4 f0 f1 f2 f3 L) : cl4 (upd f0 L.length (nI s.1)) (upd f1 L.length (nI s.2.1)) (upd f2 L.length (nI s.2.2.1)) (upd f3 L.length (nI s.2.2.2)) (L ++ [s]) := by
  intro j hj
  rw [List.length_append, List.length_singleton] at hj
  rw [gS_app L s j hj]
  unfold upd
  by_cases e : j = L.length
  · simp only [if_pos e, and_self]
  · simp only [if_neg e]
    exact c j (by omega)
theorem cl4_nil {f0 f1 f2 f3 : Nat → Int32} : cl4 f0 f1 f2 f3 [] := fun j hj => absurd hj (Nat.not_lt_zero j)
theorem mP_nil {f : Nat → Int32} : mP f [] := fun j hj => absurd hj (Nat.not_lt_zero j)
theorem vL_app {L : List St} {s : St} (v : vL L) (hs : vS s) : vL (L ++ [s]) := by
  intro j hj
  rw [List.length_append, List.length_singleton] at hj
  rw [gS_app L s j hj]
  split
  · exact hs
  · exact v j (by omega)
section M15
variable {g : GL} {h : HP} {Φ : Value → HP → Prop} {M : Nat}
theorem p_addStick {L N P r} (hM : isM h M ((L, N, P), r)) (hl : L.length < 6) {s : St} (hs : vS s) (k : ∀ h', isM h' M ((L ++ [s], N, []), r) → frm h h' M (M + 19) → (∀ x, hI h' (M + 11) x = hI h (M + 11) x) → (∀ j, j ≠ 1 → j ≠ 18 → hF h' M j = hF h M j) → Φ (.int (nI L.length)) h') : J g k_X9_addStick 0 [.ref M, .int (nI s.1), .int (nI s.2.1), .int (nI s.2.2.1), .int (nI s.2.2.2)] [] [] h Φ := by
  have hM' := hM
  obtain ⟨s0, sh, ⟨f1, f2, f12, f18, f22, f23⟩, vt, c, d, p, t, rr, i0, i1⟩ := hM
  have l6 : L.length < 2147483648 := by omega
  have hin : m_inb (nI L.length) 6 = true := by rw [inb_nI l6]; simpa using hl
  have g1 : ∀ (h : HP) v, hF (pF h M 1 v) M 1 = v := fun h v => by rw [hF_pF, if_pos ⟨rfl, rfl⟩]
  have g1' : ∀ (h : HP) v, hF (pF h M 18 v) M 1 = hF h M 1 := fun h v => by rw [hF_pF, if_neg (by omega)]
  have q2 := sh.2.1 2 (by decide) (by decide)
  have q3 := sh.2.1 3 (by decide) (by decide)
  have q4 := sh.2.1 4 (by decide) (by decide)
  have q5 := sh.2.1 5 (by decide) (by decide)
  have f1' : hF h M 1 = .int (nI L.length) := f1
  simp only [s_X9_addStick_0, s_X9_addStick_1, s_X9_addStick_4, s_X9_addStick_5, s_X9_addStick_8, s_X9_addStick_9, s_X9_addStick_10, s_X9_addStick_11, s_X9_addStick_14, s_X9_addStick_15, s_X9_addStick_18, s_X9_addStick_19, s_X9_addStick_20, s_X9_addStick_21, s_X9_addStick_24, s_X9_addStick_25, s_X9_addStick_28, s_X9_addStick_29, s_X9_addStick_30, s_X9_addStick_31, s_X9_addStick_34, s_X9_addStick_35, s_X9_addStick_38, s_X9_addStick_40, s_X9_addStick_41, s_X9_addStick_42, s_X9_addStick_43, s_X9_addStick_46, s_X9_addStick_47, s_X9_addStick_48, s_X9_addStick_51, s_X9_addStick_52, s_X9_addStick_53, s_X9_addStick_56, s_X9_addStick_57, s_X9_addStick_60, s_X9_addStick_61, s_X9_addStick_62, zI_0, Bool.true_eq_false, Bool.false_eq_true, not_true_eq_false, not_false_eq_true, if_true, if_false, KV_ap, KU_ap, dropL_nil, hS_pF, hS_pI, hF_pI, g1, g1', s0.1, s0.2.2.1, s0.2.2.2.1, s0.2.2.2.2.1, s0.2.2.2.2.2.1, f1', q2, q3, q4, q5, hin, cl_nI l6, a1]
  rw [s1 (by omega), Nat.add_sub_cancel]
  refine k _ ?_ ?_ ?_ ?_
  · refine isM_T hM' (fun x => rfl) ?_ ?_ ?_ ?_ ?_ ?_ ?_ ?_ ?_
    · intro j h1 h2 h3
      rw [hF_pF, if_neg (by omega), hF_pF, if_neg (by omega)]
      rfl
    · intro x hx
      simp only [hI_pF, hI_pI, Nat.add_left_cancel_iff]
      rw [if_neg (by omega), if_neg (by omega), if_neg (by omega), if_neg (by omega)]
    · rw [hF_pF, if_neg (by omega), hF_pF, if_pos ⟨rfl, rfl⟩]
      show _ = Value.int (nI (L ++ [s]).length)
      rw [List.length_append, List.length_singleton]
    · rw [hF_pF, if_neg (by omega), hF_pF, if_neg (by omega)]
      exact f2
    · rw [hF_pF, if_pos ⟨rfl, rfl⟩]; rfl
    · refine ⟨?_, vt.2.1, Nat.zero_le _, vL_app vt.2.2.2.1 hs, vt.2.2.2.2⟩
      show (L ++ [s]).length ≤ 6
      rw [List.length_append, List.length_singleton]; omega
    · have := cl4_app s c
      simp only [hI_pF, hI_pI, Nat.add_left_cancel_iff, Nat.reduceEqDiff, if_false, if_true]
      exact this
    · simp only [hI_pF, hI_pI, Nat.add_left_cancel_iff, Nat.reduceEqDiff, if_false, if_true]
      exact d
    · exact mP_nil
  · exact frm_pF (by omega) (by omega) (frm_pF (by omega) (by omega) (frm_pI (by omega) (by omega) (frm_pI (by omega) (by omega) (frm_pI (by omega) (by omega) (frm_pI (by omega) (by omega) (frm_rfl h _ _))))))
  · intro x
    simp only [hI_pF, hI_pI, Nat.add_left_cancel_iff, Nat.reduceEqDiff, if_false, if_true]
  · intro j h1 h2
    rw [hF_pF, if_neg (by omega), hF_pF, if_neg (by omega)]
    rfl
end M15
theorem lt6 (v : Int32) : (v < 6) = (v ≤ 5) := by
  rw [Int32.lt_iff_toInt_lt, Int32.le_iff_toInt_le]
  show (v.toInt < 6) = (v.toInt ≤ 5)
  apply propext
  omega
theorem m_stick (v0 v1 v2 : Int32) : cM k_X9_stick [.int v0, .int v1, .int v2] (aStick v0 v1 v2) := by
  intro g h M u Φ hM k
  have hM' := hM
  obtain ⟨⟨L, N, P⟩, im, tx, fr, rf⟩ := u
  obtain ⟨s, sh, ⟨f1, f2, f12, f18, f22, f23⟩, vt, c, d, p, t, r, i0, i1⟩ := hM
  have f1' : hF h M 1 = .int (nI L.length) := f1
  have hl6 : L.length ≤ 6 := vt.1
  have hbad : (decide (0 ≤ v0 ∧ v0 < 6) && nmI v1 && decide (1 ≤ v2 ∧ v2 ≤ 9)) = false → aStick v0 v1 v2 ((L, N, P), im, tx, fr, rf) = (.int (-2), bdU ((L, N, P), im, tx, fr, rf) 0) := fun z => by rw [aStick, z]; rfl
  have e6 : decide (0 ≤ v0 ∧ v0 ≤ 5) = decide (0 ≤ v0 ∧ v0 < 6) := by simp only [lt6]
  have q6 : (nI L.length = 6) = (L.length = 6) := eq_nI (show L.length < 2147483648 by omega) (show 6 < 2147483648 by decide)
  cases g1 : decide (0 ≤ v0 ∧ v0 < 6)
  · rw [hbad (by simp only [g1, Bool.false_and])] at k
    simp only [s_X9_stick_0, s_X9_stick_1, s_X9_stick_2, s_X9_stick_3, s_X9_stick_6, s_X9_stick_9, s_X9_stick_10, s_X9_stick_13, s_X9_stick_16, s_X9_stick_17, s_X9_stick_18, s_X9_stick_20, s_X9_stick_23, s_X9_stick_26, s_X9_stick_27, s_X9_stick_30, s_X9_stick_31, s_X9_stick_32, s_X9_stick_35, s_X9_stick_37, s_X9_stick_40, s_X9_stick_41, s_X9_stick_44, s_X9_stick_47, s_X9_stick_48, s_X9_stick_49, s_X9_stick_50, s_X9_stick_51, s_X9_stick_52, s_X9_stick_55, p_in, e6, zI_0, Bool.true_eq_false, Bool.false_eq_true, not_true_eq_false, not_false_eq_true, if_true, if_false, KV_ap, KU_ap, dropL_nil, g1, s.1]
    exact p_bad hM' (fun h' hM' hf => by simp only [KV_ap, s_X9_stick_0, s_X9_stick_1, s_X9_stick_2, s_X9_stick_3, s_X9_stick_6, s_X9_stick_9, s_X9_stick_10, s_X9_stick_13, s_X9_stick_16, s_X9_stick_17, s_X9_stick_18, s_X9_stick_20, s_X9_stick_23, s_X9_stick_26, s_X9_stick_27, s_X9_stick_30, s_X9_stick_31, s_X9_stick_32, s_X9_stick_35, s_X9_stick_37, s_X9_stick_40, s_X9_stick_41, s_X9_stick_44, s_X9_stick_47, s_X9_stick_48, s_X9_stick_49, s_X9_stick_50, s_X9_stick_51, s_X9_stick_52, s_X9_stick_55]; exact k h' hM' hf)
  · cases g2 : nmI v1
    · rw [hbad (by simp only [g1, g2, Bool.and_false, Bool.false_and])] at k
      simp only [s_X9_stick_0, s_X9_stick_1, s_X9_stick_2, s_X9_stick_3, s_X9_stick_6, s_X9_stick_9, s_X9_stick_10, s_X9_stick_13, s_X9_stick_16, s_X9_stick_17, s_X9_stick_18, s_X9_stick_20, s_X9_stick_23, s_X9_stick_26, s_X9_stick_27, s_X9_stick_30, s_X9_stick_31, s_X9_stick_32, s_X9_stick_35, s_X9_stick_37, s_X9_stick_40, s_X9_stick_41, s_X9_stick_44, s_X9_stick_47, s_X9_stick_48, s_X9_stick_49, s_X9_stick_50, s_X9_stick_51, s_X9_stick_52, s_X9_stick_55, p_in, e6, p_isName, zI_0, Bool.true_eq_false, Bool.false_eq_true, not_true_eq_false, not_false_eq_true, if_true, if_false, KV_ap, KU_ap, dropL_nil, g1, g2, s.1]
      exact p_bad hM' (fun h' hM' hf => by simp only [KV_ap, s_X9_stick_0, s_X9_stick_1, s_X9_stick_2, s_X9_stick_3, s_X9_stick_6, s_X9_stick_9, s_X9_stick_10, s_X9_stick_13, s_X9_stick_16, s_X9_stick_17, s_X9_stick_18, s_X9_stick_20, s_X9_stick_23, s_X9_stick_26, s_X9_stick_27, s_X9_stick_30, s_X9_stick_31, s_X9_stick_32, s_X9_stick_35, s_X9_stick_37, s_X9_stick_40, s_X9_stick_41, s_X9_stick_44, s_X9_stick_47, s_X9_stick_48, s_X9_stick_49, s_X9_stick_50, s_X9_stick_51, s_X9_stick_52, s_X9_stick_55]; exact k h' hM' hf)
    · cases g3 : decide (1 ≤ v2 ∧ v2 ≤ 9)
      · rw [hbad (by simp only [g1, g2, g3, Bool.and_false])] at k
        simp only [s_X9_stick_0, s_X9_stick_1, s_X9_stick_2, s_X9_stick_3, s_X9_stick_6, s_X9_stick_9, s_X9_stick_10, s_X9_stick_13, s_X9_stick_16, s_X9_stick_17, s_X9_stick_18, s_X9_stick_20, s_X9_stick_23, s_X9_stick_26, s_X9_stick_27, s_X9_stick_30, s_X9_stick_31, s_X9_stick_32, s_X9_stick_35, s_X9_stick_37, s_X9_stick_40, s_X9_stick_41, s_X9_stick_44, s_X9_stick_47, s_X9_stick_48, s_X9_stick_49, s_X9_stick_50, s_X9_stick_51, s_X9_stick_52, s_X9_stick_55, p_in, e6, p_isName, zI_0, Bool.true_eq_false, Bool.false_eq_true, not_true_eq_false, not_false_eq_true, if_true, if_false, KV_ap, KU_ap, dropL_nil, g1, g2, g3, s.1]
        exact p_bad hM' (fun h' hM' hf => by simp only [KV_ap, s_X9_stick_0, s_X9_stick_1, s_X9_stick_2, s_X9_stick_3, s_X9_stick_6, s_X9_stick_9, s_X9_stick_10, s_X9_stick_13, s_X9_stick_16, s_X9_stick_17, s_X9_stick_18, s_X9_stick_20, s_X9_stick_23, s_X9_stick_26, s_X9_stick_27, s_X9_stick_30, s_X9_stick_31, s_X9_stick_32, s_X9_stick_35, s_X9_stick_37, s_X9_stick_40, s_X9_stick_41, s_X9_stick_44, s_X9_stick_47, s_X9_stick_48, s_X9_stick_49, s_X9_stick_50, s_X9_stick_51, s_X9_stick_52, s_X9_stick_55]; exact k h' hM' hf)
      · by_cases hl : L.length = 6
        · have e : aStick v0 v1 v2 ((L, N, P), im, tx, fr, rf) = (.int (-4), bdU ((L, N, P), im, tx, fr, rf) 2) := by
            simp only [aStick, g1, g2, g3, Bool.and_self, if_true, hl]
          rw [e] at k
          simp only [s_X9_stick_0, s_X9_stick_1, s_X9_stick_2, s_X9_stick_3, s_X9_stick_6, s_X9_stick_9, s_X9_stick_10, s_X9_stick_13, s_X9_stick_16, s_X9_stick_17, s_X9_stick_18, s_X9_stick_20, s_X9_stick_23, s_X9_stick_26, s_X9_stick_27, s_X9_stick_30, s_X9_stick_31, s_X9_stick_32, s_X9_stick_35, s_X9_stick_37, s_X9_stick_40, s_X9_stick_41, s_X9_stick_44, s_X9_stick_47, s_X9_stick_48, s_X9_stick_49, s_X9_stick_50, s_X9_stick_51, s_X9_stick_52, s_X9_stick_55, p_in, e6, p_isName, zI_0, Bool.true_eq_false, Bool.false_eq_true, not_true_eq_false, not_false_eq_true, if_true, if_false, KV_ap, KU_ap, dropL_nil, g1, g2, g3, s.1, f1', q6, hl]
          exact p_full hM' (fun h' hM' hf => by simp only [KV_ap, s_X9_stick_0, s_X9_stick_1, s_X9_stick_2, s_X9_stick_3, s_X9_stick_6, s_X9_stick_9, s_X9_stick_10, s_X9_stick_13, s_X9_stick_16, s_X9_stick_17, s_X9_stick_18, s_X9_stick_20, s_X9_stick_23, s_X9_stick_26, s_X9_stick_27, s_X9_stick_30, s_X9_stick_31, s_X9_stick_32, s_X9_stick_35, s_X9_stick_37, s_X9_stick_40, s_X9_stick_41, s_X9_stick_44, s_X9_stick_47, s_X9_stick_48, s_X9_stick_49, s_X9_stick_50, s_X9_stick_51, s_X9_stick_52, s_X9_stick_55]; exact k h' hM' hf)
        · obtain ⟨j0, e0, l0'⟩ := hs_ex (n := 6) (by decide) g1
          obtain ⟨j1, e1, l1'⟩ := nm_ex g2
          obtain ⟨j2, e2, l2'⟩ := wi_ex (a := 1) (b := 9) (by decide) (by decide) g3
          have e : aStick v0 v1 v2 ((L, N, P), im, tx, fr, rf) = (.int (nI L.length), ((L ++ [(j0, j1, j2, 0)], N, []), im, tx, fr, rf)) := by
            simp only [aStick, g1, g2, g3, Bool.and_self, if_true]
            rw [if_neg hl, e0, e1, e2, cl_nI (by omega), cl_nI (by have := nm1 l1'; omega), cl_nI (by omega)]
          rw [e] at k
          simp only [s_X9_stick_0, s_X9_stick_1, s_X9_stick_2, s_X9_stick_3, s_X9_stick_6, s_X9_stick_9, s_X9_stick_10, s_X9_stick_13, s_X9_stick_16, s_X9_stick_17, s_X9_stick_18, s_X9_stick_20, s_X9_stick_23, s_X9_stick_26, s_X9_stick_27, s_X9_stick_30, s_X9_stick_31, s_X9_stick_32, s_X9_stick_35, s_X9_stick_37, s_X9_stick_40, s_X9_stick_41, s_X9_stick_44, s_X9_stick_47, s_X9_stick_48, s_X9_stick_49, s_X9_stick_50, s_X9_stick_51, s_X9_stick_52, s_X9_stick_55, p_in, e6, p_isName, zI_0, Bool.true_eq_false, Bool.false_eq_true, not_true_eq_false, not_false_eq_true, if_true, if_false, KV_ap, KU_ap, dropL_nil, g1, g2, g3, s.1, f1', q6, hl]
          rw [e0, e1, e2]
          exact p_addStick hM' (show L.length < 6 by omega) (s := (j0, j1, j2, 0)) ⟨l0', l1', l2', Nat.zero_le 9⟩ (fun h' hM2 hf _ _ => by simp only [KV_ap, s_X9_stick_0, s_X9_stick_1, s_X9_stick_2, s_X9_stick_3, s_X9_stick_6, s_X9_stick_9, s_X9_stick_10, s_X9_stick_13, s_X9_stick_16, s_X9_stick_17, s_X9_stick_18, s_X9_stick_20, s_X9_stick_23, s_X9_stick_26, s_X9_stick_27, s_X9_stick_30, s_X9_stick_31, s_X9_stick_32, s_X9_stick_35, s_X9_stick_37, s_X9_stick_40, s_X9_stick_41, s_X9_stick_44, s_X9_stick_47, s_X9_stick_48, s_X9_stick_49, s_X9_stick_50, s_X9_stick_51, s_X9_stick_52, s_X9_stick_55]; exact k h' hM2 hf)

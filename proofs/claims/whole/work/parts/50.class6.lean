/-! The class's calls, sixth part -/
def aStatus (v : Int32) (u : XS) : Value × XS := if decide (0 ≤ v ∧ v < 3) = true then (.int (u.2.2.2.2 v.toNatClampNeg), u) else (.int (-1), bdU u 0)
theorem x_status (v : Int32) : cX k_X8_status [.int v] (aStatus v) := by
  intro g h B u Φ hX k
  obtain ⟨⟨L, N, P⟩, im, tx, fr, rf⟩ := u
  have o := hX.1
  have t := hX.2.1
  obtain ⟨t0, t1, t2, t3, t4, t5, t6⟩ := id t
  have t4 : isS h (B + 1 + 1) L := t4
  have t5 : isN h (B + 1 + 3) N := t5
  have t6 : isP h (B + 1 + 5) P := t6
  have hl6 : L.length ≤ 6 := t4.2.1.2.2.2.1
  cases g1 : decide (0 ≤ v ∧ v < 3)
  · have e : aStatus v ((L, N, P), im, tx, fr, rf) = (.int (-1), bdU ((L, N, P), im, tx, fr, rf) 0) := by simp only [aStatus, g1, Bool.false_eq_true, if_false]
    rw [e] at k
    simp only [s_X8_status_0, s_X8_status_1, s_X8_status_2, s_X8_status_5, s_X8_status_8, s_X8_status_9, s_X8_status_12, s_X8_status_13, s_X8_status_14, s_X8_status_15, s_X8_status_16, s_X8_status_19, s_X8_status_20, s_X8_status_21, o.1, q_isBelow, zI_0, Bool.true_eq_false, Bool.false_eq_true, not_true_eq_false, not_false_eq_true, if_true, if_false, KV_ap, KU_ap, dropL_nil, g1]
    exact q_bad hX (fun h' hX' hf => by simp only [KV_ap, s_X8_status_0, s_X8_status_1, s_X8_status_2, s_X8_status_5, s_X8_status_8, s_X8_status_9, s_X8_status_12, s_X8_status_13, s_X8_status_14, s_X8_status_15, s_X8_status_16, s_X8_status_19, s_X8_status_20, s_X8_status_21]; exact k h' hX' hf)
  · obtain ⟨j, ej, hj⟩ := hs_ex (n := 3) (by decide) g1
    have e : aStatus v ((L, N, P), im, tx, fr, rf) = (.int (rf j), ((L, N, P), im, tx, fr, rf)) := by
      simp only [aStatus, g1, if_true]
      rw [ej, cl_nI (show j < 2147483648 by omega)]
    rw [e] at k
    subst ej
    have r := hX.2.2.2.2.2.1
    have hi : m_inb (nI j) 3 = true := by rw [inb_nI (by omega)]; simpa using hj
    simp only [s_X8_status_0, s_X8_status_1, s_X8_status_2, s_X8_status_5, s_X8_status_8, s_X8_status_9, s_X8_status_12, s_X8_status_13, s_X8_status_14, s_X8_status_15, s_X8_status_16, s_X8_status_19, s_X8_status_20, s_X8_status_21, o.1, o.2.2.2.2.2.1, q_isBelow, zI_0, Bool.true_eq_false, Bool.false_eq_true, not_true_eq_false, not_false_eq_true, if_true, if_false, KV_ap, KU_ap, dropL_nil, g1, r.1, hi, cl_nI (show j < 2147483648 by omega), r.2 j hj]
    exact k h hX (frX_rfl h B)
def aPart (v : Int32) (u : XS) : Value × XS := if decide (0 ≤ v ∧ v < 2) = true then (.long (if v = 0 then u.2.2.2.1.1 else u.2.2.2.1.2), u) else (.long (-2 : Int32).toInt64, bdU u 0)
theorem x_part (v : Int32) : cX k_X8_part [.int v] (aPart v) := by
  intro g h B u Φ hX k
  obtain ⟨⟨L, N, P⟩, im, tx, fr, rf⟩ := u
  have o := hX.1
  have t := hX.2.1
  obtain ⟨t0, t1, t2, t3, t4, t5, t6⟩ := id t
  have t4 : isS h (B + 1 + 1) L := t4
  have t5 : isN h (B + 1 + 3) N := t5
  have t6 : isP h (B + 1 + 5) P := t6
  have hl6 : L.length ≤ 6 := t4.2.1.2.2.2.1
  cases g1 : decide (0 ≤ v ∧ v < 2)
  · have e : aPart v ((L, N, P), im, tx, fr, rf) = (.long (-2 : Int32).toInt64, bdU ((L, N, P), im, tx, fr, rf) 0) := by simp only [aPart, g1, Bool.false_eq_true, if_false]
    rw [e] at k
    simp only [s_X8_part_0, s_X8_part_1, s_X8_part_2, s_X8_part_5, s_X8_part_8, s_X8_part_9, s_X8_part_12, s_X8_part_13, s_X8_part_14, s_X8_part_15, s_X8_part_18, s_X8_part_19, s_X8_part_22, s_X8_part_25, s_X8_part_26, s_X8_part_29, o.1, q_isBelow, zI_0, Bool.true_eq_false, Bool.false_eq_true, not_true_eq_false, not_false_eq_true, if_true, if_false, KV_ap, KU_ap, dropL_nil, g1]
    exact q_bad hX (fun h' hX' hf => by simp only [KV_ap, s_X8_part_0, s_X8_part_1, s_X8_part_2, s_X8_part_5, s_X8_part_8, s_X8_part_9, s_X8_part_12, s_X8_part_13, s_X8_part_14, s_X8_part_15, s_X8_part_18, s_X8_part_19, s_X8_part_22, s_X8_part_25, s_X8_part_26, s_X8_part_29]; exact k h' hX' hf)
  · have e : aPart v ((L, N, P), im, tx, fr, rf) = (.long (if v = 0 then fr.1 else fr.2), ((L, N, P), im, tx, fr, rf)) := by
      simp only [aPart, g1, if_true]
    rw [e] at k
    have k' := k h hX (frX_rfl h B)
    have o7 : hF h B 7 = .long fr.1 := o.2.2.2.2.2.2.2.2.1
    have o8 : hF h B 8 = .long fr.2 := o.2.2.2.2.2.2.2.2.2
    simp only [s_X8_part_0, s_X8_part_1, s_X8_part_2, s_X8_part_5, s_X8_part_8, s_X8_part_9, s_X8_part_12, s_X8_part_13, s_X8_part_14, s_X8_part_15, s_X8_part_18, s_X8_part_19, s_X8_part_22, s_X8_part_25, s_X8_part_26, s_X8_part_29, o.1, q_isBelow, zI_0, Bool.true_eq_false, Bool.false_eq_true, not_true_eq_false, not_false_eq_true, if_true, if_false, KV_ap, KU_ap, dropL_nil, g1, o7, o8]
    by_cases hv : v = 0
    · rw [if_neg (fun z => z hv)]
      simp only [hv, if_true] at k'
      exact k'
    · rw [if_pos hv]
      simp only [hv, if_false] at k'
      exact k'
def ltN (s : St) : Nat := it (fun x a => a + dg (rS s x)) s.2.2.1 0 0
def aLetters (v : Int32) (u : XS) : Value × XS := if decide (0 ≤ v ∧ v < nI u.1.1.length) = true then (.int (nI (ltN (gS u.1.1 v.toNatClampNeg))), u) else (.int (-2), bdU u 0)
theorem x_letters (v : Int32) : cX k_X8_letters [.int v, m_D, m_D, m_D] (aLetters v) := by
  intro g h B u Φ hX k
  obtain ⟨⟨L, N, P⟩, im, tx, fr, rf⟩ := u
  have o := hX.1
  have t := hX.2.1
  obtain ⟨t0, t1, t2, t3, t4, t5, t6⟩ := id t
  have t4 : isS h (B + 1 + 1) L := t4
  have t5 : isN h (B + 1 + 3) N := t5
  have t6 : isP h (B + 1 + 5) P := t6
  have hl6 : L.length ≤ 6 := t4.2.1.2.2.2.1
  cases g1 : decide (0 ≤ v ∧ v < nI L.length)
  · have e : aLetters v ((L, N, P), im, tx, fr, rf) = (.int (-2), bdU ((L, N, P), im, tx, fr, rf) 0) := by simp only [aLetters, g1, Bool.false_eq_true, if_false]
    rw [e] at k
    simp only [s_X8_letters_0, s_X8_letters_1, s_X8_letters_4, s_X8_letters_7, s_X8_letters_8, s_X8_letters_11, s_X8_letters_14, s_X8_letters_15, s_X8_letters_18, s_X8_letters_19, s_X8_letters_20, s_X8_letters_21, s_X8_letters_22, s_X8_letters_25, s_X8_letters_28, s_X8_letters_29, s_X8_letters_30, s_X8_letters_33, s_X8_letters_34, s_X8_letters_35, s_X8_letters_39, s_X8_letters_40, s_X8_letters_43, s_X8_letters_44, s_X8_letters_45, s_X8_letters_48, s_X8_letters_51, s_X8_letters_52, s_X8_letters_54, s_X8_letters_57, s_X8_letters_60, s_X8_letters_61, s_X8_letters_62, s_X8_letters_65, s_X8_letters_68, s_X8_letters_69, o.1, o.2.1, t0, t1, t4.1, q_has t4.2.1, zI_0, Bool.true_eq_false, Bool.false_eq_true, not_true_eq_false, not_false_eq_true, if_true, if_false, KV_ap, KU_ap, dropL_nil, g1]
    exact q_bad hX (fun h' hX' hf => by simp only [KV_ap, s_X8_letters_0, s_X8_letters_1, s_X8_letters_4, s_X8_letters_7, s_X8_letters_8, s_X8_letters_11, s_X8_letters_14, s_X8_letters_15, s_X8_letters_18, s_X8_letters_19, s_X8_letters_20, s_X8_letters_21, s_X8_letters_22, s_X8_letters_25, s_X8_letters_28, s_X8_letters_29, s_X8_letters_30, s_X8_letters_33, s_X8_letters_34, s_X8_letters_35, s_X8_letters_39, s_X8_letters_40, s_X8_letters_43, s_X8_letters_44, s_X8_letters_45, s_X8_letters_48, s_X8_letters_51, s_X8_letters_52, s_X8_letters_54, s_X8_letters_57, s_X8_letters_60, s_X8_letters_61, s_X8_letters_62, s_X8_letters_65, s_X8_letters_68, s_X8_letters_69]; exact k h' hX' hf)
  · obtain ⟨j, ej, hj⟩ := hs_ex (show L.length < 2147483648 by omega) g1
    have e : aLetters v ((L, N, P), im, tx, fr, rf) = (.int (nI (ltN (gS L j))), ((L, N, P), im, tx, fr, rf)) := by
      simp only [aLetters, g1, if_true]
      rw [ej, cl_nI (show j < 2147483648 by omega)]
    rw [e] at k
    subst ej
    obtain ⟨v1, v2, v3, v4⟩ := t4.2.2.2 j hj
    simp only [s_X8_letters_0, s_X8_letters_1, s_X8_letters_4, s_X8_letters_7, s_X8_letters_8, s_X8_letters_11, s_X8_letters_14, s_X8_letters_15, s_X8_letters_18, s_X8_letters_19, s_X8_letters_20, s_X8_letters_21, s_X8_letters_22, s_X8_letters_25, s_X8_letters_28, s_X8_letters_29, s_X8_letters_30, s_X8_letters_33, s_X8_letters_34, s_X8_letters_35, s_X8_letters_39, s_X8_letters_40, s_X8_letters_43, s_X8_letters_44, s_X8_letters_45, s_X8_letters_48, s_X8_letters_51, s_X8_letters_52, s_X8_letters_54, s_X8_letters_57, s_X8_letters_60, s_X8_letters_61, s_X8_letters_62, s_X8_letters_65, s_X8_letters_68, s_X8_letters_69, o.1, o.2.1, t0, t1, t4.1, q_has t4.2.1, zI_0, Bool.true_eq_false, Bool.false_eq_true, not_true_eq_false, not_false_eq_true, if_true, if_false, KV_ap, KU_ap, dropL_nil, g1, q_fact2 t4.2.1 (show j < 2147483648 by omega), fc2 t4 hj]
    have key := J_it0 (fun x a => J g k_X8_letters 37 [.ref B, .int (nI j), .int (nI a), .int (nI (gS L j).2.2.1), .int (nI x)] [] [] h Φ) (fun x a => a + dg (rS (gS L j) x)) (gS L j).2.2.1 (fun x a hx => by
      have hr := rS_lt t4.2.2.2 (x := x) hj (by omega)
      rw [s_X8_letters_37]
      simp only [s_X8_letters_0, s_X8_letters_1, s_X8_letters_4, s_X8_letters_7, s_X8_letters_8, s_X8_letters_11, s_X8_letters_14, s_X8_letters_15, s_X8_letters_18, s_X8_letters_19, s_X8_letters_20, s_X8_letters_21, s_X8_letters_22, s_X8_letters_25, s_X8_letters_28, s_X8_letters_29, s_X8_letters_30, s_X8_letters_33, s_X8_letters_34, s_X8_letters_35, s_X8_letters_39, s_X8_letters_40, s_X8_letters_43, s_X8_letters_44, s_X8_letters_45, s_X8_letters_48, s_X8_letters_51, s_X8_letters_52, s_X8_letters_54, s_X8_letters_57, s_X8_letters_60, s_X8_letters_61, s_X8_letters_62, s_X8_letters_65, s_X8_letters_68, s_X8_letters_69, o.1, o.2.1, t0, t1, t4.1, zI_0, Bool.true_eq_false, Bool.false_eq_true, not_true_eq_false, not_false_eq_true, if_true, if_false, KV_ap, KU_ap, dropL_nil, le_nI (show (gS L j).2.2.1 < 2147483648 by omega) (show x < 2147483648 by omega), if_neg (Nat.not_le.mpr hx), q_seenAt t4 hj (show x < 9 by omega), q_lettersIn (show rS (gS L j) x < 2147483648 by omega), i_add, a1]) 0
    rw [c0, key, s_X8_letters_37]
    simp only [s_X8_letters_0, s_X8_letters_1, s_X8_letters_4, s_X8_letters_7, s_X8_letters_8, s_X8_letters_11, s_X8_letters_14, s_X8_letters_15, s_X8_letters_18, s_X8_letters_19, s_X8_letters_20, s_X8_letters_21, s_X8_letters_22, s_X8_letters_25, s_X8_letters_28, s_X8_letters_29, s_X8_letters_30, s_X8_letters_33, s_X8_letters_34, s_X8_letters_35, s_X8_letters_39, s_X8_letters_40, s_X8_letters_43, s_X8_letters_44, s_X8_letters_45, s_X8_letters_48, s_X8_letters_51, s_X8_letters_52, s_X8_letters_54, s_X8_letters_57, s_X8_letters_60, s_X8_letters_61, s_X8_letters_62, s_X8_letters_65, s_X8_letters_68, s_X8_letters_69, le_nI (show (gS L j).2.2.1 < 2147483648 by omega) (show (gS L j).2.2.1 < 2147483648 by omega), Nat.le_refl, if_true]
    exact k h hX (frX_rfl h B)
theorem unN_le (L : List St) (x : Nat) : unN L x ≤ L.length := by
  unfold unN
  have : ∀ m i a, a ≤ i → it (fun i m => if (∀ j, j < i → ¬ rS (gS L j) x = rS (gS L i) x) then m + 1 else m) m i a ≤ i + m := by
    intro m
    induction m with
    | zero => intro i a h; exact h
    | succ m ih =>
      intro i a h
      rw [it]
      refine Nat.le_trans (ih (i + 1) _ ?_) (by omega)
      split <;> omega
  have := this L.length 0 0 (Nat.le_refl 0)
  omega
def tdN (L : List St) : Nat × Nat := it (fun x (q : Nat × Nat) => if q.2 < unN L x then (x, unN L x) else q) 9 0 (0, 0)
def aTold (v : Int32) (u : XS) : Value × XS := if decide (0 ≤ v ∧ v < 2) = true then (.int (if v = 0 then nI (tdN u.1.1).1 else nI (tdN u.1.1).2), u) else (.int (-2), bdU u 0)
theorem x_told (v : Int32) : cX k_X8_told [.int v, m_D, m_D, m_D, m_D] (aTold v) := by
  intro g h B u Φ hX k
  obtain ⟨⟨L, N, P⟩, im, tx, fr, rf⟩ := u
  have o := hX.1
  have t := hX.2.1
  obtain ⟨t0, t1, t2, t3, t4, t5, t6⟩ := id t
  have t4 : isS h (B + 1 + 1) L := t4
  have t5 : isN h (B + 1 + 3) N := t5
  have t6 : isP h (B + 1 + 5) P := t6
  have hl6 : L.length ≤ 6 := t4.2.1.2.2.2.1
  cases g1 : decide (0 ≤ v ∧ v < 2)
  · have e : aTold v ((L, N, P), im, tx, fr, rf) = (.int (-2), bdU ((L, N, P), im, tx, fr, rf) 0) := by simp only [aTold, g1, Bool.false_eq_true, if_false]
    rw [e] at k
    simp only [s_X8_told_0, s_X8_told_1, s_X8_told_2, s_X8_told_5, s_X8_told_8, s_X8_told_9, s_X8_told_12, s_X8_told_13, s_X8_told_14, s_X8_told_15, s_X8_told_16, s_X8_told_17, s_X8_told_18, s_X8_told_22, s_X8_told_24, s_X8_told_27, s_X8_told_28, s_X8_told_31, s_X8_told_34, s_X8_told_36, s_X8_told_39, s_X8_told_41, s_X8_told_43, s_X8_told_44, s_X8_told_47, s_X8_told_49, s_X8_told_50, s_X8_told_52, s_X8_told_53, s_X8_told_56, s_X8_told_59, s_X8_told_60, s_X8_told_63, s_X8_told_64, s_X8_told_67, s_X8_told_68, o.1, q_isBelow, zI_0, Bool.true_eq_false, Bool.false_eq_true, not_true_eq_false, not_false_eq_true, if_true, if_false, KV_ap, KU_ap, dropL_nil, g1]
    exact q_bad hX (fun h' hX' hf => by simp only [KV_ap, s_X8_told_0, s_X8_told_1, s_X8_told_2, s_X8_told_5, s_X8_told_8, s_X8_told_9, s_X8_told_12, s_X8_told_13, s_X8_told_14, s_X8_told_15, s_X8_told_16, s_X8_told_17, s_X8_told_18, s_X8_told_22, s_X8_told_24, s_X8_told_27, s_X8_told_28, s_X8_told_31, s_X8_told_34, s_X8_told_36, s_X8_told_39, s_X8_told_41, s_X8_told_43, s_X8_told_44, s_X8_told_47, s_X8_told_49, s_X8_told_50, s_X8_told_52, s_X8_told_53, s_X8_told_56, s_X8_told_59, s_X8_told_60, s_X8_told_63, s_X8_told_64, s_X8_told_67, s_X8_told_68]; exact k h' hX' hf)
  · have e : aTold v ((L, N, P), im, tx, fr, rf) = (.int (if v = 0 then nI (tdN L).1 else nI (tdN L).2), ((L, N, P), im, tx, fr, rf)) := by
      simp only [aTold, g1, if_true]
    rw [e] at k
    have k' := k h hX (frX_rfl h B)
    simp only [s_X8_told_0, s_X8_told_1, s_X8_told_2, s_X8_told_5, s_X8_told_8, s_X8_told_9, s_X8_told_12, s_X8_told_13, s_X8_told_14, s_X8_told_15, s_X8_told_16, s_X8_told_17, s_X8_told_18, s_X8_told_22, s_X8_told_24, s_X8_told_27, s_X8_told_28, s_X8_told_31, s_X8_told_34, s_X8_told_36, s_X8_told_39, s_X8_told_41, s_X8_told_43, s_X8_told_44, s_X8_told_47, s_X8_told_49, s_X8_told_50, s_X8_told_52, s_X8_told_53, s_X8_told_56, s_X8_told_59, s_X8_told_60, s_X8_told_63, s_X8_told_64, s_X8_told_67, s_X8_told_68, o.1, q_isBelow, zI_0, Bool.true_eq_false, Bool.false_eq_true, not_true_eq_false, not_false_eq_true, if_true, if_false, KV_ap, KU_ap, dropL_nil, g1]
    have key := J_it (fun x (q : (Nat × Nat) × Value) => J g k_X8_told 20 [.ref B, .int v, .int (nI q.1.1), .int (nI q.1.2), .int (nI x), q.2] [] [] h Φ) (fun x q => (if q.1.2 < unN L x then (x, unN L x) else q.1, .int (nI (unN L x)))) 9 (fun _ q => q.1.2 ≤ 6) (fun x q _ hq => by
      have := unN_le L x
      show (if q.1.2 < unN L x then (x, unN L x) else q.1).2 ≤ 6
      split
      · show unN L x ≤ 6; omega
      · exact hq) (fun x q hx hq => by
      have := unN_le L x
      rw [s_X8_told_20]
      simp only [s_X8_told_0, s_X8_told_1, s_X8_told_2, s_X8_told_5, s_X8_told_8, s_X8_told_9, s_X8_told_12, s_X8_told_13, s_X8_told_14, s_X8_told_15, s_X8_told_16, s_X8_told_17, s_X8_told_18, s_X8_told_22, s_X8_told_24, s_X8_told_27, s_X8_told_28, s_X8_told_31, s_X8_told_34, s_X8_told_36, s_X8_told_39, s_X8_told_41, s_X8_told_43, s_X8_told_44, s_X8_told_47, s_X8_told_49, s_X8_told_50, s_X8_told_52, s_X8_told_53, s_X8_told_56, s_X8_told_59, s_X8_told_60, s_X8_told_63, s_X8_told_64, s_X8_told_67, s_X8_told_68, o.1, o.2.1, t0, t1, t4.1, zI_0, Bool.true_eq_false, Bool.false_eq_true, not_true_eq_false, not_false_eq_true, if_true, if_false, KV_ap, KU_ap, dropL_nil, c9, le_nI (show 9 < 2147483648 by omega) (show x < 2147483648 by omega), if_neg (Nat.not_le.mpr hx), q_unlikeAt t4 hx, le_nI (show unN L x < 2147483648 by omega) (show q.1.2 < 2147483648 by omega), a1]
      by_cases hc : q.1.2 < unN L x
      · rw [if_neg (by omega), if_pos hc]
      · rw [if_pos (by omega), if_neg hc]) 9 0 ((0, 0), m_D) rfl (Nat.zero_le 6)
    rw [c0, key.1, s_X8_told_20]
    have e2 : ∀ m i (q : (Nat × Nat) × Value), (it (fun x (q : (Nat × Nat) × Value) => (if q.1.2 < unN L x then (x, unN L x) else q.1, Value.int (nI (unN L x)))) m i q).1 = it (fun x (q : Nat × Nat) => if q.2 < unN L x then (x, unN L x) else q) m i q.1 := by
      intro m
      induction m with
      | zero => intro i q; rfl
      | succ m ih => intro i q; rw [it, it, ih]
    simp only [s_X8_told_0, s_X8_told_1, s_X8_told_2, s_X8_told_5, s_X8_told_8, s_X8_told_9, s_X8_told_12, s_X8_told_13, s_X8_told_14, s_X8_told_15, s_X8_told_16, s_X8_told_17, s_X8_told_18, s_X8_told_22, s_X8_told_24, s_X8_told_27, s_X8_told_28, s_X8_told_31, s_X8_told_34, s_X8_told_36, s_X8_told_39, s_X8_told_41, s_X8_told_43, s_X8_told_44, s_X8_told_47, s_X8_told_49, s_X8_told_50, s_X8_told_52, s_X8_told_53, s_X8_told_56, s_X8_told_59, s_X8_told_60, s_X8_told_63, s_X8_told_64, s_X8_told_67, s_X8_told_68, c9, le_nI (show 9 < 2147483648 by decide) (show 9 < 2147483648 by decide), Nat.le_refl, if_true, e2, ← tdN.eq_1]
    by_cases hv : v = 0
    · rw [if_neg (fun z => z hv)]
      simp only [hv, if_true] at k'
      exact k'
    · rw [if_pos hv]
      simp only [hv, if_false] at k'
      exact k'
def skF (s : St) (x : Nat) : Nat → Nat → Int32
  | 0, _ => -1
  | m + 1, i => if rdX s.1 s.2.1 x (s.2.2.2 + i) = rS s x then skF s x m (i + 1) else nI i
def aSucks (v0 v1 : Int32) (u : XS) : Value × XS := if (decide (0 ≤ v0 ∧ v0 < nI u.1.1.length) && decide (0 ≤ v1 ∧ v1 < 9)) = true then (.int (skF (gS u.1.1 v0.toNatClampNeg) v1.toNatClampNeg 9 1), u) else (.int (-2), bdU u 0)
theorem x_sucks (v0 v1 : Int32) : cX k_X8_sucks [.int v0, .int v1, m_D, m_D, m_D, m_D, m_D] (aSucks v0 v1) := by
  intro g h B u Φ hX k
  obtain ⟨⟨L, N, P⟩, im, tx, fr, rf⟩ := u
  have o := hX.1
  have t := hX.2.1
  obtain ⟨t0, t1, t2, t3, t4, t5, t6⟩ := id t
  have t4 : isS h (B + 1 + 1) L := t4
  have t5 : isN h (B + 1 + 3) N := t5
  have t6 : isP h (B + 1 + 5) P := t6
  have hl6 : L.length ≤ 6 := t4.2.1.2.2.2.1
  have hbad : (decide (0 ≤ v0 ∧ v0 < nI L.length) && decide (0 ≤ v1 ∧ v1 < 9)) = false → aSucks v0 v1 ((L, N, P), im, tx, fr, rf) = (.int (-2), bdU ((L, N, P), im, tx, fr, rf) 0) := fun z => by rw [aSucks, z]; rfl
  cases g1 : decide (0 ≤ v0 ∧ v0 < nI L.length)
  · rw [hbad (by simp only [g1, Bool.false_and])] at k
    simp only [s_X8_sucks_0, s_X8_sucks_1, s_X8_sucks_4, s_X8_sucks_7, s_X8_sucks_8, s_X8_sucks_11, s_X8_sucks_14, s_X8_sucks_15, s_X8_sucks_17, s_X8_sucks_20, s_X8_sucks_23, s_X8_sucks_24, s_X8_sucks_27, s_X8_sucks_28, s_X8_sucks_29, s_X8_sucks_32, s_X8_sucks_35, s_X8_sucks_36, s_X8_sucks_37, s_X8_sucks_40, s_X8_sucks_41, s_X8_sucks_42, s_X8_sucks_45, s_X8_sucks_48, s_X8_sucks_49, s_X8_sucks_50, s_X8_sucks_53, s_X8_sucks_55, s_X8_sucks_56, s_X8_sucks_59, s_X8_sucks_62, s_X8_sucks_63, s_X8_sucks_64, s_X8_sucks_67, s_X8_sucks_69, s_X8_sucks_70, s_X8_sucks_73, s_X8_sucks_76, s_X8_sucks_77, s_X8_sucks_78, s_X8_sucks_81, s_X8_sucks_83, s_X8_sucks_84, s_X8_sucks_88, s_X8_sucks_90, s_X8_sucks_93, s_X8_sucks_94, s_X8_sucks_96, s_X8_sucks_97, s_X8_sucks_99, s_X8_sucks_101, s_X8_sucks_102, s_X8_sucks_105, s_X8_sucks_107, s_X8_sucks_110, s_X8_sucks_112, s_X8_sucks_113, s_X8_sucks_116, s_X8_sucks_119, s_X8_sucks_120, o.1, o.2.1, t0, t1, t4.1, q_has t4.2.1, zI_0, Bool.true_eq_false, Bool.false_eq_true, not_true_eq_false, not_false_eq_true, if_true, if_false, KV_ap, KU_ap, dropL_nil, g1]
    exact q_bad hX (fun h' hX' hf => by simp only [KV_ap, s_X8_sucks_0, s_X8_sucks_1, s_X8_sucks_4, s_X8_sucks_7, s_X8_sucks_8, s_X8_sucks_11, s_X8_sucks_14, s_X8_sucks_15, s_X8_sucks_17, s_X8_sucks_20, s_X8_sucks_23, s_X8_sucks_24, s_X8_sucks_27, s_X8_sucks_28, s_X8_sucks_29, s_X8_sucks_32, s_X8_sucks_35, s_X8_sucks_36, s_X8_sucks_37, s_X8_sucks_40, s_X8_sucks_41, s_X8_sucks_42, s_X8_sucks_45, s_X8_sucks_48, s_X8_sucks_49, s_X8_sucks_50, s_X8_sucks_53, s_X8_sucks_55, s_X8_sucks_56, s_X8_sucks_59, s_X8_sucks_62, s_X8_sucks_63, s_X8_sucks_64, s_X8_sucks_67, s_X8_sucks_69, s_X8_sucks_70, s_X8_sucks_73, s_X8_sucks_76, s_X8_sucks_77, s_X8_sucks_78, s_X8_sucks_81, s_X8_sucks_83, s_X8_sucks_84, s_X8_sucks_88, s_X8_sucks_90, s_X8_sucks_93, s_X8_sucks_94, s_X8_sucks_96, s_X8_sucks_97, s_X8_sucks_99, s_X8_sucks_101, s_X8_sucks_102, s_X8_sucks_105, s_X8_sucks_107, s_X8_sucks_110, s_X8_sucks_112, s_X8_sucks_113, s_X8_sucks_116, s_X8_sucks_119, s_X8_sucks_120]; exact k h' hX' hf)
  · cases g2 : decide (0 ≤ v1 ∧ v1 < 9)
    · rw [hbad (by simp only [g1, g2, Bool.and_false])] at k
      simp only [s_X8_sucks_0, s_X8_sucks_1, s_X8_sucks_4, s_X8_sucks_7, s_X8_sucks_8, s_X8_sucks_11, s_X8_sucks_14, s_X8_sucks_15, s_X8_sucks_17, s_X8_sucks_20, s_X8_sucks_23, s_X8_sucks_24, s_X8_sucks_27, s_X8_sucks_28, s_X8_sucks_29, s_X8_sucks_32, s_X8_sucks_35, s_X8_sucks_36, s_X8_sucks_37, s_X8_sucks_40, s_X8_sucks_41, s_X8_sucks_42, s_X8_sucks_45, s_X8_sucks_48, s_X8_sucks_49, s_X8_sucks_50, s_X8_sucks_53, s_X8_sucks_55, s_X8_sucks_56, s_X8_sucks_59, s_X8_sucks_62, s_X8_sucks_63, s_X8_sucks_64, s_X8_sucks_67, s_X8_sucks_69, s_X8_sucks_70, s_X8_sucks_73, s_X8_sucks_76, s_X8_sucks_77, s_X8_sucks_78, s_X8_sucks_81, s_X8_sucks_83, s_X8_sucks_84, s_X8_sucks_88, s_X8_sucks_90, s_X8_sucks_93, s_X8_sucks_94, s_X8_sucks_96, s_X8_sucks_97, s_X8_sucks_99, s_X8_sucks_101, s_X8_sucks_102, s_X8_sucks_105, s_X8_sucks_107, s_X8_sucks_110, s_X8_sucks_112, s_X8_sucks_113, s_X8_sucks_116, s_X8_sucks_119, s_X8_sucks_120, o.1, o.2.1, t0, t1, t4.1, q_has t4.2.1, q_isBelow, zI_0, Bool.true_eq_false, Bool.false_eq_true, not_true_eq_false, not_false_eq_true, if_true, if_false, KV_ap, KU_ap, dropL_nil, g1, g2]
      exact q_bad hX (fun h' hX' hf => by simp only [KV_ap, s_X8_sucks_0, s_X8_sucks_1, s_X8_sucks_4, s_X8_sucks_7, s_X8_sucks_8, s_X8_sucks_11, s_X8_sucks_14, s_X8_sucks_15, s_X8_sucks_17, s_X8_sucks_20, s_X8_sucks_23, s_X8_sucks_24, s_X8_sucks_27, s_X8_sucks_28, s_X8_sucks_29, s_X8_sucks_32, s_X8_sucks_35, s_X8_sucks_36, s_X8_sucks_37, s_X8_sucks_40, s_X8_sucks_41, s_X8_sucks_42, s_X8_sucks_45, s_X8_sucks_48, s_X8_sucks_49, s_X8_sucks_50, s_X8_sucks_53, s_X8_sucks_55, s_X8_sucks_56, s_X8_sucks_59, s_X8_sucks_62, s_X8_sucks_63, s_X8_sucks_64, s_X8_sucks_67, s_X8_sucks_69, s_X8_sucks_70, s_X8_sucks_73, s_X8_sucks_76, s_X8_sucks_77, s_X8_sucks_78, s_X8_sucks_81, s_X8_sucks_83, s_X8_sucks_84, s_X8_sucks_88, s_X8_sucks_90, s_X8_sucks_93, s_X8_sucks_94, s_X8_sucks_96, s_X8_sucks_97, s_X8_sucks_99, s_X8_sucks_101, s_X8_sucks_102, s_X8_sucks_105, s_X8_sucks_107, s_X8_sucks_110, s_X8_sucks_112, s_X8_sucks_113, s_X8_sucks_116, s_X8_sucks_119, s_X8_sucks_120]; exact k h' hX' hf)
    · obtain ⟨j, ej, hj⟩ := hs_ex (show L.length < 2147483648 by omega) g1
      obtain ⟨x, ex, hx⟩ := hs_ex (n := 9) (by decide) g2
      have e : aSucks v0 v1 ((L, N, P), im, tx, fr, rf) = (.int (skF (gS L j) x 9 1), ((L, N, P), im, tx, fr, rf)) := by
        simp only [aSucks, g1, g2, Bool.and_self, if_true]
        rw [ej, ex, cl_nI (show j < 2147483648 by omega), cl_nI (show x < 2147483648 by omega)]
      rw [e] at k
      subst ej; subst ex
      have hj' : j < 2147483648 := by omega
      obtain ⟨w1, w2, w3, w4⟩ := t4.2.2.2 j hj
      have hr := rS_lt t4.2.2.2 (x := x) hj hx
      have k' := k h hX (frX_rfl h B)
      simp only [s_X8_sucks_0, s_X8_sucks_1, s_X8_sucks_4, s_X8_sucks_7, s_X8_sucks_8, s_X8_sucks_11, s_X8_sucks_14, s_X8_sucks_15, s_X8_sucks_17, s_X8_sucks_20, s_X8_sucks_23, s_X8_sucks_24, s_X8_sucks_27, s_X8_sucks_28, s_X8_sucks_29, s_X8_sucks_32, s_X8_sucks_35, s_X8_sucks_36, s_X8_sucks_37, s_X8_sucks_40, s_X8_sucks_41, s_X8_sucks_42, s_X8_sucks_45, s_X8_sucks_48, s_X8_sucks_49, s_X8_sucks_50, s_X8_sucks_53, s_X8_sucks_55, s_X8_sucks_56, s_X8_sucks_59, s_X8_sucks_62, s_X8_sucks_63, s_X8_sucks_64, s_X8_sucks_67, s_X8_sucks_69, s_X8_sucks_70, s_X8_sucks_73, s_X8_sucks_76, s_X8_sucks_77, s_X8_sucks_78, s_X8_sucks_81, s_X8_sucks_83, s_X8_sucks_84, s_X8_sucks_88, s_X8_sucks_90, s_X8_sucks_93, s_X8_sucks_94, s_X8_sucks_96, s_X8_sucks_97, s_X8_sucks_99, s_X8_sucks_101, s_X8_sucks_102, s_X8_sucks_105, s_X8_sucks_107, s_X8_sucks_110, s_X8_sucks_112, s_X8_sucks_113, s_X8_sucks_116, s_X8_sucks_119, s_X8_sucks_120, o.1, o.2.1, t0, t1, t4.1, q_has t4.2.1, q_isBelow, zI_0, Bool.true_eq_false, Bool.false_eq_true, not_true_eq_false, not_false_eq_true, if_true, if_false, KV_ap, KU_ap, dropL_nil, g1, g2, q_fact0 t4.2.1 hj', q_fact1 t4.2.1 hj', q_fact3 t4.2.1 hj', fc0 t4 hj, fc1 t4 hj, fc3 t4 hj, q_seenAt t4 hj hx]
      have key : ∀ m i, i + m = 10 → J g k_X8_sucks 86 [.ref B, .int (nI j), .int (nI x), .int (nI (gS L j).1), .int (nI (gS L j).2.1), .int (nI (gS L j).2.2.2), .int (nI (rS (gS L j) x)), .int (nI i)] [] [] h Φ = Φ (.int (skF (gS L j) x m i)) h := by
        intro m
        induction m with
        | zero =>
          intro i hi
          have : i = 10 := hi
          subst this
          rw [s_X8_sucks_86]
          simp only [s_X8_sucks_0, s_X8_sucks_1, s_X8_sucks_4, s_X8_sucks_7, s_X8_sucks_8, s_X8_sucks_11, s_X8_sucks_14, s_X8_sucks_15, s_X8_sucks_17, s_X8_sucks_20, s_X8_sucks_23, s_X8_sucks_24, s_X8_sucks_27, s_X8_sucks_28, s_X8_sucks_29, s_X8_sucks_32, s_X8_sucks_35, s_X8_sucks_36, s_X8_sucks_37, s_X8_sucks_40, s_X8_sucks_41, s_X8_sucks_42, s_X8_sucks_45, s_X8_sucks_48, s_X8_sucks_49, s_X8_sucks_50, s_X8_sucks_53, s_X8_sucks_55, s_X8_sucks_56, s_X8_sucks_59, s_X8_sucks_62, s_X8_sucks_63, s_X8_sucks_64, s_X8_sucks_67, s_X8_sucks_69, s_X8_sucks_70, s_X8_sucks_73, s_X8_sucks_76, s_X8_sucks_77, s_X8_sucks_78, s_X8_sucks_81, s_X8_sucks_83, s_X8_sucks_84, s_X8_sucks_88, s_X8_sucks_90, s_X8_sucks_93, s_X8_sucks_94, s_X8_sucks_96, s_X8_sucks_97, s_X8_sucks_99, s_X8_sucks_101, s_X8_sucks_102, s_X8_sucks_105, s_X8_sucks_107, s_X8_sucks_110, s_X8_sucks_112, s_X8_sucks_113, s_X8_sucks_116, s_X8_sucks_119, s_X8_sucks_120, c9, lt_nI (show 9 < 2147483648 by decide) (show 10 < 2147483648 by decide), if_pos (show 9 < 10 by decide), skF]
        | succ m ih =>
          intro i hi
          have hd := rdX_lt (k := (gS L j).1) w2 hx (show (gS L j).2.2.2 + i < 19 by omega)
          rw [s_X8_sucks_86, skF]
          simp only [s_X8_sucks_0, s_X8_sucks_1, s_X8_sucks_4, s_X8_sucks_7, s_X8_sucks_8, s_X8_sucks_11, s_X8_sucks_14, s_X8_sucks_15, s_X8_sucks_17, s_X8_sucks_20, s_X8_sucks_23, s_X8_sucks_24, s_X8_sucks_27, s_X8_sucks_28, s_X8_sucks_29, s_X8_sucks_32, s_X8_sucks_35, s_X8_sucks_36, s_X8_sucks_37, s_X8_sucks_40, s_X8_sucks_41, s_X8_sucks_42, s_X8_sucks_45, s_X8_sucks_48, s_X8_sucks_49, s_X8_sucks_50, s_X8_sucks_53, s_X8_sucks_55, s_X8_sucks_56, s_X8_sucks_59, s_X8_sucks_62, s_X8_sucks_63, s_X8_sucks_64, s_X8_sucks_67, s_X8_sucks_69, s_X8_sucks_70, s_X8_sucks_73, s_X8_sucks_76, s_X8_sucks_77, s_X8_sucks_78, s_X8_sucks_81, s_X8_sucks_83, s_X8_sucks_84, s_X8_sucks_88, s_X8_sucks_90, s_X8_sucks_93, s_X8_sucks_94, s_X8_sucks_96, s_X8_sucks_97, s_X8_sucks_99, s_X8_sucks_101, s_X8_sucks_102, s_X8_sucks_105, s_X8_sucks_107, s_X8_sucks_110, s_X8_sucks_112, s_X8_sucks_113, s_X8_sucks_116, s_X8_sucks_119, s_X8_sucks_120, c9, lt_nI (show 9 < 2147483648 by decide) (show i < 2147483648 by omega), if_neg (show ¬ 9 < i by omega), i_add, zI_0, Bool.true_eq_false, Bool.false_eq_true, not_true_eq_false, not_false_eq_true, if_true, if_false, KV_ap, KU_ap, dropL_nil, q_byKind' w1 w2 hx (show (gS L j).2.2.2 + i < 19 by omega), eq_nI (show rdX (gS L j).1 (gS L j).2.1 x ((gS L j).2.2.2 + i) < 2147483648 by omega) (show rS (gS L j) x < 2147483648 by omega), a1]
          by_cases hc : rdX (gS L j).1 (gS L j).2.1 x ((gS L j).2.2.2 + i) = rS (gS L j) x
          · rw [if_pos hc, if_pos hc]; exact ih (i + 1) (by omega)
          · rw [if_neg hc, if_neg hc]
      rw [c1, key 9 1 rfl]
      exact k'
/-- the kinds, as bits, of which a stick may be -/
def kfN (N : List St) (i n : Nat) : Nat := bN (fun k => fitN N i k n) 6
theorem q_kindsThatFit {g : GL} {h : HP} {Φ : Value → HP → Prop} {B : Nat} {u : XS} (hX : isX h B u) {j : Nat} (hj : j < u.1.1.length) : J g k_X8_kindsThatFit 0 [.ref B, .int (nI j), m_D, m_D, m_D] [] [] h Φ = Φ (.int (nI (kfN u.1.2.1 j (gS u.1.1 j).2.1))) h := by
  obtain ⟨⟨L, N, P⟩, im, tx, fr, rf⟩ := u
  have o := hX.1
  obtain ⟨t0, t1, t2, t3, t4, t5, t6⟩ := hX.2.1
  have t4 : isS h (B + 1 + 1) L := t4
  have t5 : isN h (B + 1 + 3) N := t5
  have hj : j < L.length := hj
  have hl6 : L.length ≤ 6 := t4.2.1.2.2.2.1
  obtain ⟨w1, w2, w3, w4⟩ := t4.2.2.2 j hj
  simp only [s_X8_kindsThatFit_0, s_X8_kindsThatFit_1, s_X8_kindsThatFit_2, s_X8_kindsThatFit_3, s_X8_kindsThatFit_6, s_X8_kindsThatFit_9, s_X8_kindsThatFit_10, s_X8_kindsThatFit_11, s_X8_kindsThatFit_14, s_X8_kindsThatFit_15, s_X8_kindsThatFit_16, s_X8_kindsThatFit_20, s_X8_kindsThatFit_22, s_X8_kindsThatFit_25, s_X8_kindsThatFit_26, s_X8_kindsThatFit_29, s_X8_kindsThatFit_32, s_X8_kindsThatFit_33, s_X8_kindsThatFit_35, s_X8_kindsThatFit_36, s_X8_kindsThatFit_39, s_X8_kindsThatFit_42, s_X8_kindsThatFit_43, s_X8_kindsThatFit_44, s_X8_kindsThatFit_46, s_X8_kindsThatFit_47, s_X8_kindsThatFit_48, s_X8_kindsThatFit_49, s_X8_kindsThatFit_52, s_X8_kindsThatFit_55, s_X8_kindsThatFit_56, o.1, o.2.1, t0, t1, t4.1, zI_0, Bool.true_eq_false, Bool.false_eq_true, not_true_eq_false, not_false_eq_true, if_true, if_false, KV_ap, KU_ap, dropL_nil, q_fact1 t4.2.1 (show j < 2147483648 by omega), fc1 t4 hj]
  have key := J_it (fun i b => J g k_X8_kindsThatFit 18 [.ref B, .int (nI j), .int (nI b), .int (nI (gS L j).2.1), .int (nI i)] [] [] h Φ) (fun i b => if fitN N j i (gS L j).2.1 = true then b + 2 ^ i else b) 6 (fun i b => b < 2 ^ i) (fun i b _ hb => by
      rw [Nat.pow_succ]; split <;> omega) (fun i b hi hb => by
    rw [s_X8_kindsThatFit_18]
    simp only [s_X8_kindsThatFit_0, s_X8_kindsThatFit_1, s_X8_kindsThatFit_2, s_X8_kindsThatFit_3, s_X8_kindsThatFit_6, s_X8_kindsThatFit_9, s_X8_kindsThatFit_10, s_X8_kindsThatFit_11, s_X8_kindsThatFit_14, s_X8_kindsThatFit_15, s_X8_kindsThatFit_16, s_X8_kindsThatFit_20, s_X8_kindsThatFit_22, s_X8_kindsThatFit_25, s_X8_kindsThatFit_26, s_X8_kindsThatFit_29, s_X8_kindsThatFit_32, s_X8_kindsThatFit_33, s_X8_kindsThatFit_35, s_X8_kindsThatFit_36, s_X8_kindsThatFit_39, s_X8_kindsThatFit_42, s_X8_kindsThatFit_43, s_X8_kindsThatFit_44, s_X8_kindsThatFit_46, s_X8_kindsThatFit_47, s_X8_kindsThatFit_48, s_X8_kindsThatFit_49, s_X8_kindsThatFit_52, s_X8_kindsThatFit_55, s_X8_kindsThatFit_56, o.1, o.2.1, t0, t2, t5.1, zI_0, Bool.true_eq_false, Bool.false_eq_true, not_true_eq_false, not_false_eq_true, if_true, if_false, KV_ap, KU_ap, dropL_nil, c6, le_nI (show 6 < 2147483648 by decide) (show i < 2147483648 by omega), if_neg (Nat.not_le.mpr hi), q_fit t5 (show j < 2147483648 by omega) hi w2, orb i (by omega) b hb, a1]
    cases hc : fitN N j i (gS L j).2.1
    · simp only [if_true, Bool.false_eq_true, if_false]
    · simp only [if_true, Bool.true_eq_false, if_false]) 6 0 0 rfl (by decide)
  rw [c0, key.1, s_X8_kindsThatFit_18]
  simp only [s_X8_kindsThatFit_0, s_X8_kindsThatFit_1, s_X8_kindsThatFit_2, s_X8_kindsThatFit_3, s_X8_kindsThatFit_6, s_X8_kindsThatFit_9, s_X8_kindsThatFit_10, s_X8_kindsThatFit_11, s_X8_kindsThatFit_14, s_X8_kindsThatFit_15, s_X8_kindsThatFit_16, s_X8_kindsThatFit_20, s_X8_kindsThatFit_22, s_X8_kindsThatFit_25, s_X8_kindsThatFit_26, s_X8_kindsThatFit_29, s_X8_kindsThatFit_32, s_X8_kindsThatFit_33, s_X8_kindsThatFit_35, s_X8_kindsThatFit_36, s_X8_kindsThatFit_39, s_X8_kindsThatFit_42, s_X8_kindsThatFit_43, s_X8_kindsThatFit_44, s_X8_kindsThatFit_46, s_X8_kindsThatFit_47, s_X8_kindsThatFit_48, s_X8_kindsThatFit_49, s_X8_kindsThatFit_52, s_X8_kindsThatFit_55, s_X8_kindsThatFit_56, c6, le_nI (show 6 < 2147483648 by decide) (show 6 < 2147483648 by decide), Nat.le_refl, if_true]
  rfl
def aIs (v : Int32) (u : XS) : Value × XS := if decide (0 ≤ v ∧ v < nI u.1.1.length) = true then (.int (nI (kfN u.1.2.1 v.toNatClampNeg (gS u.1.1 v.toNatClampNeg).2.1)), u) else (.int (-2), bdU u 0)
theorem x_is (v : Int32) : cX k_X8_is [.int v] (aIs v) := by
  intro g h B u Φ hX k
  obtain ⟨⟨L, N, P⟩, im, tx, fr, rf⟩ := u
  have o := hX.1
  have t := hX.2.1
  obtain ⟨t0, t1, t2, t3, t4, t5, t6⟩ := id t
  have t4 : isS h (B + 1 + 1) L := t4
  have t5 : isN h (B + 1 + 3) N := t5
  have t6 : isP h (B + 1 + 5) P := t6
  have hl6 : L.length ≤ 6 := t4.2.1.2.2.2.1
  cases g1 : decide (0 ≤ v ∧ v < nI L.length)
  · have e : aIs v ((L, N, P), im, tx, fr, rf) = (.int (-2), bdU ((L, N, P), im, tx, fr, rf) 0) := by simp only [aIs, g1, Bool.false_eq_true, if_false]
    rw [e] at k
    simp only [s_X8_is_0, s_X8_is_1, s_X8_is_4, s_X8_is_7, s_X8_is_8, s_X8_is_11, s_X8_is_14, s_X8_is_15, s_X8_is_16, s_X8_is_19, s_X8_is_22, s_X8_is_23, s_X8_is_26, o.1, o.2.1, t0, t1, t4.1, q_has t4.2.1, zI_0, Bool.true_eq_false, Bool.false_eq_true, not_true_eq_false, not_false_eq_true, if_true, if_false, KV_ap, KU_ap, dropL_nil, g1]
    exact q_bad hX (fun h' hX' hf => by simp only [KV_ap, s_X8_is_0, s_X8_is_1, s_X8_is_4, s_X8_is_7, s_X8_is_8, s_X8_is_11, s_X8_is_14, s_X8_is_15, s_X8_is_16, s_X8_is_19, s_X8_is_22, s_X8_is_23, s_X8_is_26]; exact k h' hX' hf)
  · obtain ⟨j, ej, hj⟩ := hs_ex (show L.length < 2147483648 by omega) g1
    have e : aIs v ((L, N, P), im, tx, fr, rf) = (.int (nI (kfN N j (gS L j).2.1)), ((L, N, P), im, tx, fr, rf)) := by
      simp only [aIs, g1, if_true]
      rw [ej, cl_nI (show j < 2147483648 by omega)]
    rw [e] at k
    subst ej
    simp only [s_X8_is_0, s_X8_is_1, s_X8_is_4, s_X8_is_7, s_X8_is_8, s_X8_is_11, s_X8_is_14, s_X8_is_15, s_X8_is_16, s_X8_is_19, s_X8_is_22, s_X8_is_23, s_X8_is_26, o.1, o.2.1, t0, t1, t4.1, q_has t4.2.1, zI_0, Bool.true_eq_false, Bool.false_eq_true, not_true_eq_false, not_false_eq_true, if_true, if_false, KV_ap, KU_ap, dropL_nil, g1, q_kindsThatFit hX hj]
    exact k h hX (frX_rfl h B)

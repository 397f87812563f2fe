/-! The class's calls, ninth part: type, clear, count, digest -/
theorem nar7 : ∀ c, c < 128 → vp_nar .byte ((nI c).toInt8.toInt32) = nI c := by decide +kernel
def aClear (u : XS) : Value × XS := (.int (nI u.2.2.1.length), (u.1, u.2.1, [], u.2.2.2))
theorem txX_nil {h : HP} {a : Nat} {tx : List Nat} (hT : txX h a tx) : txX (pF h a 2 (.int (nI 0))) a [] := by
  obtain ⟨h0, h1, h2, h3, h4, h5, h6, h7, ⟨D, h8⟩, h9, h10, h11, h12, h13⟩ := hT
  refine ⟨h0, ?_, ?_, ?_, ?_, ?_, ?_, Nat.zero_le _, ⟨D, isS_pF (by omega) h8⟩, h9, h10, h11, h12, fun j hj => absurd hj (Nat.not_lt_zero j)⟩
  all_goals simp only [hF_pF, true_and, Nat.reduceEqDiff, if_false, if_true, List.length_nil]
  all_goals assumption
theorem x_clear : cX k_X8_clear [m_D] aClear := by
  intro g h B u Φ hX k
  obtain ⟨⟨L, N, P⟩, im, tx, fr, rf⟩ := u
  have o := hX.1
  have t := hX.2.1
  obtain ⟨t0, t1, t2, t3, t4, t5, t6⟩ := id t
  have t4 : isS h (B + 1 + 1) L := t4
  have t5 : isN h (B + 1 + 3) N := t5
  have t6 : isP h (B + 1 + 5) P := t6
  have hl6 : L.length ≤ 6 := t4.2.1.2.2.2.1
  have tt : txX h (B + 10) tx := hX.2.2.2.1
  simp only [s_X8_clear_0, s_X8_clear_1, s_X8_clear_4, s_X8_clear_7, s_X8_clear_8, s_X8_clear_9, s_X8_clear_12, s_X8_clear_15, s_X8_clear_16, s_X7_size_0, s_X7_size_1, s_X7_size_4, s_X7_empty_0, s_X7_empty_1, s_X7_empty_2, s_X7_empty_5, zI_0, Bool.true_eq_false, Bool.false_eq_true, not_true_eq_false, not_false_eq_true, if_true, if_false, KV_ap, KU_ap, dropL_nil, o.1, o.2.2.2.1, tt.1, tt.2.2.2.1]
  have f : frm h (pF h (B + 10) 2 (.int (nI 0))) (B + 10) (B + 17) := frm_pF (by omega) (by omega) (frm_rfl h _ _)
  exact k _ (isX_tx hX f (txX_nil tt)) (frX_of (by omega) (by omega) f)
def aType (v : Int32) (u : XS) : Value × XS := if decide (0 ≤ v ∧ v ≤ 127) = true then (if u.2.2.1.length = 150 then (.int (-4), bdU u 2) else (.int (nI (u.2.2.1.length + 1)), (u.1, u.2.1, u.2.2.1 ++ [v.toNatClampNeg], u.2.2.2))) else (.int (-2), bdU u 0)
theorem txR_app {f : Nat → Int32} {tx : List Nat} {c : Nat} (hc : c < 128) (hR : txR f tx) : txR (upd f tx.length (nI c)) (tx ++ [c]) := by
  intro j hj
  rw [List.length_append, List.length_singleton] at hj
  rw [List.getD_eq_getElem?_getD, List.getElem?_append]
  by_cases h : j < tx.length
  · rw [if_pos h, pk_un (by omega)]
    have := hR j h
    rw [List.getD_eq_getElem?_getD] at this
    exact this
  · have : j = tx.length := by omega
    subst this
    simp [upd, hc]
theorem x_type (v : Int32) : cX k_X8_type [.int v] (aType v) := by
  intro g h B u Φ hX k
  obtain ⟨⟨L, N, P⟩, im, tx, fr, rf⟩ := u
  have o := hX.1
  have t := hX.2.1
  obtain ⟨t0, t1, t2, t3, t4, t5, t6⟩ := id t
  have t4 : isS h (B + 1 + 1) L := t4
  have t5 : isN h (B + 1 + 3) N := t5
  have t6 : isP h (B + 1 + 5) P := t6
  have hl6 : L.length ≤ 6 := t4.2.1.2.2.2.1
  have tt : txX h (B + 10) tx := hX.2.2.2.1
  obtain ⟨h0, h1, h2, h3, h4, h5, h6, h7, ⟨D, h8⟩, h9, h10, h11, h12, h13⟩ := id tt
  have c150 : (150 : Int32) = nI 150 := rfl
  cases g1 : decide (0 ≤ v ∧ v ≤ 127)
  · have e : aType v ((L, N, P), im, tx, fr, rf) = (.int (-2), bdU ((L, N, P), im, tx, fr, rf) 0) := by simp only [aType, g1, Bool.false_eq_true, if_false]
    rw [e] at k
    simp only [s_X8_type_0, s_X8_type_1, s_X8_type_2, s_X8_type_4, s_X8_type_7, s_X8_type_10, s_X8_type_11, s_X8_type_14, s_X8_type_15, s_X8_type_16, s_X8_type_19, s_X8_type_22, s_X8_type_25, s_X8_type_28, s_X8_type_29, s_X8_type_32, s_X8_type_33, s_X8_type_34, s_X8_type_37, s_X8_type_38, s_X8_type_41, s_X8_type_42, s_X8_type_45, s_X8_type_48, o.1, q_isWithin, zI_0, Bool.true_eq_false, Bool.false_eq_true, not_true_eq_false, not_false_eq_true, if_true, if_false, KV_ap, KU_ap, dropL_nil, g1]
    exact q_bad hX (fun h' hX' hf => by simp only [KV_ap, s_X8_type_0, s_X8_type_1, s_X8_type_2, s_X8_type_4, s_X8_type_7, s_X8_type_10, s_X8_type_11, s_X8_type_14, s_X8_type_15, s_X8_type_16, s_X8_type_19, s_X8_type_22, s_X8_type_25, s_X8_type_28, s_X8_type_29, s_X8_type_32, s_X8_type_33, s_X8_type_34, s_X8_type_37, s_X8_type_38, s_X8_type_41, s_X8_type_42, s_X8_type_45, s_X8_type_48]; exact k h' hX' hf)
  · obtain ⟨c, ec, _, hc⟩ := wi_ex (a := 0) (b := 127) (by decide) (by decide) g1
    by_cases hl : tx.length = 150
    · have e : aType v ((L, N, P), im, tx, fr, rf) = (.int (-4), bdU ((L, N, P), im, tx, fr, rf) 2) := by
        simp only [aType, g1, if_true, hl]
      rw [e] at k
      simp only [s_X8_type_0, s_X8_type_1, s_X8_type_2, s_X8_type_4, s_X8_type_7, s_X8_type_10, s_X8_type_11, s_X8_type_14, s_X8_type_15, s_X8_type_16, s_X8_type_19, s_X8_type_22, s_X8_type_25, s_X8_type_28, s_X8_type_29, s_X8_type_32, s_X8_type_33, s_X8_type_34, s_X8_type_37, s_X8_type_38, s_X8_type_41, s_X8_type_42, s_X8_type_45, s_X8_type_48, s_X7_size_0, s_X7_size_1, s_X7_size_4, o.1, o.2.2.2.1, h0, h3, q_isWithin, zI_0, Bool.true_eq_false, Bool.false_eq_true, not_true_eq_false, not_false_eq_true, if_true, if_false, KV_ap, KU_ap, dropL_nil, g1, c150, lt_nI (show tx.length < 2147483648 by omega) (show 150 < 2147483648 by decide), if_neg (show ¬ tx.length < 150 by omega)]
      exact q_full hX (fun h' hX' hf => by simp only [KV_ap, s_X8_type_0, s_X8_type_1, s_X8_type_2, s_X8_type_4, s_X8_type_7, s_X8_type_10, s_X8_type_11, s_X8_type_14, s_X8_type_15, s_X8_type_16, s_X8_type_19, s_X8_type_22, s_X8_type_25, s_X8_type_28, s_X8_type_29, s_X8_type_32, s_X8_type_33, s_X8_type_34, s_X8_type_37, s_X8_type_38, s_X8_type_41, s_X8_type_42, s_X8_type_45, s_X8_type_48]; exact k h' hX' hf)
    · have e : aType v ((L, N, P), im, tx, fr, rf) = (.int (nI (tx.length + 1)), ((L, N, P), im, tx ++ [c], fr, rf)) := by
        simp only [aType, g1, if_true]
        rw [if_neg hl, ec, cl_nI (show c < 2147483648 by omega)]
      rw [e] at k
      subst ec
      have hi : m_inb (nI tx.length) 150 = true := by rw [inb_nI (by omega)]; simpa using (show tx.length < 150 by omega)
      simp only [s_X8_type_0, s_X8_type_1, s_X8_type_2, s_X8_type_4, s_X8_type_7, s_X8_type_10, s_X8_type_11, s_X8_type_14, s_X8_type_15, s_X8_type_16, s_X8_type_19, s_X8_type_22, s_X8_type_25, s_X8_type_28, s_X8_type_29, s_X8_type_32, s_X8_type_33, s_X8_type_34, s_X8_type_37, s_X8_type_38, s_X8_type_41, s_X8_type_48, s_X7_size_0, s_X7_size_1, s_X7_size_4, s_X7_append_0, s_X7_append_1, s_X7_append_4, s_X7_append_7, s_X7_append_10, s_X7_append_11, s_X7_append_14, s_X7_append_15, s_X7_append_18, s_X7_append_19, s_X7_append_20, s_X7_append_21, s_X7_append_22, s_X7_append_23, s_X7_append_26, s_X7_append_27, s_X7_append_28, s_X7_append_31, o.1, o.2.2.2.1, h0, h2, h3, h9, hS_pI, hF_pI, q_isWithin, zI_0, Bool.true_eq_false, Bool.false_eq_true, not_true_eq_false, not_false_eq_true, if_true, if_false, KV_ap, KU_ap, dropL_nil, g1, c150, lt_nI (show tx.length < 2147483648 by omega) (show 150 < 2147483648 by decide), if_pos (show tx.length < 150 by omega), le_nI (show 150 < 2147483648 by decide) (show tx.length < 2147483648 by omega), if_neg (show ¬ 150 ≤ tx.length by omega), hi, cl_nI (show tx.length < 2147483648 by omega), nar7 c (by omega), a1]
      have f : frm h (pF (pI h (B + 10 + 3) (upd (hI h (B + 10 + 3)) tx.length (nI c))) (B + 10) 2 (.int (nI (tx.length + 1)))) (B + 10) (B + 17) := frm_pF (by omega) (by omega) (frm_pI (by omega) (by omega) (frm_rfl h _ _))
      have w : txX (pF (pI h (B + 10 + 3) (upd (hI h (B + 10 + 3)) tx.length (nI c))) (B + 10) 2 (.int (nI (tx.length + 1)))) (B + 10) (tx ++ [c]) := by
        refine ⟨h0, ?_, ?_, ?_, ?_, ?_, ?_, by rw [List.length_append, List.length_singleton]; omega, ⟨D, isS_pF (by omega) (isS_pI (by omega) h8)⟩, h9, h10, h11, h12, ?_⟩
        · rw [hF_pF, if_neg (by omega)]; exact h1
        · rw [hF_pF, if_neg (by omega)]; exact h2
        · rw [hF_pF, if_pos ⟨rfl, rfl⟩, List.length_append, List.length_singleton]
        · rw [hF_pF, if_neg (by omega)]; exact h4
        · rw [hF_pF, if_neg (by omega)]; exact h5
        · rw [hF_pF, if_neg (by omega)]; exact h6
        · rw [hI_pF, hI_pIs]; exact txR_app (by omega) h13
      have o1 := f.1 B (by omega)
      generalize pF (pI h (B + 10 + 3) (upd (hI h (B + 10 + 3)) tx.length (nI c))) (B + 10) 2 (.int (nI (tx.length + 1))) = m1 at f w o1
      simp only [s_X8_type_0, s_X8_type_1, s_X8_type_2, s_X8_type_4, s_X8_type_7, s_X8_type_10, s_X8_type_11, s_X8_type_14, s_X8_type_15, s_X8_type_16, s_X8_type_19, s_X8_type_22, s_X8_type_25, s_X8_type_28, s_X8_type_29, s_X8_type_32, s_X8_type_33, s_X8_type_34, s_X8_type_37, s_X8_type_38, s_X8_type_41, s_X8_type_42, s_X8_type_45, s_X8_type_48, s_X7_size_0, s_X7_size_1, s_X7_size_4, o1.1, o1.2.1, o.1, o.2.2.2.1, w.1, w.2.2.2.1, List.length_append, List.length_singleton, zI_0, Bool.true_eq_false, Bool.false_eq_true, not_true_eq_false, not_false_eq_true, if_true, if_false, KV_ap, KU_ap, dropL_nil]
      exact k _ (isX_tx hX f w) (frX_of (by omega) (by omega) f)
def smN (L : List St) (w : Nat) : Nat := it (fun i s => s + ofN (gS L i) w) L.length 0 0
theorem sm_nI {f : Nat → Int32} {L : List St} (hR : sR f L) {w : Nat} (hw : w < 4) : it (fun i s => s + f (i * 4 + w)) L.length 0 0 = nI (smN L w) := by
  have h1 : ∀ i, i < L.length → f (i * 4 + w) = nI (ofN (gS L i) w) := by
    intro i hi
    obtain ⟨e0, e1, e2, e3⟩ := hR i hi
    obtain e | e | e | e : w = 0 ∨ w = 1 ∨ w = 2 ∨ w = 3 := by omega
    all_goals subst e
    · exact e0
    · exact e1
    · exact e2
    · exact e3
  have : ∀ m i a, i + m = L.length → it (fun i s => s + f (i * 4 + w)) m i (nI a) = nI (it (fun i s => s + ofN (gS L i) w) m i a) := by
    intro m
    induction m with
    | zero => intro i a _; rfl
    | succ m ih => intro i a hi; rw [it, it, h1 i (by omega), i_add]; exact ih (i + 1) _ (by omega)
  exact this L.length 0 0 (by omega)
def amN (u : XS) (w : Nat) : Nat := match w with
  | 0 => u.1.1.length
  | 1 => smN u.1.1 2
  | 2 => smN u.1.1 3
  | 3 => u.1.2.1.length
  | 4 => u.1.2.2.length
  | _ => u.2.2.1.length
theorem q_amount {g : GL} {h : HP} {Φ : Value → HP → Prop} {B : Nat} {u : XS} (hX : isX h B u) {w : Nat} (hw : w < 6) : J g k_X8_amount 0 [.ref B, .int (nI w)] [] [] h Φ = Φ (.int (nI (amN u w))) h := by
  obtain ⟨⟨L, N, P⟩, im, tx, fr, rf⟩ := u
  have o := hX.1
  obtain ⟨t0, t1, t2, t3, t4, t5, t6⟩ := hX.2.1
  have t4 : isS h (B + 1 + 1) L := t4
  have t5 : isN h (B + 1 + 3) N := t5
  have t6 : isP h (B + 1 + 5) P := t6
  have tt : txX h (B + 10) tx := hX.2.2.2.1
  have s2 := q_sumOf (g := g) (Φ := Φ) t4 (w := 2) (by decide)
  have d2 : (nI 2) = (2 : Int32) := rfl
  have d3 : (nI 3) = (3 : Int32) := rfl
  obtain e | e | e | e | e | e : w = 0 ∨ w = 1 ∨ w = 2 ∨ w = 3 ∨ w = 4 ∨ w = 5 := by omega
  all_goals subst e
  · rw [show nI 0 = (0 : Int32) from rfl]
    simp only [s_X8_amount_0, s_X8_amount_1_0, s_X8_amount_1_1, s_X8_amount_1_2, s_X8_amount_1_3, s_X8_amount_1_4, s_X8_amount_1_d, s_X8_amount_36, s_X8_amount_37, s_X8_amount_40, s_X8_amount_43, s_X8_amount_46, s_X8_amount_47, s_X8_amount_48, s_X8_amount_51, s_X8_amount_54, s_X8_amount_55, s_X8_amount_58, s_X8_amount_59, s_X8_amount_60, s_X8_amount_63, s_X8_amount_66, s_X8_amount_67, s_X8_amount_70, s_X8_amount_71, s_X8_amount_72, s_X8_amount_75, s_X8_amount_78, s_X8_amount_81, s_X8_amount_82, s_X8_amount_83, s_X8_amount_86, s_X8_amount_89, s_X8_amount_92, s_X8_amount_94, s_X8_amount_97, s_X8_amount_100, o.1, o.2.1, t0, t1, t4.1, q_size t4.2.1, zI_0, Bool.true_eq_false, Bool.false_eq_true, not_true_eq_false, not_false_eq_true, if_true, if_false, KV_ap, KU_ap, dropL_nil]
    rfl
  · rw [show nI 1 = (1 : Int32) from rfl]
    simp only [s_X8_amount_0, s_X8_amount_1_0, s_X8_amount_1_1, s_X8_amount_1_2, s_X8_amount_1_3, s_X8_amount_1_4, s_X8_amount_1_d, s_X8_amount_36, s_X8_amount_37, s_X8_amount_40, s_X8_amount_43, s_X8_amount_46, s_X8_amount_47, s_X8_amount_48, s_X8_amount_51, s_X8_amount_54, s_X8_amount_55, s_X8_amount_58, s_X8_amount_59, s_X8_amount_60, s_X8_amount_63, s_X8_amount_66, s_X8_amount_67, s_X8_amount_70, s_X8_amount_71, s_X8_amount_72, s_X8_amount_75, s_X8_amount_78, s_X8_amount_81, s_X8_amount_82, s_X8_amount_83, s_X8_amount_86, s_X8_amount_89, s_X8_amount_92, s_X8_amount_94, s_X8_amount_97, s_X8_amount_100, o.1, o.2.1, t0, t1, t4.1, zI_0, Bool.true_eq_false, Bool.false_eq_true, not_true_eq_false, not_false_eq_true, if_true, if_false, KV_ap, KU_ap, dropL_nil]
    have := q_sumOf (g := g) (Φ := KV g k_X8_amount 58 [.ref B, .int 1] [] [] Φ) t4 (w := 2) (by decide)
    rw [sm_nI t4.2.2.1 (by decide)] at this
    refine Eq.trans this ?_
    simp only [KV_ap, s_X8_amount_0, s_X8_amount_1_0, s_X8_amount_1_1, s_X8_amount_1_2, s_X8_amount_1_3, s_X8_amount_1_4, s_X8_amount_1_d, s_X8_amount_36, s_X8_amount_37, s_X8_amount_40, s_X8_amount_43, s_X8_amount_46, s_X8_amount_47, s_X8_amount_48, s_X8_amount_51, s_X8_amount_54, s_X8_amount_55, s_X8_amount_58, s_X8_amount_59, s_X8_amount_60, s_X8_amount_63, s_X8_amount_66, s_X8_amount_67, s_X8_amount_70, s_X8_amount_71, s_X8_amount_72, s_X8_amount_75, s_X8_amount_78, s_X8_amount_81, s_X8_amount_82, s_X8_amount_83, s_X8_amount_86, s_X8_amount_89, s_X8_amount_92, s_X8_amount_94, s_X8_amount_97, s_X8_amount_100]
    rfl
  · rw [show nI 2 = (2 : Int32) from rfl]
    simp only [s_X8_amount_0, s_X8_amount_1_0, s_X8_amount_1_1, s_X8_amount_1_2, s_X8_amount_1_3, s_X8_amount_1_4, s_X8_amount_1_d, s_X8_amount_36, s_X8_amount_37, s_X8_amount_40, s_X8_amount_43, s_X8_amount_46, s_X8_amount_47, s_X8_amount_48, s_X8_amount_51, s_X8_amount_54, s_X8_amount_55, s_X8_amount_58, s_X8_amount_59, s_X8_amount_60, s_X8_amount_63, s_X8_amount_66, s_X8_amount_67, s_X8_amount_70, s_X8_amount_71, s_X8_amount_72, s_X8_amount_75, s_X8_amount_78, s_X8_amount_81, s_X8_amount_82, s_X8_amount_83, s_X8_amount_86, s_X8_amount_89, s_X8_amount_92, s_X8_amount_94, s_X8_amount_97, s_X8_amount_100, o.1, o.2.1, t0, t1, t4.1, zI_0, Bool.true_eq_false, Bool.false_eq_true, not_true_eq_false, not_false_eq_true, if_true, if_false, KV_ap, KU_ap, dropL_nil]
    have := q_sumOf (g := g) (Φ := KV g k_X8_amount 70 [.ref B, .int 2] [] [] Φ) t4 (w := 3) (by decide)
    rw [sm_nI t4.2.2.1 (by decide)] at this
    refine Eq.trans this ?_
    simp only [KV_ap, s_X8_amount_0, s_X8_amount_1_0, s_X8_amount_1_1, s_X8_amount_1_2, s_X8_amount_1_3, s_X8_amount_1_4, s_X8_amount_1_d, s_X8_amount_36, s_X8_amount_37, s_X8_amount_40, s_X8_amount_43, s_X8_amount_46, s_X8_amount_47, s_X8_amount_48, s_X8_amount_51, s_X8_amount_54, s_X8_amount_55, s_X8_amount_58, s_X8_amount_59, s_X8_amount_60, s_X8_amount_63, s_X8_amount_66, s_X8_amount_67, s_X8_amount_70, s_X8_amount_71, s_X8_amount_72, s_X8_amount_75, s_X8_amount_78, s_X8_amount_81, s_X8_amount_82, s_X8_amount_83, s_X8_amount_86, s_X8_amount_89, s_X8_amount_92, s_X8_amount_94, s_X8_amount_97, s_X8_amount_100]
    rfl
  · rw [show nI 3 = (3 : Int32) from rfl]
    simp only [s_X8_amount_0, s_X8_amount_1_0, s_X8_amount_1_1, s_X8_amount_1_2, s_X8_amount_1_3, s_X8_amount_1_4, s_X8_amount_1_d, s_X8_amount_36, s_X8_amount_37, s_X8_amount_40, s_X8_amount_43, s_X8_amount_46, s_X8_amount_47, s_X8_amount_48, s_X8_amount_51, s_X8_amount_54, s_X8_amount_55, s_X8_amount_58, s_X8_amount_59, s_X8_amount_60, s_X8_amount_63, s_X8_amount_66, s_X8_amount_67, s_X8_amount_70, s_X8_amount_71, s_X8_amount_72, s_X8_amount_75, s_X8_amount_78, s_X8_amount_81, s_X8_amount_82, s_X8_amount_83, s_X8_amount_86, s_X8_amount_89, s_X8_amount_92, s_X8_amount_94, s_X8_amount_97, s_X8_amount_100, o.1, o.2.1, t0, t2, t5.1, q_size t5.2.1, zI_0, Bool.true_eq_false, Bool.false_eq_true, not_true_eq_false, not_false_eq_true, if_true, if_false, KV_ap, KU_ap, dropL_nil]
    rfl
  · rw [show nI 4 = (4 : Int32) from rfl]
    simp only [s_X8_amount_0, s_X8_amount_1_0, s_X8_amount_1_1, s_X8_amount_1_2, s_X8_amount_1_3, s_X8_amount_1_4, s_X8_amount_1_d, s_X8_amount_36, s_X8_amount_37, s_X8_amount_40, s_X8_amount_43, s_X8_amount_46, s_X8_amount_47, s_X8_amount_48, s_X8_amount_51, s_X8_amount_54, s_X8_amount_55, s_X8_amount_58, s_X8_amount_59, s_X8_amount_60, s_X8_amount_63, s_X8_amount_66, s_X8_amount_67, s_X8_amount_70, s_X8_amount_71, s_X8_amount_72, s_X8_amount_75, s_X8_amount_78, s_X8_amount_81, s_X8_amount_82, s_X8_amount_83, s_X8_amount_86, s_X8_amount_89, s_X8_amount_92, s_X8_amount_94, s_X8_amount_97, s_X8_amount_100, o.1, o.2.1, t0, t3, t6.1.1, q_psize t6.1, zI_0, Bool.true_eq_false, Bool.false_eq_true, not_true_eq_false, not_false_eq_true, if_true, if_false, KV_ap, KU_ap, dropL_nil]
    rfl
  · rw [show nI 5 = (5 : Int32) from rfl, s_X8_amount_0, s_X8_amount_1_d (by decide)]
    simp only [s_X8_amount_0, s_X8_amount_36, s_X8_amount_37, s_X8_amount_40, s_X8_amount_43, s_X8_amount_46, s_X8_amount_47, s_X8_amount_48, s_X8_amount_51, s_X8_amount_54, s_X8_amount_55, s_X8_amount_58, s_X8_amount_59, s_X8_amount_60, s_X8_amount_63, s_X8_amount_66, s_X8_amount_67, s_X8_amount_70, s_X8_amount_71, s_X8_amount_72, s_X8_amount_75, s_X8_amount_78, s_X8_amount_81, s_X8_amount_82, s_X8_amount_83, s_X8_amount_86, s_X8_amount_89, s_X8_amount_92, s_X8_amount_93, s_X8_amount_94, s_X8_amount_97, s_X8_amount_100, s_X7_size_0, s_X7_size_1, s_X7_size_4, o.1, o.2.2.2.1, tt.1, tt.2.2.2.1, zI_0, Bool.true_eq_false, Bool.false_eq_true, not_true_eq_false, not_false_eq_true, if_true, if_false, KV_ap, KU_ap, dropL_nil]
    rfl
def aCount (v : Int32) (u : XS) : Value × XS := if decide (0 ≤ v ∧ v < 6) = true then (.int (nI (amN u v.toNatClampNeg)), u) else (.int (-2), bdU u 0)
theorem x_count (v : Int32) : cX k_X8_count [.int v] (aCount v) := by
  intro g h B u Φ hX k
  obtain ⟨⟨L, N, P⟩, im, tx, fr, rf⟩ := u
  have o := hX.1
  have t := hX.2.1
  obtain ⟨t0, t1, t2, t3, t4, t5, t6⟩ := id t
  have t4 : isS h (B + 1 + 1) L := t4
  have t5 : isN h (B + 1 + 3) N := t5
  have t6 : isP h (B + 1 + 5) P := t6
  have hl6 : L.length ≤ 6 := t4.2.1.2.2.2.1
  cases g1 : decide (0 ≤ v ∧ v < 6)
  · have e : aCount v ((L, N, P), im, tx, fr, rf) = (.int (-2), bdU ((L, N, P), im, tx, fr, rf) 0) := by simp only [aCount, g1, Bool.false_eq_true, if_false]
    rw [e] at k
    simp only [s_X8_count_0, s_X8_count_1, s_X8_count_3, s_X8_count_6, s_X8_count_9, s_X8_count_10, s_X8_count_11, s_X8_count_14, s_X8_count_17, s_X8_count_18, s_X8_count_21, o.1, q_isBelow, zI_0, Bool.true_eq_false, Bool.false_eq_true, not_true_eq_false, not_false_eq_true, if_true, if_false, KV_ap, KU_ap, dropL_nil, g1]
    exact q_bad hX (fun h' hX' hf => by simp only [KV_ap, s_X8_count_0, s_X8_count_1, s_X8_count_3, s_X8_count_6, s_X8_count_9, s_X8_count_10, s_X8_count_11, s_X8_count_14, s_X8_count_17, s_X8_count_18, s_X8_count_21]; exact k h' hX' hf)
  · obtain ⟨j, ej, hj⟩ := hs_ex (n := 6) (by decide) g1
    have e : aCount v ((L, N, P), im, tx, fr, rf) = (.int (nI (amN ((L, N, P), im, tx, fr, rf) j)), ((L, N, P), im, tx, fr, rf)) := by
      simp only [aCount, g1, if_true]
      rw [ej, cl_nI (show j < 2147483648 by omega)]
    rw [e] at k
    subst ej
    simp only [s_X8_count_0, s_X8_count_1, s_X8_count_3, s_X8_count_6, s_X8_count_9, s_X8_count_10, s_X8_count_11, s_X8_count_14, s_X8_count_17, s_X8_count_18, s_X8_count_21, o.1, q_isBelow, zI_0, Bool.true_eq_false, Bool.false_eq_true, not_true_eq_false, not_false_eq_true, if_true, if_false, KV_ap, KU_ap, dropL_nil, g1, q_amount hX hj]
    exact k h hX (frX_rfl h B)

/-! The model's calls: lays, undo -/
def sfF (f : Nat → Int32) (t i : Nat) : Nat → Int32 := fun x => if t ≤ x ∧ x < i then f (x + 1) else f x
theorem sfF_s {f : Nat → Int32} {t i : Nat} (h : t ≤ i) : upd (sfF f t i) i (sfF f t i (i + 1)) = sfF f t (i + 1) := by
  funext x
  unfold upd sfF
  by_cases e : x = i
  · subst e; rw [if_pos rfl, if_neg (by omega), if_pos (by omega)]
  · rw [if_neg e]
    have q : (t ≤ x ∧ x < i + 1) = (t ≤ x ∧ x < i) := propext (by omega)
    simp only [q]
theorem sfF_0 (f : Nat → Int32) (t : Nat) : sfF f t t = f := by funext x; rw [sfF, if_neg (by omega)]
/-- the columns of the sticks changed, nothing else -/
def clQ (h h' : HP) (M : Nat) (F0 F1 F2 F3 : Nat → Int32) : Prop := (∀ x, hS h' x = hS h x) ∧ (∀ x j, hF h' x j = hF h x j) ∧ (∀ x, x ≠ 2 → x ≠ 3 → x ≠ 4 → x ≠ 5 → hI h' (M + x) = hI h (M + x)) ∧ hI h' (M + 2) = F0 ∧ hI h' (M + 3) = F1 ∧ hI h' (M + 4) = F2 ∧ hI h' (M + 5) = F3 ∧ frm h h' M (M + 19)
theorem clQ_up {h h' : HP} {M : Nat} {F0 F1 F2 F3 : Nat → Int32} (G0 G1 G2 G3 : Nat → Int32) (q : clQ h h' M F0 F1 F2 F3) : clQ h (pI (pI (pI (pI h' (M + 2) G0) (M + 3) G1) (M + 4) G2) (M + 5) G3) M G0 G1 G2 G3 := by
  obtain ⟨q1, q2, q3, q4, q5, q6, q7, q8⟩ := q
  refine ⟨q1, q2, ?_, ?_, ?_, ?_, ?_, ?_⟩
  · intro x h2 h3 h4 h5
    simp only [hI_pI, Nat.add_left_cancel_iff, h2, h3, h4, h5, if_false]
    exact q3 x h2 h3 h4 h5
  · simp only [hI_pI, Nat.add_left_cancel_iff, Nat.reduceEqDiff, if_false, if_true]
  · simp only [hI_pI, Nat.add_left_cancel_iff, Nat.reduceEqDiff, if_false, if_true]
  · simp only [hI_pI, Nat.add_left_cancel_iff, Nat.reduceEqDiff, if_false, if_true]
  · simp only [hI_pI, Nat.add_left_cancel_iff, Nat.reduceEqDiff, if_false, if_true]
  · exact frm_pI (by omega) (by omega) (frm_pI (by omega) (by omega) (frm_pI (by omega) (by omega) (frm_pI (by omega) (by omega) q8)))
theorem clQ_rfl (h : HP) (M : Nat) : clQ h h M (hI h (M + 2)) (hI h (M + 3)) (hI h (M + 4)) (hI h (M + 5)) := ⟨fun _ => rfl, fun _ _ => rfl, fun _ _ _ _ _ => rfl, rfl, rfl, rfl, rfl, frm_rfl h _ _⟩
theorem clQ_sM {h h' : HP} {M : Nat} {F0 F1 F2 F3 : Nat → Int32} (q : clQ h h' M F0 F1 F2 F3) (s : sM h M) : sM h' M := by
  unfold sM
  simp only [q.1, q.2.1]
  exact s
def tkF (f s : Nat → Int32) (a i : Nat) : Nat → Int32 := fun x => if x < i then s (a + x) else f x
theorem tkF_s {f s : Nat → Int32} {a i : Nat} : upd (tkF f s a i) i (s (a + i)) = tkF f s a (i + 1) := by
  funext x
  unfold upd tkF
  by_cases e : x = i
  · subst e; rw [if_pos rfl, if_pos (by omega)]
  · rw [if_neg e]
    have q : (x < i + 1) = (x < i) := propext (by omega)
    simp only [q]
theorem tkF_0 {f s : Nat → Int32} {a : Nat} : tkF f s a 0 = f := by funext x; rw [tkF, if_neg (by omega)]
section M19
variable {g : GL} {h : HP} {Φ : Value → HP → Prop} {M : Nat}
theorem p_take4 {a q sz : Nat} (s : sM h M) (sh : shM h M) (hq : 5 < q) (ht : hS h (M + q) = (1, sz)) (hsz : a + 25 ≤ sz) (hsm : sz < 2147483648) (k : ∀ h', clQ (pF h M 1 (.int (hI h (M + q) a))) h' M (tkF (hI h (M + 2)) (hI h (M + q)) (a + 1) 6) (tkF (hI h (M + 3)) (hI h (M + q)) (a + 7) 6) (tkF (hI h (M + 4)) (hI h (M + q)) (a + 13) 6) (tkF (hI h (M + 5)) (hI h (M + q)) (a + 19) 6) → Φ .null h') : J g k_X9_take4 0 [.ref M, .ref (M + q), .int (nI a), m_D] [] [] h Φ := by
  have q2 := sh.2.1 2 (by decide) (by decide)
  have q3 := sh.2.1 3 (by decide) (by decide)
  have q4 := sh.2.1 4 (by decide) (by decide)
  have q5 := sh.2.1 5 (by decide) (by decide)
  have s' : sM (pF h M 1 (.int (hI h (M + q) a))) M := sM_pF (by decide) s
  have ib : ∀ x, x < sz → m_inb (nI x) sz = true := fun x hx => by rw [inb_nI (by omega)]; simpa using hx
  have i7 : ∀ x : Nat, nI x + (7 : Int32) = nI (x + 7) := fun x => i_add x 7
  have i13 : ∀ x : Nat, nI x + (13 : Int32) = nI (x + 13) := fun x => i_add x 13
  have i19 : ∀ x : Nat, nI x + (19 : Int32) = nI (x + 19) := fun x => i_add x 19
  simp only [s_X9_take4_0, s_X9_take4_1, s_X9_take4_2, s_X9_take4_3, s_X9_take4_4, s_X9_take4_7, s_X9_take4_8, s_X9_take4_10, s_X9_take4_12, s_X9_take4_15, s_X9_take4_16, s_X9_take4_19, s_X9_take4_20, s_X9_take4_21, s_X9_take4_22, s_X9_take4_23, s_X9_take4_24, s_X9_take4_25, s_X9_take4_26, s_X9_take4_27, s_X9_take4_28, s_X9_take4_29, s_X9_take4_32, s_X9_take4_33, s_X9_take4_34, s_X9_take4_35, s_X9_take4_37, s_X9_take4_38, s_X9_take4_39, s_X9_take4_40, s_X9_take4_41, s_X9_take4_42, s_X9_take4_43, s_X9_take4_46, s_X9_take4_47, s_X9_take4_48, s_X9_take4_49, s_X9_take4_51, s_X9_take4_52, s_X9_take4_53, s_X9_take4_54, s_X9_take4_55, s_X9_take4_56, s_X9_take4_57, s_X9_take4_60, s_X9_take4_61, s_X9_take4_62, s_X9_take4_63, s_X9_take4_65, s_X9_take4_66, s_X9_take4_67, s_X9_take4_68, s_X9_take4_69, s_X9_take4_70, s_X9_take4_73, s_X9_take4_76, dropL_nil, s.1, ht, ib a (by omega), cl_nI (show a < 2147483648 by omega)]
  generalize hh1 : pF h M 1 (.int (hI h (M + q) a)) = h1 at k s'
  have hS1 : ∀ x, hS h1 x = hS h x := fun x => by rw [← hh1]; rfl
  have hI1 : ∀ x, hI h1 x = hI h x := fun x => by rw [← hh1]; rfl
  have key : ∀ m i h', i + m = 6 → clQ h1 h' M (tkF (hI h (M + 2)) (hI h (M + q)) (a + 1) i) (tkF (hI h (M + 3)) (hI h (M + q)) (a + 7) i) (tkF (hI h (M + 4)) (hI h (M + q)) (a + 13) i) (tkF (hI h (M + 5)) (hI h (M + q)) (a + 19) i) → J g k_X9_take4 9 [.ref M, .ref (M + q), .int (nI a), .int (nI i)] [] [] h' Φ := by
    intro m
    induction m with
    | zero =>
      intro i h' hi hc
      have : i = 6 := by omega
      subst this
      rw [s_X9_take4_9]
      simp only [s_X9_take4_0, s_X9_take4_1, s_X9_take4_2, s_X9_take4_3, s_X9_take4_4, s_X9_take4_7, s_X9_take4_8, s_X9_take4_10, s_X9_take4_12, s_X9_take4_15, s_X9_take4_16, s_X9_take4_19, s_X9_take4_20, s_X9_take4_21, s_X9_take4_22, s_X9_take4_23, s_X9_take4_24, s_X9_take4_25, s_X9_take4_26, s_X9_take4_27, s_X9_take4_28, s_X9_take4_29, s_X9_take4_32, s_X9_take4_33, s_X9_take4_34, s_X9_take4_35, s_X9_take4_37, s_X9_take4_38, s_X9_take4_39, s_X9_take4_40, s_X9_take4_41, s_X9_take4_42, s_X9_take4_43, s_X9_take4_46, s_X9_take4_47, s_X9_take4_48, s_X9_take4_49, s_X9_take4_51, s_X9_take4_52, s_X9_take4_53, s_X9_take4_54, s_X9_take4_55, s_X9_take4_56, s_X9_take4_57, s_X9_take4_60, s_X9_take4_61, s_X9_take4_62, s_X9_take4_63, s_X9_take4_65, s_X9_take4_66, s_X9_take4_67, s_X9_take4_68, s_X9_take4_69, s_X9_take4_70, s_X9_take4_73, s_X9_take4_76, c6, le_nI (show 6 < 2147483648 by decide) (show 6 < 2147483648 by decide), Nat.le_refl, if_true]
      exact k h' hc
    | succ m ih =>
      intro i h' hi hc
      have b6 : m_inb (nI i) 6 = true := by rw [inb_nI (by omega)]; simpa using (show i < 6 by omega)
      have hc' := hc
      obtain ⟨z1, z2, z3, z4, z5, z6, z7, z8⟩ := hc
      have zq : hI h' (M + q) = hI h (M + q) := by rw [z3 q (by omega) (by omega) (by omega) (by omega), hI1]
      have sh' := clQ_sM hc' s'
      have n2 : ∀ (h : HP) f, hI (pI h (M + 2) f) (M + q) = hI h (M + q) := fun h f => by rw [hI_pI, if_neg (by omega)]
      have n3 : ∀ (h : HP) f, hI (pI h (M + 3) f) (M + q) = hI h (M + q) := fun h f => by rw [hI_pI, if_neg (by omega)]
      have n4 : ∀ (h : HP) f, hI (pI h (M + 4) f) (M + q) = hI h (M + q) := fun h f => by rw [hI_pI, if_neg (by omega)]
      have w3 : ∀ (h : HP) f, hI (pI h (M + 2) f) (M + 3) = hI h (M + 3) := fun h f => by rw [hI_pI, if_neg (by omega)]
      have w4 : ∀ (h : HP) f, hI (pI h (M + 2) f) (M + 4) = hI h (M + 4) := fun h f => by rw [hI_pI, if_neg (by omega)]
      have w5 : ∀ (h : HP) f, hI (pI h (M + 2) f) (M + 5) = hI h (M + 5) := fun h f => by rw [hI_pI, if_neg (by omega)]
      have y4 : ∀ (h : HP) f, hI (pI h (M + 3) f) (M + 4) = hI h (M + 4) := fun h f => by rw [hI_pI, if_neg (by omega)]
      have y5 : ∀ (h : HP) f, hI (pI h (M + 3) f) (M + 5) = hI h (M + 5) := fun h f => by rw [hI_pI, if_neg (by omega)]
      have x5 : ∀ (h : HP) f, hI (pI h (M + 4) f) (M + 5) = hI h (M + 5) := fun h f => by rw [hI_pI, if_neg (by omega)]
      rw [s_X9_take4_9]
      simp only [s_X9_take4_0, s_X9_take4_1, s_X9_take4_2, s_X9_take4_3, s_X9_take4_4, s_X9_take4_7, s_X9_take4_8, s_X9_take4_10, s_X9_take4_12, s_X9_take4_15, s_X9_take4_16, s_X9_take4_19, s_X9_take4_20, s_X9_take4_21, s_X9_take4_22, s_X9_take4_23, s_X9_take4_24, s_X9_take4_25, s_X9_take4_26, s_X9_take4_27, s_X9_take4_28, s_X9_take4_29, s_X9_take4_32, s_X9_take4_33, s_X9_take4_34, s_X9_take4_35, s_X9_take4_37, s_X9_take4_38, s_X9_take4_39, s_X9_take4_40, s_X9_take4_41, s_X9_take4_42, s_X9_take4_43, s_X9_take4_46, s_X9_take4_47, s_X9_take4_48, s_X9_take4_49, s_X9_take4_51, s_X9_take4_52, s_X9_take4_53, s_X9_take4_54, s_X9_take4_55, s_X9_take4_56, s_X9_take4_57, s_X9_take4_60, s_X9_take4_61, s_X9_take4_62, s_X9_take4_63, s_X9_take4_65, s_X9_take4_66, s_X9_take4_67, s_X9_take4_68, s_X9_take4_69, s_X9_take4_70, s_X9_take4_73, s_X9_take4_76, dropL_nil, c6, le_nI (show 6 < 2147483648 by decide) (show i < 2147483648 by omega), show ¬ 6 ≤ i by omega, if_false, hS_pI, hF_pI, z1, hS1, sh'.2.2.1, sh'.2.2.2.1, sh'.2.2.2.2.1, sh'.2.2.2.2.2.1, s.1, q2, q3, q4, q5, ht, a1, i7, i13, i19, i_add, b6, ib (a + 1 + i) (by omega), ib (a + 7 + i) (by omega), ib (a + 13 + i) (by omega), ib (a + 19 + i) (by omega), cl_nI (show i < 2147483648 by omega), cl_nI (show a + 1 + i < 2147483648 by omega), cl_nI (show a + 7 + i < 2147483648 by omega), cl_nI (show a + 13 + i < 2147483648 by omega), cl_nI (show a + 19 + i < 2147483648 by omega), n2, n3, n4, w3, w4, w5, y4, y5, x5, zq, z4, z5, z6, z7, tkF_s]
      exact ih (i + 1) _ (by omega) (clQ_up _ _ _ _ hc')
  refine key 6 0 h1 rfl ?_
  simp only [tkF_0, ← hI1]
  exact clQ_rfl h1 M
theorem m_undo : cM k_X9_undo [] aUndo := by
  intro g h M u Φ hM k
  have hM' := hM
  obtain ⟨⟨L, N, P⟩, im, tx, fr, rf⟩ := u
  obtain ⟨s, sh, ⟨f1, f2, f12, f18, f22, f23⟩, vt, c, d, p, t, rr, i0, i1⟩ := hM
  have hp : P.length ≤ 6 := vt.2.2.1
  have f18' : hF h M 18 = .int (nI P.length) := f18
  have f2' : hF h M 2 = .int (nI N.length) := f2
  by_cases h0 : P.length = 0
  · have e : aUndo ((L, N, P), im, tx, fr, rf) = (.int (-3), bdU ((L, N, P), im, tx, fr, rf) 1) := by rw [aUndo]; exact if_pos h0
    rw [e] at k
    simp only [s_X9_undo_0, s_X9_undo_1, s_X9_undo_4, s_X9_undo_7, s_X9_undo_8, s_X9_undo_11, s_X9_undo_12, s_X9_undo_13, s_X9_undo_14, s_X9_undo_17, s_X9_undo_18, s_X9_undo_19, s_X9_undo_22, s_X9_undo_23, s_X9_undo_24, s_X9_undo_27, s_X9_undo_29, s_X9_undo_30, s_X9_undo_33, s_X9_undo_34, s_X9_undo_37, s_X9_undo_38, s_X9_undo_41, zI_0, Bool.true_eq_false, Bool.false_eq_true, not_true_eq_false, not_false_eq_true, if_true, if_false, KV_ap, KU_ap, dropL_nil, s.1, f18', eq0 (show P.length < 2147483648 by omega), h0]
    exact p_no hM' (fun h' hM' hf => by simp only [KV_ap, s_X9_undo_0, s_X9_undo_1, s_X9_undo_4, s_X9_undo_7, s_X9_undo_8, s_X9_undo_11, s_X9_undo_12, s_X9_undo_13, s_X9_undo_14, s_X9_undo_17, s_X9_undo_18, s_X9_undo_19, s_X9_undo_22, s_X9_undo_23, s_X9_undo_24, s_X9_undo_27, s_X9_undo_29, s_X9_undo_30, s_X9_undo_33, s_X9_undo_34, s_X9_undo_37, s_X9_undo_38, s_X9_undo_41]; exact k h' hM' hf)
  · have e : aUndo ((L, N, P), im, tx, fr, rf) = (.int (nI (gP P (P.length - 1)).length), ((gP P (P.length - 1), N, P.dropLast), im, tx, fr, rf)) := by rw [aUndo]; exact if_neg h0
    rw [e] at k
    have g18 : ∀ (h : HP) v, hF (pF h M 18 v) M 18 = v := fun h v => by rw [hF_pF, if_pos ⟨rfl, rfl⟩]
    have g17 : ∀ (h : HP) v, hF (pF h M 18 v) M 17 = hF h M 17 := fun h v => by rw [hF_pF, if_neg (by omega)]
    have m25 : ∀ x : Nat, (25 : Int32) * nI x = nI (25 * x) := fun x => i_mul 25 x
    obtain ⟨r, v, l⟩ := p (P.length - 1) (show P.length - 1 < P.length by omega)
    simp only [s_X9_undo_0, s_X9_undo_1, s_X9_undo_4, s_X9_undo_7, s_X9_undo_8, s_X9_undo_11, s_X9_undo_12, s_X9_undo_13, s_X9_undo_14, s_X9_undo_17, s_X9_undo_18, s_X9_undo_19, s_X9_undo_22, s_X9_undo_23, s_X9_undo_24, s_X9_undo_27, s_X9_undo_29, s_X9_undo_30, s_X9_undo_33, s_X9_undo_34, s_X9_undo_37, s_X9_undo_38, s_X9_undo_41, zI_0, Bool.true_eq_false, Bool.false_eq_true, not_true_eq_false, not_false_eq_true, if_true, if_false, KV_ap, KU_ap, dropL_nil, hS_pF, g18, g17, s.1, f18', eq0 (show P.length < 2147483648 by omega), h0, s1 (show 1 ≤ P.length by omega), s.2.2.2.2.2.2.2.2.2.2.2.2.1, m25]
    refine p_take4 (sM_pF (by decide) s) sh (by decide) sh.2.2.2.2.1 (show 25 * (P.length - 1) + 25 ≤ 150 by omega) (by decide) (fun h' hc => ?_)
    obtain ⟨z1, z2, z3, z4, z5, z6, z7, z8⟩ := hc
    have r0 : hI h (M + 12) (25 * (P.length - 1)) = nI (gP P (P.length - 1)).length := r.1
    have w1 : hF h' M 1 = .int (nI (gP P (P.length - 1)).length) := by rw [z2, hF_pF, if_pos ⟨rfl, rfl⟩]; rw [hI_pF]; exact congrArg Value.int r0
    simp only [s_X9_undo_0, s_X9_undo_1, s_X9_undo_4, s_X9_undo_7, s_X9_undo_8, s_X9_undo_11, s_X9_undo_12, s_X9_undo_13, s_X9_undo_14, s_X9_undo_17, s_X9_undo_18, s_X9_undo_19, s_X9_undo_22, s_X9_undo_23, s_X9_undo_24, s_X9_undo_27, s_X9_undo_29, s_X9_undo_30, s_X9_undo_33, s_X9_undo_34, s_X9_undo_37, s_X9_undo_38, s_X9_undo_41, zI_0, Bool.true_eq_false, Bool.false_eq_true, not_true_eq_false, not_false_eq_true, if_true, if_false, KV_ap, KU_ap, dropL_nil, z1, hS_pF, s.1, w1]
    refine k h' ?_ (frm_trans (frm_pF (by omega) (by omega) (frm_pF (by omega) (by omega) (frm_rfl h _ _))) z8)
    have hdl : P.dropLast.length = P.length - 1 := List.length_dropLast
    refine isM_T hM' z1 ?_ ?_ w1 ?_ ?_ ?_ ?_ ?_ ?_
    · intro j h1 h2 h3
      rw [z2, hF_pF, if_neg (by omega), hF_pF, if_neg (by omega)]
    · intro x hx
      rw [z3 x (by omega) (by omega) (by omega) (by omega)]; rfl
    · rw [z2, hF_pF, if_neg (by omega), hF_pF, if_neg (by omega)]; exact f2'
    · rw [z2, hF_pF, if_neg (by omega), hF_pF, if_pos ⟨rfl, rfl⟩]
      show _ = Value.int (nI P.dropLast.length)
      rw [hdl]
    · refine ⟨l, vt.2.1, ?_, v, vt.2.2.2.2⟩
      show P.dropLast.length ≤ 6
      omega
    · intro j hj
      have hj' : j < (gP P (P.length - 1)).length := hj
      have l' : (gP P (P.length - 1)).length ≤ 6 := l
      have := r.2 j hj
      rw [z4, z5, z6, z7]
      unfold tkF
      rw [if_pos (by omega), if_pos (by omega), if_pos (by omega), if_pos (by omega)]
      simp only [hI_pF, Nat.add_assoc]
      exact this
    · rw [z3 6 (by decide) (by decide) (by decide) (by decide), z3 7 (by decide) (by decide) (by decide) (by decide), z3 8 (by decide) (by decide) (by decide) (by decide), z3 9 (by decide) (by decide) (by decide) (by decide)]; exact d
    · rw [z3 12 (by decide) (by decide) (by decide) (by decide)]
      intro j hj
      have hj' : j < P.dropLast.length := hj
      have := p j (show j < P.length by omega)
      have eg : gP P.dropLast j = gP P j := by
        unfold gP
        rw [List.getD_eq_getElem?_getD, List.getD_eq_getElem?_getD, List.getElem?_dropLast, if_pos (by omega)]
      show mR (fun t => hI h (M + 12) (25 * j + t)) (gP P.dropLast j) ∧ vL (gP P.dropLast j) ∧ (gP P.dropLast j).length ≤ 6
      rw [eg]
      exact this
end M19

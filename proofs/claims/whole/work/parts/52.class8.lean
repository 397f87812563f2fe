/-! The class's calls, eighth part: next, names, court -/
theorem pI_id (h : HP) (a : Nat) : pI h a (hI h a) = h := by
  simp only [pI, hI]
  have : (fun x => if x = a then h.2.2.1 a else h.2.2.1 x) = h.2.2.1 := by
    funext z
    by_cases hz : z = a <;> simp [hz]
  rw [this]
theorem maN_le (K : Nat) (r : Nat → Nat) : maN K r ≤ 6 := by
  unfold maN
  have : ∀ m i a, a ≤ 6 → it (fun k m => mxN m (ksN K r (r k))) m i a ≤ 6 := by
    intro m
    induction m with
    | zero => intro i a h; exact h
    | succ m ih =>
      intro i a h
      rw [it]
      exact ih (i + 1) _ (Nat.le_of_lt_succ (mx_lt (Nat.lt_succ_of_le h) (Nat.lt_succ_of_le (ksN_le K r (r i)))))
  exact this 6 0 0 (by decide)
def rK (s : St) (x : Nat) : Nat → Nat := fun k => rdX k s.2.1 x s.2.2.2
def nxN (K : Nat) (s : St) : Nat × Nat := it (fun x (q : Nat × Nat) => if maN K (rK s x) < q.2 then (x, maN K (rK s x)) else q) 9 0 (0, 7)
def aNext (v : Int32) (u : XS) : Value × XS := if decide (0 ≤ v ∧ v < nI u.1.1.length) = true then (.int (if kfN u.1.2.1 v.toNatClampNeg (gS u.1.1 v.toNatClampNeg).2.1 = 0 then -1 else nI (nxN (kfN u.1.2.1 v.toNatClampNeg (gS u.1.1 v.toNatClampNeg).2.1) (gS u.1.1 v.toNatClampNeg)).1), u) else (.int (-2), bdU u 0)
theorem x_next (v : Int32) : cX k_X8_next [.int v, m_D, m_D, m_D, m_D, m_D] (aNext v) := by
  intro g h B u Φ hX k
  obtain ⟨⟨L, N, P⟩, im, tx, fr, rf⟩ := u
  have o := hX.1
  have t := hX.2.1
  obtain ⟨t0, t1, t2, t3, t4, t5, t6⟩ := id t
  have t4 : isS h (B + 1 + 1) L := t4
  have t5 : isN h (B + 1 + 3) N := t5
  have t6 : isP h (B + 1 + 5) P := t6
  have hl6 : L.length ≤ 6 := t4.2.1.2.2.2.1
  cases g1 : decide (0 ≤ v ∧ v < nI L.length)
  · have e : aNext v ((L, N, P), im, tx, fr, rf) = (.int (-2), bdU ((L, N, P), im, tx, fr, rf) 0) := by simp only [aNext, g1, Bool.false_eq_true, if_false]
    rw [e] at k
    simp only [s_X8_next_0, s_X8_next_1, s_X8_next_4, s_X8_next_7, s_X8_next_8, s_X8_next_11, s_X8_next_14, s_X8_next_15, s_X8_next_18, s_X8_next_19, s_X8_next_20, s_X8_next_21, s_X8_next_24, s_X8_next_25, s_X8_next_26, s_X8_next_29, s_X8_next_30, s_X8_next_31, s_X8_next_32, s_X8_next_33, s_X8_next_35, s_X8_next_37, s_X8_next_38, s_X8_next_42, s_X8_next_44, s_X8_next_47, s_X8_next_48, s_X8_next_49, s_X8_next_50, s_X8_next_52, s_X8_next_55, s_X8_next_57, s_X8_next_59, s_X8_next_61, s_X8_next_64, s_X8_next_66, s_X8_next_68, s_X8_next_70, s_X8_next_71, s_X8_next_74, s_X8_next_77, s_X8_next_78, o.1, o.2.1, t0, t1, t4.1, q_has t4.2.1, zI_0, Bool.true_eq_false, Bool.false_eq_true, not_true_eq_false, not_false_eq_true, if_true, if_false, KV_ap, KU_ap, dropL_nil, g1]
    exact q_bad hX (fun h' hX' hf => by simp only [KV_ap, s_X8_next_0, s_X8_next_1, s_X8_next_4, s_X8_next_7, s_X8_next_8, s_X8_next_11, s_X8_next_14, s_X8_next_15, s_X8_next_18, s_X8_next_19, s_X8_next_20, s_X8_next_21, s_X8_next_24, s_X8_next_25, s_X8_next_26, s_X8_next_29, s_X8_next_30, s_X8_next_31, s_X8_next_32, s_X8_next_33, s_X8_next_35, s_X8_next_37, s_X8_next_38, s_X8_next_42, s_X8_next_44, s_X8_next_47, s_X8_next_48, s_X8_next_49, s_X8_next_50, s_X8_next_52, s_X8_next_55, s_X8_next_57, s_X8_next_59, s_X8_next_61, s_X8_next_64, s_X8_next_66, s_X8_next_68, s_X8_next_70, s_X8_next_71, s_X8_next_74, s_X8_next_77, s_X8_next_78]; exact k h' hX' hf)
  · obtain ⟨j, ej, hj⟩ := hs_ex (show L.length < 2147483648 by omega) g1
    have hj' : j < 2147483648 := by omega
    have hK := kfN_lt N j (gS L j).2.1
    by_cases hc : kfN N j (gS L j).2.1 = 0
    · have e : aNext v ((L, N, P), im, tx, fr, rf) = (.int (-1), ((L, N, P), im, tx, fr, rf)) := by
        simp only [aNext, g1, if_true]
        rw [ej, cl_nI hj', if_pos hc]
      rw [e] at k
      subst ej
      simp only [s_X8_next_0, s_X8_next_1, s_X8_next_4, s_X8_next_7, s_X8_next_8, s_X8_next_11, s_X8_next_14, s_X8_next_15, s_X8_next_18, s_X8_next_19, s_X8_next_20, s_X8_next_21, s_X8_next_24, s_X8_next_25, s_X8_next_26, s_X8_next_29, s_X8_next_30, s_X8_next_31, s_X8_next_32, s_X8_next_33, s_X8_next_35, s_X8_next_37, s_X8_next_38, s_X8_next_42, s_X8_next_44, s_X8_next_47, s_X8_next_48, s_X8_next_49, s_X8_next_50, s_X8_next_52, s_X8_next_55, s_X8_next_57, s_X8_next_59, s_X8_next_61, s_X8_next_64, s_X8_next_66, s_X8_next_68, s_X8_next_70, s_X8_next_71, s_X8_next_74, s_X8_next_77, s_X8_next_78, o.1, o.2.1, t0, t1, t4.1, q_has t4.2.1, zI_0, Bool.true_eq_false, Bool.false_eq_true, not_true_eq_false, not_false_eq_true, if_true, if_false, KV_ap, KU_ap, dropL_nil, g1, q_kindsThatFit hX hj, hc, eq0 (show 0 < 2147483648 by decide)]
      exact k h hX (frX_rfl h B)
    · have e : aNext v ((L, N, P), im, tx, fr, rf) = (.int (nI (nxN (kfN N j (gS L j).2.1) (gS L j)).1), ((L, N, P), im, tx, fr, rf)) := by
        simp only [aNext, g1, if_true]
        rw [ej, cl_nI hj', if_neg hc]
      rw [e] at k
      subst ej
      simp only [s_X8_next_0, s_X8_next_1, s_X8_next_4, s_X8_next_7, s_X8_next_8, s_X8_next_11, s_X8_next_14, s_X8_next_15, s_X8_next_18, s_X8_next_19, s_X8_next_20, s_X8_next_21, s_X8_next_24, s_X8_next_25, s_X8_next_26, s_X8_next_29, s_X8_next_30, s_X8_next_31, s_X8_next_32, s_X8_next_33, s_X8_next_35, s_X8_next_37, s_X8_next_38, s_X8_next_42, s_X8_next_44, s_X8_next_47, s_X8_next_48, s_X8_next_49, s_X8_next_50, s_X8_next_52, s_X8_next_55, s_X8_next_57, s_X8_next_59, s_X8_next_61, s_X8_next_64, s_X8_next_66, s_X8_next_68, s_X8_next_70, s_X8_next_71, s_X8_next_74, s_X8_next_77, s_X8_next_78, o.1, o.2.1, t0, t1, t4.1, q_has t4.2.1, zI_0, Bool.true_eq_false, Bool.false_eq_true, not_true_eq_false, not_false_eq_true, if_true, if_false, KV_ap, KU_ap, dropL_nil, g1, q_kindsThatFit hX hj, eq0 (show kfN N j (gS L j).2.1 < 2147483648 by omega), hc]
      generalize hKe : kfN N j (gS L j).2.1 = K at k hK hc
      have key := J_it (fun x (q : (Nat × Nat) × Value × (Nat → Int32)) => J g k_X8_next 40 [.ref B, .int (nI j), .int (nI K), .int (nI q.1.1), .int (nI q.1.2), .int (nI x), q.2.1] [] [] (pI h (B + 23) q.2.2) Φ) (fun x q => (if maN K (rK (gS L j) x) < q.1.2 then (x, maN K (rK (gS L j) x)) else q.1, .int (nI (maN K (rK (gS L j) x))), bkF (rK (gS L j) x) q.2.2)) 9 (fun _ q => q.1.2 ≤ 7) (fun x q _ hq => by
        have := maN_le K (rK (gS L j) x)
        show (if maN K (rK (gS L j) x) < q.1.2 then (x, maN K (rK (gS L j) x)) else q.1).2 ≤ 7
        split
        · show maN K (rK (gS L j) x) ≤ 7; omega
        · exact hq) (fun x q hx hq => by
        have hle := maN_le K (rK (gS L j) x)
        have hXq : isX (pI h (B + 23) q.2.2) B ((L, N, P), im, tx, fr, rf) := isX_sc hX (Or.inr rfl)
        rw [s_X8_next_40]
        simp only [s_X8_next_0, s_X8_next_1, s_X8_next_4, s_X8_next_7, s_X8_next_8, s_X8_next_11, s_X8_next_14, s_X8_next_15, s_X8_next_18, s_X8_next_19, s_X8_next_20, s_X8_next_21, s_X8_next_24, s_X8_next_25, s_X8_next_26, s_X8_next_29, s_X8_next_30, s_X8_next_31, s_X8_next_32, s_X8_next_33, s_X8_next_35, s_X8_next_37, s_X8_next_38, s_X8_next_42, s_X8_next_44, s_X8_next_47, s_X8_next_48, s_X8_next_49, s_X8_next_50, s_X8_next_52, s_X8_next_55, s_X8_next_57, s_X8_next_59, s_X8_next_61, s_X8_next_64, s_X8_next_66, s_X8_next_68, s_X8_next_70, s_X8_next_71, s_X8_next_74, s_X8_next_77, s_X8_next_78, zI_0, Bool.true_eq_false, Bool.false_eq_true, not_true_eq_false, not_false_eq_true, if_true, if_false, KV_ap, KU_ap, dropL_nil, c9, le_nI (show 9 < 2147483648 by decide) (show x < 2147483648 by omega), if_neg (Nat.not_le.mpr hx), hS_pI, o.1, q_mostAlike hXq hj hx hK, ← rK.eq_1, hI_pIs, pI_pI, le_nI (show q.1.2 < 2147483648 by omega) (show maN K (rK (gS L j) x) < 2147483648 by omega), a1]
        by_cases hd : maN K (rK (gS L j) x) < q.1.2
        · rw [if_neg (by omega), if_pos hd]
        · rw [if_pos (by omega), if_neg hd]) 9 0 ((0, 7), m_D, hI h (B + 23)) rfl (Nat.le_refl 7)
      have e2 : ∀ m i (q : (Nat × Nat) × Value × (Nat → Int32)), (it (fun x (q : (Nat × Nat) × Value × (Nat → Int32)) => (if maN K (rK (gS L j) x) < q.1.2 then (x, maN K (rK (gS L j) x)) else q.1, Value.int (nI (maN K (rK (gS L j) x))), bkF (rK (gS L j) x) q.2.2)) m i q).1 = it (fun x (q : Nat × Nat) => if maN K (rK (gS L j) x) < q.2 then (x, maN K (rK (gS L j) x)) else q) m i q.1 := by
        intro m
        induction m with
        | zero => intro i q; rfl
        | succ m ih => intro i q; rw [it, it, ih]
      have key0 := key.1
      simp only [pI_id] at key0
      refine Eq.mpr key0 ?_
      rw [s_X8_next_40]
      simp only [s_X8_next_0, s_X8_next_1, s_X8_next_4, s_X8_next_7, s_X8_next_8, s_X8_next_11, s_X8_next_14, s_X8_next_15, s_X8_next_18, s_X8_next_19, s_X8_next_20, s_X8_next_21, s_X8_next_24, s_X8_next_25, s_X8_next_26, s_X8_next_29, s_X8_next_30, s_X8_next_31, s_X8_next_32, s_X8_next_33, s_X8_next_35, s_X8_next_37, s_X8_next_38, s_X8_next_42, s_X8_next_44, s_X8_next_47, s_X8_next_48, s_X8_next_49, s_X8_next_50, s_X8_next_52, s_X8_next_55, s_X8_next_57, s_X8_next_59, s_X8_next_61, s_X8_next_64, s_X8_next_66, s_X8_next_68, s_X8_next_70, s_X8_next_71, s_X8_next_74, s_X8_next_77, s_X8_next_78, zI_0, Bool.true_eq_false, Bool.false_eq_true, not_true_eq_false, not_false_eq_true, if_true, if_false, KV_ap, KU_ap, dropL_nil, c9, le_nI (show 9 < 2147483648 by decide) (show 9 < 2147483648 by decide), Nat.le_refl, e2, ← nxN.eq_1]
      exact k _ (isX_sc hX (Or.inr rfl)) (frX_of (lo := B + 23) (hi := B + 24) (by omega) (by omega) (frm_pI (by omega) (by omega) (frm_rfl h _ _)))
theorem nr_chk : (List.range 341).all (fun r => decide (r = 0) || isNm (nrN r)) = true := by decide +kernel
theorem nr_nm {r : Nat} (h1 : 1 ≤ r) (h2 : r < 341) : isNm (nrN r) = true := by
  have := List.all_eq_true.mp nr_chk r (List.mem_range.mpr h2)
  rw [decide_eq_false (by omega), Bool.false_or] at this
  exact this
def nmN (N : List St) (i k : Nat) : Nat × Int32 := it (fun r (q : Nat × Int32) => if fitN N i k (nrN r) = true then (q.1 + 1, if q.2 = -1 then nI (nrN r) else q.2) else q) 340 1 (0, -1)
def aNames (v0 v1 : Int32) (u : XS) : Value × XS := if (decide (0 ≤ v0 ∧ v0 < nI u.1.1.length) && decide (0 ≤ v1 ∧ v1 < 2)) = true then (.int (if v1 = 0 then nI (nmN u.1.2.1 v0.toNatClampNeg (gS u.1.1 v0.toNatClampNeg).1).1 else (nmN u.1.2.1 v0.toNatClampNeg (gS u.1.1 v0.toNatClampNeg).1).2), u) else (.int (-2), bdU u 0)
theorem x_names (v0 v1 : Int32) : cX k_X8_names [.int v0, .int v1, m_D, m_D, m_D, m_D, m_D] (aNames v0 v1) := by
  intro g h B u Φ hX k
  obtain ⟨⟨L, N, P⟩, im, tx, fr, rf⟩ := u
  have o := hX.1
  have t := hX.2.1
  obtain ⟨t0, t1, t2, t3, t4, t5, t6⟩ := id t
  have t4 : isS h (B + 1 + 1) L := t4
  have t5 : isN h (B + 1 + 3) N := t5
  have t6 : isP h (B + 1 + 5) P := t6
  have hl6 : L.length ≤ 6 := t4.2.1.2.2.2.1
  have hbad : (decide (0 ≤ v0 ∧ v0 < nI L.length) && decide (0 ≤ v1 ∧ v1 < 2)) = false → aNames v0 v1 ((L, N, P), im, tx, fr, rf) = (.int (-2), bdU ((L, N, P), im, tx, fr, rf) 0) := fun z => by rw [aNames, z]; rfl
  cases g1 : decide (0 ≤ v0 ∧ v0 < nI L.length)
  · rw [hbad (by simp only [g1, Bool.false_and])] at k
    simp only [s_X8_names_0, s_X8_names_1, s_X8_names_4, s_X8_names_7, s_X8_names_8, s_X8_names_11, s_X8_names_14, s_X8_names_15, s_X8_names_16, s_X8_names_19, s_X8_names_22, s_X8_names_23, s_X8_names_26, s_X8_names_27, s_X8_names_28, s_X8_names_31, s_X8_names_34, s_X8_names_35, s_X8_names_36, s_X8_names_39, s_X8_names_40, s_X8_names_41, s_X8_names_43, s_X8_names_44, s_X8_names_46, s_X8_names_47, s_X8_names_51, s_X8_names_54, s_X8_names_57, s_X8_names_59, s_X8_names_62, s_X8_names_64, s_X8_names_65, s_X8_names_68, s_X8_names_71, s_X8_names_72, s_X8_names_73, s_X8_names_75, s_X8_names_78, s_X8_names_81, s_X8_names_84, s_X8_names_86, s_X8_names_87, s_X8_names_90, s_X8_names_92, s_X8_names_95, s_X8_names_97, s_X8_names_99, s_X8_names_102, s_X8_names_105, s_X8_names_106, s_X8_names_109, s_X8_names_111, s_X8_names_114, s_X8_names_116, o.1, o.2.1, t0, t1, t4.1, q_has t4.2.1, zI_0, Bool.true_eq_false, Bool.false_eq_true, not_true_eq_false, not_false_eq_true, if_true, if_false, KV_ap, KU_ap, dropL_nil, g1]
    exact q_bad hX (fun h' hX' hf => by simp only [KV_ap, s_X8_names_0, s_X8_names_1, s_X8_names_4, s_X8_names_7, s_X8_names_8, s_X8_names_11, s_X8_names_14, s_X8_names_15, s_X8_names_16, s_X8_names_19, s_X8_names_22, s_X8_names_23, s_X8_names_26, s_X8_names_27, s_X8_names_28, s_X8_names_31, s_X8_names_34, s_X8_names_35, s_X8_names_36, s_X8_names_39, s_X8_names_40, s_X8_names_41, s_X8_names_43, s_X8_names_44, s_X8_names_46, s_X8_names_47, s_X8_names_51, s_X8_names_54, s_X8_names_57, s_X8_names_59, s_X8_names_62, s_X8_names_64, s_X8_names_65, s_X8_names_68, s_X8_names_71, s_X8_names_72, s_X8_names_73, s_X8_names_75, s_X8_names_78, s_X8_names_81, s_X8_names_84, s_X8_names_86, s_X8_names_87, s_X8_names_90, s_X8_names_92, s_X8_names_95, s_X8_names_97, s_X8_names_99, s_X8_names_102, s_X8_names_105, s_X8_names_106, s_X8_names_109, s_X8_names_111, s_X8_names_114, s_X8_names_116]; exact k h' hX' hf)
  · cases g2 : decide (0 ≤ v1 ∧ v1 < 2)
    · rw [hbad (by simp only [g1, g2, Bool.and_false])] at k
      simp only [s_X8_names_0, s_X8_names_1, s_X8_names_4, s_X8_names_7, s_X8_names_8, s_X8_names_11, s_X8_names_14, s_X8_names_15, s_X8_names_16, s_X8_names_19, s_X8_names_22, s_X8_names_23, s_X8_names_26, s_X8_names_27, s_X8_names_28, s_X8_names_31, s_X8_names_34, s_X8_names_35, s_X8_names_36, s_X8_names_39, s_X8_names_40, s_X8_names_41, s_X8_names_43, s_X8_names_44, s_X8_names_46, s_X8_names_47, s_X8_names_51, s_X8_names_54, s_X8_names_57, s_X8_names_59, s_X8_names_62, s_X8_names_64, s_X8_names_65, s_X8_names_68, s_X8_names_71, s_X8_names_72, s_X8_names_73, s_X8_names_75, s_X8_names_78, s_X8_names_81, s_X8_names_84, s_X8_names_86, s_X8_names_87, s_X8_names_90, s_X8_names_92, s_X8_names_95, s_X8_names_97, s_X8_names_99, s_X8_names_102, s_X8_names_105, s_X8_names_106, s_X8_names_109, s_X8_names_111, s_X8_names_114, s_X8_names_116, o.1, o.2.1, t0, t1, t4.1, q_has t4.2.1, q_isBelow, zI_0, Bool.true_eq_false, Bool.false_eq_true, not_true_eq_false, not_false_eq_true, if_true, if_false, KV_ap, KU_ap, dropL_nil, g1, g2]
      exact q_bad hX (fun h' hX' hf => by simp only [KV_ap, s_X8_names_0, s_X8_names_1, s_X8_names_4, s_X8_names_7, s_X8_names_8, s_X8_names_11, s_X8_names_14, s_X8_names_15, s_X8_names_16, s_X8_names_19, s_X8_names_22, s_X8_names_23, s_X8_names_26, s_X8_names_27, s_X8_names_28, s_X8_names_31, s_X8_names_34, s_X8_names_35, s_X8_names_36, s_X8_names_39, s_X8_names_40, s_X8_names_41, s_X8_names_43, s_X8_names_44, s_X8_names_46, s_X8_names_47, s_X8_names_51, s_X8_names_54, s_X8_names_57, s_X8_names_59, s_X8_names_62, s_X8_names_64, s_X8_names_65, s_X8_names_68, s_X8_names_71, s_X8_names_72, s_X8_names_73, s_X8_names_75, s_X8_names_78, s_X8_names_81, s_X8_names_84, s_X8_names_86, s_X8_names_87, s_X8_names_90, s_X8_names_92, s_X8_names_95, s_X8_names_97, s_X8_names_99, s_X8_names_102, s_X8_names_105, s_X8_names_106, s_X8_names_109, s_X8_names_111, s_X8_names_114, s_X8_names_116]; exact k h' hX' hf)
    · obtain ⟨j, ej, hj⟩ := hs_ex (show L.length < 2147483648 by omega) g1
      have hj' : j < 2147483648 := by omega
      have e : aNames v0 v1 ((L, N, P), im, tx, fr, rf) = (.int (if v1 = 0 then nI (nmN N j (gS L j).1).1 else (nmN N j (gS L j).1).2), ((L, N, P), im, tx, fr, rf)) := by
        simp only [aNames, g1, g2, Bool.and_self, if_true]
        rw [ej, cl_nI hj']
      rw [e] at k
      subst ej
      obtain ⟨w1, w2, w3, w4⟩ := t4.2.2.2 j hj
      have k' := k h hX (frX_rfl h B)
      simp only [s_X8_names_0, s_X8_names_1, s_X8_names_4, s_X8_names_7, s_X8_names_8, s_X8_names_11, s_X8_names_14, s_X8_names_15, s_X8_names_16, s_X8_names_19, s_X8_names_22, s_X8_names_23, s_X8_names_26, s_X8_names_27, s_X8_names_28, s_X8_names_31, s_X8_names_34, s_X8_names_35, s_X8_names_36, s_X8_names_39, s_X8_names_40, s_X8_names_41, s_X8_names_43, s_X8_names_44, s_X8_names_46, s_X8_names_47, s_X8_names_51, s_X8_names_54, s_X8_names_57, s_X8_names_59, s_X8_names_62, s_X8_names_64, s_X8_names_65, s_X8_names_68, s_X8_names_71, s_X8_names_72, s_X8_names_73, s_X8_names_75, s_X8_names_78, s_X8_names_81, s_X8_names_84, s_X8_names_86, s_X8_names_87, s_X8_names_90, s_X8_names_92, s_X8_names_95, s_X8_names_97, s_X8_names_99, s_X8_names_102, s_X8_names_105, s_X8_names_106, s_X8_names_109, s_X8_names_111, s_X8_names_114, s_X8_names_116, o.1, o.2.1, t0, t1, t4.1, q_has t4.2.1, q_isBelow, zI_0, Bool.true_eq_false, Bool.false_eq_true, not_true_eq_false, not_false_eq_true, if_true, if_false, KV_ap, KU_ap, dropL_nil, g1, g2, q_fact0 t4.2.1 hj', fc0 t4 hj]
      have c340 : (340 : Int32) = nI 340 := rfl
      have key := J_it (fun r (q : (Nat × Int32) × Value) => J g k_X8_names 49 [.ref B, .int (nI j), .int v1, .int (nI (gS L j).1), .int (nI q.1.1), .int q.1.2, .int (nI r), q.2] [] [] h Φ) (fun r q => (if fitN N j (gS L j).1 (nrN r) = true then (q.1.1 + 1, if q.1.2 = -1 then nI (nrN r) else q.1.2) else q.1, .int (nI (nrN r)))) 341 (fun r _ => 1 ≤ r) (fun r q _ hq => by omega) (fun r q hr hq => by
        rw [s_X8_names_49]
        simp only [s_X8_names_0, s_X8_names_1, s_X8_names_4, s_X8_names_7, s_X8_names_8, s_X8_names_11, s_X8_names_14, s_X8_names_15, s_X8_names_16, s_X8_names_19, s_X8_names_22, s_X8_names_23, s_X8_names_26, s_X8_names_27, s_X8_names_28, s_X8_names_31, s_X8_names_34, s_X8_names_35, s_X8_names_36, s_X8_names_39, s_X8_names_40, s_X8_names_41, s_X8_names_43, s_X8_names_44, s_X8_names_46, s_X8_names_47, s_X8_names_51, s_X8_names_54, s_X8_names_57, s_X8_names_59, s_X8_names_62, s_X8_names_64, s_X8_names_65, s_X8_names_68, s_X8_names_71, s_X8_names_72, s_X8_names_73, s_X8_names_75, s_X8_names_78, s_X8_names_81, s_X8_names_84, s_X8_names_86, s_X8_names_87, s_X8_names_90, s_X8_names_92, s_X8_names_95, s_X8_names_97, s_X8_names_99, s_X8_names_102, s_X8_names_105, s_X8_names_106, s_X8_names_109, s_X8_names_111, s_X8_names_114, s_X8_names_116, zI_0, Bool.true_eq_false, Bool.false_eq_true, not_true_eq_false, not_false_eq_true, if_true, if_false, KV_ap, KU_ap, dropL_nil, c340, lt_nI (show 340 < 2147483648 by decide) (show r < 2147483648 by omega), if_neg (show ¬ 340 < r by omega), q_nameOfRank (show r < 1048576 by omega), o.1, o.2.1, t0, t2, t5.1, q_fit t5 hj' w1 (nr_nm hq hr), a1]
        cases hc : fitN N j (gS L j).1 (nrN r)
        · simp only [if_true, Bool.false_eq_true, if_false]
        · by_cases hd : q.1.2 = -1
          · simp only [hd, if_true, Bool.true_eq_false, if_false, not_true_eq_false]
          · simp only [hd, if_true, Bool.true_eq_false, if_false, not_false_eq_true]) 340 1 ((0, -1), m_D) rfl (Nat.le_refl 1)
      have e2 : ∀ m i (q : (Nat × Int32) × Value), (it (fun r (q : (Nat × Int32) × Value) => (if fitN N j (gS L j).1 (nrN r) = true then (q.1.1 + 1, if q.1.2 = -1 then nI (nrN r) else q.1.2) else q.1, Value.int (nI (nrN r)))) m i q).1 = it (fun r (q : Nat × Int32) => if fitN N j (gS L j).1 (nrN r) = true then (q.1 + 1, if q.2 = -1 then nI (nrN r) else q.2) else q) m i q.1 := by
        intro m
        induction m with
        | zero => intro i q; rfl
        | succ m ih => intro i q; rw [it, it, ih]
      refine Eq.mpr key.1 ?_
      rw [s_X8_names_49]
      simp only [s_X8_names_0, s_X8_names_1, s_X8_names_4, s_X8_names_7, s_X8_names_8, s_X8_names_11, s_X8_names_14, s_X8_names_15, s_X8_names_16, s_X8_names_19, s_X8_names_22, s_X8_names_23, s_X8_names_26, s_X8_names_27, s_X8_names_28, s_X8_names_31, s_X8_names_34, s_X8_names_35, s_X8_names_36, s_X8_names_39, s_X8_names_40, s_X8_names_41, s_X8_names_43, s_X8_names_44, s_X8_names_46, s_X8_names_47, s_X8_names_51, s_X8_names_54, s_X8_names_57, s_X8_names_59, s_X8_names_62, s_X8_names_64, s_X8_names_65, s_X8_names_68, s_X8_names_71, s_X8_names_72, s_X8_names_73, s_X8_names_75, s_X8_names_78, s_X8_names_81, s_X8_names_84, s_X8_names_86, s_X8_names_87, s_X8_names_90, s_X8_names_92, s_X8_names_95, s_X8_names_97, s_X8_names_99, s_X8_names_102, s_X8_names_105, s_X8_names_106, s_X8_names_109, s_X8_names_111, s_X8_names_114, s_X8_names_116, zI_0, Bool.true_eq_false, Bool.false_eq_true, not_true_eq_false, not_false_eq_true, if_true, if_false, KV_ap, KU_ap, dropL_nil, c340, lt_nI (show 340 < 2147483648 by decide) (show 341 < 2147483648 by decide), show 340 < 341 by decide, e2, ← nmN.eq_1]
      by_cases hv : v1 = 0
      · rw [if_neg (fun z => z hv)]
        simp only [hv, if_true] at k'
        exact k'
      · rw [if_pos hv]
        simp only [hv, if_false] at k'
        exact k'
/-- court -/
def gfI (A p : Int32) : Int32 := (if A &&& ((1 : Int32) <<< (p &&& 31)) = 0 then 0 else 2) - (p &&& 1)
def gsI (A p : Int32) : Int32 := (if A &&& ((1 : Int32) <<< (p &&& 31)) = 0 then 2 else 0) - (p >>> ((1 : Int32) &&& 31))
def rsI (A p : Int32) : Bool := !decide (gfI A p < gfI A (p ^^^ 1)) && !decide (gsI A p < gsI A (p ^^^ 2))
section C8
variable {g : GL} {h : HP} {Φ : Value → HP → Prop}
theorem q_gainOfFirst (A p : Int32) : J g k_X8_gainOfFirst 0 [.int A, .int p] [] [] h Φ = Φ (.int (gfI A p)) h := by
  simp only [s_X8_gainOfFirst_0, s_X8_gainOfFirst_1, s_X8_gainOfFirst_2, s_X8_gainOfFirst_3, s_X8_gainOfFirst_4, s_X8_gainOfFirst_5, s_X8_gainOfFirst_8, s_X8_gainOfFirst_9, s_X8_gainOfFirst_12, s_X8_gainOfFirst_13, s_X8_gainOfFirst_14, s_X8_gainOfFirst_15, s_X8_gainOfFirst_16, s_X8_gainOfFirst_17, gfI]
  split <;> rfl
theorem q_gainOfSecond (A p : Int32) : J g k_X8_gainOfSecond 0 [.int A, .int p] [] [] h Φ = Φ (.int (gsI A p)) h := by
  simp only [s_X8_gainOfSecond_0, s_X8_gainOfSecond_1, s_X8_gainOfSecond_2, s_X8_gainOfSecond_3, s_X8_gainOfSecond_4, s_X8_gainOfSecond_5, s_X8_gainOfSecond_8, s_X8_gainOfSecond_9, s_X8_gainOfSecond_12, s_X8_gainOfSecond_13, s_X8_gainOfSecond_14, s_X8_gainOfSecond_15, s_X8_gainOfSecond_16, s_X8_gainOfSecond_17, gsI]
  split <;> rfl
theorem q_rests (A p : Int32) : J g k_X8_rests 0 [.int A, .int p] [] [] h Φ = Φ (.int (zI (rsI A p))) h := by
  simp only [s_X8_rests_0, s_X8_rests_1, s_X8_rests_2, s_X8_rests_5, s_X8_rests_6, s_X8_rests_7, s_X8_rests_8, s_X8_rests_9, s_X8_rests_12, s_X8_rests_15, s_X8_rests_16, s_X8_rests_17, s_X8_rests_20, s_X8_rests_21, s_X8_rests_22, s_X8_rests_23, s_X8_rests_24, s_X8_rests_27, s_X8_rests_30, s_X8_rests_31, s_X8_rests_34, s_X8_rests_35, q_gainOfFirst, q_gainOfSecond, zI_0, Bool.true_eq_false, Bool.false_eq_true, not_true_eq_false, not_false_eq_true, if_true, if_false, KV_ap, KU_ap, dropL_nil, true_or, or_true, rsI]
  by_cases h1 : gfI A p < gfI A (p ^^^ 1)
  · simp only [h1, if_true, decide_true, Bool.not_true, Bool.false_and, zI_f]
  · by_cases h2 : gsI A p < gsI A (p ^^^ 2)
    · simp only [h1, h2, if_true, if_false, decide_true, decide_false, Bool.not_true, Bool.not_false, Bool.and_false, zI_f]
    · simp only [h1, h2, if_false, decide_false, Bool.not_false, Bool.and_self, zI_t]
theorem pr_1 : ∀ p, p < 4 → (nI p &&& 1) * 4 = nI (p % 2 * 4) := by decide +kernel
theorem pr_2 : ∀ p, p < 4 → (nI p >>> ((1 : Int32) &&& 31)) * 4 = nI (p / 2 * 4) := by decide +kernel
def plB (s t : St) : Nat := bN (fun p => decide (rS s (p % 2 * 4) = rS t (p / 2 * 4))) 4
theorem q_pairsAlike {B : Nat} {u : XS} (hX : isX h B u) {i j : Nat} (hi : i < u.1.1.length) (hj : j < u.1.1.length) : J g k_X8_pairsAlike 0 [.ref B, .int (nI i), .int (nI j), m_D, m_D, m_D, m_D] [] [] h Φ = Φ (.int (nI (plB (gS u.1.1 i) (gS u.1.1 j)))) h := by
  obtain ⟨⟨L, N, P⟩, im, tx, fr, rf⟩ := u
  have o := hX.1
  obtain ⟨t0, t1, t2, t3, t4, t5, t6⟩ := hX.2.1
  have t4 : isS h (B + 1 + 1) L := t4
  have hj : j < L.length := hj
  have hi : i < L.length := hi
  have hl6 : L.length ≤ 6 := t4.2.1.2.2.2.1
  simp only [s_X8_pairsAlike_0, s_X8_pairsAlike_1, s_X8_pairsAlike_2, s_X8_pairsAlike_3, s_X8_pairsAlike_7, s_X8_pairsAlike_8, s_X8_pairsAlike_11, s_X8_pairsAlike_13, s_X8_pairsAlike_14, s_X8_pairsAlike_15, s_X8_pairsAlike_16, s_X8_pairsAlike_17, s_X8_pairsAlike_19, s_X8_pairsAlike_21, s_X8_pairsAlike_22, s_X8_pairsAlike_23, s_X8_pairsAlike_24, s_X8_pairsAlike_25, s_X8_pairsAlike_27, s_X8_pairsAlike_28, s_X8_pairsAlike_31, s_X8_pairsAlike_34, s_X8_pairsAlike_35, s_X8_pairsAlike_37, s_X8_pairsAlike_40, s_X8_pairsAlike_41, s_X8_pairsAlike_44, s_X8_pairsAlike_47, s_X8_pairsAlike_48, s_X8_pairsAlike_50, s_X8_pairsAlike_53, s_X8_pairsAlike_56, s_X8_pairsAlike_57, s_X8_pairsAlike_58, s_X8_pairsAlike_60, s_X8_pairsAlike_61, s_X8_pairsAlike_62, s_X8_pairsAlike_63, s_X8_pairsAlike_66, s_X8_pairsAlike_69, s_X8_pairsAlike_70, dropL_nil]
  have key := J_it (fun p (q : Nat × Value × Value) => J g k_X8_pairsAlike 5 [.ref B, .int (nI i), .int (nI j), .int (nI q.1), .int (nI p), q.2.1, q.2.2] [] [] h Φ) (fun p q => (if decide (rS (gS L i) (p % 2 * 4) = rS (gS L j) (p / 2 * 4)) = true then q.1 + 2 ^ p else q.1, .int (nI (p % 2 * 4)), .int (nI (p / 2 * 4)))) 4 (fun p q => q.1 < 2 ^ p) (fun p q _ hq => by
      have hq' : q.1 < 2 ^ p := hq
      show (if decide (rS (gS L i) (p % 2 * 4) = rS (gS L j) (p / 2 * 4)) = true then q.1 + 2 ^ p else q.1) < 2 ^ (p + 1)
      rw [Nat.pow_succ]; split <;> omega) (fun p q hp hq => by
    have r1 := rS_lt t4.2.2.2 (x := p % 2 * 4) hi (by omega)
    have r2 := rS_lt t4.2.2.2 (x := p / 2 * 4) hj (by omega)
    rw [s_X8_pairsAlike_5]
    simp only [s_X8_pairsAlike_0, s_X8_pairsAlike_1, s_X8_pairsAlike_2, s_X8_pairsAlike_3, s_X8_pairsAlike_7, s_X8_pairsAlike_8, s_X8_pairsAlike_11, s_X8_pairsAlike_13, s_X8_pairsAlike_14, s_X8_pairsAlike_15, s_X8_pairsAlike_16, s_X8_pairsAlike_17, s_X8_pairsAlike_19, s_X8_pairsAlike_21, s_X8_pairsAlike_22, s_X8_pairsAlike_23, s_X8_pairsAlike_24, s_X8_pairsAlike_25, s_X8_pairsAlike_27, s_X8_pairsAlike_28, s_X8_pairsAlike_31, s_X8_pairsAlike_34, s_X8_pairsAlike_35, s_X8_pairsAlike_37, s_X8_pairsAlike_40, s_X8_pairsAlike_41, s_X8_pairsAlike_44, s_X8_pairsAlike_47, s_X8_pairsAlike_48, s_X8_pairsAlike_50, s_X8_pairsAlike_53, s_X8_pairsAlike_56, s_X8_pairsAlike_57, s_X8_pairsAlike_58, s_X8_pairsAlike_60, s_X8_pairsAlike_61, s_X8_pairsAlike_62, s_X8_pairsAlike_63, s_X8_pairsAlike_66, s_X8_pairsAlike_69, s_X8_pairsAlike_70, zI_0, Bool.true_eq_false, Bool.false_eq_true, not_true_eq_false, not_false_eq_true, if_true, if_false, KV_ap, KU_ap, dropL_nil, c4, le_nI (show 4 < 2147483648 by decide) (show p < 2147483648 by omega), if_neg (Nat.not_le.mpr hp)]
    simp only [← c4, pr_1 p hp, pr_2 p hp, o.1, o.2.1, t0, t1, t4.1, q_seenAt t4 hi (show p % 2 * 4 < 9 by omega), q_seenAt t4 hj (show p / 2 * 4 < 9 by omega), s_X8_pairsAlike_0, s_X8_pairsAlike_1, s_X8_pairsAlike_2, s_X8_pairsAlike_3, s_X8_pairsAlike_7, s_X8_pairsAlike_8, s_X8_pairsAlike_11, s_X8_pairsAlike_13, s_X8_pairsAlike_14, s_X8_pairsAlike_15, s_X8_pairsAlike_16, s_X8_pairsAlike_17, s_X8_pairsAlike_19, s_X8_pairsAlike_21, s_X8_pairsAlike_22, s_X8_pairsAlike_23, s_X8_pairsAlike_24, s_X8_pairsAlike_25, s_X8_pairsAlike_27, s_X8_pairsAlike_28, s_X8_pairsAlike_31, s_X8_pairsAlike_34, s_X8_pairsAlike_35, s_X8_pairsAlike_37, s_X8_pairsAlike_40, s_X8_pairsAlike_41, s_X8_pairsAlike_44, s_X8_pairsAlike_47, s_X8_pairsAlike_48, s_X8_pairsAlike_50, s_X8_pairsAlike_53, s_X8_pairsAlike_56, s_X8_pairsAlike_57, s_X8_pairsAlike_58, s_X8_pairsAlike_60, s_X8_pairsAlike_61, s_X8_pairsAlike_62, s_X8_pairsAlike_63, s_X8_pairsAlike_66, s_X8_pairsAlike_69, s_X8_pairsAlike_70, zI_0, Bool.true_eq_false, Bool.false_eq_true, not_true_eq_false, not_false_eq_true, if_true, if_false, KV_ap, KU_ap, dropL_nil, orb p (by omega) q.1 hq, eq_nI (show rS (gS L i) (p % 2 * 4) < 2147483648 by omega) (show rS (gS L j) (p / 2 * 4) < 2147483648 by omega), a1]
    by_cases hc : rS (gS L i) (p % 2 * 4) = rS (gS L j) (p / 2 * 4)
    · rw [if_neg (fun z => z hc), if_pos (decide_eq_true hc)]
    · rw [if_pos hc, if_neg (by simpa using hc)]) 4 0 (0, m_D, m_D) rfl (by decide)
  rw [c0, key.1, s_X8_pairsAlike_5]
  simp only [s_X8_pairsAlike_0, s_X8_pairsAlike_1, s_X8_pairsAlike_2, s_X8_pairsAlike_3, s_X8_pairsAlike_7, s_X8_pairsAlike_8, s_X8_pairsAlike_11, s_X8_pairsAlike_13, s_X8_pairsAlike_14, s_X8_pairsAlike_15, s_X8_pairsAlike_16, s_X8_pairsAlike_17, s_X8_pairsAlike_19, s_X8_pairsAlike_21, s_X8_pairsAlike_22, s_X8_pairsAlike_23, s_X8_pairsAlike_24, s_X8_pairsAlike_25, s_X8_pairsAlike_27, s_X8_pairsAlike_28, s_X8_pairsAlike_31, s_X8_pairsAlike_34, s_X8_pairsAlike_35, s_X8_pairsAlike_37, s_X8_pairsAlike_40, s_X8_pairsAlike_41, s_X8_pairsAlike_44, s_X8_pairsAlike_47, s_X8_pairsAlike_48, s_X8_pairsAlike_50, s_X8_pairsAlike_53, s_X8_pairsAlike_56, s_X8_pairsAlike_57, s_X8_pairsAlike_58, s_X8_pairsAlike_60, s_X8_pairsAlike_61, s_X8_pairsAlike_62, s_X8_pairsAlike_63, s_X8_pairsAlike_66, s_X8_pairsAlike_69, s_X8_pairsAlike_70, zI_0, Bool.true_eq_false, Bool.false_eq_true, not_true_eq_false, not_false_eq_true, if_true, if_false, KV_ap, KU_ap, dropL_nil, c4, le_nI (show 4 < 2147483648 by decide) (show 4 < 2147483648 by decide), Nat.le_refl]
  have e2 : ∀ m p (q : Nat × Value × Value), (it (fun p (q : Nat × Value × Value) => (if decide (rS (gS L i) (p % 2 * 4) = rS (gS L j) (p / 2 * 4)) = true then q.1 + 2 ^ p else q.1, Value.int (nI (p % 2 * 4)), Value.int (nI (p / 2 * 4)))) m p q).1 = it (fun p b => if decide (rS (gS L i) (p % 2 * 4) = rS (gS L j) (p / 2 * 4)) = true then b + 2 ^ p else b) m p q.1 := by
    intro m
    induction m with
    | zero => intro i q; rfl
    | succ m ih => intro i q; rw [it, it, ih]
  rw [e2]
  rfl
end C8
def cuN (s t : St) : Nat := bN (fun p => rsI (nI (plB s t)) (nI p)) 4
def aCourt (v0 v1 : Int32) (u : XS) : Value × XS := if aTw v0 v1 u.1.1.length = true then (.int (nI (cuN (gS u.1.1 v0.toNatClampNeg) (gS u.1.1 v1.toNatClampNeg))), u) else (.int (-2), bdU u 0)
theorem x_court (v0 v1 : Int32) : cX k_X8_court [.int v0, .int v1, m_D, m_D, m_D] (aCourt v0 v1) := by
  intro g h B u Φ hX k
  obtain ⟨⟨L, N, P⟩, im, tx, fr, rf⟩ := u
  have o := hX.1
  have t := hX.2.1
  obtain ⟨t0, t1, t2, t3, t4, t5, t6⟩ := id t
  have t4 : isS h (B + 1 + 1) L := t4
  have t5 : isN h (B + 1 + 3) N := t5
  have t6 : isP h (B + 1 + 5) P := t6
  have hl6 : L.length ≤ 6 := t4.2.1.2.2.2.1
  cases g1 : aTw v0 v1 L.length
  · have e : aCourt v0 v1 ((L, N, P), im, tx, fr, rf) = (.int (-2), bdU ((L, N, P), im, tx, fr, rf) 0) := by simp only [aCourt, g1, Bool.false_eq_true, if_false]
    rw [e] at k
    simp only [s_X8_court_0, s_X8_court_1, s_X8_court_2, s_X8_court_3, s_X8_court_6, s_X8_court_9, s_X8_court_10, s_X8_court_13, s_X8_court_14, s_X8_court_15, s_X8_court_16, s_X8_court_17, s_X8_court_20, s_X8_court_21, s_X8_court_22, s_X8_court_24, s_X8_court_25, s_X8_court_29, s_X8_court_30, s_X8_court_33, s_X8_court_34, s_X8_court_36, s_X8_court_39, s_X8_court_42, s_X8_court_44, s_X8_court_45, s_X8_court_47, s_X8_court_48, s_X8_court_49, s_X8_court_51, s_X8_court_54, s_X8_court_57, s_X8_court_59, o.1, q_areTwo hX, zI_0, Bool.true_eq_false, Bool.false_eq_true, not_true_eq_false, not_false_eq_true, if_true, if_false, KV_ap, KU_ap, dropL_nil, g1]
    exact q_bad hX (fun h' hX' hf => by simp only [KV_ap, s_X8_court_0, s_X8_court_1, s_X8_court_2, s_X8_court_3, s_X8_court_6, s_X8_court_9, s_X8_court_10, s_X8_court_13, s_X8_court_14, s_X8_court_15, s_X8_court_16, s_X8_court_17, s_X8_court_20, s_X8_court_21, s_X8_court_22, s_X8_court_24, s_X8_court_25, s_X8_court_29, s_X8_court_30, s_X8_court_33, s_X8_court_34, s_X8_court_36, s_X8_court_39, s_X8_court_42, s_X8_court_44, s_X8_court_45, s_X8_court_47, s_X8_court_48, s_X8_court_49, s_X8_court_51, s_X8_court_54, s_X8_court_57, s_X8_court_59]; exact k h' hX' hf)
  · have g0 := g1
    unfold aTw at g0
    simp only [Bool.and_eq_true, Bool.not_eq_true', decide_eq_false_iff_not] at g0
    obtain ⟨i, ei, hi⟩ := hs_ex (show L.length < 2147483648 by omega) g0.1.1
    obtain ⟨j, ej, hj⟩ := hs_ex (show L.length < 2147483648 by omega) g0.1.2
    have e : aCourt v0 v1 ((L, N, P), im, tx, fr, rf) = (.int (nI (cuN (gS L i) (gS L j))), ((L, N, P), im, tx, fr, rf)) := by
      simp only [aCourt, g1, if_true]
      rw [ei, ej, cl_nI (show i < 2147483648 by omega), cl_nI (show j < 2147483648 by omega)]
    rw [e] at k
    subst ei; subst ej
    simp only [s_X8_court_0, s_X8_court_1, s_X8_court_2, s_X8_court_3, s_X8_court_6, s_X8_court_9, s_X8_court_10, s_X8_court_13, s_X8_court_14, s_X8_court_15, s_X8_court_16, s_X8_court_17, s_X8_court_20, s_X8_court_21, s_X8_court_22, s_X8_court_24, s_X8_court_25, s_X8_court_29, s_X8_court_30, s_X8_court_33, s_X8_court_34, s_X8_court_36, s_X8_court_39, s_X8_court_42, s_X8_court_44, s_X8_court_45, s_X8_court_47, s_X8_court_48, s_X8_court_49, s_X8_court_51, s_X8_court_54, s_X8_court_57, s_X8_court_59, o.1, q_areTwo hX, zI_0, Bool.true_eq_false, Bool.false_eq_true, not_true_eq_false, not_false_eq_true, if_true, if_false, KV_ap, KU_ap, dropL_nil, g1, q_pairsAlike hX hi hj]
    have key := J_it (fun p b => J g k_X8_court 27 [.ref B, .int (nI i), .int (nI j), .int (nI (plB (gS L i) (gS L j))), .int (nI b), .int (nI p)] [] [] h Φ) (fun p b => if rsI (nI (plB (gS L i) (gS L j))) (nI p) = true then b + 2 ^ p else b) 4 (fun p b => b < 2 ^ p) (fun p b _ hb => by
      rw [Nat.pow_succ]; split <;> omega) (fun p b hp hb => by
      rw [s_X8_court_27]
      simp only [s_X8_court_0, s_X8_court_1, s_X8_court_2, s_X8_court_3, s_X8_court_6, s_X8_court_9, s_X8_court_10, s_X8_court_13, s_X8_court_14, s_X8_court_15, s_X8_court_16, s_X8_court_17, s_X8_court_20, s_X8_court_21, s_X8_court_22, s_X8_court_24, s_X8_court_25, s_X8_court_29, s_X8_court_30, s_X8_court_33, s_X8_court_34, s_X8_court_36, s_X8_court_39, s_X8_court_42, s_X8_court_44, s_X8_court_45, s_X8_court_47, s_X8_court_48, s_X8_court_49, s_X8_court_51, s_X8_court_54, s_X8_court_57, s_X8_court_59, zI_0, Bool.true_eq_false, Bool.false_eq_true, not_true_eq_false, not_false_eq_true, if_true, if_false, KV_ap, KU_ap, dropL_nil, c4, le_nI (show 4 < 2147483648 by decide) (show p < 2147483648 by omega), if_neg (Nat.not_le.mpr hp), q_rests, orb p (by omega) b hb, a1]
      cases hc : rsI (nI (plB (gS L i) (gS L j))) (nI p)
      · simp only [if_true, Bool.false_eq_true, if_false]
      · simp only [if_true, Bool.true_eq_false, if_false]) 4 0 0 rfl (by decide)
    rw [c0, key.1, s_X8_court_27]
    simp only [s_X8_court_0, s_X8_court_1, s_X8_court_2, s_X8_court_3, s_X8_court_6, s_X8_court_9, s_X8_court_10, s_X8_court_13, s_X8_court_14, s_X8_court_15, s_X8_court_16, s_X8_court_17, s_X8_court_20, s_X8_court_21, s_X8_court_22, s_X8_court_24, s_X8_court_25, s_X8_court_29, s_X8_court_30, s_X8_court_33, s_X8_court_34, s_X8_court_36, s_X8_court_39, s_X8_court_42, s_X8_court_44, s_X8_court_45, s_X8_court_47, s_X8_court_48, s_X8_court_49, s_X8_court_51, s_X8_court_54, s_X8_court_57, s_X8_court_59, zI_0, Bool.true_eq_false, Bool.false_eq_true, not_true_eq_false, not_false_eq_true, if_true, if_false, KV_ap, KU_ap, dropL_nil, c4, le_nI (show 4 < 2147483648 by decide) (show 4 < 2147483648 by decide), Nat.le_refl]
    exact k h hX (frX_rfl h B)

/-! A town is emptied, copied; a stick is given back -/
section T3
variable {g : GL} {h : HP} {Φ : Value → HP → Prop} {t s : Nat} {u w : TW}
theorem isT_mk {h h' : HP} {t : Nat} {u : TW} {L : List St} {N : List St} {P : List (List St)} (hT : isT h t u) (p : agr h h' t) (h1 : isS h' (t + 1) L) (h2 : isN h' (t + 3) N) (h3 : isP h' (t + 5) P) : isT h' t (L, N, P) := by
  obtain ⟨a0, a1, a2, a3, _⟩ := hT
  exact ⟨p.1.trans a0, by rw [p.2.1]; exact a1, by rw [p.2.1]; exact a2, by rw [p.2.1]; exact a3, h1, h2, h3⟩
theorem q_Tempty (hT : isT h t u) (k : ∀ h', isT h' t ([], [], []) → frm h h' t (t + 8) → Φ .null h') : J g k_X6_empty 0 [.ref t] [] [] h Φ := by
  obtain ⟨a0, a1, a2, a3, h1, h2, h3⟩ := id hT
  have e1 : frm h (pF h (t + 1) 1 (.int (nI 0))) (t + 1) (t + 3) := frm_pF (by omega) (by omega) (frm_rfl h _ _)
  have r2 := isN_agr (fun x a b => e1.1 x (by omega)) h2
  have e2 : frm h (pF (pF h (t + 1) 1 (.int (nI 0))) (t + 3) 1 (.int (nI 0))) (t + 1) (t + 5) := frm_pF (by omega) (by omega) (frm_mono (by omega) (by omega) e1)
  have r3 := isP_agr (fun x a b => e2.1 x (by omega)) h3
  have o1 := (e1.1 t (by omega)).2.1
  have o2 := (e2.1 t (by omega)).2.1
  simp only [s_X6_empty_0, s_X6_empty_1, s_X6_empty_4, s_X6_empty_7, s_X6_empty_8, s_X6_empty_11, s_X6_empty_14, s_X6_empty_15, s_X6_empty_18, s_X6_empty_21, a0, a1, h1.1, q_empty h1.2.1, KU_ap, hS_pF, o1, a2, h2.1, q_empty r2.2.1, o2, a3, h3.1.1, q_pempty r3.1]
  apply k
  · have e3 : frm h (pF (pF (pF h (t + 1) 1 (.int (nI 0))) (t + 3) 1 (.int (nI 0))) (t + 5) 2 (.int (nI 0))) (t + 1) (t + 8) := frm_pF (by omega) (by omega) (frm_mono (by omega) (by omega) e2)
    refine isT_mk hT (e3.1 t (by omega)) ?_ ?_ (isP_nil r3)
    · exact isS_agr (fun x a b => agr_pF (by omega) (agr_pF (by omega) (agr_rfl _ x))) (isS_nil h1)
    · exact isN_agr (fun x a b => agr_pF (by omega) (agr_rfl _ x)) (isN_nil r2)
  · exact frm_pF (by omega) (by omega) (frm_mono (by omega) (by omega) e2)
theorem cpy_sR {f f' : Nat → Int32} {L : List St} (hl : L.length ≤ 6) (hR : sR f L) : sR (va_cpy f f' 0 0 24) L := by
  refine sR_congr hl (fun t ht => ?_) hR
  show (if 0 ≤ t ∧ t < 0 + 24 then f (0 + (t - 0)) else f' t) = _
  rw [if_pos (by omega)]; congr 1; omega
theorem isS_cpy {a b : Nat} {L M : List St} (hA : isS h a M) (hB : isS h b L) : isS (pF (pI h (a + 1) (va_cpy (hI h (b + 1)) (hI h (a + 1)) 0 0 24)) a 1 (.int (nI L.length))) a L := by
  refine ⟨hA.1, isR_sz hB.2.1.2.2.2.1 (isR_pI hA.2.1), ?_, hB.2.2.2⟩
  rw [hI_pF, hI_pIs]
  exact cpy_sR hB.2.1.2.2.2.1 hB.2.2.1
theorem isN_cpy {a b : Nat} {L M : List St} (hA : isN h a M) (hB : isN h b L) : isN (pF (pI h (a + 1) (va_cpy (hI h (b + 1)) (hI h (a + 1)) 0 0 24)) a 1 (.int (nI L.length))) a L := by
  refine ⟨hA.1, isR_sz hB.2.1.2.2.2.1 (isR_pI hA.2.1), ?_, hB.2.2.2⟩
  rw [hI_pF, hI_pIs]
  exact cpy_sR hB.2.1.2.2.2.1 hB.2.2.1
theorem isP_cpy {a b : Nat} {P Q : List (List St)} (hA : isP h a Q) (hB : isP h b P) (hab : b + 3 ≤ a ∨ a + 3 ≤ b) : isP (pF (pI (pI h (a + 1) (va_cpy (hI h (b + 1)) (hI h (a + 1)) 0 0 144)) (a + 2) (va_cpy (hI (pI h (a + 1) (va_cpy (hI h (b + 1)) (hI h (a + 1)) 0 0 144)) (b + 2)) (hI h (a + 2)) 0 0 6)) a 2 (.int (nI P.length))) a P := by
  have hl := hB.1.2.2.2.2.1
  refine ⟨isPs_d hl hA.1, ?_⟩
  rw [hI_pF, hI_pF, hI_pIs, hI_pI, if_neg (show ¬ a + 1 = a + 2 by omega), hI_pIs, hI_pI, if_neg (show ¬ b + 2 = a + 1 by omega)]
  intro j hj
  obtain ⟨z, r, v, l⟩ := hB.2 j hj
  refine ⟨?_, ?_, v, l⟩
  · rw [← z]
    show (if 0 ≤ j ∧ j < 0 + 6 then hI h (b + 2) (0 + (j - 0)) else _) = _
    rw [if_pos (by omega)]; congr 1; omega
  · refine sR_congr l (fun t ht => ?_) r
    show (if 0 ≤ j * 24 + t ∧ j * 24 + t < 0 + 144 then hI h (b + 1) (0 + (j * 24 + t - 0)) else _) = _
    rw [if_pos (by omega)]; congr 1; omega
theorem q_Tcopy (hT : isT h t u) (hU : isT h s w) (hd : s + 8 ≤ t ∨ t + 8 ≤ s) (k : ∀ h', isT h' t w → frm h h' t (t + 8) → Φ .null h') : J g k_X6_copyFrom 0 [.ref t, .ref s] [] [] h Φ := by
  obtain ⟨a0, a1, a2, a3, h1, h2, h3⟩ := id hT
  obtain ⟨b0, b1, b2, b3, g1, g2, g3⟩ := id hU
  simp only [s_X6_copyFrom_0, s_X6_copyFrom_1, s_X6_copyFrom_4, s_X6_copyFrom_5, s_X6_copyFrom_8, s_X6_copyFrom_11, s_X6_copyFrom_12, s_X6_copyFrom_19, s_X6_copyFrom_33, a0, a1, b0, b1, h1.1, q_copyFrom h1.2.1 g1.2.1, KU_ap]
  have r1 := isS_cpy h1 g1
  have e1 : frm h (pF (pI h (t + 1 + 1) (va_cpy (hI h (s + 1 + 1)) (hI h (t + 1 + 1)) 0 0 24)) (t + 1) 1 (.int (nI w.1.length))) (t + 1) (t + 3) := frm_pF (by omega) (by omega) (frm_pI (by omega) (by omega) (frm_rfl h _ _))
  generalize pF (pI h (t + 1 + 1) (va_cpy (hI h (s + 1 + 1)) (hI h (t + 1 + 1)) 0 0 24)) (t + 1) 1 (.int (nI w.1.length)) = m1 at r1 e1
  have h2' := isN_agr (fun x a b => e1.1 x (by omega)) h2
  have g2' := isN_agr (fun x a b => e1.1 x (by omega)) g2
  have o1 := (e1.1 t (by omega)); have o2 := (e1.1 s (by omega))
  simp only [s_X6_copyFrom_0, s_X6_copyFrom_1, s_X6_copyFrom_4, s_X6_copyFrom_5, s_X6_copyFrom_8, s_X6_copyFrom_11, s_X6_copyFrom_12, s_X6_copyFrom_15, s_X6_copyFrom_16, s_X6_copyFrom_19, s_X6_copyFrom_33, o1.1, o1.2.1, o2.1, o2.2.1, a0, a2, b0, b2, h2'.1, q_copyFrom h2'.2.1 g2'.2.1, KU_ap]
  have r2 := isN_cpy h2' g2'
  have e2 : frm m1 (pF (pI m1 (t + 3 + 1) (va_cpy (hI m1 (s + 3 + 1)) (hI m1 (t + 3 + 1)) 0 0 24)) (t + 3) 1 (.int (nI w.2.1.length))) (t + 3) (t + 5) := frm_pF (by omega) (by omega) (frm_pI (by omega) (by omega) (frm_rfl m1 _ _))
  generalize pF (pI m1 (t + 3 + 1) (va_cpy (hI m1 (s + 3 + 1)) (hI m1 (t + 3 + 1)) 0 0 24)) (t + 3) 1 (.int (nI w.2.1.length)) = m2 at r2 e2
  have r1' := isS_agr (fun x a b => e2.1 x (by omega)) r1
  have e3 : frm h m2 (t + 1) (t + 5) := frm_trans (frm_mono (by omega) (by omega) e1) (frm_mono (by omega) (by omega) e2)
  have h3' := isP_agr (fun x a b => e3.1 x (by omega)) h3
  have g3' := isP_agr (fun x a b => e3.1 x (by omega)) g3
  have p1 := (e3.1 t (by omega)); have p2 := (e3.1 s (by omega))
  simp only [s_X6_copyFrom_0, s_X6_copyFrom_1, s_X6_copyFrom_4, s_X6_copyFrom_5, s_X6_copyFrom_8, s_X6_copyFrom_11, s_X6_copyFrom_12, s_X6_copyFrom_15, s_X6_copyFrom_16, s_X6_copyFrom_19, s_X6_copyFrom_22, s_X6_copyFrom_23, s_X6_copyFrom_26, s_X6_copyFrom_27, s_X6_copyFrom_30, s_X6_copyFrom_33, p1.1, p1.2.1, p2.1, p2.2.1, a0, a3, b0, b3, h3'.1.1, q_pcopyFrom h3'.1 g3'.1, KU_ap]
  have r3 := isP_cpy h3' g3' (by omega)
  have e4 : frm m2 _ (t + 5) (t + 8) := frm_pF (a := t + 5) (j := 2) (v := .int (nI w.2.2.length)) (by omega) (by omega) (frm_pI (a := t + 5 + 2) (f := va_cpy (hI (pI m2 (t + 5 + 1) (va_cpy (hI m2 (s + 5 + 1)) (hI m2 (t + 5 + 1)) 0 0 144)) (s + 5 + 2)) (hI m2 (t + 5 + 2)) 0 0 6) (by omega) (by omega) (frm_pI (a := t + 5 + 1) (f := va_cpy (hI m2 (s + 5 + 1)) (hI m2 (t + 5 + 1)) 0 0 144) (by omega) (by omega) (frm_rfl m2 _ _)))
  have e5 := frm_trans (frm_mono (show t ≤ t + 1 by omega) (show t + 5 ≤ t + 8 by omega) e3) (frm_mono (show t ≤ t + 5 by omega) (Nat.le_refl _) e4)
  apply k
  · exact isT_mk hT (agr_trans p1 (e4.1 t (by omega))) (isS_agr (fun x a b => e4.1 x (by omega)) r1') (isN_agr (fun x a b => e4.1 x (by omega)) r2) r3
  · exact e5
end T3

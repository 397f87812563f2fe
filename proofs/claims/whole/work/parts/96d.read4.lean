/-! Reading a town: what a text tells -/
def nmP (tx : List Nat) : Nat → Nat → Nat → Nat → Nat × Nat × Nat
  | 0, q, n, m => (n, m, q)
  | F + 1, q, n, m => if nOk tx q 1 5 = true then nmP tx F (nx tx q) (n * 10 + nvN tx q) (m + 1) else (n, m, q)
def stP (tx : List Nat) (q : Nat) : Nat ⊕ (St × Nat) := if nOk tx q 0 6 = true then (if nOk tx (nx tx q) 1 10 = true then (if (nmP tx 5 (nx tx (nx tx q)) 0 0).2.1 = 0 then .inl (nmP tx 5 (nx tx (nx tx q)) 0 0).2.2 else if sp tx (nmP tx 5 (nx tx (nx tx q)) 0 0).2.2 = 3 then .inr ((nvN tx q, (nmP tx 5 (nx tx (nx tx q)) 0 0).1, nvN tx (nx tx q), 0), nx tx (nmP tx 5 (nx tx (nx tx q)) 0 0).2.2) else .inl (nmP tx 5 (nx tx (nx tx q)) 0 0).2.2) else .inl (nx tx q)) else .inl q
def suP (tx : List Nat) (q n : Nat) : Nat ⊕ ((Nat × Nat) × Nat) := if nOk tx q 0 n = true then (if nOk tx (nx tx q) 1 10 = true then (if sp tx (nx tx (nx tx q)) = 3 then .inr ((nvN tx q, nvN tx (nx tx q)), nx tx (nx tx (nx tx q))) else .inl (nx tx (nx tx q))) else .inl (nx tx q)) else .inl q
def itP (tx : List Nat) (q : Nat) (D : List St) : Nat ⊕ (List St × Nat) := if D.length ≠ 6 ∧ wOk tx q wSt = true then (match stP tx (nx tx q) with | .inl f => .inl f | .inr r => .inr (D ++ [r.1], r.2)) else if wOk tx q wSu = true then (match suP tx (nx tx q) D.length with | .inl f => .inl f | .inr r => .inr (wdL D r.1.1 r.1.2, r.2)) else .inl q
def tnP (tx : List Nat) : Nat → Nat → Nat → List St → Nat ⊕ (Nat × List St)
  | 0, _, n, D => .inr (n, D)
  | F + 1, q, n, D => if q < tx.length then (match itP tx q D with | .inl f => .inl f | .inr r => tnP tx F r.2 (n + 1) r.1) else .inr (n, D)
def rdP (tx : List Nat) : Nat ⊕ (Nat × List St) := if wOk tx (sk tx 0) wTo = true then (if sp tx (nx tx (sk tx 0)) = 3 then tnP tx 151 (nx tx (nx tx (sk tx 0))) 1 [] else .inl (nx tx (sk tx 0))) else .inl (sk tx 0)
def aRead (u : XS) : Value × XS := match rdP u.2.2.1 with | .inl f => (.int (-10 - nI f), u) | .inr r => (.int (nI r.1), ((r.2, [], []), u.2))
def nmOK (n m : Nat) : Prop := (m = 0 ∧ n = 0) ∨ (isNm n = true ∧ dg n = m)
theorem nms_chk : NM.all (fun n => decide (dg n = 5) || [1, 2, 3, 4].all (fun v => isNm (n * 10 + v) && decide (dg (n * 10 + v) = dg n + 1))) = true := by decide +kernel
theorem nm_step {n m v : Nat} (h : nmOK n m) (hm : m < 5) (h1 : 1 ≤ v) (h2 : v < 5) : isNm (n * 10 + v) = true ∧ dg (n * 10 + v) = m + 1 := by
  have hv : v = 1 ∨ v = 2 ∨ v = 3 ∨ v = 4 := by omega
  rcases h with ⟨e1, e2⟩ | ⟨e1, e2⟩
  · subst e1; subst e2
    rcases hv with e | e | e | e <;> subst e <;> decide
  · have := List.all_eq_true.mp nms_chk n (isNm_mem e1)
    rw [decide_eq_false (by omega), Bool.false_or] at this
    have := List.all_eq_true.mp this v (by simp; exact hv)
    rw [Bool.and_eq_true, decide_eq_true_eq] at this
    exact ⟨this.1, by omega⟩
def cP (h0 h : HP) (a : Nat) (tx : List Nat) (t k : Nat) (D : List St) : Prop := cS h a tx t ∧ hF h a 7 = .int (nI k) ∧ k ≤ t ∧ isS h (a + 1) D ∧ frm h0 h a (a + 7)
section R4
variable {g : GL} {h0 h : HP} {Φ : Value → HP → Prop} {a : Nat} {tx : List Nat} {t k : Nat} {D : List St}
theorem kt (c : cS h a tx t) (hk : k ≤ t) (hq : Qn tx k < tx.length) : k < t := by
  by_cases z : k < t
  · exact z
  · have : k = t := by omega
    rw [this, c.2.2.2.2.2.2.2.2.2.2.2.2.2.2.2.1] at hq
    omega
theorem cP_7 (P : cP h0 h a tx t k D) (hk : k < t) : cP h0 (pF h a 7 (.int (nI (k + 1)))) a tx t (k + 1) D := by
  obtain ⟨c, f7, hkt, hD, hf⟩ := P
  exact ⟨cS_78 c (by decide), by rw [hF_pF, if_pos ⟨rfl, rfl⟩], hk, isS_pF (by omega) hD, frm_pF (by omega) (by omega) hf⟩
theorem cP_8 (P : cP h0 h a tx t k D) (v : Value) : cP h0 (pF h a 8 v) a tx t k D := by
  obtain ⟨c, f7, hkt, hD, hf⟩ := P
  exact ⟨cS_78 c (by decide), by rw [hF_pF, if_neg (by omega)]; exact f7, hkt, isS_pF (by omega) hD, frm_pF (by omega) (by omega) hf⟩
theorem c_num (P : cP h0 h a tx t k D) (lo hi : Nat) (l' h' : Int32) (el : l' = nI lo) (eh : h' = nI hi - 1) (hlo : lo < 100) (hhi : hi < 100) (k1 : nOk tx (Qn tx k) lo hi = true → ∀ h', cP h0 h' a tx t (k + 1) D → Qn tx (k + 1) = nx tx (Qn tx k) → hF h' a 8 = .int (nI (nvN tx (Qn tx k))) → Φ (.int 1) h') (k0 : nOk tx (Qn tx k) lo hi = false → Φ (.int 0) h) : J g k_X7_takesNumber 0 [.ref a, .int l', .int h', m_D] [] [] h Φ := by
  rw [el, eh, q_takesNumber P.1 P.2.1 P.2.2.1 lo hi hlo hhi]
  cases e : nOk tx (Qn tx k) lo hi
  · rw [if_neg (by decide)]; exact k0 e
  · rw [if_pos rfl]
    have hq : Qn tx k < tx.length := sp_lt (by have := (of_decide_eq_true e).1; rw [this]; decide)
    have hk := kt P.1 P.2.2.1 hq
    exact k1 e _ (cP_7 (cP_8 P _) hk) (Q_s hq) (by rw [hF_pF, if_neg (by omega), hF_pF, if_pos ⟨rfl, rfl⟩])
theorem c_stop (P : cP h0 h a tx t k D) (k1 : sp tx (Qn tx k) = 3 → ∀ h', cP h0 h' a tx t (k + 1) D → Qn tx (k + 1) = nx tx (Qn tx k) → hF h' a 8 = hF h a 8 → Φ (.int 1) h') (k0 : ¬ sp tx (Qn tx k) = 3 → Φ (.int 0) h) : J g k_X7_takesStop 0 [.ref a] [] [] h Φ := by
  rw [q_takesStop P.1 P.2.1 P.2.2.1]
  by_cases e : sp tx (Qn tx k) = 3
  · rw [if_pos e]
    have hq : Qn tx k < tx.length := sp_lt (by rw [e]; decide)
    exact k1 e _ (cP_7 P (kt P.1 P.2.2.1 hq)) (Q_s hq) (by rw [hF_pF, if_neg (by omega)])
  · rw [if_neg e]; exact k0 e
theorem wq {q : Nat} {w : List Nat} (e : wOk tx q w = true) : q < tx.length := (of_decide_eq_true e).1
theorem c_word0 (P : cP h0 h a tx t k D) (k1 : wOk tx (Qn tx k) wTo = true → ∀ h', cP h0 h' a tx t (k + 1) D → Qn tx (k + 1) = nx tx (Qn tx k) → Φ (.int 1) h') (k0 : wOk tx (Qn tx k) wTo = false → Φ (.int 0) h) : J g k_X7_takesWordv0 0 [.ref a, .ref (g.2.2.2 0), m_D] [] [] h Φ := by
  rw [q_takesWord0 P.1 P.2.1 P.2.2.1]
  cases e : wOk tx (Qn tx k) wTo
  · rw [if_neg (by decide)]; exact k0 e
  · rw [if_pos rfl]; exact k1 e _ (cP_7 P (kt P.1 P.2.2.1 (wq e))) (Q_s (wq e))
theorem c_word1 (P : cP h0 h a tx t k D) (k1 : wOk tx (Qn tx k) wSt = true → ∀ h', cP h0 h' a tx t (k + 1) D → Qn tx (k + 1) = nx tx (Qn tx k) → Φ (.int 1) h') (k0 : wOk tx (Qn tx k) wSt = false → Φ (.int 0) h) : J g k_X7_takesWordv1 0 [.ref a, .ref (g.2.2.2 1), m_D] [] [] h Φ := by
  rw [q_takesWord1 P.1 P.2.1 P.2.2.1]
  cases e : wOk tx (Qn tx k) wSt
  · rw [if_neg (by decide)]; exact k0 e
  · rw [if_pos rfl]; exact k1 e _ (cP_7 P (kt P.1 P.2.2.1 (wq e))) (Q_s (wq e))
theorem c_word2 (P : cP h0 h a tx t k D) (k1 : wOk tx (Qn tx k) wSu = true → ∀ h', cP h0 h' a tx t (k + 1) D → Qn tx (k + 1) = nx tx (Qn tx k) → Φ (.int 1) h') (k0 : wOk tx (Qn tx k) wSu = false → Φ (.int 0) h) : J g k_X7_takesWordv2 0 [.ref a, .ref (g.2.2.2 2), m_D] [] [] h Φ := by
  rw [q_takesWord2 P.1 P.2.1 P.2.2.1]
  cases e : wOk tx (Qn tx k) wSu
  · rw [if_neg (by decide)]; exact k0 e
  · rw [if_pos rfl]; exact k1 e _ (cP_7 P (kt P.1 P.2.2.1 (wq e))) (Q_s (wq e))
theorem nOk_b {q lo hi : Nat} (e : nOk tx q lo hi = true) : lo ≤ nvN tx q ∧ nvN tx q < hi := by
  have := of_decide_eq_true e
  exact ⟨this.2.2.1, this.2.2.2⟩
theorem c_stick (P : cP h0 h a tx t k D) (hD : D.length < 6) (kk0 : ∀ f h' k' D', stP tx (Qn tx k) = .inl f → cP h0 h' a tx t k' D' → Qn tx k' = f → Φ (.int 0) h') (kk1 : ∀ r h' k', stP tx (Qn tx k) = .inr r → cP h0 h' a tx t k' (D ++ [r.1]) → Qn tx k' = r.2 → k ≤ k' → Φ (.int 1) h') : J g k_X7_takesStick 0 [.ref a, m_D, m_D, m_D, m_D] [] [] h Φ := by
  simp only [s_X7_takesStick_0, s_X7_takesStick_1, s_X7_takesStick_2, s_X7_takesStick_3, s_X7_takesStick_6, s_X7_takesStick_9, s_X7_takesStick_10, s_X7_takesStick_11, s_X7_takesStick_12, s_X7_takesStick_15, s_X7_takesStick_16, s_X7_takesStick_17, s_X7_takesStick_18, s_X7_takesStick_20, s_X7_takesStick_23, s_X7_takesStick_26, s_X7_takesStick_27, s_X7_takesStick_28, s_X7_takesStick_29, s_X7_takesStick_32, s_X7_takesStick_33, s_X7_takesStick_34, s_X7_takesStick_35, s_X7_takesStick_36, s_X7_takesStick_40, s_X7_takesStick_41, s_X7_takesStick_44, s_X7_takesStick_45, s_X7_takesStick_46, s_X7_takesStick_47, s_X7_takesStick_50, s_X7_takesStick_53, s_X7_takesStick_54, s_X7_takesStick_56, s_X7_takesStick_57, s_X7_takesStick_58, s_X7_takesStick_61, s_X7_takesStick_62, s_X7_takesStick_63, s_X7_takesStick_66, s_X7_takesStick_69, s_X7_takesStick_71, s_X7_takesStick_74, s_X7_takesStick_75, s_X7_takesStick_78, s_X7_takesStick_81, s_X7_takesStick_82, s_X7_takesStick_83, s_X7_takesStick_84, s_X7_takesStick_87, s_X7_takesStick_88, s_X7_takesStick_89, s_X7_takesStick_90, s_X7_takesStick_91, s_X7_takesStick_94, s_X7_takesStick_95, s_X7_takesStick_96, P.1.1]
  refine c_num P 0 6 0 5 rfl (by decide) (by decide) (by decide) (fun e1 h1 P1 Q1 v1 => ?_) (fun e1 => ?_)
  · have b1 := nOk_b e1
    simp only [KV_ap, s_X7_takesStick_0, s_X7_takesStick_1, s_X7_takesStick_2, s_X7_takesStick_3, s_X7_takesStick_6, s_X7_takesStick_9, s_X7_takesStick_10, s_X7_takesStick_11, s_X7_takesStick_12, s_X7_takesStick_15, s_X7_takesStick_16, s_X7_takesStick_17, s_X7_takesStick_18, s_X7_takesStick_20, s_X7_takesStick_23, s_X7_takesStick_26, s_X7_takesStick_27, s_X7_takesStick_28, s_X7_takesStick_29, s_X7_takesStick_32, s_X7_takesStick_33, s_X7_takesStick_34, s_X7_takesStick_35, s_X7_takesStick_36, s_X7_takesStick_40, s_X7_takesStick_41, s_X7_takesStick_44, s_X7_takesStick_45, s_X7_takesStick_46, s_X7_takesStick_47, s_X7_takesStick_50, s_X7_takesStick_53, s_X7_takesStick_54, s_X7_takesStick_56, s_X7_takesStick_57, s_X7_takesStick_58, s_X7_takesStick_61, s_X7_takesStick_62, s_X7_takesStick_63, s_X7_takesStick_66, s_X7_takesStick_69, s_X7_takesStick_71, s_X7_takesStick_74, s_X7_takesStick_75, s_X7_takesStick_78, s_X7_takesStick_81, s_X7_takesStick_82, s_X7_takesStick_83, s_X7_takesStick_84, s_X7_takesStick_87, s_X7_takesStick_88, s_X7_takesStick_89, s_X7_takesStick_90, s_X7_takesStick_91, s_X7_takesStick_94, s_X7_takesStick_95, s_X7_takesStick_96, zI_0, Bool.true_eq_false, Bool.false_eq_true, not_true_eq_false, not_false_eq_true, if_true, if_false, KV_ap, KU_ap, dropL_nil, P1.1.1, v1]
    rw [if_pos (by decide)]
    refine c_num P1 1 10 1 9 rfl (by decide) (by decide) (by decide) (fun e2 h2 P2 Q2 v2 => ?_) (fun e2 => ?_)
    · have b2 := nOk_b e2
      simp only [KV_ap, s_X7_takesStick_0, s_X7_takesStick_1, s_X7_takesStick_2, s_X7_takesStick_3, s_X7_takesStick_6, s_X7_takesStick_9, s_X7_takesStick_10, s_X7_takesStick_11, s_X7_takesStick_12, s_X7_takesStick_15, s_X7_takesStick_16, s_X7_takesStick_17, s_X7_takesStick_18, s_X7_takesStick_20, s_X7_takesStick_23, s_X7_takesStick_26, s_X7_takesStick_27, s_X7_takesStick_28, s_X7_takesStick_29, s_X7_takesStick_32, s_X7_takesStick_33, s_X7_takesStick_34, s_X7_takesStick_35, s_X7_takesStick_36, s_X7_takesStick_40, s_X7_takesStick_41, s_X7_takesStick_44, s_X7_takesStick_45, s_X7_takesStick_46, s_X7_takesStick_47, s_X7_takesStick_50, s_X7_takesStick_53, s_X7_takesStick_54, s_X7_takesStick_56, s_X7_takesStick_57, s_X7_takesStick_58, s_X7_takesStick_61, s_X7_takesStick_62, s_X7_takesStick_63, s_X7_takesStick_66, s_X7_takesStick_69, s_X7_takesStick_71, s_X7_takesStick_74, s_X7_takesStick_75, s_X7_takesStick_78, s_X7_takesStick_81, s_X7_takesStick_82, s_X7_takesStick_83, s_X7_takesStick_84, s_X7_takesStick_87, s_X7_takesStick_88, s_X7_takesStick_89, s_X7_takesStick_90, s_X7_takesStick_91, s_X7_takesStick_94, s_X7_takesStick_95, s_X7_takesStick_96, zI_0, Bool.true_eq_false, Bool.false_eq_true, not_true_eq_false, not_false_eq_true, if_true, if_false, KV_ap, KU_ap, dropL_nil, P2.1.1, v2]
      rw [if_pos (by decide)]
      have hst : stP tx (Qn tx k) = (if (nmP tx 5 (Qn tx (k + 1 + 1)) 0 0).2.1 = 0 then .inl (nmP tx 5 (Qn tx (k + 1 + 1)) 0 0).2.2 else if sp tx (nmP tx 5 (Qn tx (k + 1 + 1)) 0 0).2.2 = 3 then .inr ((nvN tx (Qn tx k), (nmP tx 5 (Qn tx (k + 1 + 1)) 0 0).1, nvN tx (Qn tx (k + 1)), 0), nx tx (nmP tx 5 (Qn tx (k + 1 + 1)) 0 0).2.2) else .inl (nmP tx 5 (Qn tx (k + 1 + 1)) 0 0).2.2) := by
        rw [stP, if_pos e1, ← Q1, if_pos e2, ← Q2]
      have fin : ∀ (r : Nat × Nat × Nat) h' k', nmP tx 5 (Qn tx (k + 1 + 1)) 0 0 = r → cP h0 h' a tx t k' D → Qn tx k' = r.2.2 → nmOK r.1 r.2.1 → r.2.1 ≤ 5 → k ≤ k' → J g k_X7_takesStick 69 [.ref a, .int (nI (nvN tx (Qn tx k))), .int (nI (nvN tx (Qn tx (k + 1)))), .int (nI r.1), .int (nI r.2.1)] [] [] h' Φ := by
        intro r h' k' er P' hq hok h5 hkk
        rw [er] at hst
        rw [s_X7_takesStick_69, s_X7_takesStick_71]
        by_cases z : r.2.1 = 0
        · rw [if_pos (by rw [z]; rfl), s_X7_takesStick_81, s_X7_takesStick_82 (Or.inl rfl)]
          rw [if_pos z] at hst
          exact kk0 _ h' k' D hst P' hq
        · rw [if_neg (by rw [eq0 (show r.2.1 < 2147483648 by omega)]; exact z), s_X7_takesStick_74, s_X7_takesStick_75 P'.1.1]
          rw [if_neg z] at hst
          have hnm : isNm r.1 = true := by
            rcases hok with ⟨y, _⟩ | ⟨y, _⟩
            · exact absurd y z
            · exact y
          refine c_stop P' (fun e3 h3 P3 Q3 _ => ?_) (fun e3 => ?_)
          · rw [hq] at e3
            rw [if_pos e3] at hst
            have iS := P3.2.2.2.1
            have hvs : vS (nvN tx (Qn tx k), r.1, nvN tx (Qn tx (k + 1)), 0) := ⟨b1.2, hnm, ⟨b2.1, by show nvN tx (Qn tx (k + 1)) ≤ 9; omega⟩, Nat.zero_le 9⟩
            have iA := isS_add iS hD hvs
            simp only [KV_ap, s_X7_takesStick_0, s_X7_takesStick_1, s_X7_takesStick_2, s_X7_takesStick_3, s_X7_takesStick_6, s_X7_takesStick_9, s_X7_takesStick_10, s_X7_takesStick_11, s_X7_takesStick_12, s_X7_takesStick_15, s_X7_takesStick_16, s_X7_takesStick_17, s_X7_takesStick_18, s_X7_takesStick_20, s_X7_takesStick_23, s_X7_takesStick_26, s_X7_takesStick_27, s_X7_takesStick_28, s_X7_takesStick_29, s_X7_takesStick_32, s_X7_takesStick_33, s_X7_takesStick_34, s_X7_takesStick_35, s_X7_takesStick_36, s_X7_takesStick_40, s_X7_takesStick_41, s_X7_takesStick_44, s_X7_takesStick_45, s_X7_takesStick_46, s_X7_takesStick_47, s_X7_takesStick_50, s_X7_takesStick_53, s_X7_takesStick_54, s_X7_takesStick_56, s_X7_takesStick_57, s_X7_takesStick_58, s_X7_takesStick_61, s_X7_takesStick_62, s_X7_takesStick_63, s_X7_takesStick_66, s_X7_takesStick_69, s_X7_takesStick_71, s_X7_takesStick_74, s_X7_takesStick_75, s_X7_takesStick_78, s_X7_takesStick_81, s_X7_takesStick_82, s_X7_takesStick_83, s_X7_takesStick_84, s_X7_takesStick_87, s_X7_takesStick_88, s_X7_takesStick_89, s_X7_takesStick_90, s_X7_takesStick_91, s_X7_takesStick_94, s_X7_takesStick_95, s_X7_takesStick_96, zI_0, Bool.true_eq_false, Bool.false_eq_true, not_true_eq_false, not_false_eq_true, if_true, if_false, KV_ap, KU_ap, dropL_nil, P3.1.1, P3.1.2.1, iS.1]
            rw [if_pos (by decide), q_add iS.2.1 hD]
            simp only [KV_ap, s_X7_takesStick_0, s_X7_takesStick_1, s_X7_takesStick_2, s_X7_takesStick_3, s_X7_takesStick_6, s_X7_takesStick_9, s_X7_takesStick_10, s_X7_takesStick_11, s_X7_takesStick_12, s_X7_takesStick_15, s_X7_takesStick_16, s_X7_takesStick_17, s_X7_takesStick_18, s_X7_takesStick_20, s_X7_takesStick_23, s_X7_takesStick_26, s_X7_takesStick_27, s_X7_takesStick_28, s_X7_takesStick_29, s_X7_takesStick_32, s_X7_takesStick_33, s_X7_takesStick_34, s_X7_takesStick_35, s_X7_takesStick_36, s_X7_takesStick_40, s_X7_takesStick_41, s_X7_takesStick_44, s_X7_takesStick_45, s_X7_takesStick_46, s_X7_takesStick_47, s_X7_takesStick_50, s_X7_takesStick_53, s_X7_takesStick_54, s_X7_takesStick_56, s_X7_takesStick_57, s_X7_takesStick_58, s_X7_takesStick_61, s_X7_takesStick_62, s_X7_takesStick_63, s_X7_takesStick_66, s_X7_takesStick_69, s_X7_takesStick_71, s_X7_takesStick_74, s_X7_takesStick_75, s_X7_takesStick_78, s_X7_takesStick_81, s_X7_takesStick_82, s_X7_takesStick_83, s_X7_takesStick_84, s_X7_takesStick_87, s_X7_takesStick_88, s_X7_takesStick_89, s_X7_takesStick_90, s_X7_takesStick_91, s_X7_takesStick_94, s_X7_takesStick_95, s_X7_takesStick_96, zI_0, Bool.true_eq_false, Bool.false_eq_true, not_true_eq_false, not_false_eq_true, if_true, if_false, KV_ap, KU_ap, dropL_nil, true_or, or_true]
            refine kk1 _ _ (k' + 1) hst ⟨?_, ?_, P3.2.2.1, iA, ?_⟩ (by rw [Q3, hq]) (by omega)
            · refine cS_cg P3.1 (fun _ _ => rfl) (fun i hi => ?_) (fun x x1 x2 => ?_)
              · rw [hF_pI, hF_pF, if_neg (by omega)]
              · rw [hI_pI, if_neg (by omega)]; rfl
            · rw [hF_pI, hF_pF, if_neg (by omega)]; exact P3.2.1
            · exact frm_pI (by omega) (by omega) (frm_pF (by omega) (by omega) P3.2.2.2.2)
          · rw [hq] at e3
            rw [if_neg e3] at hst
            simp only [KV_ap, s_X7_takesStick_0, s_X7_takesStick_1, s_X7_takesStick_2, s_X7_takesStick_3, s_X7_takesStick_6, s_X7_takesStick_9, s_X7_takesStick_10, s_X7_takesStick_11, s_X7_takesStick_12, s_X7_takesStick_15, s_X7_takesStick_16, s_X7_takesStick_17, s_X7_takesStick_18, s_X7_takesStick_20, s_X7_takesStick_23, s_X7_takesStick_26, s_X7_takesStick_27, s_X7_takesStick_28, s_X7_takesStick_29, s_X7_takesStick_32, s_X7_takesStick_33, s_X7_takesStick_34, s_X7_takesStick_35, s_X7_takesStick_36, s_X7_takesStick_40, s_X7_takesStick_41, s_X7_takesStick_44, s_X7_takesStick_45, s_X7_takesStick_46, s_X7_takesStick_47, s_X7_takesStick_50, s_X7_takesStick_53, s_X7_takesStick_54, s_X7_takesStick_56, s_X7_takesStick_57, s_X7_takesStick_58, s_X7_takesStick_61, s_X7_takesStick_62, s_X7_takesStick_63, s_X7_takesStick_66, s_X7_takesStick_69, s_X7_takesStick_71, s_X7_takesStick_74, s_X7_takesStick_75, s_X7_takesStick_78, s_X7_takesStick_81, s_X7_takesStick_82, s_X7_takesStick_83, s_X7_takesStick_84, s_X7_takesStick_87, s_X7_takesStick_88, s_X7_takesStick_89, s_X7_takesStick_90, s_X7_takesStick_91, s_X7_takesStick_94, s_X7_takesStick_95, s_X7_takesStick_96, zI_0, Bool.true_eq_false, Bool.false_eq_true, not_true_eq_false, not_false_eq_true, if_true, if_false, KV_ap, KU_ap, dropL_nil, true_or, or_true]
            exact kk0 _ h' k' D hst P' hq
      have key : ∀ F m n h' k', m + F = 5 → cP h0 h' a tx t k' D → nmOK n m → k ≤ k' → nmP tx F (Qn tx k') n m = nmP tx 5 (Qn tx (k + 1 + 1)) 0 0 → J g k_X7_takesStick 38 [.ref a, .int (nI (nvN tx (Qn tx k))), .int (nI (nvN tx (Qn tx (k + 1)))), .int (nI n), .int (nI m)] [] [] h' Φ := by
        have c5' : ∀ j : Nat, j < 2147483648 → ((5 : Int32) ≤ nI j) = (5 ≤ j) := fun j hj => le_nI (show 5 < 2147483648 by decide) hj
        intro F
        induction F with
        | zero =>
          intro m n h' k' hm P' hok hkk er
          have : m = 5 := by omega
          subst this
          rw [s_X7_takesStick_38]
          simp only [s_X7_takesStick_40, s_X7_takesStick_41, c5' 5 (by decide), Nat.le_refl, if_true]
          exact fin _ h' k' er.symm P' (by rw [nmP]) (by rw [nmP]; exact hok) (by rw [nmP]; exact Nat.le_refl 5) hkk
        | succ F ih =>
          intro m n h' k' hm P' hok hkk er
          have hn : n < 100000 := by
            rcases hok with ⟨_, y⟩ | ⟨y, _⟩
            · omega
            · exact (nm1 y).1
          rw [s_X7_takesStick_38]
          simp only [s_X7_takesStick_0, s_X7_takesStick_1, s_X7_takesStick_2, s_X7_takesStick_3, s_X7_takesStick_6, s_X7_takesStick_9, s_X7_takesStick_10, s_X7_takesStick_11, s_X7_takesStick_12, s_X7_takesStick_15, s_X7_takesStick_16, s_X7_takesStick_17, s_X7_takesStick_18, s_X7_takesStick_20, s_X7_takesStick_23, s_X7_takesStick_26, s_X7_takesStick_27, s_X7_takesStick_28, s_X7_takesStick_29, s_X7_takesStick_32, s_X7_takesStick_33, s_X7_takesStick_34, s_X7_takesStick_35, s_X7_takesStick_36, s_X7_takesStick_40, s_X7_takesStick_41, s_X7_takesStick_44, s_X7_takesStick_45, s_X7_takesStick_46, s_X7_takesStick_47, s_X7_takesStick_50, s_X7_takesStick_53, s_X7_takesStick_54, s_X7_takesStick_56, s_X7_takesStick_57, s_X7_takesStick_58, s_X7_takesStick_61, s_X7_takesStick_62, s_X7_takesStick_63, s_X7_takesStick_66, s_X7_takesStick_71, s_X7_takesStick_74, s_X7_takesStick_75, s_X7_takesStick_78, s_X7_takesStick_81, s_X7_takesStick_82, s_X7_takesStick_83, s_X7_takesStick_84, s_X7_takesStick_87, s_X7_takesStick_88, s_X7_takesStick_89, s_X7_takesStick_90, s_X7_takesStick_91, s_X7_takesStick_94, s_X7_takesStick_95, s_X7_takesStick_96, zI_0, Bool.true_eq_false, Bool.false_eq_true, not_true_eq_false, not_false_eq_true, if_true, if_false, KV_ap, KU_ap, dropL_nil, c5' m (by omega), show ¬ 5 ≤ m by omega, P'.1.1]
          refine c_num P' 1 5 1 4 rfl (by decide) (by decide) (by decide) (fun e3 h3 P3 Q3 v3 => ?_) (fun e3 => ?_)
          · have b3 := nOk_b e3
            have ns := nm_step hok (by omega) b3.1 b3.2
            simp only [KV_ap, s_X7_takesStick_0, s_X7_takesStick_1, s_X7_takesStick_2, s_X7_takesStick_3, s_X7_takesStick_6, s_X7_takesStick_9, s_X7_takesStick_10, s_X7_takesStick_11, s_X7_takesStick_12, s_X7_takesStick_15, s_X7_takesStick_16, s_X7_takesStick_17, s_X7_takesStick_18, s_X7_takesStick_20, s_X7_takesStick_23, s_X7_takesStick_26, s_X7_takesStick_27, s_X7_takesStick_28, s_X7_takesStick_29, s_X7_takesStick_32, s_X7_takesStick_33, s_X7_takesStick_34, s_X7_takesStick_35, s_X7_takesStick_36, s_X7_takesStick_40, s_X7_takesStick_41, s_X7_takesStick_44, s_X7_takesStick_45, s_X7_takesStick_46, s_X7_takesStick_47, s_X7_takesStick_50, s_X7_takesStick_53, s_X7_takesStick_54, s_X7_takesStick_56, s_X7_takesStick_57, s_X7_takesStick_58, s_X7_takesStick_61, s_X7_takesStick_62, s_X7_takesStick_63, s_X7_takesStick_66, s_X7_takesStick_71, s_X7_takesStick_74, s_X7_takesStick_75, s_X7_takesStick_78, s_X7_takesStick_81, s_X7_takesStick_82, s_X7_takesStick_83, s_X7_takesStick_84, s_X7_takesStick_87, s_X7_takesStick_88, s_X7_takesStick_89, s_X7_takesStick_90, s_X7_takesStick_91, s_X7_takesStick_94, s_X7_takesStick_95, s_X7_takesStick_96, zI_0, Bool.true_eq_false, Bool.false_eq_true, not_true_eq_false, not_false_eq_true, if_true, if_false, KV_ap, KU_ap, dropL_nil, P3.1.1, v3, m10, i_add, a1]
            rw [if_neg (by decide)]
            refine ih (m + 1) (n * 10 + nvN tx (Qn tx k')) h3 (k' + 1) (by omega) P3 (Or.inr ns) (by omega) ?_
            rw [nmP, if_pos e3] at er
            rw [Q3]; exact er
          · simp only [KV_ap, s_X7_takesStick_0, s_X7_takesStick_1, s_X7_takesStick_2, s_X7_takesStick_3, s_X7_takesStick_6, s_X7_takesStick_9, s_X7_takesStick_10, s_X7_takesStick_11, s_X7_takesStick_12, s_X7_takesStick_15, s_X7_takesStick_16, s_X7_takesStick_17, s_X7_takesStick_18, s_X7_takesStick_20, s_X7_takesStick_23, s_X7_takesStick_26, s_X7_takesStick_27, s_X7_takesStick_28, s_X7_takesStick_29, s_X7_takesStick_32, s_X7_takesStick_33, s_X7_takesStick_34, s_X7_takesStick_35, s_X7_takesStick_36, s_X7_takesStick_40, s_X7_takesStick_41, s_X7_takesStick_44, s_X7_takesStick_45, s_X7_takesStick_46, s_X7_takesStick_47, s_X7_takesStick_50, s_X7_takesStick_53, s_X7_takesStick_54, s_X7_takesStick_56, s_X7_takesStick_57, s_X7_takesStick_58, s_X7_takesStick_61, s_X7_takesStick_62, s_X7_takesStick_63, s_X7_takesStick_66, s_X7_takesStick_71, s_X7_takesStick_74, s_X7_takesStick_75, s_X7_takesStick_78, s_X7_takesStick_81, s_X7_takesStick_82, s_X7_takesStick_83, s_X7_takesStick_84, s_X7_takesStick_87, s_X7_takesStick_88, s_X7_takesStick_89, s_X7_takesStick_90, s_X7_takesStick_91, s_X7_takesStick_94, s_X7_takesStick_95, s_X7_takesStick_96, zI_0, Bool.true_eq_false, Bool.false_eq_true, not_true_eq_false, not_false_eq_true, if_true, if_false, KV_ap, KU_ap, dropL_nil]
            rw [nmP, if_neg (by rw [e3]; decide)] at er
            exact fin (n, m, Qn tx k') h' k' er.symm P' rfl hok (by show m ≤ 5; omega) hkk
      exact key 5 0 0 h2 (k + 1 + 1) rfl P2 (Or.inl ⟨rfl, rfl⟩) (by omega) rfl
    · simp only [KV_ap, s_X7_takesStick_0, s_X7_takesStick_1, s_X7_takesStick_2, s_X7_takesStick_3, s_X7_takesStick_6, s_X7_takesStick_9, s_X7_takesStick_10, s_X7_takesStick_11, s_X7_takesStick_12, s_X7_takesStick_15, s_X7_takesStick_16, s_X7_takesStick_17, s_X7_takesStick_18, s_X7_takesStick_20, s_X7_takesStick_23, s_X7_takesStick_26, s_X7_takesStick_27, s_X7_takesStick_28, s_X7_takesStick_29, s_X7_takesStick_32, s_X7_takesStick_33, s_X7_takesStick_34, s_X7_takesStick_35, s_X7_takesStick_36, s_X7_takesStick_40, s_X7_takesStick_41, s_X7_takesStick_44, s_X7_takesStick_45, s_X7_takesStick_46, s_X7_takesStick_47, s_X7_takesStick_50, s_X7_takesStick_53, s_X7_takesStick_54, s_X7_takesStick_56, s_X7_takesStick_57, s_X7_takesStick_58, s_X7_takesStick_61, s_X7_takesStick_62, s_X7_takesStick_63, s_X7_takesStick_66, s_X7_takesStick_69, s_X7_takesStick_71, s_X7_takesStick_74, s_X7_takesStick_75, s_X7_takesStick_78, s_X7_takesStick_81, s_X7_takesStick_82, s_X7_takesStick_83, s_X7_takesStick_84, s_X7_takesStick_87, s_X7_takesStick_88, s_X7_takesStick_89, s_X7_takesStick_90, s_X7_takesStick_91, s_X7_takesStick_94, s_X7_takesStick_95, s_X7_takesStick_96, zI_0, Bool.true_eq_false, Bool.false_eq_true, not_true_eq_false, not_false_eq_true, if_true, if_false, KV_ap, KU_ap, dropL_nil, true_or, or_true]
      exact kk0 _ h1 (k + 1) D (by rw [stP, if_pos e1, ← Q1, if_neg (by rw [e2]; decide)]) P1 rfl
  · simp only [KV_ap, s_X7_takesStick_0, s_X7_takesStick_1, s_X7_takesStick_2, s_X7_takesStick_3, s_X7_takesStick_6, s_X7_takesStick_9, s_X7_takesStick_10, s_X7_takesStick_11, s_X7_takesStick_12, s_X7_takesStick_15, s_X7_takesStick_16, s_X7_takesStick_17, s_X7_takesStick_18, s_X7_takesStick_20, s_X7_takesStick_23, s_X7_takesStick_26, s_X7_takesStick_27, s_X7_takesStick_28, s_X7_takesStick_29, s_X7_takesStick_32, s_X7_takesStick_33, s_X7_takesStick_34, s_X7_takesStick_35, s_X7_takesStick_36, s_X7_takesStick_40, s_X7_takesStick_41, s_X7_takesStick_44, s_X7_takesStick_45, s_X7_takesStick_46, s_X7_takesStick_47, s_X7_takesStick_50, s_X7_takesStick_53, s_X7_takesStick_54, s_X7_takesStick_56, s_X7_takesStick_57, s_X7_takesStick_58, s_X7_takesStick_61, s_X7_takesStick_62, s_X7_takesStick_63, s_X7_takesStick_66, s_X7_takesStick_69, s_X7_takesStick_71, s_X7_takesStick_74, s_X7_takesStick_75, s_X7_takesStick_78, s_X7_takesStick_81, s_X7_takesStick_82, s_X7_takesStick_83, s_X7_takesStick_84, s_X7_takesStick_87, s_X7_takesStick_88, s_X7_takesStick_89, s_X7_takesStick_90, s_X7_takesStick_91, s_X7_takesStick_94, s_X7_takesStick_95, s_X7_takesStick_96, zI_0, Bool.true_eq_false, Bool.false_eq_true, not_true_eq_false, not_false_eq_true, if_true, if_false, KV_ap, KU_ap, dropL_nil, true_or, or_true]
    exact kk0 _ h k D (by rw [stP, if_neg (by rw [e1]; decide)]) P rfl
end R4

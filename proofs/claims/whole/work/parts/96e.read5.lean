/-! The class's text: suck, item, tell, read -/
section R5
variable {g : GL} {h0 h : HP} {Φ : Value → HP → Prop} {a : Nat} {tx : List Nat} {t k : Nat} {D : List St}
theorem c_suck (P : cP h0 h a tx t k D) (kk0 : ∀ f h' k' D', suP tx (Qn tx k) D.length = .inl f → cP h0 h' a tx t k' D' → Qn tx k' = f → Φ (.int 0) h') (kk1 : ∀ r h' k', suP tx (Qn tx k) D.length = .inr r → cP h0 h' a tx t k' (wdL D r.1.1 r.1.2) → Qn tx k' = r.2 → k ≤ k' → Φ (.int 1) h') : J g k_X7_takesSuck 0 [.ref a, m_D] [] [] h Φ := by
  have iS := P.2.2.2.1
  have hl6 : D.length ≤ 6 := iS.2.1.2.2.2.1
  simp only [s_X7_takesSuck_0, s_X7_takesSuck_1, s_X7_takesSuck_2, s_X7_takesSuck_3, s_X7_takesSuck_6, s_X7_takesSuck_9, s_X7_takesSuck_10, s_X7_takesSuck_11, s_X7_takesSuck_14, s_X7_takesSuck_17, s_X7_takesSuck_18, s_X7_takesSuck_19, s_X7_takesSuck_20, s_X7_takesSuck_23, s_X7_takesSuck_24, s_X7_takesSuck_25, s_X7_takesSuck_26, s_X7_takesSuck_28, s_X7_takesSuck_31, s_X7_takesSuck_34, s_X7_takesSuck_35, s_X7_takesSuck_38, s_X7_takesSuck_41, s_X7_takesSuck_42, s_X7_takesSuck_43, s_X7_takesSuck_44, s_X7_takesSuck_47, s_X7_takesSuck_48, s_X7_takesSuck_49, s_X7_takesSuck_52, s_X7_takesSuck_55, s_X7_takesSuck_56, zI_0, Bool.true_eq_false, Bool.false_eq_true, not_true_eq_false, not_false_eq_true, if_true, if_false, KV_ap, KU_ap, dropL_nil, P.1.1, P.1.2.1, iS.1, q_size iS.2.1]
  refine c_num P 0 D.length 0 _ rfl rfl (by decide) (by omega) (fun e1 h1 P1 Q1 v1 => ?_) (fun e1 => ?_)
  · have b1 := nOk_b e1
    simp only [KV_ap, s_X7_takesSuck_0, s_X7_takesSuck_1, s_X7_takesSuck_2, s_X7_takesSuck_3, s_X7_takesSuck_6, s_X7_takesSuck_9, s_X7_takesSuck_10, s_X7_takesSuck_11, s_X7_takesSuck_14, s_X7_takesSuck_17, s_X7_takesSuck_18, s_X7_takesSuck_19, s_X7_takesSuck_20, s_X7_takesSuck_23, s_X7_takesSuck_24, s_X7_takesSuck_25, s_X7_takesSuck_26, s_X7_takesSuck_28, s_X7_takesSuck_31, s_X7_takesSuck_34, s_X7_takesSuck_35, s_X7_takesSuck_38, s_X7_takesSuck_41, s_X7_takesSuck_42, s_X7_takesSuck_43, s_X7_takesSuck_44, s_X7_takesSuck_47, s_X7_takesSuck_48, s_X7_takesSuck_49, s_X7_takesSuck_52, s_X7_takesSuck_55, s_X7_takesSuck_56, zI_0, Bool.true_eq_false, Bool.false_eq_true, not_true_eq_false, not_false_eq_true, if_true, if_false, KV_ap, KU_ap, dropL_nil, P1.1.1, v1]
    rw [if_pos (by decide)]
    refine c_num P1 1 10 1 9 rfl (by decide) (by decide) (by decide) (fun e2 h2 P2 Q2 v2 => ?_) (fun e2 => ?_)
    · have b2 := nOk_b e2
      simp only [KV_ap, s_X7_takesSuck_0, s_X7_takesSuck_1, s_X7_takesSuck_2, s_X7_takesSuck_3, s_X7_takesSuck_6, s_X7_takesSuck_9, s_X7_takesSuck_10, s_X7_takesSuck_11, s_X7_takesSuck_14, s_X7_takesSuck_17, s_X7_takesSuck_18, s_X7_takesSuck_19, s_X7_takesSuck_20, s_X7_takesSuck_23, s_X7_takesSuck_24, s_X7_takesSuck_25, s_X7_takesSuck_26, s_X7_takesSuck_28, s_X7_takesSuck_31, s_X7_takesSuck_34, s_X7_takesSuck_35, s_X7_takesSuck_38, s_X7_takesSuck_41, s_X7_takesSuck_42, s_X7_takesSuck_43, s_X7_takesSuck_44, s_X7_takesSuck_47, s_X7_takesSuck_48, s_X7_takesSuck_49, s_X7_takesSuck_52, s_X7_takesSuck_55, s_X7_takesSuck_56, zI_0, Bool.true_eq_false, Bool.false_eq_true, not_true_eq_false, not_false_eq_true, if_true, if_false, KV_ap, KU_ap, dropL_nil, P2.1.1]
      rw [if_neg (by decide)]
      refine c_stop P2 (fun e3 h3 P3 Q3 v3 => ?_) (fun e3 => ?_)
      · have iS3 := P3.2.2.2.1
        have iW := isS_wd (m := nvN tx (Qn tx (k + 1))) iS3 b1.2
        have hst : suP tx (Qn tx k) D.length = .inr ((nvN tx (Qn tx k), nvN tx (Qn tx (k + 1))), Qn tx (k + 1 + 1 + 1)) := by
          rw [suP, if_pos e1, ← Q1, if_pos e2, ← Q2, if_pos e3, ← Q3]
        simp only [KV_ap, s_X7_takesSuck_0, s_X7_takesSuck_1, s_X7_takesSuck_2, s_X7_takesSuck_3, s_X7_takesSuck_6, s_X7_takesSuck_9, s_X7_takesSuck_10, s_X7_takesSuck_11, s_X7_takesSuck_14, s_X7_takesSuck_17, s_X7_takesSuck_18, s_X7_takesSuck_19, s_X7_takesSuck_20, s_X7_takesSuck_23, s_X7_takesSuck_24, s_X7_takesSuck_25, s_X7_takesSuck_26, s_X7_takesSuck_28, s_X7_takesSuck_31, s_X7_takesSuck_34, s_X7_takesSuck_35, s_X7_takesSuck_38, s_X7_takesSuck_41, s_X7_takesSuck_42, s_X7_takesSuck_43, s_X7_takesSuck_44, s_X7_takesSuck_47, s_X7_takesSuck_48, s_X7_takesSuck_49, s_X7_takesSuck_52, s_X7_takesSuck_55, s_X7_takesSuck_56, zI_0, Bool.true_eq_false, Bool.false_eq_true, not_true_eq_false, not_false_eq_true, if_true, if_false, KV_ap, KU_ap, dropL_nil, P3.1.1, P3.1.2.1, iS3.1, v3, v2]
        rw [if_pos (by decide), q_wearDown iS3 b1.2 (show nvN tx (Qn tx (k + 1)) < 100 by omega)]
        simp only [KU_ap, s_X7_takesSuck_0, s_X7_takesSuck_1, s_X7_takesSuck_2, s_X7_takesSuck_3, s_X7_takesSuck_6, s_X7_takesSuck_9, s_X7_takesSuck_10, s_X7_takesSuck_11, s_X7_takesSuck_14, s_X7_takesSuck_17, s_X7_takesSuck_18, s_X7_takesSuck_19, s_X7_takesSuck_20, s_X7_takesSuck_23, s_X7_takesSuck_24, s_X7_takesSuck_25, s_X7_takesSuck_26, s_X7_takesSuck_28, s_X7_takesSuck_31, s_X7_takesSuck_34, s_X7_takesSuck_35, s_X7_takesSuck_38, s_X7_takesSuck_41, s_X7_takesSuck_42, s_X7_takesSuck_43, s_X7_takesSuck_44, s_X7_takesSuck_47, s_X7_takesSuck_48, s_X7_takesSuck_49, s_X7_takesSuck_52, s_X7_takesSuck_55, s_X7_takesSuck_56, zI_0, Bool.true_eq_false, Bool.false_eq_true, not_true_eq_false, not_false_eq_true, if_true, if_false, KV_ap, KU_ap, dropL_nil, true_or, or_true]
        refine kk1 _ _ (k + 1 + 1 + 1) hst ⟨?_, P3.2.1, P3.2.2.1, iW, ?_⟩ rfl (by omega)
        · refine cS_cg P3.1 (fun _ _ => rfl) (fun i hi => rfl) (fun x x1 x2 => ?_)
          rw [hI_pI, if_neg (by omega)]
        · exact frm_pI (by omega) (by omega) P3.2.2.2.2
      · simp only [KV_ap, s_X7_takesSuck_0, s_X7_takesSuck_1, s_X7_takesSuck_2, s_X7_takesSuck_3, s_X7_takesSuck_6, s_X7_takesSuck_9, s_X7_takesSuck_10, s_X7_takesSuck_11, s_X7_takesSuck_14, s_X7_takesSuck_17, s_X7_takesSuck_18, s_X7_takesSuck_19, s_X7_takesSuck_20, s_X7_takesSuck_23, s_X7_takesSuck_24, s_X7_takesSuck_25, s_X7_takesSuck_26, s_X7_takesSuck_28, s_X7_takesSuck_31, s_X7_takesSuck_34, s_X7_takesSuck_35, s_X7_takesSuck_38, s_X7_takesSuck_41, s_X7_takesSuck_42, s_X7_takesSuck_43, s_X7_takesSuck_44, s_X7_takesSuck_47, s_X7_takesSuck_48, s_X7_takesSuck_49, s_X7_takesSuck_52, s_X7_takesSuck_55, s_X7_takesSuck_56, zI_0, Bool.true_eq_false, Bool.false_eq_true, not_true_eq_false, not_false_eq_true, if_true, if_false, KV_ap, KU_ap, dropL_nil, true_or, or_true]
        exact kk0 _ h2 (k + 1 + 1) D (by rw [suP, if_pos e1, ← Q1, if_pos e2, ← Q2, if_neg e3]) P2 rfl
    · simp only [KV_ap, s_X7_takesSuck_0, s_X7_takesSuck_1, s_X7_takesSuck_2, s_X7_takesSuck_3, s_X7_takesSuck_6, s_X7_takesSuck_9, s_X7_takesSuck_10, s_X7_takesSuck_11, s_X7_takesSuck_14, s_X7_takesSuck_17, s_X7_takesSuck_18, s_X7_takesSuck_19, s_X7_takesSuck_20, s_X7_takesSuck_23, s_X7_takesSuck_24, s_X7_takesSuck_25, s_X7_takesSuck_26, s_X7_takesSuck_28, s_X7_takesSuck_31, s_X7_takesSuck_34, s_X7_takesSuck_35, s_X7_takesSuck_38, s_X7_takesSuck_41, s_X7_takesSuck_42, s_X7_takesSuck_43, s_X7_takesSuck_44, s_X7_takesSuck_47, s_X7_takesSuck_48, s_X7_takesSuck_49, s_X7_takesSuck_52, s_X7_takesSuck_55, s_X7_takesSuck_56, zI_0, Bool.true_eq_false, Bool.false_eq_true, not_true_eq_false, not_false_eq_true, if_true, if_false, KV_ap, KU_ap, dropL_nil, true_or, or_true]
      exact kk0 _ h1 (k + 1) D (by rw [suP, if_pos e1, ← Q1, if_neg (by rw [e2]; decide)]) P1 rfl
  · simp only [KV_ap, s_X7_takesSuck_0, s_X7_takesSuck_1, s_X7_takesSuck_2, s_X7_takesSuck_3, s_X7_takesSuck_6, s_X7_takesSuck_9, s_X7_takesSuck_10, s_X7_takesSuck_11, s_X7_takesSuck_14, s_X7_takesSuck_17, s_X7_takesSuck_18, s_X7_takesSuck_19, s_X7_takesSuck_20, s_X7_takesSuck_23, s_X7_takesSuck_24, s_X7_takesSuck_25, s_X7_takesSuck_26, s_X7_takesSuck_28, s_X7_takesSuck_31, s_X7_takesSuck_34, s_X7_takesSuck_35, s_X7_takesSuck_38, s_X7_takesSuck_41, s_X7_takesSuck_42, s_X7_takesSuck_43, s_X7_takesSuck_44, s_X7_takesSuck_47, s_X7_takesSuck_48, s_X7_takesSuck_49, s_X7_takesSuck_52, s_X7_takesSuck_55, s_X7_takesSuck_56, zI_0, Bool.true_eq_false, Bool.false_eq_true, not_true_eq_false, not_false_eq_true, if_true, if_false, KV_ap, KU_ap, dropL_nil, true_or, or_true]
    exact kk0 _ h k D (by rw [suP, if_neg (by rw [e1]; decide)]) P rfl
theorem c_item (P : cP h0 h a tx t k D) (kk0 : ∀ f h' k' D', itP tx (Qn tx k) D = .inl f → cP h0 h' a tx t k' D' → Qn tx k' = f → Φ (.int 0) h') (kk1 : ∀ r h' k', itP tx (Qn tx k) D = .inr r → cP h0 h' a tx t k' r.1 → Qn tx k' = r.2 → k < k' → Φ (.int 1) h') : J g k_X7_takesItem 0 [.ref a] [] [] h Φ := by
  have iS := P.2.2.2.1
  have hl6 : D.length ≤ 6 := iS.2.1.2.2.2.1
  have suckP : ¬ (D.length ≠ 6 ∧ wOk tx (Qn tx k) wSt = true) → J g k_X7_takesItem 24 [.ref a] [] [] h Φ := fun hno => by
    simp only [s_X7_takesItem_0, s_X7_takesItem_1, s_X7_takesItem_4, s_X7_takesItem_7, s_X7_takesItem_10, s_X7_takesItem_11, s_X7_takesItem_13, s_X7_takesItem_16, s_X7_takesItem_19, s_X7_takesItem_20, s_X7_takesItem_23, s_X7_takesItem_25, s_X7_takesItem_27, s_X7_takesItem_30, s_X7_takesItem_33, s_X7_takesItem_34, s_X7_takesItem_37, s_X7_takesItem_40, s_X7_takesItem_41, s_X7_takesItem_44, s_X7_takesItem_45, s_X7_takesItem_24, P.1.1]
    refine c_word2 P (fun e1 h1 P1 Q1 => ?_) (fun e1 => ?_)
    · simp only [KV_ap, s_X7_takesItem_0, s_X7_takesItem_1, s_X7_takesItem_4, s_X7_takesItem_7, s_X7_takesItem_10, s_X7_takesItem_11, s_X7_takesItem_13, s_X7_takesItem_16, s_X7_takesItem_19, s_X7_takesItem_20, s_X7_takesItem_23, s_X7_takesItem_25, s_X7_takesItem_27, s_X7_takesItem_30, s_X7_takesItem_33, s_X7_takesItem_34, s_X7_takesItem_37, s_X7_takesItem_40, s_X7_takesItem_41, s_X7_takesItem_44, s_X7_takesItem_45, zI_0, Bool.true_eq_false, Bool.false_eq_true, not_true_eq_false, not_false_eq_true, if_true, if_false, KV_ap, KU_ap, dropL_nil, P1.1.1]
      rw [if_neg (by decide)]
      refine c_suck P1 (fun f h' k' D' ef P' q' => ?_) (fun r h' k' er P' q' hk' => ?_)
      · simp only [KV_ap, s_X7_takesItem_0, s_X7_takesItem_1, s_X7_takesItem_4, s_X7_takesItem_7, s_X7_takesItem_10, s_X7_takesItem_11, s_X7_takesItem_13, s_X7_takesItem_16, s_X7_takesItem_19, s_X7_takesItem_20, s_X7_takesItem_23, s_X7_takesItem_25, s_X7_takesItem_27, s_X7_takesItem_30, s_X7_takesItem_33, s_X7_takesItem_34, s_X7_takesItem_37, s_X7_takesItem_40, s_X7_takesItem_41, s_X7_takesItem_44, s_X7_takesItem_45, zI_0, Bool.true_eq_false, Bool.false_eq_true, not_true_eq_false, not_false_eq_true, if_true, if_false, KV_ap, KU_ap, dropL_nil, true_or, or_true]
        exact kk0 f h' k' D' (by rw [itP, if_neg hno, if_pos e1, ← Q1, ef]) P' q'
      · simp only [KV_ap, s_X7_takesItem_0, s_X7_takesItem_1, s_X7_takesItem_4, s_X7_takesItem_7, s_X7_takesItem_10, s_X7_takesItem_11, s_X7_takesItem_13, s_X7_takesItem_16, s_X7_takesItem_19, s_X7_takesItem_20, s_X7_takesItem_23, s_X7_takesItem_25, s_X7_takesItem_27, s_X7_takesItem_30, s_X7_takesItem_33, s_X7_takesItem_34, s_X7_takesItem_37, s_X7_takesItem_40, s_X7_takesItem_41, s_X7_takesItem_44, s_X7_takesItem_45, zI_0, Bool.true_eq_false, Bool.false_eq_true, not_true_eq_false, not_false_eq_true, if_true, if_false, KV_ap, KU_ap, dropL_nil, true_or, or_true]
        rw [if_neg (by decide)]
        exact kk1 (wdL D r.1.1 r.1.2, r.2) h' k' (by rw [itP, if_neg hno, if_pos e1, ← Q1, er]) P' q' (by omega)
    · simp only [KV_ap, s_X7_takesItem_0, s_X7_takesItem_1, s_X7_takesItem_4, s_X7_takesItem_7, s_X7_takesItem_10, s_X7_takesItem_11, s_X7_takesItem_13, s_X7_takesItem_16, s_X7_takesItem_19, s_X7_takesItem_20, s_X7_takesItem_23, s_X7_takesItem_25, s_X7_takesItem_27, s_X7_takesItem_30, s_X7_takesItem_33, s_X7_takesItem_34, s_X7_takesItem_37, s_X7_takesItem_40, s_X7_takesItem_41, s_X7_takesItem_44, s_X7_takesItem_45, zI_0, Bool.true_eq_false, Bool.false_eq_true, not_true_eq_false, not_false_eq_true, if_true, if_false, KV_ap, KU_ap, dropL_nil, true_or, or_true]
      exact kk0 _ h k D (by rw [itP, if_neg hno, if_neg (by rw [e1]; decide)]) P rfl
  by_cases z : D.length = 6
  · have := suckP (fun y => y.1 z)
    simp only [s_X7_takesItem_0, s_X7_takesItem_1, s_X7_takesItem_4, s_X7_takesItem_7, s_X7_takesItem_10, s_X7_takesItem_11, s_X7_takesItem_13, s_X7_takesItem_16, s_X7_takesItem_19, s_X7_takesItem_20, s_X7_takesItem_23, s_X7_takesItem_25, s_X7_takesItem_27, s_X7_takesItem_30, s_X7_takesItem_33, s_X7_takesItem_34, s_X7_takesItem_37, s_X7_takesItem_40, s_X7_takesItem_41, s_X7_takesItem_44, s_X7_takesItem_45, zI_0, Bool.true_eq_false, Bool.false_eq_true, not_true_eq_false, not_false_eq_true, if_true, if_false, KV_ap, KU_ap, dropL_nil, P.1.1, P.1.2.1, iS.1, q_isFull iS.2.1, decide_eq_true z]
    exact this
  · simp only [s_X7_takesItem_0, s_X7_takesItem_1, s_X7_takesItem_4, s_X7_takesItem_7, s_X7_takesItem_10, s_X7_takesItem_11, s_X7_takesItem_13, s_X7_takesItem_16, s_X7_takesItem_19, s_X7_takesItem_20, s_X7_takesItem_23, s_X7_takesItem_25, s_X7_takesItem_27, s_X7_takesItem_30, s_X7_takesItem_33, s_X7_takesItem_34, s_X7_takesItem_37, s_X7_takesItem_40, s_X7_takesItem_41, s_X7_takesItem_44, s_X7_takesItem_45, zI_0, Bool.true_eq_false, Bool.false_eq_true, not_true_eq_false, not_false_eq_true, if_true, if_false, KV_ap, KU_ap, dropL_nil, P.1.1, P.1.2.1, iS.1, q_isFull iS.2.1, decide_eq_false z]
    refine c_word1 P (fun e1 h1 P1 Q1 => ?_) (fun e1 => ?_)
    · simp only [KV_ap, s_X7_takesItem_0, s_X7_takesItem_1, s_X7_takesItem_4, s_X7_takesItem_7, s_X7_takesItem_10, s_X7_takesItem_11, s_X7_takesItem_13, s_X7_takesItem_16, s_X7_takesItem_19, s_X7_takesItem_20, s_X7_takesItem_25, s_X7_takesItem_27, s_X7_takesItem_30, s_X7_takesItem_33, s_X7_takesItem_34, s_X7_takesItem_37, s_X7_takesItem_40, s_X7_takesItem_41, s_X7_takesItem_44, s_X7_takesItem_45, zI_0, Bool.true_eq_false, Bool.false_eq_true, not_true_eq_false, not_false_eq_true, if_true, if_false, KV_ap, KU_ap, dropL_nil, P1.1.1]
      rw [if_neg (by decide)]
      refine c_stick P1 (by omega) (fun f h' k' D' ef P' q' => ?_) (fun r h' k' er P' q' hk' => ?_)
      · rw [KV_ap, s_X7_takesItem_23 (Or.inl rfl)]
        exact kk0 f h' k' D' (by rw [itP, if_pos ⟨z, e1⟩, ← Q1, ef]) P' q'
      · rw [KV_ap, s_X7_takesItem_23 (Or.inr rfl)]
        exact kk1 (D ++ [r.1], r.2) h' k' (by rw [itP, if_pos ⟨z, e1⟩, ← Q1, er]) P' q' (by omega)
    · have := suckP (fun y => by rw [e1] at y; exact absurd y.2 (by decide))
      simp only [KV_ap, s_X7_takesItem_0, s_X7_takesItem_1, s_X7_takesItem_4, s_X7_takesItem_7, s_X7_takesItem_10, s_X7_takesItem_11, s_X7_takesItem_13, s_X7_takesItem_16, s_X7_takesItem_19, s_X7_takesItem_20, s_X7_takesItem_23, s_X7_takesItem_25, s_X7_takesItem_27, s_X7_takesItem_30, s_X7_takesItem_33, s_X7_takesItem_34, s_X7_takesItem_37, s_X7_takesItem_40, s_X7_takesItem_41, s_X7_takesItem_44, s_X7_takesItem_45, zI_0, Bool.true_eq_false, Bool.false_eq_true, not_true_eq_false, not_false_eq_true, if_true, if_false, KV_ap, KU_ap, dropL_nil]
      exact this
theorem c_tell (hX : txX h a tx) (kk0 : ∀ f h' D', rdP tx = .inl f → f ≤ tx.length → txX h' a tx → isS h' (a + 1) D' → frm h h' a (a + 7) → Φ (.int (-10 - nI f)) h') (kk1 : ∀ r h', rdP tx = .inr r → r.1 < 200 → txX h' a tx → isS h' (a + 1) r.2 → frm h h' a (a + 7) → Φ (.int (nI r.1)) h') : J g k_X7_tell 0 [.ref a, m_D, m_D] [] [] h Φ := by
  obtain ⟨x0, x1, x2, x3, x4, x5, x6, xl, ⟨D0, xD⟩, x9, x10, x11, x12, x13⟩ := id hX
  simp only [s_X7_tell_0, s_X7_tell_1, s_X7_tell_4, s_X7_tell_7, s_X7_tell_8, s_X7_tell_11, s_X7_tell_12, s_X7_tell_13, s_X7_tell_16, s_X7_tell_17, s_X7_tell_19, s_X7_tell_22, s_X7_tell_25, s_X7_tell_26, s_X7_tell_29, s_X7_tell_32, s_X7_tell_33, s_X7_tell_36, s_X7_tell_37, s_X7_tell_38, s_X7_tell_39, s_X7_tell_41, s_X7_tell_44, s_X7_tell_45, s_X7_tell_48, s_X7_tell_49, s_X7_tell_52, s_X7_tell_55, s_X7_tell_56, s_X7_tell_59, s_X7_tell_62, s_X7_tell_63, s_X7_tell_66, s_X7_tell_67, s_X7_tell_70, s_X7_tell_73, s_X7_tell_74, s_X7_tell_77, s_X7_tell_78, s_X7_tell_81, s_X7_tell_83, s_X7_tell_84, s_X7_tell_85, s_X7_tell_88, s_X7_tell_91, s_X7_tell_92, zI_0, Bool.true_eq_false, Bool.false_eq_true, not_true_eq_false, not_false_eq_true, if_true, if_false, KV_ap, KU_ap, dropL_nil, x0, x1, xD.1, q_empty xD.2.1, hS_pF]
  have xN := isS_nil xD
  have mF : ∀ j, hF (pF h (a + 1) 1 (.int (nI 0))) a j = hF h a j := fun j => by rw [hF_pF, if_neg (by omega)]
  refine q_split (tx := tx) (h := pF h (a + 1) 1 (.int (nI 0))) x0 (by rw [mF]; exact x2) (by rw [mF]; exact x3) (by rw [mF]; exact x4) (by rw [mF]; exact x5) (by rw [mF]; exact x6) xl x9 x10 x11 x12 x13 (fun h1 t hI => ?_)
  obtain ⟨i1, i2, i3, i4, i5, i6, i7, i8, i9, i10, i11⟩ := hI
  have F1 : ∀ j, j ≠ 6 → hF h1 a j = hF h a j := fun j hj => by rw [i2 a j (fun z => hj z.2), mF]
  have hQt : Qn tx t = tx.length := by have := Q_le tx t; omega
  have c1 : cS h1 a tx t := by
    refine ⟨by rw [i1]; exact x0, by rw [F1 0 (by decide)]; exact x1, by rw [F1 1 (by decide)]; exact x2, by rw [F1 2 (by decide)]; exact x3, by rw [F1 3 (by decide)]; exact x4, by rw [F1 4 (by decide)]; exact x5, by rw [F1 5 (by decide)]; exact x6, i3, xl, by rw [i1]; exact x9, by rw [i1]; exact x10, by rw [i1]; exact x11, by rw [i1]; exact x12, by rw [i4 (a + 3) (by omega) (by omega) (by omega)]; exact x13, fun j hj => ?_, hQt, by omega⟩
    obtain ⟨y1, y2, y3⟩ := i9 j hj
    refine ⟨y1, y2, ?_, y3⟩
    by_cases e : j + 1 < t
    · exact i10 j e
    · have ej : j = t - 1 := by omega
      subst ej
      have htl := tl_le tx y3
      rw [i11 (by omega), Nat.min_eq_left (by omega)]
  have iS1 : isS h1 (a + 1) [] := isS_agr (fun x p1 p2 => ⟨i1 x, by funext j; exact i2 x j (by omega), i4 x (by omega) (by omega) (by omega)⟩) xN
  have fr1 : frm h h1 a (a + 7) := frm_trans (frm_pF (by omega) (by omega) (frm_rfl h _ _)) i5
  have P1 : cP h (pF h1 a 7 (.int (nI 0))) a tx t 0 [] := ⟨cS_78 c1 (by decide), by rw [hF_pF, if_pos ⟨rfl, rfl⟩], Nat.zero_le _, isS_pF (by omega) iS1, frm_pF (by omega) (by omega) fr1⟩
  have toX : ∀ h' k' D', cP h h' a tx t k' D' → txX h' a tx := fun h' k' D' P => by
    obtain ⟨⟨c0, c1, c2, c3, c4, c5, c6, c7, hl, s3, s4, s5, s6, hR, hT, hQ, h150⟩, f7, hk, iD, hf⟩ := P
    exact ⟨c0, c1, c2, c3, c4, c5, c6, hl, ⟨D', iD⟩, s3, s4, s5, s6, hR⟩
  have c0 : (0 : Int32) = nI 0 := rfl
  simp only [KU_ap, s_X7_tell_0, s_X7_tell_1, s_X7_tell_4, s_X7_tell_7, s_X7_tell_8, s_X7_tell_11, s_X7_tell_12, s_X7_tell_13, s_X7_tell_16, s_X7_tell_17, s_X7_tell_19, s_X7_tell_22, s_X7_tell_25, s_X7_tell_26, s_X7_tell_29, s_X7_tell_32, s_X7_tell_33, s_X7_tell_36, s_X7_tell_37, s_X7_tell_38, s_X7_tell_39, s_X7_tell_41, s_X7_tell_44, s_X7_tell_45, s_X7_tell_48, s_X7_tell_49, s_X7_tell_52, s_X7_tell_55, s_X7_tell_56, s_X7_tell_59, s_X7_tell_62, s_X7_tell_63, s_X7_tell_66, s_X7_tell_67, s_X7_tell_70, s_X7_tell_73, s_X7_tell_74, s_X7_tell_77, s_X7_tell_78, s_X7_tell_81, s_X7_tell_83, s_X7_tell_84, s_X7_tell_85, s_X7_tell_88, s_X7_tell_91, s_X7_tell_92, zI_0, Bool.true_eq_false, Bool.false_eq_true, not_true_eq_false, not_false_eq_true, if_true, if_false, KV_ap, KU_ap, dropL_nil, i1, hS_pF, x0]
  have fail : ∀ f h' k' D' (it : Value), rdP tx = .inl f → cP h h' a tx t k' D' → Qn tx k' = f → J g k_X7_tell 81 [.ref a, .int 0, it] [] [] h' Φ := by
    intro f h' k' D' it er P' hq
    simp only [s_X7_tell_0, s_X7_tell_1, s_X7_tell_4, s_X7_tell_7, s_X7_tell_8, s_X7_tell_11, s_X7_tell_12, s_X7_tell_13, s_X7_tell_16, s_X7_tell_17, s_X7_tell_19, s_X7_tell_22, s_X7_tell_25, s_X7_tell_26, s_X7_tell_29, s_X7_tell_32, s_X7_tell_33, s_X7_tell_36, s_X7_tell_37, s_X7_tell_38, s_X7_tell_39, s_X7_tell_41, s_X7_tell_44, s_X7_tell_45, s_X7_tell_48, s_X7_tell_49, s_X7_tell_52, s_X7_tell_55, s_X7_tell_56, s_X7_tell_59, s_X7_tell_62, s_X7_tell_63, s_X7_tell_66, s_X7_tell_67, s_X7_tell_70, s_X7_tell_73, s_X7_tell_74, s_X7_tell_77, s_X7_tell_78, s_X7_tell_81, s_X7_tell_83, s_X7_tell_84, s_X7_tell_85, s_X7_tell_88, s_X7_tell_91, s_X7_tell_92, zI_0, Bool.true_eq_false, Bool.false_eq_true, not_true_eq_false, not_false_eq_true, if_true, if_false, KV_ap, KU_ap, dropL_nil, P'.1.1, P'.2.1, q_startOf P'.1 P'.2.2.1]
    rw [hq]
    exact kk0 f h' D' er (by rw [← hq]; exact Q_le tx k') (toX h' k' D' P') P'.2.2.2.1 P'.2.2.2.2
  have loop : ∀ F n h' k' D', tx.length ≤ Qn tx k' + F → cP h h' a tx t k' D' → n < k' → tnP tx F (Qn tx k') n D' = rdP tx → J g k_X7_tell 40 [.ref a, .int 1, .int (nI n)] [] [] h' Φ := by
    intro F
    induction F with
    | zero =>
      intro n h' k' D' hF P' hnk er
      have hq : ¬ k' < t := fun z => by have := (P'.1.2.2.2.2.2.2.2.2.2.2.2.2.2.2.1 k' z).2.2.2; omega
      have hk := P'.2.2.1
      have h150 := P'.1.2.2.2.2.2.2.2.2.2.2.2.2.2.2.2.2
      rw [s_X7_tell_40]
      simp only [s_X7_tell_0, s_X7_tell_1, s_X7_tell_4, s_X7_tell_7, s_X7_tell_8, s_X7_tell_11, s_X7_tell_12, s_X7_tell_13, s_X7_tell_16, s_X7_tell_17, s_X7_tell_19, s_X7_tell_22, s_X7_tell_25, s_X7_tell_26, s_X7_tell_29, s_X7_tell_32, s_X7_tell_33, s_X7_tell_36, s_X7_tell_37, s_X7_tell_38, s_X7_tell_39, s_X7_tell_41, s_X7_tell_44, s_X7_tell_45, s_X7_tell_48, s_X7_tell_49, s_X7_tell_52, s_X7_tell_55, s_X7_tell_56, s_X7_tell_59, s_X7_tell_62, s_X7_tell_63, s_X7_tell_66, s_X7_tell_67, s_X7_tell_70, s_X7_tell_73, s_X7_tell_74, s_X7_tell_77, s_X7_tell_78, s_X7_tell_81, s_X7_tell_83, s_X7_tell_84, s_X7_tell_85, s_X7_tell_88, s_X7_tell_91, s_X7_tell_92, zI_0, Bool.true_eq_false, Bool.false_eq_true, not_true_eq_false, not_false_eq_true, if_true, if_false, KV_ap, KU_ap, dropL_nil, P'.1.1, P'.2.1, P'.1.2.2.2.2.2.2.2.1, le_nI (show t < 2147483648 by omega) (show k' < 2147483648 by omega), show t ≤ k' by omega]
      rw [if_neg (by decide)]
      rw [tnP] at er
      exact kk1 (n, D') h' er.symm (by show n < 200; omega) (toX h' k' D' P') P'.2.2.2.1 P'.2.2.2.2
    | succ F ih =>
      intro n h' k' D' hF P' hnk er
      have hk := P'.2.2.1
      have h150 := P'.1.2.2.2.2.2.2.2.2.2.2.2.2.2.2.2.2
      have c150 : ((150 : Int32) ≤ nI n) = (150 ≤ n) := le_nI (show 150 < 2147483648 by decide) (show n < 2147483648 by omega)
      rw [s_X7_tell_40]
      by_cases z : k' < t
      · have hq := (P'.1.2.2.2.2.2.2.2.2.2.2.2.2.2.2.1 k' z).2.2.2
        simp only [s_X7_tell_0, s_X7_tell_1, s_X7_tell_4, s_X7_tell_7, s_X7_tell_8, s_X7_tell_11, s_X7_tell_12, s_X7_tell_13, s_X7_tell_16, s_X7_tell_17, s_X7_tell_19, s_X7_tell_22, s_X7_tell_25, s_X7_tell_26, s_X7_tell_29, s_X7_tell_32, s_X7_tell_33, s_X7_tell_36, s_X7_tell_37, s_X7_tell_38, s_X7_tell_39, s_X7_tell_41, s_X7_tell_44, s_X7_tell_45, s_X7_tell_48, s_X7_tell_49, s_X7_tell_52, s_X7_tell_55, s_X7_tell_56, s_X7_tell_59, s_X7_tell_62, s_X7_tell_63, s_X7_tell_66, s_X7_tell_67, s_X7_tell_70, s_X7_tell_73, s_X7_tell_74, s_X7_tell_77, s_X7_tell_78, s_X7_tell_81, s_X7_tell_83, s_X7_tell_84, s_X7_tell_85, s_X7_tell_88, s_X7_tell_91, s_X7_tell_92, zI_0, Bool.true_eq_false, Bool.false_eq_true, not_true_eq_false, not_false_eq_true, if_true, if_false, KV_ap, KU_ap, dropL_nil, P'.1.1, P'.2.1, P'.1.2.2.2.2.2.2.2.1, le_nI (show t < 2147483648 by omega) (show k' < 2147483648 by omega), show ¬ t ≤ k' by omega, c150, show ¬ 150 ≤ n by omega]
        rw [if_neg (by decide)]
        rw [tnP, if_pos hq] at er
        refine c_item P' (fun f h2 k2 D2 ef P2 q2 => ?_) (fun r h2 k2 er2 P2 q2 hk2 => ?_)
        · rw [ef] at er
          have := fail f h2 k2 D2 (.int (nI (n + 1))) er.symm P2 q2
          simp only [KV_ap, s_X7_tell_0, s_X7_tell_1, s_X7_tell_4, s_X7_tell_7, s_X7_tell_8, s_X7_tell_11, s_X7_tell_12, s_X7_tell_13, s_X7_tell_16, s_X7_tell_17, s_X7_tell_19, s_X7_tell_22, s_X7_tell_25, s_X7_tell_26, s_X7_tell_29, s_X7_tell_32, s_X7_tell_33, s_X7_tell_36, s_X7_tell_37, s_X7_tell_38, s_X7_tell_39, s_X7_tell_41, s_X7_tell_44, s_X7_tell_45, s_X7_tell_48, s_X7_tell_49, s_X7_tell_52, s_X7_tell_55, s_X7_tell_56, s_X7_tell_59, s_X7_tell_62, s_X7_tell_63, s_X7_tell_66, s_X7_tell_67, s_X7_tell_70, s_X7_tell_73, s_X7_tell_74, s_X7_tell_77, s_X7_tell_78, s_X7_tell_83, s_X7_tell_84, s_X7_tell_85, s_X7_tell_88, s_X7_tell_91, s_X7_tell_92, zI_0, Bool.true_eq_false, Bool.false_eq_true, not_true_eq_false, not_false_eq_true, if_true, if_false, KV_ap, KU_ap, dropL_nil, a1]
          rw [s_X7_tell_40]
          simp only [s_X7_tell_0, s_X7_tell_1, s_X7_tell_4, s_X7_tell_7, s_X7_tell_8, s_X7_tell_11, s_X7_tell_12, s_X7_tell_13, s_X7_tell_16, s_X7_tell_17, s_X7_tell_19, s_X7_tell_22, s_X7_tell_25, s_X7_tell_26, s_X7_tell_29, s_X7_tell_32, s_X7_tell_33, s_X7_tell_36, s_X7_tell_37, s_X7_tell_38, s_X7_tell_39, s_X7_tell_41, s_X7_tell_44, s_X7_tell_45, s_X7_tell_48, s_X7_tell_49, s_X7_tell_52, s_X7_tell_55, s_X7_tell_56, s_X7_tell_59, s_X7_tell_62, s_X7_tell_63, s_X7_tell_66, s_X7_tell_67, s_X7_tell_70, s_X7_tell_73, s_X7_tell_74, s_X7_tell_77, s_X7_tell_78, s_X7_tell_83, s_X7_tell_84, s_X7_tell_85, s_X7_tell_88, s_X7_tell_91, s_X7_tell_92, zI_0, Bool.true_eq_false, Bool.false_eq_true, not_true_eq_false, not_false_eq_true, if_true, if_false, KV_ap, KU_ap, dropL_nil]
          exact this
        · rw [er2] at er
          simp only [KV_ap, s_X7_tell_0, s_X7_tell_1, s_X7_tell_4, s_X7_tell_7, s_X7_tell_8, s_X7_tell_11, s_X7_tell_12, s_X7_tell_13, s_X7_tell_16, s_X7_tell_17, s_X7_tell_19, s_X7_tell_22, s_X7_tell_25, s_X7_tell_26, s_X7_tell_29, s_X7_tell_32, s_X7_tell_33, s_X7_tell_36, s_X7_tell_37, s_X7_tell_38, s_X7_tell_39, s_X7_tell_41, s_X7_tell_44, s_X7_tell_45, s_X7_tell_48, s_X7_tell_49, s_X7_tell_52, s_X7_tell_55, s_X7_tell_56, s_X7_tell_59, s_X7_tell_62, s_X7_tell_63, s_X7_tell_66, s_X7_tell_67, s_X7_tell_70, s_X7_tell_73, s_X7_tell_74, s_X7_tell_77, s_X7_tell_78, s_X7_tell_81, s_X7_tell_83, s_X7_tell_84, s_X7_tell_85, s_X7_tell_88, s_X7_tell_91, s_X7_tell_92, zI_0, Bool.true_eq_false, Bool.false_eq_true, not_true_eq_false, not_false_eq_true, if_true, if_false, KV_ap, KU_ap, dropL_nil, a1]
          have hgt : Qn tx k' < Qn tx k2 := by
            have mono : ∀ d, Qn tx (k' + 1) ≤ Qn tx (k' + 1 + d) := by
              intro d
              induction d with
              | zero => exact Nat.le_refl _
              | succ d ihd =>
                refine Nat.le_trans ihd ?_
                rw [← Nat.add_assoc, Qn]
                split
                · exact Nat.le_of_lt (nx_gt tx _)
                · exact Q_le tx _
            have := mono (k2 - (k' + 1))
            rw [show k' + 1 + (k2 - (k' + 1)) = k2 by omega, Q_s hq] at this
            have := nx_gt tx (Qn tx k')
            omega
          exact ih (n + 1) h2 k2 r.1 (by omega) P2 (by omega) (by rw [q2]; exact er)
      · have hq : Qn tx k' = tx.length := by rw [show k' = t by omega]; exact hQt
        simp only [s_X7_tell_0, s_X7_tell_1, s_X7_tell_4, s_X7_tell_7, s_X7_tell_8, s_X7_tell_11, s_X7_tell_12, s_X7_tell_13, s_X7_tell_16, s_X7_tell_17, s_X7_tell_19, s_X7_tell_22, s_X7_tell_25, s_X7_tell_26, s_X7_tell_29, s_X7_tell_32, s_X7_tell_33, s_X7_tell_36, s_X7_tell_37, s_X7_tell_38, s_X7_tell_39, s_X7_tell_41, s_X7_tell_44, s_X7_tell_45, s_X7_tell_48, s_X7_tell_49, s_X7_tell_52, s_X7_tell_55, s_X7_tell_56, s_X7_tell_59, s_X7_tell_62, s_X7_tell_63, s_X7_tell_66, s_X7_tell_67, s_X7_tell_70, s_X7_tell_73, s_X7_tell_74, s_X7_tell_77, s_X7_tell_78, s_X7_tell_81, s_X7_tell_83, s_X7_tell_84, s_X7_tell_85, s_X7_tell_88, s_X7_tell_91, s_X7_tell_92, zI_0, Bool.true_eq_false, Bool.false_eq_true, not_true_eq_false, not_false_eq_true, if_true, if_false, KV_ap, KU_ap, dropL_nil, P'.1.1, P'.2.1, P'.1.2.2.2.2.2.2.2.1, le_nI (show t < 2147483648 by omega) (show k' < 2147483648 by omega), show t ≤ k' by omega]
        rw [if_neg (by decide)]
        rw [tnP, if_neg (by omega)] at er
        exact kk1 (n, D') h' er.symm (by show n < 200; omega) (toX h' k' D' P') P'.2.2.2.1 P'.2.2.2.2
  have q00 : Qn tx 0 = sk tx 0 := rfl
  refine c_word0 P1 (fun e1 h2 P2 Q2 => ?_) (fun e1 => ?_)
  · simp only [KV_ap, s_X7_tell_0, s_X7_tell_1, s_X7_tell_4, s_X7_tell_7, s_X7_tell_8, s_X7_tell_11, s_X7_tell_12, s_X7_tell_13, s_X7_tell_16, s_X7_tell_17, s_X7_tell_19, s_X7_tell_22, s_X7_tell_25, s_X7_tell_26, s_X7_tell_29, s_X7_tell_32, s_X7_tell_33, s_X7_tell_36, s_X7_tell_37, s_X7_tell_38, s_X7_tell_39, s_X7_tell_41, s_X7_tell_44, s_X7_tell_45, s_X7_tell_48, s_X7_tell_49, s_X7_tell_52, s_X7_tell_55, s_X7_tell_56, s_X7_tell_59, s_X7_tell_62, s_X7_tell_63, s_X7_tell_66, s_X7_tell_67, s_X7_tell_70, s_X7_tell_73, s_X7_tell_74, s_X7_tell_77, s_X7_tell_78, s_X7_tell_81, s_X7_tell_83, s_X7_tell_84, s_X7_tell_85, s_X7_tell_88, s_X7_tell_91, s_X7_tell_92, zI_0, Bool.true_eq_false, Bool.false_eq_true, not_true_eq_false, not_false_eq_true, if_true, if_false, KV_ap, KU_ap, dropL_nil, P2.1.1]
    rw [if_neg (by decide)]
    refine c_stop P2 (fun e2 h3 P3 Q3 _ => ?_) (fun e2 => ?_)
    · simp only [KV_ap, s_X7_tell_0, s_X7_tell_1, s_X7_tell_4, s_X7_tell_7, s_X7_tell_8, s_X7_tell_11, s_X7_tell_12, s_X7_tell_13, s_X7_tell_16, s_X7_tell_17, s_X7_tell_19, s_X7_tell_22, s_X7_tell_25, s_X7_tell_26, s_X7_tell_29, s_X7_tell_32, s_X7_tell_33, s_X7_tell_36, s_X7_tell_37, s_X7_tell_38, s_X7_tell_39, s_X7_tell_41, s_X7_tell_44, s_X7_tell_45, s_X7_tell_48, s_X7_tell_49, s_X7_tell_52, s_X7_tell_55, s_X7_tell_56, s_X7_tell_59, s_X7_tell_62, s_X7_tell_63, s_X7_tell_66, s_X7_tell_67, s_X7_tell_70, s_X7_tell_73, s_X7_tell_74, s_X7_tell_77, s_X7_tell_78, s_X7_tell_81, s_X7_tell_83, s_X7_tell_84, s_X7_tell_85, s_X7_tell_88, s_X7_tell_91, s_X7_tell_92, zI_0, Bool.true_eq_false, Bool.false_eq_true, not_true_eq_false, not_false_eq_true, if_true, if_false, KV_ap, KU_ap, dropL_nil]
      rw [if_neg (by decide)]
      refine loop 151 1 h3 (0 + 1 + 1) [] (by omega) P3 (by omega) ?_
      rw [rdP, ← q00, if_pos e1, ← Q2, if_pos e2, ← Q3]
    · have := fail (Qn tx (0 + 1)) h2 (0 + 1) [] (.int 1) (by rw [rdP, ← q00, if_pos e1, ← Q2, if_neg e2]) P2 rfl
      simp only [KV_ap, s_X7_tell_0, s_X7_tell_1, s_X7_tell_4, s_X7_tell_7, s_X7_tell_8, s_X7_tell_11, s_X7_tell_12, s_X7_tell_13, s_X7_tell_16, s_X7_tell_17, s_X7_tell_19, s_X7_tell_22, s_X7_tell_25, s_X7_tell_26, s_X7_tell_29, s_X7_tell_32, s_X7_tell_33, s_X7_tell_36, s_X7_tell_37, s_X7_tell_38, s_X7_tell_39, s_X7_tell_41, s_X7_tell_44, s_X7_tell_45, s_X7_tell_48, s_X7_tell_49, s_X7_tell_52, s_X7_tell_55, s_X7_tell_56, s_X7_tell_59, s_X7_tell_62, s_X7_tell_63, s_X7_tell_66, s_X7_tell_67, s_X7_tell_70, s_X7_tell_73, s_X7_tell_74, s_X7_tell_77, s_X7_tell_78, s_X7_tell_83, s_X7_tell_84, s_X7_tell_85, s_X7_tell_88, s_X7_tell_91, s_X7_tell_92, zI_0, Bool.true_eq_false, Bool.false_eq_true, not_true_eq_false, not_false_eq_true, if_true, if_false, KV_ap, KU_ap, dropL_nil]
      rw [s_X7_tell_40]
      simp only [s_X7_tell_0, s_X7_tell_1, s_X7_tell_4, s_X7_tell_7, s_X7_tell_8, s_X7_tell_11, s_X7_tell_12, s_X7_tell_13, s_X7_tell_16, s_X7_tell_17, s_X7_tell_19, s_X7_tell_22, s_X7_tell_25, s_X7_tell_26, s_X7_tell_29, s_X7_tell_32, s_X7_tell_33, s_X7_tell_36, s_X7_tell_37, s_X7_tell_38, s_X7_tell_39, s_X7_tell_41, s_X7_tell_44, s_X7_tell_45, s_X7_tell_48, s_X7_tell_49, s_X7_tell_52, s_X7_tell_55, s_X7_tell_56, s_X7_tell_59, s_X7_tell_62, s_X7_tell_63, s_X7_tell_66, s_X7_tell_67, s_X7_tell_70, s_X7_tell_73, s_X7_tell_74, s_X7_tell_77, s_X7_tell_78, s_X7_tell_83, s_X7_tell_84, s_X7_tell_85, s_X7_tell_88, s_X7_tell_91, s_X7_tell_92, zI_0, Bool.true_eq_false, Bool.false_eq_true, not_true_eq_false, not_false_eq_true, if_true, if_false, KV_ap, KU_ap, dropL_nil]
      exact this
  · have := fail (Qn tx 0) _ 0 [] (.int 1) (by rw [rdP, ← q00, if_neg (by rw [e1]; decide)]) P1 rfl
    simp only [KV_ap, s_X7_tell_0, s_X7_tell_1, s_X7_tell_4, s_X7_tell_7, s_X7_tell_8, s_X7_tell_11, s_X7_tell_12, s_X7_tell_13, s_X7_tell_16, s_X7_tell_17, s_X7_tell_19, s_X7_tell_22, s_X7_tell_25, s_X7_tell_26, s_X7_tell_29, s_X7_tell_32, s_X7_tell_33, s_X7_tell_36, s_X7_tell_37, s_X7_tell_38, s_X7_tell_39, s_X7_tell_41, s_X7_tell_44, s_X7_tell_45, s_X7_tell_48, s_X7_tell_49, s_X7_tell_52, s_X7_tell_55, s_X7_tell_56, s_X7_tell_59, s_X7_tell_62, s_X7_tell_63, s_X7_tell_66, s_X7_tell_67, s_X7_tell_70, s_X7_tell_73, s_X7_tell_74, s_X7_tell_77, s_X7_tell_78, s_X7_tell_83, s_X7_tell_84, s_X7_tell_85, s_X7_tell_88, s_X7_tell_91, s_X7_tell_92, zI_0, Bool.true_eq_false, Bool.false_eq_true, not_true_eq_false, not_false_eq_true, if_true, if_false, KV_ap, KU_ap, dropL_nil]
    rw [s_X7_tell_40]
    simp only [s_X7_tell_0, s_X7_tell_1, s_X7_tell_4, s_X7_tell_7, s_X7_tell_8, s_X7_tell_11, s_X7_tell_12, s_X7_tell_13, s_X7_tell_16, s_X7_tell_17, s_X7_tell_19, s_X7_tell_22, s_X7_tell_25, s_X7_tell_26, s_X7_tell_29, s_X7_tell_32, s_X7_tell_33, s_X7_tell_36, s_X7_tell_37, s_X7_tell_38, s_X7_tell_39, s_X7_tell_41, s_X7_tell_44, s_X7_tell_45, s_X7_tell_48, s_X7_tell_49, s_X7_tell_52, s_X7_tell_55, s_X7_tell_56, s_X7_tell_59, s_X7_tell_62, s_X7_tell_63, s_X7_tell_66, s_X7_tell_67, s_X7_tell_70, s_X7_tell_73, s_X7_tell_74, s_X7_tell_77, s_X7_tell_78, s_X7_tell_83, s_X7_tell_84, s_X7_tell_85, s_X7_tell_88, s_X7_tell_91, s_X7_tell_92, zI_0, Bool.true_eq_false, Bool.false_eq_true, not_true_eq_false, not_false_eq_true, if_true, if_false, KV_ap, KU_ap, dropL_nil]
    exact this
end R5

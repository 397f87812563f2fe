/-! The model's reading: a suck, an item -/
section R10
variable {g : GL} {h0 h : HP} {Φ : Value → HP → Prop} {M : Nat} {tx : List Nat} {p : Nat} {D : List St}
theorem p_readsSuck (Q : mQ h0 h M tx p D) (kk0 : ∀ f h' D', suP tx (sk tx p) D.length = .inl f → mQ h0 h' M tx f D' → Φ (.int 0) h') (kk1 : ∀ r h' p', suP tx (sk tx p) D.length = .inr r → mQ h0 h' M tx p' (wdL D r.1.1 r.1.2) → sk tx p' = r.2 → Φ (.int 1) h') : J g k_X9_readsSuck 0 [.ref M, m_D] [] [] h Φ := by
  have m4' : ∀ x : Nat, (4 : Int32) * nI x = nI (4 * x) := fun x => i_mul 4 x
  have i3 : ∀ x : Nat, nI x + (3 : Int32) = nI (x + 3) := fun x => i_add x 3
  have ib : ∀ x, x < 24 → m_inb (nI x) 24 = true := fun x hx => by rw [inb_nI (by omega)]; simpa using hx
  have f15 : ∀ h', mT h' M tx → hF h' M 15 = .ref (M + 11) := fun h' m => m.1.2.2.2.2.2.2.2.2.2.2.2.1
  have hD6 := Q.2.2.2.2.2.2.2.2.1
  simp only [s_X9_readsSuck_0, s_X9_readsSuck_1, s_X9_readsSuck_2, s_X9_readsSuck_3, s_X9_readsSuck_6, s_X9_readsSuck_7, s_X9_readsSuck_8, s_X9_readsSuck_11, s_X9_readsSuck_14, s_X9_readsSuck_15, s_X9_readsSuck_16, s_X9_readsSuck_17, s_X9_readsSuck_18, s_X9_readsSuck_21, s_X9_readsSuck_22, s_X9_readsSuck_23, s_X9_readsSuck_24, s_X9_readsSuck_25, s_X9_readsSuck_26, s_X9_readsSuck_27, s_X9_readsSuck_29, s_X9_readsSuck_32, s_X9_readsSuck_35, s_X9_readsSuck_36, s_X9_readsSuck_37, s_X9_readsSuck_38, s_X9_readsSuck_41, s_X9_readsSuck_42, s_X9_readsSuck_44, s_X9_readsSuck_45, s_X9_readsSuck_48, s_X9_readsSuck_49, s_X9_readsSuck_50, s_X9_readsSuck_51, s_X9_readsSuck_54, s_X9_readsSuck_55, s_X9_readsSuck_58, s_X9_readsSuck_59, s_X9_readsSuck_60, s_X9_readsSuck_63, zI_0, Bool.true_eq_false, Bool.false_eq_true, not_true_eq_false, not_false_eq_true, if_true, if_false, KV_ap, KU_ap, dropL_nil, Q.1.1.1, Q.2.2.2.2.2.2.1]
  refine p_number Q 0 D.length 0 _ rfl rfl (by decide) (by omega) (fun e1 h1 Q1 v1 _ => ?_) (fun e1 h1 Q1 _ => ?_)
  · have b1 := nOk_b e1
    have n1 : sk tx (sk tx p + tl tx (sk tx p)) = nx tx (sk tx p) := rfl
    generalize hq : sk tx p = q at *
    simp only [KV_ap, s_X9_readsSuck_0, s_X9_readsSuck_1, s_X9_readsSuck_2, s_X9_readsSuck_3, s_X9_readsSuck_6, s_X9_readsSuck_7, s_X9_readsSuck_8, s_X9_readsSuck_11, s_X9_readsSuck_14, s_X9_readsSuck_15, s_X9_readsSuck_16, s_X9_readsSuck_17, s_X9_readsSuck_18, s_X9_readsSuck_21, s_X9_readsSuck_22, s_X9_readsSuck_23, s_X9_readsSuck_24, s_X9_readsSuck_25, s_X9_readsSuck_26, s_X9_readsSuck_27, s_X9_readsSuck_29, s_X9_readsSuck_32, s_X9_readsSuck_35, s_X9_readsSuck_36, s_X9_readsSuck_37, s_X9_readsSuck_38, s_X9_readsSuck_41, s_X9_readsSuck_42, s_X9_readsSuck_44, s_X9_readsSuck_45, s_X9_readsSuck_48, s_X9_readsSuck_49, s_X9_readsSuck_50, s_X9_readsSuck_51, s_X9_readsSuck_54, s_X9_readsSuck_55, s_X9_readsSuck_58, s_X9_readsSuck_59, s_X9_readsSuck_60, s_X9_readsSuck_63, zI_0, Bool.true_eq_false, Bool.false_eq_true, not_true_eq_false, not_false_eq_true, if_true, if_false, KV_ap, KU_ap, dropL_nil, Q1.1.1.1, v1, m4', i3]
    rw [if_pos (by decide)]
    refine p_number Q1 1 10 1 9 rfl (by decide) (by decide) (by decide) (fun e2 h2 Q2 v2 _ => ?_) (fun e2 h2 Q2 _ => ?_)
    · rw [n1] at e2 Q2 v2
      have b2 := nOk_b e2
      have n2 : sk tx (nx tx q + tl tx (nx tx q)) = nx tx (nx tx q) := rfl
      obtain ⟨d0, d1, d2, d3⟩ := Q2.2.2.2.2.2.2.2.1 (nvN tx q) b1.2
      obtain ⟨w1, w2, w3, w4⟩ := Q2.2.2.2.2.2.2.2.2.2.1 (nvN tx q) b1.2
      have w4' : (gS D (nvN tx q)).2.2.2 ≤ 9 := w4
      simp only [KV_ap, s_X9_readsSuck_0, s_X9_readsSuck_1, s_X9_readsSuck_2, s_X9_readsSuck_3, s_X9_readsSuck_6, s_X9_readsSuck_7, s_X9_readsSuck_8, s_X9_readsSuck_11, s_X9_readsSuck_14, s_X9_readsSuck_15, s_X9_readsSuck_16, s_X9_readsSuck_17, s_X9_readsSuck_18, s_X9_readsSuck_21, s_X9_readsSuck_22, s_X9_readsSuck_23, s_X9_readsSuck_24, s_X9_readsSuck_25, s_X9_readsSuck_26, s_X9_readsSuck_27, s_X9_readsSuck_29, s_X9_readsSuck_32, s_X9_readsSuck_35, s_X9_readsSuck_36, s_X9_readsSuck_37, s_X9_readsSuck_38, s_X9_readsSuck_41, s_X9_readsSuck_42, s_X9_readsSuck_44, s_X9_readsSuck_45, s_X9_readsSuck_48, s_X9_readsSuck_49, s_X9_readsSuck_50, s_X9_readsSuck_51, s_X9_readsSuck_54, s_X9_readsSuck_55, s_X9_readsSuck_58, s_X9_readsSuck_59, s_X9_readsSuck_60, s_X9_readsSuck_63, zI_0, Bool.true_eq_false, Bool.false_eq_true, not_true_eq_false, not_false_eq_true, if_true, if_false, KV_ap, KU_ap, dropL_nil, Q2.1.1.1, f15 h2 Q2.1, v2, Q2.1.2.2.1, ib (4 * nvN tx q + 3) (by omega), cl_nI (show 4 * nvN tx q + 3 < 2147483648 by omega), d3, i_add, p_lesser, min9 (show (gS D (nvN tx q)).2.2.2 + nvN tx (nx tx q) < 2147483648 by omega), hS_pI]
      rw [if_pos (by decide)]
      have Q3 : mQ h0 (pI h2 (M + 11) (upd (hI h2 (M + 11)) (4 * nvN tx q + 3) (nI (min 9 ((gS D (nvN tx q)).2.2.2 + nvN tx (nx tx q)))))) M tx (nx tx q + tl tx (nx tx q)) (wdL D (nvN tx q) (nvN tx (nx tx q))) := by
        obtain ⟨a, b, c, d, e, f, g1, g2, g3, g4, g5⟩ := Q2
        have lw : (wdL D (nvN tx q) (nvN tx (nx tx q))).length = D.length := List.length_set
        refine ⟨mT_pI a, b, c, fun x hx => by rw [hI_pI, if_neg (by omega)]; exact d x hx, e, f, by rw [lw]; exact g1, ?_, by rw [lw]; exact g3, vL_set b1.2 g4 ⟨w1, w2, w3, Nat.min_le_left _ _⟩, frm_pI (by omega) (by omega) g5⟩
        intro j hj
        rw [lw] at hj
        have gj := g2 j hj
        rw [wdL, gS_set D _ j _ b1.2, hI_pIs]
        unfold upd
        by_cases ej : j = nvN tx q
        · subst ej
          rw [if_pos rfl, if_neg (by omega), if_neg (by omega), if_neg (by omega), if_pos rfl]
          exact ⟨gj.1, gj.2.1, gj.2.2.1, rfl⟩
        · rw [if_neg ej, if_neg (by omega), if_neg (by omega), if_neg (by omega), if_neg (by omega)]
          exact gj
      refine p_ends Q3 (fun e3 h3 Q4 _ _ => ?_) (fun e3 h3 Q4 _ => ?_)
      · rw [n2] at e3 Q4
        rw [KV_ap, s_X9_readsSuck_63 (Or.inr rfl)]
        exact kk1 ((nvN tx q, nvN tx (nx tx q)), nx tx (nx tx (nx tx q))) h3 _ (by rw [suP, if_pos e1, if_pos e2, if_pos e3]) Q4 rfl
      · rw [n2] at e3 Q4
        rw [KV_ap, s_X9_readsSuck_63 (Or.inl rfl)]
        exact kk0 _ h3 _ (by rw [suP, if_pos e1, if_pos e2, if_neg e3]) Q4
    · rw [n1] at e2 Q2
      simp only [KV_ap, s_X9_readsSuck_0, s_X9_readsSuck_1, s_X9_readsSuck_2, s_X9_readsSuck_3, s_X9_readsSuck_6, s_X9_readsSuck_7, s_X9_readsSuck_8, s_X9_readsSuck_11, s_X9_readsSuck_14, s_X9_readsSuck_15, s_X9_readsSuck_16, s_X9_readsSuck_17, s_X9_readsSuck_18, s_X9_readsSuck_21, s_X9_readsSuck_22, s_X9_readsSuck_23, s_X9_readsSuck_24, s_X9_readsSuck_25, s_X9_readsSuck_26, s_X9_readsSuck_27, s_X9_readsSuck_29, s_X9_readsSuck_32, s_X9_readsSuck_35, s_X9_readsSuck_36, s_X9_readsSuck_37, s_X9_readsSuck_38, s_X9_readsSuck_41, s_X9_readsSuck_42, s_X9_readsSuck_44, s_X9_readsSuck_45, s_X9_readsSuck_48, s_X9_readsSuck_49, s_X9_readsSuck_50, s_X9_readsSuck_51, s_X9_readsSuck_54, s_X9_readsSuck_55, s_X9_readsSuck_58, s_X9_readsSuck_59, s_X9_readsSuck_60, s_X9_readsSuck_63, zI_0, Bool.true_eq_false, Bool.false_eq_true, not_true_eq_false, not_false_eq_true, if_true, if_false, KV_ap, KU_ap, dropL_nil, true_or, or_true]
      exact kk0 _ h2 D (by rw [suP, if_pos e1, if_neg (by rw [e2]; decide)]) Q2
  · simp only [KV_ap, s_X9_readsSuck_0, s_X9_readsSuck_1, s_X9_readsSuck_2, s_X9_readsSuck_3, s_X9_readsSuck_6, s_X9_readsSuck_7, s_X9_readsSuck_8, s_X9_readsSuck_11, s_X9_readsSuck_14, s_X9_readsSuck_15, s_X9_readsSuck_16, s_X9_readsSuck_17, s_X9_readsSuck_18, s_X9_readsSuck_21, s_X9_readsSuck_22, s_X9_readsSuck_23, s_X9_readsSuck_24, s_X9_readsSuck_25, s_X9_readsSuck_26, s_X9_readsSuck_27, s_X9_readsSuck_29, s_X9_readsSuck_32, s_X9_readsSuck_35, s_X9_readsSuck_36, s_X9_readsSuck_37, s_X9_readsSuck_38, s_X9_readsSuck_41, s_X9_readsSuck_42, s_X9_readsSuck_44, s_X9_readsSuck_45, s_X9_readsSuck_48, s_X9_readsSuck_49, s_X9_readsSuck_50, s_X9_readsSuck_51, s_X9_readsSuck_54, s_X9_readsSuck_55, s_X9_readsSuck_58, s_X9_readsSuck_59, s_X9_readsSuck_60, s_X9_readsSuck_63, zI_0, Bool.true_eq_false, Bool.false_eq_true, not_true_eq_false, not_false_eq_true, if_true, if_false, KV_ap, KU_ap, dropL_nil, true_or, or_true]
    exact kk0 _ h1 D (by rw [suP, if_neg (by rw [e1]; decide)]) Q1
theorem wd_ST {q : Nat} (h1 : wOk tx q wSt = true) : wOk tx q wSu = false ∧ wOk tx q wTo = false := by
  have a := of_decide_eq_true h1
  have l5 : tl tx q = 5 := a.2.1
  constructor
  · apply decide_eq_false; rintro ⟨_, y, _⟩
    have : tl tx q = 4 := y
    omega
  · apply decide_eq_false; rintro ⟨_, y, _⟩
    have : tl tx q = 4 := y
    omega
theorem wd_SU {q : Nat} (h1 : wOk tx q wSu = true) : wOk tx q wTo = false := by
  have a := (of_decide_eq_true h1).2.2 0 (by decide)
  apply decide_eq_false; rintro ⟨_, _, y⟩
  have b := y 0 (by decide)
  rw [a] at b
  exact absurd b (by decide)
theorem p_readsItem (Q : mQ h0 h M tx p D) (hs : sk tx p = p) (kk0 : ∀ f h' D', itP tx p D = .inl f → mQ h0 h' M tx f D' → Φ (.int 0) h') (kk1 : ∀ r h' p', itP tx p D = .inr r → mQ h0 h' M tx p' r.1 → sk tx p' = r.2 → Φ (.int 1) h') : J g k_X9_readsItem 0 [.ref M, m_D] [] [] h Φ := by
  have hD6 := Q.2.2.2.2.2.2.2.2.1
  have hle := Q.2.2.2.2.2.1
  have q6 : (nI D.length = (6 : Int32)) = (D.length = 6) := eq_nI (show D.length < 2147483648 by omega) (show 6 < 2147483648 by decide)
  have i5 : ∀ x : Nat, nI x + (5 : Int32) = nI (x + 5) := fun x => i_add x 5
  have i4 : ∀ x : Nat, nI x + (4 : Int32) = nI (x + 4) := fun x => i_add x 4
  have c21 : ((2 : Int32) < 1) = False := by decide
  have c11 : ((1 : Int32) < 1) = False := by decide
  have e21 : ((2 : Int32) = 1) = False := by decide
  simp only [s_X9_readsItem_0, s_X9_readsItem_1, s_X9_readsItem_4, s_X9_readsItem_6, s_X9_readsItem_7, s_X9_readsItem_10, s_X9_readsItem_11, s_X9_readsItem_12, s_X9_readsItem_15, s_X9_readsItem_16, s_X9_readsItem_19, s_X9_readsItem_21, s_X9_readsItem_24, s_X9_readsItem_25, s_X9_readsItem_26, s_X9_readsItem_27, s_X9_readsItem_28, s_X9_readsItem_31, s_X9_readsItem_32, s_X9_readsItem_33, s_X9_readsItem_36, s_X9_readsItem_37, s_X9_readsItem_40, s_X9_readsItem_41, s_X9_readsItem_42, s_X9_readsItem_45, s_X9_readsItem_46, s_X9_readsItem_47, s_X9_readsItem_50, s_X9_readsItem_51, s_X9_readsItem_54, s_X9_readsItem_57, s_X9_readsItem_58, s_X9_readsItem_61, zI_0, Bool.true_eq_false, Bool.false_eq_true, not_true_eq_false, not_false_eq_true, if_true, if_false, KV_ap, KU_ap, dropL_nil, Q.1.1.1, p_wordHere Q.1 Q.2.2.2.2.1 hle]
  unfold wdI
  rw [s_X9_readsItem_5]
  cases eS : wOk tx p wSt
  · cases eU : wOk tx p wSu
    · have ei : itP tx p D = .inl p := by rw [itP, if_neg (by intro y; rw [eS] at y; exact absurd y.2 (by decide)), if_neg (by rw [eU]; decide)]
      cases eT : wOk tx p wTo
      · simp only [Bool.false_eq_true, if_false, s_X9_readsItem_0, s_X9_readsItem_1, s_X9_readsItem_4, s_X9_readsItem_6, s_X9_readsItem_7, s_X9_readsItem_10, s_X9_readsItem_11, s_X9_readsItem_12, s_X9_readsItem_15, s_X9_readsItem_16, s_X9_readsItem_19, s_X9_readsItem_21, s_X9_readsItem_24, s_X9_readsItem_25, s_X9_readsItem_26, s_X9_readsItem_27, s_X9_readsItem_28, s_X9_readsItem_31, s_X9_readsItem_32, s_X9_readsItem_33, s_X9_readsItem_36, s_X9_readsItem_37, s_X9_readsItem_40, s_X9_readsItem_41, s_X9_readsItem_42, s_X9_readsItem_45, s_X9_readsItem_46, s_X9_readsItem_47, s_X9_readsItem_50, s_X9_readsItem_51, s_X9_readsItem_54, s_X9_readsItem_57, s_X9_readsItem_58, s_X9_readsItem_61, zI_0, Bool.true_eq_false, Bool.false_eq_true, not_true_eq_false, not_false_eq_true, if_true, if_false, KV_ap, KU_ap, dropL_nil, true_or, or_true]
        rw [if_pos (by decide)]
        exact kk0 p h D ei Q
      · simp only [if_true, s_X9_readsItem_0, s_X9_readsItem_1, s_X9_readsItem_4, s_X9_readsItem_6, s_X9_readsItem_7, s_X9_readsItem_10, s_X9_readsItem_11, s_X9_readsItem_12, s_X9_readsItem_15, s_X9_readsItem_16, s_X9_readsItem_19, s_X9_readsItem_21, s_X9_readsItem_24, s_X9_readsItem_25, s_X9_readsItem_26, s_X9_readsItem_27, s_X9_readsItem_28, s_X9_readsItem_31, s_X9_readsItem_32, s_X9_readsItem_33, s_X9_readsItem_36, s_X9_readsItem_37, s_X9_readsItem_40, s_X9_readsItem_41, s_X9_readsItem_42, s_X9_readsItem_45, s_X9_readsItem_46, s_X9_readsItem_47, s_X9_readsItem_50, s_X9_readsItem_51, s_X9_readsItem_54, s_X9_readsItem_57, s_X9_readsItem_58, s_X9_readsItem_61, zI_0, Bool.true_eq_false, Bool.false_eq_true, not_true_eq_false, not_false_eq_true, if_true, if_false, KV_ap, KU_ap, dropL_nil, true_or, or_true]
        rw [if_pos (by decide)]
        exact kk0 p h D ei Q
    · have eT := wd_SU eU
      have htl : tl tx p = 4 := (of_decide_eq_true eU).2.1
      have hl := tl_le tx (wq eU)
      have nn : sk tx (p + 4) = nx tx p := by rw [nx, htl]
      simp only [eT, Bool.false_eq_true, if_false, if_true, s_X9_readsItem_0, s_X9_readsItem_1, s_X9_readsItem_4, s_X9_readsItem_6, s_X9_readsItem_7, s_X9_readsItem_10, s_X9_readsItem_11, s_X9_readsItem_12, s_X9_readsItem_15, s_X9_readsItem_16, s_X9_readsItem_19, s_X9_readsItem_21, s_X9_readsItem_24, s_X9_readsItem_25, s_X9_readsItem_26, s_X9_readsItem_27, s_X9_readsItem_28, s_X9_readsItem_31, s_X9_readsItem_32, s_X9_readsItem_33, s_X9_readsItem_36, s_X9_readsItem_37, s_X9_readsItem_40, s_X9_readsItem_41, s_X9_readsItem_42, s_X9_readsItem_45, s_X9_readsItem_46, s_X9_readsItem_47, s_X9_readsItem_50, s_X9_readsItem_51, s_X9_readsItem_54, s_X9_readsItem_57, s_X9_readsItem_58, s_X9_readsItem_61, zI_0, Bool.true_eq_false, Bool.false_eq_true, not_true_eq_false, not_false_eq_true, if_true, if_false, KV_ap, KU_ap, dropL_nil, c21, e21, hS_pF, Q.1.1.1, Q.2.2.2.2.1, i4]
      refine p_readsSuck (mQ_13 (p' := p + 4) Q (by omega)) (fun f h' D' ef Q' => ?_) (fun r h' p' er Q' hp' => ?_)
      · rw [nn] at ef
        simp only [KV_ap, s_X9_readsItem_0, s_X9_readsItem_1, s_X9_readsItem_4, s_X9_readsItem_6, s_X9_readsItem_7, s_X9_readsItem_10, s_X9_readsItem_11, s_X9_readsItem_12, s_X9_readsItem_15, s_X9_readsItem_16, s_X9_readsItem_19, s_X9_readsItem_21, s_X9_readsItem_24, s_X9_readsItem_25, s_X9_readsItem_26, s_X9_readsItem_27, s_X9_readsItem_28, s_X9_readsItem_31, s_X9_readsItem_32, s_X9_readsItem_33, s_X9_readsItem_36, s_X9_readsItem_37, s_X9_readsItem_40, s_X9_readsItem_41, s_X9_readsItem_42, s_X9_readsItem_45, s_X9_readsItem_46, s_X9_readsItem_47, s_X9_readsItem_50, s_X9_readsItem_51, s_X9_readsItem_54, s_X9_readsItem_57, s_X9_readsItem_58, s_X9_readsItem_61, zI_0, Bool.true_eq_false, Bool.false_eq_true, not_true_eq_false, not_false_eq_true, if_true, if_false, KV_ap, KU_ap, dropL_nil, true_or, or_true]
        exact kk0 f h' D' (by rw [itP, if_neg (by intro y; rw [eS] at y; exact absurd y.2 (by decide)), if_pos eU, ef]) Q'
      · rw [nn] at er
        simp only [KV_ap, s_X9_readsItem_0, s_X9_readsItem_1, s_X9_readsItem_4, s_X9_readsItem_6, s_X9_readsItem_7, s_X9_readsItem_10, s_X9_readsItem_11, s_X9_readsItem_12, s_X9_readsItem_15, s_X9_readsItem_16, s_X9_readsItem_19, s_X9_readsItem_21, s_X9_readsItem_24, s_X9_readsItem_25, s_X9_readsItem_26, s_X9_readsItem_27, s_X9_readsItem_28, s_X9_readsItem_31, s_X9_readsItem_32, s_X9_readsItem_33, s_X9_readsItem_36, s_X9_readsItem_37, s_X9_readsItem_40, s_X9_readsItem_41, s_X9_readsItem_42, s_X9_readsItem_45, s_X9_readsItem_46, s_X9_readsItem_47, s_X9_readsItem_50, s_X9_readsItem_51, s_X9_readsItem_54, s_X9_readsItem_57, s_X9_readsItem_58, s_X9_readsItem_61, zI_0, Bool.true_eq_false, Bool.false_eq_true, not_true_eq_false, not_false_eq_true, if_true, if_false, KV_ap, KU_ap, dropL_nil, true_or, or_true]
        exact kk1 (wdL D r.1.1 r.1.2, r.2) h' p' (by rw [itP, if_neg (by intro y; rw [eS] at y; exact absurd y.2 (by decide)), if_pos eU, er]) Q' hp'
  · obtain ⟨eU, eT⟩ := wd_ST eS
    have htl : tl tx p = 5 := (of_decide_eq_true eS).2.1
    have hl := tl_le tx (wq eS)
    have nn : sk tx (p + 5) = nx tx p := by rw [nx, htl]
    simp only [eT, eU, Bool.false_eq_true, if_false, if_true, s_X9_readsItem_0, s_X9_readsItem_1, s_X9_readsItem_4, s_X9_readsItem_6, s_X9_readsItem_7, s_X9_readsItem_10, s_X9_readsItem_11, s_X9_readsItem_12, s_X9_readsItem_15, s_X9_readsItem_16, s_X9_readsItem_19, s_X9_readsItem_21, s_X9_readsItem_25, s_X9_readsItem_27, s_X9_readsItem_28, s_X9_readsItem_31, s_X9_readsItem_32, s_X9_readsItem_33, s_X9_readsItem_36, s_X9_readsItem_37, s_X9_readsItem_40, s_X9_readsItem_41, s_X9_readsItem_42, s_X9_readsItem_45, s_X9_readsItem_46, s_X9_readsItem_47, s_X9_readsItem_50, s_X9_readsItem_51, s_X9_readsItem_54, s_X9_readsItem_57, s_X9_readsItem_58, s_X9_readsItem_61, zI_0, Bool.true_eq_false, Bool.false_eq_true, not_true_eq_false, not_false_eq_true, if_true, if_false, KV_ap, KU_ap, dropL_nil, c11, Q.1.1.1, Q.2.2.2.2.2.2.1, q6]
    by_cases z : D.length = 6
    · rw [if_neg (not_not_intro z)]
      simp only [s_X9_readsItem_0, s_X9_readsItem_1, s_X9_readsItem_4, s_X9_readsItem_6, s_X9_readsItem_7, s_X9_readsItem_10, s_X9_readsItem_11, s_X9_readsItem_12, s_X9_readsItem_15, s_X9_readsItem_16, s_X9_readsItem_19, s_X9_readsItem_21, s_X9_readsItem_24, s_X9_readsItem_25, s_X9_readsItem_26, s_X9_readsItem_27, s_X9_readsItem_28, s_X9_readsItem_31, s_X9_readsItem_32, s_X9_readsItem_33, s_X9_readsItem_36, s_X9_readsItem_37, s_X9_readsItem_40, s_X9_readsItem_41, s_X9_readsItem_42, s_X9_readsItem_45, s_X9_readsItem_46, s_X9_readsItem_47, s_X9_readsItem_50, s_X9_readsItem_51, s_X9_readsItem_54, s_X9_readsItem_57, s_X9_readsItem_58, s_X9_readsItem_61, zI_0, Bool.true_eq_false, Bool.false_eq_true, not_true_eq_false, not_false_eq_true, if_true, if_false, KV_ap, KU_ap, dropL_nil, true_or, or_true]
      exact kk0 p h D (by rw [itP, if_neg (fun y => y.1 z), if_neg (by rw [eU]; decide)]) Q
    · rw [if_pos z]
      simp only [s_X9_readsItem_0, s_X9_readsItem_1, s_X9_readsItem_4, s_X9_readsItem_6, s_X9_readsItem_7, s_X9_readsItem_10, s_X9_readsItem_11, s_X9_readsItem_12, s_X9_readsItem_15, s_X9_readsItem_16, s_X9_readsItem_19, s_X9_readsItem_21, s_X9_readsItem_24, s_X9_readsItem_25, s_X9_readsItem_26, s_X9_readsItem_27, s_X9_readsItem_28, s_X9_readsItem_31, s_X9_readsItem_32, s_X9_readsItem_33, s_X9_readsItem_36, s_X9_readsItem_37, s_X9_readsItem_40, s_X9_readsItem_41, s_X9_readsItem_42, s_X9_readsItem_45, s_X9_readsItem_46, s_X9_readsItem_47, s_X9_readsItem_50, s_X9_readsItem_51, s_X9_readsItem_54, s_X9_readsItem_57, s_X9_readsItem_58, s_X9_readsItem_61, zI_0, Bool.true_eq_false, Bool.false_eq_true, not_true_eq_false, not_false_eq_true, if_true, if_false, KV_ap, KU_ap, dropL_nil, hS_pF, Q.1.1.1, Q.2.2.2.2.1, i5]
      refine p_readsStick (mQ_13 (p' := p + 5) Q (by omega)) (by omega) (fun f h' D' ef Q' => ?_) (fun r h' p' er Q' hp' => ?_)
      · rw [nn] at ef
        simp only [KV_ap, s_X9_readsItem_0, s_X9_readsItem_1, s_X9_readsItem_4, s_X9_readsItem_6, s_X9_readsItem_7, s_X9_readsItem_10, s_X9_readsItem_11, s_X9_readsItem_12, s_X9_readsItem_15, s_X9_readsItem_16, s_X9_readsItem_19, s_X9_readsItem_21, s_X9_readsItem_24, s_X9_readsItem_25, s_X9_readsItem_26, s_X9_readsItem_27, s_X9_readsItem_28, s_X9_readsItem_31, s_X9_readsItem_32, s_X9_readsItem_33, s_X9_readsItem_36, s_X9_readsItem_37, s_X9_readsItem_40, s_X9_readsItem_41, s_X9_readsItem_42, s_X9_readsItem_45, s_X9_readsItem_46, s_X9_readsItem_47, s_X9_readsItem_50, s_X9_readsItem_51, s_X9_readsItem_54, s_X9_readsItem_57, s_X9_readsItem_58, s_X9_readsItem_61, zI_0, Bool.true_eq_false, Bool.false_eq_true, not_true_eq_false, not_false_eq_true, if_true, if_false, KV_ap, KU_ap, dropL_nil, true_or, or_true]
        exact kk0 f h' D' (by rw [itP, if_pos ⟨z, eS⟩, ef]) Q'
      · rw [nn] at er
        simp only [KV_ap, s_X9_readsItem_0, s_X9_readsItem_1, s_X9_readsItem_4, s_X9_readsItem_6, s_X9_readsItem_7, s_X9_readsItem_10, s_X9_readsItem_11, s_X9_readsItem_12, s_X9_readsItem_15, s_X9_readsItem_16, s_X9_readsItem_19, s_X9_readsItem_21, s_X9_readsItem_24, s_X9_readsItem_25, s_X9_readsItem_26, s_X9_readsItem_27, s_X9_readsItem_28, s_X9_readsItem_31, s_X9_readsItem_32, s_X9_readsItem_33, s_X9_readsItem_36, s_X9_readsItem_37, s_X9_readsItem_40, s_X9_readsItem_41, s_X9_readsItem_42, s_X9_readsItem_45, s_X9_readsItem_46, s_X9_readsItem_47, s_X9_readsItem_50, s_X9_readsItem_51, s_X9_readsItem_54, s_X9_readsItem_57, s_X9_readsItem_58, s_X9_readsItem_61, zI_0, Bool.true_eq_false, Bool.false_eq_true, not_true_eq_false, not_false_eq_true, if_true, if_false, KV_ap, KU_ap, dropL_nil, true_or, or_true]
        exact kk1 (D ++ [r.1], r.2) h' p' (by rw [itP, if_pos ⟨z, eS⟩, er]) Q' hp'
end R10

/-! The model's calls: read -/
theorem nmP_ge (tx : List Nat) : ∀ F q n m, q ≤ (nmP tx F q n m).2.2 := by
  intro F
  induction F with
  | zero => intro q n m; exact Nat.le_refl _
  | succ F ih =>
    intro q n m
    rw [nmP]
    split
    · exact Nat.le_trans (Nat.le_of_lt (nx_gt tx q)) (ih _ _ _)
    · exact Nat.le_refl _
theorem stP_gt {tx : List Nat} {q : Nat} {r : St × Nat} (h : stP tx q = .inr r) : q < r.2 := by
  have g1 := nx_gt tx q
  have g2 := nx_gt tx (nx tx q)
  have g3 := nmP_ge tx 5 (nx tx (nx tx q)) 0 0
  have g4 := nx_gt tx (nmP tx 5 (nx tx (nx tx q)) 0 0).2.2
  unfold stP at h
  split at h
  · split at h
    · split at h
      · exact absurd h (by simp)
      · split at h
        · have := Sum.inr.inj h
          rw [← this]
          show q < nx tx (nmP tx 5 (nx tx (nx tx q)) 0 0).2.2
          omega
        · exact absurd h (by simp)
    · exact absurd h (by simp)
  · exact absurd h (by simp)
theorem suP_gt {tx : List Nat} {q n : Nat} {r : (Nat × Nat) × Nat} (h : suP tx q n = .inr r) : q < r.2 := by
  have g1 := nx_gt tx q
  have g2 := nx_gt tx (nx tx q)
  have g3 := nx_gt tx (nx tx (nx tx q))
  unfold suP at h
  split at h
  · split at h
    · split at h
      · have := Sum.inr.inj h
        rw [← this]
        show q < nx tx (nx tx (nx tx q))
        omega
      · exact absurd h (by simp)
    · exact absurd h (by simp)
  · exact absurd h (by simp)
theorem itP_gt {tx : List Nat} {q : Nat} {D : List St} {r : List St × Nat} (h : itP tx q D = .inr r) : q < r.2 := by
  have g1 := nx_gt tx q
  unfold itP at h
  split at h
  · cases e : stP tx (nx tx q) with
    | inl f => rw [e] at h; exact absurd h (by simp)
    | inr x =>
      rw [e] at h
      have := Sum.inr.inj h
      rw [← this]
      have := stP_gt e
      show q < x.2
      omega
  · split at h
    · cases e : suP tx (nx tx q) D.length with
      | inl f => rw [e] at h; exact absurd h (by simp)
      | inr x =>
        rw [e] at h
        have := Sum.inr.inj h
        rw [← this]
        have := suP_gt e
        show q < x.2
        omega
    · exact absurd h (by simp)
section R11
variable {g : GL} {h0 h : HP} {Φ : Value → HP → Prop} {M : Nat} {u : XS}
theorem mQ_isM {h' : HP} {p : Nat} {D : List St} (hM : isM h M u) (Q : mQ h h' M u.2.2.1 p D) : isM h' M u := by
  obtain ⟨s, sh, ⟨g1, g2, g12, g18, g22, g23⟩, v, c, d, pp, t, rr, i0, i1⟩ := hM
  obtain ⟨⟨s', _, _, f12', _, _⟩, eS, eF, eI, _⟩ := Q
  refine ⟨s', ?_, ⟨?_, ?_, f12', ?_, ?_, ?_⟩, v, ?_, ?_, ?_, ⟨t.1, ?_⟩, ?_, ?_, ?_⟩
  · unfold shM
    simp only [eS]
    exact sh
  · rw [eF 1 (by decide) (by decide) (by decide)]; exact g1
  · rw [eF 2 (by decide) (by decide) (by decide)]; exact g2
  · rw [eF 18 (by decide) (by decide) (by decide)]; exact g18
  · rw [eF 22 (by decide) (by decide) (by decide)]; exact g22
  · rw [eF 23 (by decide) (by decide) (by decide)]; exact g23
  · rw [eI 2 (by decide), eI 3 (by decide), eI 4 (by decide), eI 5 (by decide)]; exact c
  · rw [eI 6 (by decide), eI 7 (by decide), eI 8 (by decide), eI 9 (by decide)]; exact d
  · rw [eI 12 (by decide)]; exact pp
  · rw [eI 10 (by decide)]; exact t.2
  · rw [eI 1 (by decide)]; exact rr
  · rw [eI 18 (by decide)]; exact i0
  · rw [eI 18 (by decide), eI 17 (by decide)]; exact i1
theorem p_readsTown (hM : isM h M u) (kk0 : ∀ f h' D', rdP u.2.2.1 = .inl f → mQ h h' M u.2.2.1 f D' → Φ (.int (-1)) h') (kk1 : ∀ r h' p', rdP u.2.2.1 = .inr r → r.1 < 200 → mQ h h' M u.2.2.1 p' r.2 → Φ (.int (nI r.1)) h') : J g k_X9_readsTown 0 [.ref M, m_D] [] [] h Φ := by
  generalize htx : u.2.2.1 = tx at kk0 kk1
  have m0 : mT h M tx := ⟨hM.1, hM.2.1.2.2.1, hM.2.1.2.2.2.1, by rw [← htx]; exact hM.2.2.1.2.2.1, by rw [← htx]; exact hM.2.2.2.2.2.2.2.1.1, by rw [← htx]; exact hM.2.2.2.2.2.2.2.1.2⟩
  have Q0 : mQ h (pF (pF h M 13 (.int 0)) M 14 (.int 0)) M tx 0 [] := by
    refine ⟨mT_pF (by omega) (mT_pF (by omega) m0), fun _ => rfl, fun j h1 h2 h3 => by rw [hF_pF, if_neg (by omega), hF_pF, if_neg (by omega)], fun _ _ => rfl, ?_, Nat.zero_le _, ?_, fun j hj => absurd hj (Nat.not_lt_zero j), Nat.zero_le _, fun j hj => absurd hj (Nat.not_lt_zero j), frm_pF (by omega) (by omega) (frm_pF (by omega) (by omega) (frm_rfl h _ _))⟩
    · rw [hF_pF, if_neg (by omega), hF_pF, if_pos ⟨rfl, rfl⟩]; rfl
    · rw [hF_pF, if_pos ⟨rfl, rfl⟩]; rfl
  have i4 : ∀ x : Nat, nI x + (4 : Int32) = nI (x + 4) := fun x => i_add x 4
  have loop : ∀ F n q h' D', tx.length ≤ q + F → n + F = 152 → mQ h h' M tx q D' → sk tx q = q → tnP tx F q n D' = rdP tx → J g k_X9_readsTown 48 [.ref M, .int (nI n)] [] [] h' Φ := by
    intro F
    induction F with
    | zero =>
      intro n q h' D' hF hn Q' hs er
      have hl := Q'.1.2.2.2.2.1
      have hle := Q'.2.2.2.2.2.1
      rw [s_X9_readsTown_48]
      simp only [s_X9_readsTown_0, s_X9_readsTown_1, s_X9_readsTown_2, s_X9_readsTown_5, s_X9_readsTown_6, s_X9_readsTown_7, s_X9_readsTown_10, s_X9_readsTown_11, s_X9_readsTown_14, s_X9_readsTown_15, s_X9_readsTown_18, s_X9_readsTown_21, s_X9_readsTown_22, s_X9_readsTown_23, s_X9_readsTown_24, s_X9_readsTown_25, s_X9_readsTown_28, s_X9_readsTown_29, s_X9_readsTown_30, s_X9_readsTown_33, s_X9_readsTown_34, s_X9_readsTown_37, s_X9_readsTown_40, s_X9_readsTown_41, s_X9_readsTown_42, s_X9_readsTown_43, s_X9_readsTown_44, s_X9_readsTown_45, s_X9_readsTown_49, s_X9_readsTown_52, s_X9_readsTown_53, s_X9_readsTown_56, s_X9_readsTown_59, s_X9_readsTown_60, s_X9_readsTown_63, s_X9_readsTown_66, s_X9_readsTown_67, s_X9_readsTown_68, s_X9_readsTown_71, s_X9_readsTown_72, s_X9_readsTown_75, s_X9_readsTown_78, s_X9_readsTown_79, zI_0, Bool.true_eq_false, Bool.false_eq_true, not_true_eq_false, not_false_eq_true, if_true, if_false, KV_ap, KU_ap, dropL_nil, Q'.1.1.1, Q'.2.2.2.2.1, Q'.1.2.2.2.1, le_nI (show tx.length < 2147483648 by omega) (show q < 2147483648 by omega), show tx.length ≤ q by omega]
      rw [tnP] at er
      exact kk1 (n, D') h' q er.symm (by show n < 200; omega) Q'
    | succ F ih =>
      intro n q h' D' hF hn Q' hs er
      have hl := Q'.1.2.2.2.2.1
      have hle := Q'.2.2.2.2.2.1
      rw [s_X9_readsTown_48]
      by_cases z : q < tx.length
      · rw [tnP, if_pos z] at er
        simp only [s_X9_readsTown_0, s_X9_readsTown_1, s_X9_readsTown_2, s_X9_readsTown_5, s_X9_readsTown_6, s_X9_readsTown_7, s_X9_readsTown_10, s_X9_readsTown_11, s_X9_readsTown_14, s_X9_readsTown_15, s_X9_readsTown_18, s_X9_readsTown_21, s_X9_readsTown_22, s_X9_readsTown_23, s_X9_readsTown_24, s_X9_readsTown_25, s_X9_readsTown_28, s_X9_readsTown_29, s_X9_readsTown_30, s_X9_readsTown_33, s_X9_readsTown_34, s_X9_readsTown_37, s_X9_readsTown_40, s_X9_readsTown_41, s_X9_readsTown_42, s_X9_readsTown_43, s_X9_readsTown_44, s_X9_readsTown_45, s_X9_readsTown_49, s_X9_readsTown_52, s_X9_readsTown_53, s_X9_readsTown_56, s_X9_readsTown_59, s_X9_readsTown_60, s_X9_readsTown_63, s_X9_readsTown_66, s_X9_readsTown_67, s_X9_readsTown_68, s_X9_readsTown_71, s_X9_readsTown_72, s_X9_readsTown_75, s_X9_readsTown_78, s_X9_readsTown_79, zI_0, Bool.true_eq_false, Bool.false_eq_true, not_true_eq_false, not_false_eq_true, if_true, if_false, KV_ap, KU_ap, dropL_nil, Q'.1.1.1, Q'.2.2.2.2.1, Q'.1.2.2.2.1, le_nI (show tx.length < 2147483648 by omega) (show q < 2147483648 by omega), show ¬ tx.length ≤ q by omega]
        refine p_readsItem Q' hs (fun f h2 D2 ef Q2 => ?_) (fun r h2 p2 er2 Q2 hp2 => ?_)
        · rw [ef] at er
          simp only [KV_ap, s_X9_readsTown_0, s_X9_readsTown_1, s_X9_readsTown_2, s_X9_readsTown_5, s_X9_readsTown_6, s_X9_readsTown_7, s_X9_readsTown_10, s_X9_readsTown_11, s_X9_readsTown_14, s_X9_readsTown_15, s_X9_readsTown_18, s_X9_readsTown_21, s_X9_readsTown_22, s_X9_readsTown_23, s_X9_readsTown_24, s_X9_readsTown_25, s_X9_readsTown_28, s_X9_readsTown_29, s_X9_readsTown_30, s_X9_readsTown_33, s_X9_readsTown_34, s_X9_readsTown_37, s_X9_readsTown_40, s_X9_readsTown_41, s_X9_readsTown_42, s_X9_readsTown_43, s_X9_readsTown_44, s_X9_readsTown_45, s_X9_readsTown_49, s_X9_readsTown_52, s_X9_readsTown_53, s_X9_readsTown_56, s_X9_readsTown_59, s_X9_readsTown_60, s_X9_readsTown_63, s_X9_readsTown_66, s_X9_readsTown_67, s_X9_readsTown_68, s_X9_readsTown_71, s_X9_readsTown_72, s_X9_readsTown_75, s_X9_readsTown_78, s_X9_readsTown_79, zI_0, Bool.true_eq_false, Bool.false_eq_true, not_true_eq_false, not_false_eq_true, if_true, if_false, KV_ap, KU_ap, dropL_nil]
          exact kk0 f h2 D2 er.symm Q2
        · rw [er2] at er
          have hgt := itP_gt er2
          simp only [KV_ap, s_X9_readsTown_0, s_X9_readsTown_1, s_X9_readsTown_2, s_X9_readsTown_5, s_X9_readsTown_6, s_X9_readsTown_7, s_X9_readsTown_10, s_X9_readsTown_11, s_X9_readsTown_14, s_X9_readsTown_15, s_X9_readsTown_18, s_X9_readsTown_21, s_X9_readsTown_22, s_X9_readsTown_23, s_X9_readsTown_24, s_X9_readsTown_25, s_X9_readsTown_28, s_X9_readsTown_29, s_X9_readsTown_30, s_X9_readsTown_33, s_X9_readsTown_34, s_X9_readsTown_37, s_X9_readsTown_40, s_X9_readsTown_41, s_X9_readsTown_42, s_X9_readsTown_43, s_X9_readsTown_44, s_X9_readsTown_45, s_X9_readsTown_49, s_X9_readsTown_52, s_X9_readsTown_53, s_X9_readsTown_56, s_X9_readsTown_59, s_X9_readsTown_60, s_X9_readsTown_63, s_X9_readsTown_66, s_X9_readsTown_67, s_X9_readsTown_68, s_X9_readsTown_71, s_X9_readsTown_72, s_X9_readsTown_75, s_X9_readsTown_78, s_X9_readsTown_79, zI_0, Bool.true_eq_false, Bool.false_eq_true, not_true_eq_false, not_false_eq_true, if_true, if_false, KV_ap, KU_ap, dropL_nil, a1, Q2.1.1.1]
          rw [if_pos (by decide)]
          refine p_skip Q2 (fun h3 Q3 _ _ => ?_)
          rw [KU_ap, s_X9_readsTown_75]
          rw [hp2] at Q3
          exact ih (n + 1) r.2 h3 r.1 (by omega) (by omega) Q3 (by rw [← hp2]; exact sk_sk tx p2) er
      · rw [tnP, if_neg z] at er
        simp only [s_X9_readsTown_0, s_X9_readsTown_1, s_X9_readsTown_2, s_X9_readsTown_5, s_X9_readsTown_6, s_X9_readsTown_7, s_X9_readsTown_10, s_X9_readsTown_11, s_X9_readsTown_14, s_X9_readsTown_15, s_X9_readsTown_18, s_X9_readsTown_21, s_X9_readsTown_22, s_X9_readsTown_23, s_X9_readsTown_24, s_X9_readsTown_25, s_X9_readsTown_28, s_X9_readsTown_29, s_X9_readsTown_30, s_X9_readsTown_33, s_X9_readsTown_34, s_X9_readsTown_37, s_X9_readsTown_40, s_X9_readsTown_41, s_X9_readsTown_42, s_X9_readsTown_43, s_X9_readsTown_44, s_X9_readsTown_45, s_X9_readsTown_49, s_X9_readsTown_52, s_X9_readsTown_53, s_X9_readsTown_56, s_X9_readsTown_59, s_X9_readsTown_60, s_X9_readsTown_63, s_X9_readsTown_66, s_X9_readsTown_67, s_X9_readsTown_68, s_X9_readsTown_71, s_X9_readsTown_72, s_X9_readsTown_75, s_X9_readsTown_78, s_X9_readsTown_79, zI_0, Bool.true_eq_false, Bool.false_eq_true, not_true_eq_false, not_false_eq_true, if_true, if_false, KV_ap, KU_ap, dropL_nil, Q'.1.1.1, Q'.2.2.2.2.1, Q'.1.2.2.2.1, le_nI (show tx.length < 2147483648 by omega) (show q < 2147483648 by omega), show tx.length ≤ q by omega]
        exact kk1 (n, D') h' q er.symm (by show n < 200; omega) Q'
  simp only [s_X9_readsTown_0, s_X9_readsTown_1, s_X9_readsTown_2, s_X9_readsTown_5, s_X9_readsTown_6, s_X9_readsTown_7, s_X9_readsTown_10, s_X9_readsTown_11, s_X9_readsTown_14, s_X9_readsTown_15, s_X9_readsTown_18, s_X9_readsTown_21, s_X9_readsTown_22, s_X9_readsTown_23, s_X9_readsTown_24, s_X9_readsTown_25, s_X9_readsTown_28, s_X9_readsTown_29, s_X9_readsTown_30, s_X9_readsTown_33, s_X9_readsTown_34, s_X9_readsTown_37, s_X9_readsTown_40, s_X9_readsTown_41, s_X9_readsTown_42, s_X9_readsTown_43, s_X9_readsTown_44, s_X9_readsTown_45, s_X9_readsTown_49, s_X9_readsTown_52, s_X9_readsTown_53, s_X9_readsTown_56, s_X9_readsTown_59, s_X9_readsTown_60, s_X9_readsTown_63, s_X9_readsTown_66, s_X9_readsTown_67, s_X9_readsTown_68, s_X9_readsTown_71, s_X9_readsTown_72, s_X9_readsTown_75, s_X9_readsTown_78, s_X9_readsTown_79, zI_0, Bool.true_eq_false, Bool.false_eq_true, not_true_eq_false, not_false_eq_true, if_true, if_false, KV_ap, KU_ap, dropL_nil, hS_pF, hM.1.1]
  refine p_skip Q0 (fun h1 Q1 _ _ => ?_)
  simp only [KU_ap, s_X9_readsTown_0, s_X9_readsTown_1, s_X9_readsTown_2, s_X9_readsTown_5, s_X9_readsTown_6, s_X9_readsTown_7, s_X9_readsTown_10, s_X9_readsTown_11, s_X9_readsTown_14, s_X9_readsTown_15, s_X9_readsTown_18, s_X9_readsTown_21, s_X9_readsTown_22, s_X9_readsTown_23, s_X9_readsTown_24, s_X9_readsTown_25, s_X9_readsTown_28, s_X9_readsTown_29, s_X9_readsTown_30, s_X9_readsTown_33, s_X9_readsTown_34, s_X9_readsTown_37, s_X9_readsTown_40, s_X9_readsTown_41, s_X9_readsTown_42, s_X9_readsTown_43, s_X9_readsTown_44, s_X9_readsTown_45, s_X9_readsTown_49, s_X9_readsTown_52, s_X9_readsTown_53, s_X9_readsTown_56, s_X9_readsTown_59, s_X9_readsTown_60, s_X9_readsTown_63, s_X9_readsTown_66, s_X9_readsTown_67, s_X9_readsTown_68, s_X9_readsTown_71, s_X9_readsTown_72, s_X9_readsTown_75, s_X9_readsTown_78, s_X9_readsTown_79, zI_0, Bool.true_eq_false, Bool.false_eq_true, not_true_eq_false, not_false_eq_true, if_true, if_false, KV_ap, KU_ap, dropL_nil, Q1.1.1.1, p_wordHere Q1.1 Q1.2.2.2.2.1 Q1.2.2.2.2.2.1]
  cases eT : wOk tx (sk tx 0) wTo
  · have en : ¬ wdI tx (sk tx 0) = 0 := by
      unfold wdI
      rw [if_neg (by rw [eT]; decide)]
      split
      · decide
      · split <;> decide
    rw [if_neg en]
    exact kk0 (sk tx 0) h1 [] (by rw [rdP, if_neg (by rw [eT]; decide)]) Q1
  · have ez : wdI tx (sk tx 0) = 0 := by rw [wdI, if_pos eT]
    have htl : tl tx (sk tx 0) = 4 := (of_decide_eq_true eT).2.1
    have hlt := tl_le tx (wq eT)
    have nn : sk tx (sk tx 0 + 4) = nx tx (sk tx 0) := by rw [nx, htl]
    rw [if_pos ez]
    simp only [s_X9_readsTown_0, s_X9_readsTown_1, s_X9_readsTown_2, s_X9_readsTown_5, s_X9_readsTown_6, s_X9_readsTown_7, s_X9_readsTown_10, s_X9_readsTown_11, s_X9_readsTown_14, s_X9_readsTown_15, s_X9_readsTown_18, s_X9_readsTown_21, s_X9_readsTown_22, s_X9_readsTown_23, s_X9_readsTown_24, s_X9_readsTown_25, s_X9_readsTown_28, s_X9_readsTown_29, s_X9_readsTown_30, s_X9_readsTown_33, s_X9_readsTown_34, s_X9_readsTown_37, s_X9_readsTown_40, s_X9_readsTown_41, s_X9_readsTown_42, s_X9_readsTown_43, s_X9_readsTown_44, s_X9_readsTown_45, s_X9_readsTown_49, s_X9_readsTown_52, s_X9_readsTown_53, s_X9_readsTown_56, s_X9_readsTown_59, s_X9_readsTown_60, s_X9_readsTown_63, s_X9_readsTown_66, s_X9_readsTown_67, s_X9_readsTown_68, s_X9_readsTown_71, s_X9_readsTown_72, s_X9_readsTown_75, s_X9_readsTown_78, s_X9_readsTown_79, zI_0, Bool.true_eq_false, Bool.false_eq_true, not_true_eq_false, not_false_eq_true, if_true, if_false, KV_ap, KU_ap, dropL_nil, Q1.1.1.1, Q1.2.2.2.2.1, i4, hS_pF]
    refine p_ends (mQ_13 (p' := sk tx 0 + 4) Q1 (by omega)) (fun e2 h2 Q2 _ _ => ?_) (fun e2 h2 Q2 _ => ?_)
    · rw [nn] at e2 Q2
      simp only [KV_ap, s_X9_readsTown_0, s_X9_readsTown_1, s_X9_readsTown_2, s_X9_readsTown_5, s_X9_readsTown_6, s_X9_readsTown_7, s_X9_readsTown_10, s_X9_readsTown_11, s_X9_readsTown_14, s_X9_readsTown_15, s_X9_readsTown_18, s_X9_readsTown_21, s_X9_readsTown_22, s_X9_readsTown_23, s_X9_readsTown_24, s_X9_readsTown_25, s_X9_readsTown_28, s_X9_readsTown_29, s_X9_readsTown_30, s_X9_readsTown_33, s_X9_readsTown_34, s_X9_readsTown_37, s_X9_readsTown_40, s_X9_readsTown_41, s_X9_readsTown_42, s_X9_readsTown_43, s_X9_readsTown_44, s_X9_readsTown_45, s_X9_readsTown_49, s_X9_readsTown_52, s_X9_readsTown_53, s_X9_readsTown_56, s_X9_readsTown_59, s_X9_readsTown_60, s_X9_readsTown_63, s_X9_readsTown_66, s_X9_readsTown_67, s_X9_readsTown_68, s_X9_readsTown_71, s_X9_readsTown_72, s_X9_readsTown_75, s_X9_readsTown_78, s_X9_readsTown_79, zI_0, Bool.true_eq_false, Bool.false_eq_true, not_true_eq_false, not_false_eq_true, if_true, if_false, KV_ap, KU_ap, dropL_nil, Q2.1.1.1]
      rw [if_pos (by decide)]
      refine p_skip Q2 (fun h3 Q3 _ _ => ?_)
      rw [KU_ap]
      refine loop 151 1 _ h3 [] ?_ rfl Q3 (sk_sk tx _) ?_
      · have := Q3.1.2.2.2.2.1; omega
      · rw [rdP, if_pos eT, if_pos e2]; rfl
    · rw [nn] at e2 Q2
      simp only [KV_ap, s_X9_readsTown_0, s_X9_readsTown_1, s_X9_readsTown_2, s_X9_readsTown_5, s_X9_readsTown_6, s_X9_readsTown_7, s_X9_readsTown_10, s_X9_readsTown_11, s_X9_readsTown_14, s_X9_readsTown_15, s_X9_readsTown_18, s_X9_readsTown_21, s_X9_readsTown_22, s_X9_readsTown_23, s_X9_readsTown_24, s_X9_readsTown_25, s_X9_readsTown_28, s_X9_readsTown_29, s_X9_readsTown_30, s_X9_readsTown_33, s_X9_readsTown_34, s_X9_readsTown_37, s_X9_readsTown_40, s_X9_readsTown_41, s_X9_readsTown_42, s_X9_readsTown_43, s_X9_readsTown_44, s_X9_readsTown_45, s_X9_readsTown_49, s_X9_readsTown_52, s_X9_readsTown_53, s_X9_readsTown_56, s_X9_readsTown_59, s_X9_readsTown_60, s_X9_readsTown_63, s_X9_readsTown_66, s_X9_readsTown_67, s_X9_readsTown_68, s_X9_readsTown_71, s_X9_readsTown_72, s_X9_readsTown_75, s_X9_readsTown_78, s_X9_readsTown_79, zI_0, Bool.true_eq_false, Bool.false_eq_true, not_true_eq_false, not_false_eq_true, if_true, if_false, KV_ap, KU_ap, dropL_nil]
      exact kk0 _ h2 [] (by rw [rdP, if_pos eT, if_neg e2]) Q2
theorem tk_s (D : List St) {i : Nat} (hi : i < D.length) : D.take (i + 1) = D.take i ++ [gS D i] := by
  rw [List.take_succ]
  unfold gS
  rw [List.getD_eq_getElem?_getD, List.getElem?_eq_getElem hi]
  rfl
end R11
theorem m_read : cM k_X9_read [m_D, m_D] aRead := by
  intro g h M u Φ hM k
  have m4' : ∀ x : Nat, (4 : Int32) * nI x = nI (4 * x) := fun x => i_mul 4 x
  have i2 : ∀ x : Nat, nI x + (2 : Int32) = nI (x + 2) := fun x => i_add x 2
  have i3 : ∀ x : Nat, nI x + (3 : Int32) = nI (x + 3) := fun x => i_add x 3
  have ib : ∀ x, x < 24 → m_inb (nI x) 24 = true := fun x hx => by rw [inb_nI (by omega)]; simpa using hx
  simp only [s_X9_read_0, s_X9_read_1, s_X9_read_4, s_X9_read_5, s_X9_read_6, s_X9_read_9, s_X9_read_11, s_X9_read_12, s_X9_read_15, s_X9_read_16, s_X9_read_17, s_X9_read_18, s_X9_read_21, s_X9_read_22, s_X9_read_24, s_X9_read_25, s_X9_read_28, s_X9_read_31, s_X9_read_32, s_X9_read_33, s_X9_read_36, s_X9_read_37, s_X9_read_38, s_X9_read_39, s_X9_read_40, s_X9_read_41, s_X9_read_44, s_X9_read_45, s_X9_read_46, s_X9_read_47, s_X9_read_48, s_X9_read_49, s_X9_read_50, s_X9_read_51, s_X9_read_54, s_X9_read_55, s_X9_read_56, s_X9_read_57, s_X9_read_58, s_X9_read_59, s_X9_read_60, s_X9_read_61, s_X9_read_64, s_X9_read_65, s_X9_read_66, s_X9_read_67, s_X9_read_68, s_X9_read_69, s_X9_read_70, s_X9_read_73, s_X9_read_74, s_X9_read_77, s_X9_read_80, s_X9_read_81, zI_0, Bool.true_eq_false, Bool.false_eq_true, not_true_eq_false, not_false_eq_true, if_true, if_false, KV_ap, KU_ap, dropL_nil, hM.1.1]
  refine p_readsTown hM (fun f h1 D er Q1 => ?_) (fun r h1 p1 er hr Q1 => ?_)
  · have e : aRead u = (.int (-10 - nI f), u) := by simp only [aRead, er]
    rw [e] at k
    simp only [KV_ap, s_X9_read_0, s_X9_read_1, s_X9_read_4, s_X9_read_5, s_X9_read_6, s_X9_read_9, s_X9_read_11, s_X9_read_12, s_X9_read_15, s_X9_read_16, s_X9_read_17, s_X9_read_18, s_X9_read_21, s_X9_read_22, s_X9_read_24, s_X9_read_25, s_X9_read_28, s_X9_read_31, s_X9_read_32, s_X9_read_33, s_X9_read_36, s_X9_read_37, s_X9_read_38, s_X9_read_39, s_X9_read_40, s_X9_read_41, s_X9_read_44, s_X9_read_45, s_X9_read_46, s_X9_read_47, s_X9_read_48, s_X9_read_49, s_X9_read_50, s_X9_read_51, s_X9_read_54, s_X9_read_55, s_X9_read_56, s_X9_read_57, s_X9_read_58, s_X9_read_59, s_X9_read_60, s_X9_read_61, s_X9_read_64, s_X9_read_65, s_X9_read_66, s_X9_read_67, s_X9_read_68, s_X9_read_69, s_X9_read_70, s_X9_read_73, s_X9_read_74, s_X9_read_77, s_X9_read_80, s_X9_read_81, zI_0, Bool.true_eq_false, Bool.false_eq_true, not_true_eq_false, not_false_eq_true, if_true, if_false, KV_ap, KU_ap, dropL_nil, Q1.1.1.1, Q1.2.2.2.2.1]
    rw [if_neg (by decide)]
    exact k h1 (mQ_isM hM Q1) Q1.2.2.2.2.2.2.2.2.2.2
  · have e : aRead u = (.int (nI r.1), ((r.2, [], []), u.2)) := by simp only [aRead, er]
    rw [e] at k
    have hM1 := mQ_isM hM Q1
    obtain ⟨a, b, c, d, e1, f1, g14, grd, g6, gv, gf⟩ := Q1
    have s15 : hF h1 M 15 = .ref (M + 11) := a.1.2.2.2.2.2.2.2.2.2.2.2.1
    simp only [KV_ap, s_X9_read_0, s_X9_read_1, s_X9_read_4, s_X9_read_5, s_X9_read_6, s_X9_read_9, s_X9_read_11, s_X9_read_12, s_X9_read_15, s_X9_read_16, s_X9_read_17, s_X9_read_18, s_X9_read_21, s_X9_read_22, s_X9_read_24, s_X9_read_25, s_X9_read_28, s_X9_read_31, s_X9_read_32, s_X9_read_33, s_X9_read_36, s_X9_read_37, s_X9_read_38, s_X9_read_39, s_X9_read_40, s_X9_read_41, s_X9_read_44, s_X9_read_45, s_X9_read_46, s_X9_read_47, s_X9_read_48, s_X9_read_49, s_X9_read_50, s_X9_read_51, s_X9_read_54, s_X9_read_55, s_X9_read_56, s_X9_read_57, s_X9_read_58, s_X9_read_59, s_X9_read_60, s_X9_read_61, s_X9_read_64, s_X9_read_65, s_X9_read_66, s_X9_read_67, s_X9_read_68, s_X9_read_69, s_X9_read_70, s_X9_read_73, s_X9_read_74, s_X9_read_77, s_X9_read_80, s_X9_read_81, s_X9_begin_0, s_X9_begin_1, s_X9_begin_2, s_X9_begin_5, s_X9_begin_6, s_X9_begin_7, s_X9_begin_10, s_X9_begin_11, s_X9_begin_12, s_X9_begin_15, zI_0, Bool.true_eq_false, Bool.false_eq_true, not_true_eq_false, not_false_eq_true, if_true, if_false, KV_ap, KU_ap, dropL_nil, ge0 (show r.1 < 2147483648 by omega), hS_pF, a.1.1]
    have hM2 : isM (pF (pF (pF h1 M 1 (.int 0)) M 2 (.int 0)) M 18 (.int 0)) M ((([], [], []) : TW), u.2) := by
      obtain ⟨T, rr⟩ := u
      refine isM_T hM1 (fun _ => rfl) (fun j h1 h2 h3 => by rw [hF_pF, if_neg (by omega), hF_pF, if_neg (by omega), hF_pF, if_neg (by omega)]) (fun _ _ => rfl) ?_ ?_ ?_ ⟨Nat.zero_le _, Nat.zero_le _, Nat.zero_le _, fun j hj => absurd hj (Nat.not_lt_zero j), fun j hj => absurd hj (Nat.not_lt_zero j)⟩ cl4_nil cl4_nil mP_nil
      · rw [hF_pF, if_neg (by omega), hF_pF, if_neg (by omega), hF_pF, if_pos ⟨rfl, rfl⟩]; rfl
      · rw [hF_pF, if_neg (by omega), hF_pF, if_pos ⟨rfl, rfl⟩]; rfl
      · rw [hF_pF, if_pos ⟨rfl, rfl⟩]; rfl
    have loop : ∀ m i h', i + m = r.2.length → isM h' M ((r.2.take i, [], []), u.2) → (∀ x, hI h' (M + 11) x = hI h1 (M + 11) x) → hF h' M 14 = .int (nI r.2.length) → frm h h' M (M + 19) → J g k_X9_read 23 [.ref M, .int (nI r.1), .int (nI i)] [] [] h' Φ := by
      intro m
      induction m with
      | zero =>
        intro i h' hi hM' _ f14 hf
        have : i = r.2.length := by omega
        subst this
        rw [List.take_length] at hM'
        rw [s_X9_read_23]
        simp only [s_X9_read_0, s_X9_read_1, s_X9_read_4, s_X9_read_5, s_X9_read_6, s_X9_read_9, s_X9_read_11, s_X9_read_12, s_X9_read_15, s_X9_read_16, s_X9_read_17, s_X9_read_18, s_X9_read_21, s_X9_read_22, s_X9_read_24, s_X9_read_25, s_X9_read_28, s_X9_read_31, s_X9_read_32, s_X9_read_33, s_X9_read_36, s_X9_read_37, s_X9_read_38, s_X9_read_39, s_X9_read_40, s_X9_read_41, s_X9_read_44, s_X9_read_45, s_X9_read_46, s_X9_read_47, s_X9_read_48, s_X9_read_49, s_X9_read_50, s_X9_read_51, s_X9_read_54, s_X9_read_55, s_X9_read_56, s_X9_read_57, s_X9_read_58, s_X9_read_59, s_X9_read_60, s_X9_read_61, s_X9_read_64, s_X9_read_65, s_X9_read_66, s_X9_read_67, s_X9_read_68, s_X9_read_69, s_X9_read_70, s_X9_read_73, s_X9_read_74, s_X9_read_77, s_X9_read_80, s_X9_read_81, zI_0, Bool.true_eq_false, Bool.false_eq_true, not_true_eq_false, not_false_eq_true, if_true, if_false, KV_ap, KU_ap, dropL_nil, hM'.1.1, f14, le_nI (show r.2.length < 2147483648 by omega) (show r.2.length < 2147483648 by omega), Nat.le_refl]
        exact k h' hM' hf
      | succ m ih =>
        intro i h' hi hM' e11 f14 hf
        have hlt : i < r.2.length := by omega
        obtain ⟨d0, d1, d2, d3⟩ := grd i hlt
        have f15 : hF h' M 15 = .ref (M + 11) := hM'.1.2.2.2.2.2.2.2.2.2.2.2.1
        have s11 : hS h' (M + 11) = (1, 24) := hM'.2.1.2.2.2.1
        rw [s_X9_read_23]
        simp only [s_X9_read_0, s_X9_read_1, s_X9_read_4, s_X9_read_5, s_X9_read_6, s_X9_read_9, s_X9_read_11, s_X9_read_12, s_X9_read_15, s_X9_read_16, s_X9_read_17, s_X9_read_18, s_X9_read_21, s_X9_read_22, s_X9_read_24, s_X9_read_25, s_X9_read_28, s_X9_read_31, s_X9_read_32, s_X9_read_33, s_X9_read_36, s_X9_read_37, s_X9_read_38, s_X9_read_39, s_X9_read_40, s_X9_read_41, s_X9_read_44, s_X9_read_45, s_X9_read_46, s_X9_read_47, s_X9_read_48, s_X9_read_49, s_X9_read_50, s_X9_read_51, s_X9_read_54, s_X9_read_55, s_X9_read_56, s_X9_read_57, s_X9_read_58, s_X9_read_59, s_X9_read_60, s_X9_read_61, s_X9_read_64, s_X9_read_65, s_X9_read_66, s_X9_read_67, s_X9_read_68, s_X9_read_69, s_X9_read_70, s_X9_read_73, s_X9_read_74, s_X9_read_77, s_X9_read_80, s_X9_read_81, zI_0, Bool.true_eq_false, Bool.false_eq_true, not_true_eq_false, not_false_eq_true, if_true, if_false, KV_ap, KU_ap, dropL_nil, hM'.1.1, f14, f15, s11, le_nI (show r.2.length < 2147483648 by omega) (show i < 2147483648 by omega), show ¬ r.2.length ≤ i by omega, m4', a1, i2, i3, ib (4 * i) (by omega), ib (4 * i + 1) (by omega), ib (4 * i + 2) (by omega), ib (4 * i + 3) (by omega), cl_nI (show 4 * i < 2147483648 by omega), cl_nI (show 4 * i + 1 < 2147483648 by omega), cl_nI (show 4 * i + 2 < 2147483648 by omega), cl_nI (show 4 * i + 3 < 2147483648 by omega), e11, d0, d1, d2, d3]
        have tl' : (r.2.take i).length = i := by rw [List.length_take]; omega
        refine p_addStick hM' (by rw [tl']; omega) (s := gS r.2 i) (gv i hlt) (fun h2 hM2 hf2 g11 gF => ?_)
        simp only [KV_ap, s_X9_read_0, s_X9_read_1, s_X9_read_4, s_X9_read_5, s_X9_read_6, s_X9_read_9, s_X9_read_11, s_X9_read_12, s_X9_read_15, s_X9_read_16, s_X9_read_17, s_X9_read_18, s_X9_read_21, s_X9_read_22, s_X9_read_24, s_X9_read_25, s_X9_read_28, s_X9_read_31, s_X9_read_32, s_X9_read_33, s_X9_read_36, s_X9_read_37, s_X9_read_38, s_X9_read_39, s_X9_read_40, s_X9_read_41, s_X9_read_44, s_X9_read_45, s_X9_read_46, s_X9_read_47, s_X9_read_48, s_X9_read_49, s_X9_read_50, s_X9_read_51, s_X9_read_54, s_X9_read_55, s_X9_read_56, s_X9_read_57, s_X9_read_58, s_X9_read_59, s_X9_read_60, s_X9_read_61, s_X9_read_64, s_X9_read_65, s_X9_read_66, s_X9_read_67, s_X9_read_68, s_X9_read_69, s_X9_read_70, s_X9_read_73, s_X9_read_74, s_X9_read_77, s_X9_read_80, s_X9_read_81, zI_0, Bool.true_eq_false, Bool.false_eq_true, not_true_eq_false, not_false_eq_true, if_true, if_false, KV_ap, KU_ap, dropL_nil, a1]
        refine ih (i + 1) h2 (by omega) ?_ (fun x => by rw [g11, e11]) (by rw [gF 14 (by decide) (by decide)]; exact f14) (frm_trans hf hf2)
        rw [tk_s r.2 hlt]
        exact hM2
    refine loop r.2.length 0 _ (Nat.zero_add _) hM2 (fun _ => rfl) ?_ (frm_pF (by omega) (by omega) (frm_pF (by omega) (by omega) (frm_pF (by omega) (by omega) gf)))
    rw [hF_pF, if_neg (by omega), hF_pF, if_neg (by omega), hF_pF, if_neg (by omega)]
    exact g14

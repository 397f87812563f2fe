/-! New sticks, notes, past, towns; the class's calls: image -/
theorem hS_nwO (h : HP) (c x : Nat) : hS (nwO h c) x = if x = hN h then (0, c) else hS h x := rfl
theorem hS_nwA (h : HP) (k n x : Nat) : hS (nwA h k n) x = if x = hN h then (k, n) else hS h x := rfl
theorem hF_nwA (h : HP) (k n x y : Nat) : hF (nwA h k n) x y = if x = hN h then .null else hF h x y := rfl
theorem hF_nwO (h : HP) (c x y : Nat) : hF (nwO h c) x y = if x = hN h then m_df c y else hF h x y := rfl
theorem hI_nwA (h : HP) (k n x : Nat) : hI (nwA h k n) x = if x = hN h then (fun _ => 0) else hI h x := rfl
theorem agr_nwO {h h' : HP} {c x : Nat} (hx : x ≠ hN h') (p : agr h h' x) : agr h (nwO h' c) x := ⟨by rw [hS_nwO, if_neg hx]; exact p.1, by funext y; rw [hF_nwO, if_neg hx]; exact congrFun p.2.1 y, p.2.2⟩
theorem agr_nwA {h h' : HP} {k n x : Nat} (hx : x ≠ hN h') (p : agr h h' x) : agr h (nwA h' k n) x := ⟨by rw [hS_nwA, if_neg hx]; exact p.1, by funext y; rw [hF_nwA, if_neg hx]; exact congrFun p.2.1 y, by rw [hI_nwA, if_neg hx]; exact p.2.2⟩
section IN
variable {g : GL} {h : HP} {Φ : Value → HP → Prop} {a : Nat}
theorem q_Sinit (hs : hS h a = (0, 3)) (hn : hN h = a + 1) (k : ∀ h', isS h' a [] → (∀ x, x < a → agr h h' x) → hN h' = a + 2 → Φ .null h') : J g k_X5_init 0 [.ref a] [] [] h Φ := by
  have e : hS (nwA h 1 24) a = (0, 3) := by rw [hS_nwA, if_neg (by omega)]; exact hs
  simp only [s_X5_init_0, s_X5_init_1, s_X5_init_4, s_X4_init_0, s_X4_init_1, s_X4_init_4, s_X4_init_5, s_X4_init_7, s_X4_init_9a, s_X4_init_9b, s_X4_init_12, s_X4_init_13, s_X4_init_14a, s_X4_init_14b, s_X4_init_17, zI_0, Bool.true_eq_false, Bool.false_eq_true, not_true_eq_false, not_false_eq_true, if_true, if_false, KV_ap, KU_ap, dropL_nil, hS_pF, e, hn]
  apply k
  · refine ⟨e, ⟨Or.inl e, ?_, ?_, by decide, ?_⟩, fun j hj => absurd hj (Nat.not_lt_zero j), fun j hj => absurd hj (Nat.not_lt_zero j)⟩
    · rw [hF_pF, if_neg (by omega), hF_pF, if_pos ⟨rfl, rfl⟩]
    · rw [hF_pF, if_pos ⟨rfl, rfl⟩]; rfl
    · show hS (nwA h 1 24) (a + 1) = _
      rw [hS_nwA, if_pos hn.symm]
  · intro x hx
    exact agr_pF (by omega) (agr_pF (by omega) (agr_nwA (by omega) (agr_rfl h x)))
  · show hN h + 1 = a + 2
    omega
theorem q_Ninit (hs : hS h a = (0, 0)) (hn : hN h = a + 1) (k : ∀ h', isN h' a [] → (∀ x, x < a → agr h h' x) → hN h' = a + 2 → Φ .null h') : J g k_X0_init 0 [.ref a] [] [] h Φ := by
  have e : hS (nwA h 1 24) a = (0, 0) := by rw [hS_nwA, if_neg (by omega)]; exact hs
  simp only [s_X0_init_0, s_X0_init_1, s_X0_init_4, s_X4_init_0, s_X4_init_1, s_X4_init_4, s_X4_init_5, s_X4_init_7, s_X4_init_9a, s_X4_init_9b, s_X4_init_12, s_X4_init_13, s_X4_init_14a, s_X4_init_14b, s_X4_init_17, zI_0, Bool.true_eq_false, Bool.false_eq_true, not_true_eq_false, not_false_eq_true, if_true, if_false, KV_ap, KU_ap, dropL_nil, hS_pF, e, hn]
  apply k
  · refine ⟨e, ⟨Or.inr e, ?_, ?_, by decide, ?_⟩, fun j hj => absurd hj (Nat.not_lt_zero j), fun j hj => absurd hj (Nat.not_lt_zero j)⟩
    · rw [hF_pF, if_neg (by omega), hF_pF, if_pos ⟨rfl, rfl⟩]
    · rw [hF_pF, if_pos ⟨rfl, rfl⟩]; rfl
    · show hS (nwA h 1 24) (a + 1) = _
      rw [hS_nwA, if_pos hn.symm]
  · intro x hx
    exact agr_pF (by omega) (agr_pF (by omega) (agr_nwA (by omega) (agr_rfl h x)))
  · show hN h + 1 = a + 2
    omega
theorem q_Pinit (hs : hS h a = (0, 1)) (hn : hN h = a + 1) (k : ∀ h', isP h' a [] → (∀ x, x < a → agr h h' x) → hN h' = a + 3 → Φ .null h') : J g k_X1_init 0 [.ref a] [] [] h Φ := by
  have e : hS (nwA h 1 144) a = (0, 1) := by rw [hS_nwA, if_neg (by omega)]; exact hs
  have e2 : ∀ h1 : HP, hN h1 = a + 2 → hS (nwA h1 1 6) a = hS h1 a := fun h1 z => by rw [hS_nwA, if_neg (by omega)]
  have hn2 : hN (pF (nwA h 1 144) a 0 (.ref (a + 1))) = a + 2 := by show hN h + 1 = _; omega
  simp only [s_X1_init_0, s_X1_init_1, s_X1_init_4, s_X1_init_5, s_X1_init_8, s_X1_init_10, s_X1_init_13, s_X1_init_14, s_X1_init_16, s_X1_init_18, s_X1_init_21, s_X1_init_22, s_X1_init_23, s_X1_init_26, zI_0, Bool.true_eq_false, Bool.false_eq_true, not_true_eq_false, not_false_eq_true, if_true, if_false, KV_ap, KU_ap, dropL_nil, hS_pF, e, hn, hn2, e2 _ hn2]
  apply k
  · refine ⟨⟨?_, ?_, ?_, ?_, by decide, ?_, ?_⟩, fun j hj => absurd hj (Nat.not_lt_zero j)⟩
    · show hS (nwA (pF (nwA h 1 144) a 0 (.ref (a + 1))) 1 6) a = _
      rw [e2 _ hn2]; exact e
    · rw [hF_pF, if_neg (by omega), hF_pF, if_neg (by omega), hF_nwA, if_neg (by omega), hF_pF, if_pos ⟨rfl, rfl⟩]
    · rw [hF_pF, if_neg (by omega), hF_pF, if_pos ⟨rfl, rfl⟩]
    · rw [hF_pF, if_pos ⟨rfl, rfl⟩]; rfl
    · show hS (nwA (pF (nwA h 1 144) a 0 (.ref (a + 1))) 1 6) (a + 1) = _
      rw [hS_nwA, if_neg (by omega)]
      show hS (nwA h 1 144) (a + 1) = _
      rw [hS_nwA, if_pos hn.symm]
    · show hS (nwA (pF (nwA h 1 144) a 0 (.ref (a + 1))) 1 6) (a + 2) = _
      rw [hS_nwA, if_pos hn2.symm]
  · intro x hx
    exact agr_pF (by omega) (agr_pF (by omega) (agr_nwA (by omega) (agr_pF (by omega) (agr_nwA (by omega) (agr_rfl h x)))))
  · show hN h + 1 + 1 = a + 3
    omega
theorem q_Tinit {t : Nat} (hs : hS h t = (0, 4)) (hn : hN h = t + 1) (k : ∀ h', isT h' t ([], [], []) → (∀ x, x < t → agr h h' x) → hN h' = t + 8 → Φ .null h') : J g k_X6_init 0 [.ref t] [] [] h Φ := by
  simp only [s_X6_init_0, s_X6_init_1, s_X6_init_4, s_X6_init_5, s_X6_init_8, s_X6_init_9, s_X6_init_12, s_X6_init_19, s_X6_init_20, s_X6_init_23, s_X6_init_30, s_X6_init_31, s_X6_init_34, s_X6_init_37, zI_0, Bool.true_eq_false, Bool.false_eq_true, not_true_eq_false, not_false_eq_true, if_true, if_false, KV_ap, KU_ap, dropL_nil, hn]
  refine q_Sinit (by rw [hS_nwO, if_pos hn.symm]) (by rw [hN_nwO, hn]) (fun h1 w1 f1 n1 => ?_)
  have o1 : hS h1 t = (0, 4) := by rw [(f1 t (by omega)).1, hS_nwO, if_neg (by omega)]; exact hs
  simp only [s_X6_init_0, s_X6_init_1, s_X6_init_4, s_X6_init_5, s_X6_init_8, s_X6_init_9, s_X6_init_12, s_X6_init_15, s_X6_init_16, s_X6_init_19, s_X6_init_20, s_X6_init_23, s_X6_init_30, s_X6_init_31, s_X6_init_34, s_X6_init_37, zI_0, Bool.true_eq_false, Bool.false_eq_true, not_true_eq_false, not_false_eq_true, if_true, if_false, KV_ap, KU_ap, dropL_nil, o1, hN_pF, n1]
  have o2 : agr h1 (nwO (pF h1 t 0 (.ref (t + 1))) 0) (t + 1) := agr_nwO (by rw [hN_pF]; omega) (agr_pF (by omega) (agr_rfl h1 _))
  refine q_Ninit (by rw [hS_nwO, if_pos (by rw [hN_pF]; omega)]) (by rw [hN_nwO, hN_pF, n1]) (fun h2 w2 f2 n2 => ?_)
  have o3 : hS h2 t = (0, 4) := by rw [(f2 t (by omega)).1, hS_nwO, if_neg (by rw [hN_pF]; omega)]; exact o1
  simp only [s_X6_init_0, s_X6_init_1, s_X6_init_4, s_X6_init_5, s_X6_init_8, s_X6_init_9, s_X6_init_12, s_X6_init_15, s_X6_init_16, s_X6_init_19, s_X6_init_20, s_X6_init_23, s_X6_init_26, s_X6_init_27, s_X6_init_30, s_X6_init_31, s_X6_init_34, s_X6_init_37, zI_0, Bool.true_eq_false, Bool.false_eq_true, not_true_eq_false, not_false_eq_true, if_true, if_false, KV_ap, KU_ap, dropL_nil, o3, hN_pF, n2]
  refine q_Pinit (by rw [hS_nwO, if_pos (by rw [hN_pF]; omega)]) (by rw [hN_nwO, hN_pF, n2]) (fun h3 w3 f3 n3 => ?_)
  have o4 : hS h3 t = (0, 4) := by rw [(f3 t (by omega)).1, hS_nwO, if_neg (by rw [hN_pF]; omega)]; exact o3
  simp only [s_X6_init_0, s_X6_init_1, s_X6_init_4, s_X6_init_5, s_X6_init_8, s_X6_init_9, s_X6_init_12, s_X6_init_15, s_X6_init_16, s_X6_init_19, s_X6_init_20, s_X6_init_23, s_X6_init_26, s_X6_init_27, s_X6_init_30, s_X6_init_31, s_X6_init_34, s_X6_init_37, zI_0, Bool.true_eq_false, Bool.false_eq_true, not_true_eq_false, not_false_eq_true, if_true, if_false, KV_ap, KU_ap, dropL_nil, o4]
  have a23 : ∀ x, x < t + 5 → x ≠ t → agr h2 h3 x := fun x hx hne => agr_trans (agr_nwO (by rw [hN_pF]; omega) (agr_pF hne (agr_rfl h2 x))) (f3 x hx)
  have a12 : ∀ x, x < t + 3 → x ≠ t → agr h1 h2 x := fun x hx hne => agr_trans (agr_nwO (by rw [hN_pF]; omega) (agr_pF hne (agr_rfl h1 x))) (f2 x hx)
  apply k
  · refine ⟨o4, ?_, ?_, ?_, ?_, ?_, ?_⟩
    · rw [hF_pF, if_neg (by omega), (f3 t (by omega)).2.1, hF_nwO, if_neg (by rw [hN_pF]; omega), hF_pF, if_neg (by omega), (f2 t (by omega)).2.1, hF_nwO, if_neg (by rw [hN_pF]; omega), hF_pF, if_pos ⟨rfl, rfl⟩]
    · rw [hF_pF, if_neg (by omega), (f3 t (by omega)).2.1, hF_nwO, if_neg (by rw [hN_pF]; omega), hF_pF, if_pos ⟨rfl, rfl⟩]
    · rw [hF_pF, if_pos ⟨rfl, rfl⟩]
    · exact isS_agr (fun x p q => agr_pF (by omega) (agr_trans (a12 x (by omega) (by omega)) (a23 x (by omega) (by omega)))) w1
    · exact isN_agr (fun x p q => agr_pF (by omega) (a23 x (by omega) (by omega))) w2
    · exact isP_agr (fun x p q => agr_pF (by omega) (agr_rfl h3 x)) w3
  · intro x hx
    refine agr_pF (by omega) (agr_trans (agr_trans (agr_trans (agr_nwO (by omega) (agr_rfl h x)) (f1 x (by omega))) (a12 x (by omega) (by omega))) (a23 x (by omega) (by omega)))
  · rw [hN_pF]; omega
end IN

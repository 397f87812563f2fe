/-! The model: the next order -/
def lnR (f : Nat → Int32) (c : List Nat) : Prop := ∀ i, i < c.length → f i = nI (c.getD i 0)
theorem gD_set (c : List Nat) (x i v : Nat) (hx : x < c.length) : (c.set x v).getD i 0 = if i = x then v else c.getD i 0 := by
  rw [List.getD_eq_getElem?_getD, List.getD_eq_getElem?_getD, List.getElem?_set]
  by_cases e : i = x
  · subst e; rw [if_pos rfl, if_pos hx, if_pos rfl]; rfl
  · rw [if_neg (fun z => e z.symm), if_neg e]
theorem swL_len (c : List Nat) (x y : Nat) : (swL c x y).length = c.length := by rw [swL, List.length_set, List.length_set]
theorem lnR_sw {f : Nat → Int32} {c : List Nat} {x y : Nat} (hx : x < c.length) (hy : y < c.length) (h : lnR f c) : lnR (upd (upd f x (f y)) y (f x)) (swL c x y) := by
  intro i hi
  rw [swL_len] at hi
  rw [swL, gD_set _ _ _ _ (by rw [List.length_set]; exact hy), gD_set _ _ _ _ hx]
  unfold upd
  by_cases e1 : i = y
  · rw [if_pos e1, if_pos e1]; exact h x hx
  · rw [if_neg e1, if_neg e1]
    by_cases e2 : i = x
    · rw [if_pos e2, if_pos e2]; exact h y hy
    · rw [if_neg e2, if_neg e2]; exact h i hi
theorem dnK_le (c : List Nat) : ∀ k, dnK c k ≤ k := by
  intro k
  induction k with
  | zero => exact Nat.le_refl _
  | succ k ih => rw [dnK]; split <;> omega
theorem dnK_st (c : List Nat) : ∀ k, dnK c k ≠ 0 → c.getD (dnK c k - 1) 0 ≤ c.getD (dnK c k) 0 := by
  intro k
  induction k with
  | zero => intro h; exact absurd rfl h
  | succ k ih =>
    intro h
    rw [dnK] at h ⊢
    by_cases e : c.getD (k + 1) 0 < c.getD k 0
    · rw [if_pos e] at h ⊢; exact ih h
    · rw [if_neg e, Nat.add_sub_cancel]; omega
theorem dnJ_ge {c : List Nat} {x k : Nat} (hk : x ≤ c.getD (k + 1) 0) : ∀ j, k + 1 ≤ j → k + 1 ≤ dnJ c x j ∧ dnJ c x j ≤ j := by
  intro j
  induction j with
  | zero => intro h; omega
  | succ j ih =>
    intro h
    rw [dnJ]
    by_cases e : c.getD (j + 1) 0 < x
    · rw [if_pos e]
      have : k + 1 ≤ j := by
        by_cases z : j = k
        · subst z; omega
        · omega
      have := ih this
      omega
    · rw [if_neg e]; omega
theorem k_m2 : ∀ n, n < 7 → 1 ≤ n → nI n - 2 = nI (n - 1) - 1 := by decide
section M33
variable {g : GL} {h : HP} {Φ : Value → HP → Prop} {M : Nat}
theorem p_nextLine {n : Nat} {c : List Nat} (s : sM h M) (s13 : hS h (M + 13) = (1, 6)) (f1 : hF h M 1 = .int (nI n)) (hn1 : 1 ≤ n) (hn : n ≤ 6) (hc : c.length = n) (hb : ∀ i, c.getD i 0 < 6) (hl : lnR (hI h (M + 13)) c) (k0 : nxL n c = none → Φ (.int 0) h) (k1 : ∀ c' f', nxL n c = some c' → lnR f' c' → Φ (.int 1) (pI h (M + 13) f')) : J g k_X9_nextLine 0 [.ref M, m_D, m_D, m_D, m_D, m_D] [] [] h Φ := by
  have r19 : hF h M 19 = .ref (M + 13) := s.2.2.2.2.2.2.2.2.2.2.2.2.2.1
  have ib : ∀ x, x < 6 → m_inb (nI x) 6 = true := fun x hx => by rw [inb_nI (by omega)]; simpa using hx
  have m1 : ∀ k : Nat, nI k + (-1) = nI k - 1 := fun k => (Int32.sub_eq_add_neg _ _).symm
  have m0 : (nI 0 - 1 < (0 : Int32)) = True := by decide
  have m0' : ((0 : Int32) ≤ nI 0 - 1) = False := by decide
  have sN : ∀ k : Nat, nI (k + 1) - 1 = nI k := fun k => s1 (by omega)
  have lK : ∀ k, k ≤ n - 1 → J g k_X9_nextLine 7 [.ref M, .int (nI k - 1), m_D, m_D, m_D, m_D] [] [] h Φ = J g k_X9_nextLine 34 [.ref M, .int (nI (dnK c k) - 1), m_D, m_D, m_D, m_D] [] [] h Φ := by
    intro k
    induction k with
    | zero =>
      intro _
      rw [s_X9_nextLine_7]
      simp only [s_X9_nextLine_8, m0, if_true]
      rfl
    | succ k ih =>
      intro hk
      have b0 := hb k
      have b1 := hb (k + 1)
      rw [s_X9_nextLine_7, sN k]
      simp only [s_X9_nextLine_0, s_X9_nextLine_1, s_X9_nextLine_4, s_X9_nextLine_5, s_X9_nextLine_6, s_X9_nextLine_8, s_X9_nextLine_11, s_X9_nextLine_12, s_X9_nextLine_15, s_X9_nextLine_16, s_X9_nextLine_17, s_X9_nextLine_18, s_X9_nextLine_21, s_X9_nextLine_22, s_X9_nextLine_23, s_X9_nextLine_24, s_X9_nextLine_25, s_X9_nextLine_28, s_X9_nextLine_31, s_X9_nextLine_35, s_X9_nextLine_38, s_X9_nextLine_39, s_X9_nextLine_40, s_X9_nextLine_41, s_X9_nextLine_44, s_X9_nextLine_45, s_X9_nextLine_46, s_X9_nextLine_47, s_X9_nextLine_48, s_X9_nextLine_51, s_X9_nextLine_52, s_X9_nextLine_53, s_X9_nextLine_54, s_X9_nextLine_57, s_X9_nextLine_58, s_X9_nextLine_59, s_X9_nextLine_62, s_X9_nextLine_65, s_X9_nextLine_68, s_X9_nextLine_69, s_X9_nextLine_72, s_X9_nextLine_73, s_X9_nextLine_74, s_X9_nextLine_75, s_X9_nextLine_76, s_X9_nextLine_79, s_X9_nextLine_80, s_X9_nextLine_81, s_X9_nextLine_84, s_X9_nextLine_85, s_X9_nextLine_86, s_X9_nextLine_87, s_X9_nextLine_88, s_X9_nextLine_91, s_X9_nextLine_92, s_X9_nextLine_93, s_X9_nextLine_94, s_X9_nextLine_95, s_X9_nextLine_96, s_X9_nextLine_97, s_X9_nextLine_99, s_X9_nextLine_100, s_X9_nextLine_103, s_X9_nextLine_104, s_X9_nextLine_105, s_X9_nextLine_107, s_X9_nextLine_109, s_X9_nextLine_111, s_X9_nextLine_114, s_X9_nextLine_115, s_X9_nextLine_118, s_X9_nextLine_120, s_X9_nextLine_121, s_X9_nextLine_122, s_X9_nextLine_123, s_X9_nextLine_126, s_X9_nextLine_128, s_X9_nextLine_129, s_X9_nextLine_132, s_X9_nextLine_134, s_X9_nextLine_135, s_X9_nextLine_136, s_X9_nextLine_137, s_X9_nextLine_140, s_X9_nextLine_142, s_X9_nextLine_143, s_X9_nextLine_144, s_X9_nextLine_147, s_X9_nextLine_150, s_X9_nextLine_153, s_X9_nextLine_154, zI_0, Bool.true_eq_false, Bool.false_eq_true, not_true_eq_false, not_false_eq_true, if_true, if_false, KV_ap, KU_ap, dropL_nil, lt0 (show k < 2147483648 by omega), s.1, r19, s13, ib k (by omega), ib (k + 1) (by omega), a1, cl_nI (show k < 2147483648 by omega), cl_nI (show k + 1 < 2147483648 by omega), hl k (by omega), hl (k + 1) (by omega), le_nI (show c.getD k 0 < 2147483648 by omega) (show c.getD (k + 1) 0 < 2147483648 by omega), m1]
      rw [dnK]
      by_cases e : c.getD (k + 1) 0 < c.getD k 0
      · rw [if_neg (by omega), if_pos e]; exact ih (by omega)
      · rw [if_pos (by omega), if_neg e, sN k]
  have mm : nI n - (2 : Int32) = nI (n - 1) - 1 := k_m2 n (by omega) hn1
  simp only [s_X9_nextLine_0, s_X9_nextLine_1, s_X9_nextLine_4, s_X9_nextLine_5, s_X9_nextLine_6, s_X9_nextLine_8, s_X9_nextLine_11, s_X9_nextLine_12, s_X9_nextLine_15, s_X9_nextLine_16, s_X9_nextLine_17, s_X9_nextLine_18, s_X9_nextLine_21, s_X9_nextLine_22, s_X9_nextLine_23, s_X9_nextLine_24, s_X9_nextLine_25, s_X9_nextLine_28, s_X9_nextLine_31, s_X9_nextLine_35, s_X9_nextLine_38, s_X9_nextLine_39, s_X9_nextLine_40, s_X9_nextLine_41, s_X9_nextLine_44, s_X9_nextLine_45, s_X9_nextLine_46, s_X9_nextLine_47, s_X9_nextLine_48, s_X9_nextLine_51, s_X9_nextLine_52, s_X9_nextLine_53, s_X9_nextLine_54, s_X9_nextLine_57, s_X9_nextLine_58, s_X9_nextLine_59, s_X9_nextLine_62, s_X9_nextLine_65, s_X9_nextLine_68, s_X9_nextLine_69, s_X9_nextLine_72, s_X9_nextLine_73, s_X9_nextLine_74, s_X9_nextLine_75, s_X9_nextLine_76, s_X9_nextLine_79, s_X9_nextLine_80, s_X9_nextLine_81, s_X9_nextLine_84, s_X9_nextLine_85, s_X9_nextLine_86, s_X9_nextLine_87, s_X9_nextLine_88, s_X9_nextLine_91, s_X9_nextLine_92, s_X9_nextLine_93, s_X9_nextLine_94, s_X9_nextLine_95, s_X9_nextLine_96, s_X9_nextLine_97, s_X9_nextLine_99, s_X9_nextLine_100, s_X9_nextLine_103, s_X9_nextLine_104, s_X9_nextLine_105, s_X9_nextLine_107, s_X9_nextLine_109, s_X9_nextLine_111, s_X9_nextLine_114, s_X9_nextLine_115, s_X9_nextLine_118, s_X9_nextLine_120, s_X9_nextLine_121, s_X9_nextLine_122, s_X9_nextLine_123, s_X9_nextLine_126, s_X9_nextLine_128, s_X9_nextLine_129, s_X9_nextLine_132, s_X9_nextLine_134, s_X9_nextLine_135, s_X9_nextLine_136, s_X9_nextLine_137, s_X9_nextLine_140, s_X9_nextLine_142, s_X9_nextLine_143, s_X9_nextLine_144, s_X9_nextLine_147, s_X9_nextLine_150, s_X9_nextLine_153, s_X9_nextLine_154, zI_0, Bool.true_eq_false, Bool.false_eq_true, not_true_eq_false, not_false_eq_true, if_true, if_false, KV_ap, KU_ap, dropL_nil, s.1, f1, mm]
  refine Eq.mpr (lK (n - 1) (Nat.le_refl _)) ?_
  rw [s_X9_nextLine_34]
  have hdl := dnK_le c (n - 1)
  by_cases e0 : dnK c (n - 1) = 0
  · have z := k0 (by rw [nxL, if_pos e0])
    rw [e0]
    simp only [s_X9_nextLine_35, m0', if_false, s_X9_nextLine_38]
    rw [s_X9_nextLine_39 (Or.inl rfl)]
    exact z
  · have hst := dnK_st c (n - 1) e0
    obtain ⟨k, ek⟩ : ∃ k, dnK c (n - 1) = k + 1 := ⟨dnK c (n - 1) - 1, by omega⟩
    have nx : nxL n c = some (rvL 4 (swL c k (dnJ c (c.getD k 0) (n - 1))) (k + 1) (n - 1)) := by rw [nxL, if_neg e0, ek, Nat.add_sub_cancel]
    rw [ek, Nat.add_sub_cancel] at hst
    rw [ek] at hdl
    have k1' := fun f' => k1 _ f' nx
    rw [ek, sN k]
    have bk := hb k
    have lJ : ∀ j, k + 1 ≤ j → j ≤ n - 1 → J g k_X9_nextLine 47 [.ref M, .int (nI k), .int (nI j), m_D, m_D, m_D] [] [] h Φ = J g k_X9_nextLine 68 [.ref M, .int (nI k), .int (nI (dnJ c (c.getD k 0) j)), m_D, m_D, m_D] [] [] h Φ := by
      intro j
      induction j with
      | zero => intro z; omega
      | succ j ih =>
        intro hj hjn
        have b1 := hb (j + 1)
        rw [s_X9_nextLine_47]
        simp only [s_X9_nextLine_0, s_X9_nextLine_1, s_X9_nextLine_4, s_X9_nextLine_5, s_X9_nextLine_6, s_X9_nextLine_8, s_X9_nextLine_11, s_X9_nextLine_12, s_X9_nextLine_15, s_X9_nextLine_16, s_X9_nextLine_17, s_X9_nextLine_18, s_X9_nextLine_21, s_X9_nextLine_22, s_X9_nextLine_23, s_X9_nextLine_24, s_X9_nextLine_25, s_X9_nextLine_28, s_X9_nextLine_31, s_X9_nextLine_35, s_X9_nextLine_38, s_X9_nextLine_39, s_X9_nextLine_40, s_X9_nextLine_41, s_X9_nextLine_44, s_X9_nextLine_45, s_X9_nextLine_46, s_X9_nextLine_48, s_X9_nextLine_51, s_X9_nextLine_52, s_X9_nextLine_53, s_X9_nextLine_54, s_X9_nextLine_57, s_X9_nextLine_58, s_X9_nextLine_59, s_X9_nextLine_62, s_X9_nextLine_65, s_X9_nextLine_69, s_X9_nextLine_72, s_X9_nextLine_73, s_X9_nextLine_74, s_X9_nextLine_75, s_X9_nextLine_76, s_X9_nextLine_79, s_X9_nextLine_80, s_X9_nextLine_81, s_X9_nextLine_84, s_X9_nextLine_85, s_X9_nextLine_86, s_X9_nextLine_87, s_X9_nextLine_88, s_X9_nextLine_91, s_X9_nextLine_92, s_X9_nextLine_93, s_X9_nextLine_94, s_X9_nextLine_95, s_X9_nextLine_96, s_X9_nextLine_97, s_X9_nextLine_99, s_X9_nextLine_100, s_X9_nextLine_103, s_X9_nextLine_104, s_X9_nextLine_105, s_X9_nextLine_107, s_X9_nextLine_109, s_X9_nextLine_111, s_X9_nextLine_114, s_X9_nextLine_115, s_X9_nextLine_118, s_X9_nextLine_120, s_X9_nextLine_121, s_X9_nextLine_122, s_X9_nextLine_123, s_X9_nextLine_126, s_X9_nextLine_128, s_X9_nextLine_129, s_X9_nextLine_132, s_X9_nextLine_134, s_X9_nextLine_135, s_X9_nextLine_136, s_X9_nextLine_137, s_X9_nextLine_140, s_X9_nextLine_142, s_X9_nextLine_143, s_X9_nextLine_144, s_X9_nextLine_147, s_X9_nextLine_150, s_X9_nextLine_153, s_X9_nextLine_154, zI_0, Bool.true_eq_false, Bool.false_eq_true, not_true_eq_false, not_false_eq_true, if_true, if_false, KV_ap, KU_ap, dropL_nil, s.1, r19, s13, ib k (by omega), ib (j + 1) (by omega), cl_nI (show k < 2147483648 by omega), cl_nI (show j + 1 < 2147483648 by omega), hl k (by omega), hl (j + 1) (by omega), le_nI (show c.getD k 0 < 2147483648 by omega) (show c.getD (j + 1) 0 < 2147483648 by omega), am1]
        rw [dnJ]
        by_cases e : c.getD (j + 1) 0 < c.getD k 0
        · rw [if_neg (by omega), if_pos e]
          refine ih ?_ (by omega)
          by_cases z : j = k
          · subst z; omega
          · omega
        · rw [if_pos (by omega), if_neg e]
    obtain ⟨g1, g2⟩ := dnJ_ge (x := c.getD k 0) hst (n - 1) (by omega)
    simp only [s_X9_nextLine_0, s_X9_nextLine_1, s_X9_nextLine_4, s_X9_nextLine_5, s_X9_nextLine_6, s_X9_nextLine_8, s_X9_nextLine_11, s_X9_nextLine_12, s_X9_nextLine_15, s_X9_nextLine_16, s_X9_nextLine_17, s_X9_nextLine_18, s_X9_nextLine_21, s_X9_nextLine_22, s_X9_nextLine_23, s_X9_nextLine_24, s_X9_nextLine_25, s_X9_nextLine_28, s_X9_nextLine_31, s_X9_nextLine_35, s_X9_nextLine_38, s_X9_nextLine_39, s_X9_nextLine_40, s_X9_nextLine_41, s_X9_nextLine_44, s_X9_nextLine_45, s_X9_nextLine_46, s_X9_nextLine_48, s_X9_nextLine_51, s_X9_nextLine_52, s_X9_nextLine_53, s_X9_nextLine_54, s_X9_nextLine_57, s_X9_nextLine_58, s_X9_nextLine_59, s_X9_nextLine_62, s_X9_nextLine_65, s_X9_nextLine_69, s_X9_nextLine_72, s_X9_nextLine_73, s_X9_nextLine_74, s_X9_nextLine_75, s_X9_nextLine_76, s_X9_nextLine_79, s_X9_nextLine_80, s_X9_nextLine_81, s_X9_nextLine_84, s_X9_nextLine_85, s_X9_nextLine_86, s_X9_nextLine_87, s_X9_nextLine_88, s_X9_nextLine_91, s_X9_nextLine_92, s_X9_nextLine_93, s_X9_nextLine_94, s_X9_nextLine_95, s_X9_nextLine_96, s_X9_nextLine_97, s_X9_nextLine_99, s_X9_nextLine_100, s_X9_nextLine_103, s_X9_nextLine_104, s_X9_nextLine_105, s_X9_nextLine_107, s_X9_nextLine_109, s_X9_nextLine_111, s_X9_nextLine_114, s_X9_nextLine_115, s_X9_nextLine_118, s_X9_nextLine_120, s_X9_nextLine_121, s_X9_nextLine_122, s_X9_nextLine_123, s_X9_nextLine_126, s_X9_nextLine_128, s_X9_nextLine_129, s_X9_nextLine_132, s_X9_nextLine_134, s_X9_nextLine_135, s_X9_nextLine_136, s_X9_nextLine_137, s_X9_nextLine_140, s_X9_nextLine_142, s_X9_nextLine_143, s_X9_nextLine_144, s_X9_nextLine_147, s_X9_nextLine_150, s_X9_nextLine_153, s_X9_nextLine_154, zI_0, Bool.true_eq_false, Bool.false_eq_true, not_true_eq_false, not_false_eq_true, if_true, if_false, KV_ap, KU_ap, dropL_nil, ge0 (show k < 2147483648 by omega), s.1, f1, s1 hn1]
    refine Eq.mpr (lJ (n - 1) (by omega) (Nat.le_refl _)) ?_
    generalize hJ : dnJ c (c.getD k 0) (n - 1) = j at g1 g2 k1'
    have lR : ∀ F (d : List Nat) (x y : Nat) (f : Nat → Int32) (w : Value), y ≤ x + 2 * F → x ≤ y + 1 → y ≤ n - 1 → d.length = n → lnR f d → (∀ f', lnR f' (rvL F d x y) → Φ (.int 1) (pI h (M + 13) f')) → J g k_X9_nextLine 107 [.ref M, .int (nI k), .int (nI j), w, .int (nI x), .int (nI y)] [] [] (pI h (M + 13) f) Φ := by
      intro F
      induction F with
      | zero =>
        intro d x y f w hF hxy hy hd hf kk
        by_cases hx : x < 2147483648
        · rw [s_X9_nextLine_107]
          simp only [s_X9_nextLine_109, s_X9_nextLine_111, le_nI (show y < 2147483648 by omega) hx, show y ≤ x by omega, if_true, s_X9_nextLine_153]
          rw [s_X9_nextLine_154 (Or.inr rfl)]
          exact kk f hf
        · exact absurd hxy (by omega)
      | succ F ih =>
        intro d x y f w hF hxy hy hd hf kk
        rw [rvL] at kk
        by_cases e : x < y
        · rw [if_pos e] at kk
          obtain ⟨y', ey⟩ : ∃ y', y = y' + 1 := ⟨y - 1, by omega⟩
          subst ey
          rw [Nat.add_sub_cancel] at kk
          rw [s_X9_nextLine_107]
          simp only [s_X9_nextLine_0, s_X9_nextLine_1, s_X9_nextLine_4, s_X9_nextLine_5, s_X9_nextLine_6, s_X9_nextLine_8, s_X9_nextLine_11, s_X9_nextLine_12, s_X9_nextLine_15, s_X9_nextLine_16, s_X9_nextLine_17, s_X9_nextLine_18, s_X9_nextLine_21, s_X9_nextLine_22, s_X9_nextLine_23, s_X9_nextLine_24, s_X9_nextLine_25, s_X9_nextLine_28, s_X9_nextLine_31, s_X9_nextLine_35, s_X9_nextLine_38, s_X9_nextLine_39, s_X9_nextLine_40, s_X9_nextLine_41, s_X9_nextLine_44, s_X9_nextLine_45, s_X9_nextLine_46, s_X9_nextLine_48, s_X9_nextLine_51, s_X9_nextLine_52, s_X9_nextLine_53, s_X9_nextLine_54, s_X9_nextLine_57, s_X9_nextLine_58, s_X9_nextLine_59, s_X9_nextLine_62, s_X9_nextLine_65, s_X9_nextLine_69, s_X9_nextLine_72, s_X9_nextLine_73, s_X9_nextLine_74, s_X9_nextLine_75, s_X9_nextLine_76, s_X9_nextLine_79, s_X9_nextLine_80, s_X9_nextLine_81, s_X9_nextLine_84, s_X9_nextLine_85, s_X9_nextLine_86, s_X9_nextLine_87, s_X9_nextLine_88, s_X9_nextLine_91, s_X9_nextLine_92, s_X9_nextLine_93, s_X9_nextLine_94, s_X9_nextLine_95, s_X9_nextLine_96, s_X9_nextLine_97, s_X9_nextLine_99, s_X9_nextLine_100, s_X9_nextLine_103, s_X9_nextLine_104, s_X9_nextLine_105, s_X9_nextLine_109, s_X9_nextLine_111, s_X9_nextLine_114, s_X9_nextLine_115, s_X9_nextLine_118, s_X9_nextLine_120, s_X9_nextLine_121, s_X9_nextLine_122, s_X9_nextLine_123, s_X9_nextLine_126, s_X9_nextLine_128, s_X9_nextLine_129, s_X9_nextLine_132, s_X9_nextLine_134, s_X9_nextLine_135, s_X9_nextLine_136, s_X9_nextLine_137, s_X9_nextLine_140, s_X9_nextLine_142, s_X9_nextLine_143, s_X9_nextLine_144, s_X9_nextLine_147, s_X9_nextLine_150, s_X9_nextLine_153, s_X9_nextLine_154, zI_0, Bool.true_eq_false, Bool.false_eq_true, not_true_eq_false, not_false_eq_true, if_true, if_false, KV_ap, KU_ap, dropL_nil, le_nI (show y' + 1 < 2147483648 by omega) (show x < 2147483648 by omega), show ¬ y' + 1 ≤ x by omega, hS_pI, hF_pI, s.1, r19, s13, ib x (by omega), ib (y' + 1) (by omega), cl_nI (show x < 2147483648 by omega), cl_nI (show y' + 1 < 2147483648 by omega), hI_pIs, pI_pI, a1, am1]
          exact ih (swL d x (y' + 1)) (x + 1) y' _ _ (by omega) (by omega) (by omega) (by rw [swL_len]; exact hd) (lnR_sw (by omega) (by omega) hf) kk
        · rw [if_neg e] at kk
          by_cases hx : x < 2147483648
          · rw [s_X9_nextLine_107]
            simp only [s_X9_nextLine_109, s_X9_nextLine_111, le_nI (show y < 2147483648 by omega) hx, show y ≤ x by omega, if_true, s_X9_nextLine_153]
            rw [s_X9_nextLine_154 (Or.inr rfl)]
            exact kk f hf
          · exact absurd hx (by omega)
    rw [s_X9_nextLine_68]
    simp only [s_X9_nextLine_0, s_X9_nextLine_1, s_X9_nextLine_4, s_X9_nextLine_5, s_X9_nextLine_6, s_X9_nextLine_8, s_X9_nextLine_11, s_X9_nextLine_12, s_X9_nextLine_15, s_X9_nextLine_16, s_X9_nextLine_17, s_X9_nextLine_18, s_X9_nextLine_21, s_X9_nextLine_22, s_X9_nextLine_23, s_X9_nextLine_24, s_X9_nextLine_25, s_X9_nextLine_28, s_X9_nextLine_31, s_X9_nextLine_35, s_X9_nextLine_38, s_X9_nextLine_39, s_X9_nextLine_40, s_X9_nextLine_41, s_X9_nextLine_44, s_X9_nextLine_45, s_X9_nextLine_46, s_X9_nextLine_48, s_X9_nextLine_51, s_X9_nextLine_52, s_X9_nextLine_53, s_X9_nextLine_54, s_X9_nextLine_57, s_X9_nextLine_58, s_X9_nextLine_59, s_X9_nextLine_62, s_X9_nextLine_65, s_X9_nextLine_69, s_X9_nextLine_72, s_X9_nextLine_73, s_X9_nextLine_74, s_X9_nextLine_75, s_X9_nextLine_76, s_X9_nextLine_79, s_X9_nextLine_80, s_X9_nextLine_81, s_X9_nextLine_84, s_X9_nextLine_85, s_X9_nextLine_86, s_X9_nextLine_87, s_X9_nextLine_88, s_X9_nextLine_91, s_X9_nextLine_92, s_X9_nextLine_93, s_X9_nextLine_94, s_X9_nextLine_95, s_X9_nextLine_96, s_X9_nextLine_97, s_X9_nextLine_99, s_X9_nextLine_100, s_X9_nextLine_103, s_X9_nextLine_104, s_X9_nextLine_105, s_X9_nextLine_109, s_X9_nextLine_111, s_X9_nextLine_114, s_X9_nextLine_115, s_X9_nextLine_118, s_X9_nextLine_120, s_X9_nextLine_121, s_X9_nextLine_122, s_X9_nextLine_123, s_X9_nextLine_126, s_X9_nextLine_128, s_X9_nextLine_129, s_X9_nextLine_132, s_X9_nextLine_134, s_X9_nextLine_135, s_X9_nextLine_136, s_X9_nextLine_137, s_X9_nextLine_140, s_X9_nextLine_142, s_X9_nextLine_143, s_X9_nextLine_144, s_X9_nextLine_147, s_X9_nextLine_150, s_X9_nextLine_153, s_X9_nextLine_154, zI_0, Bool.true_eq_false, Bool.false_eq_true, not_true_eq_false, not_false_eq_true, if_true, if_false, KV_ap, KU_ap, dropL_nil, hS_pI, hF_pI, s.1, r19, s13, f1, ib k (by omega), ib j (by omega), cl_nI (show k < 2147483648 by omega), cl_nI (show j < 2147483648 by omega), hI_pIs, pI_pI, a1, s1 hn1]
    exact lR 4 (swL c k j) (k + 1) (n - 1) _ _ (by omega) (by omega) (Nat.le_refl _) (by rw [swL_len]; exact hc) (lnR_sw (by omega) (by omega) hl) k1'
end M33

/-! The model's calls: next -/
theorem itm_le (f : Nat → Nat) (c : Nat) : ∀ m i a, it (fun k m => mxN m (f k)) m i a ≤ c ↔ (a ≤ c ∧ ∀ k, i ≤ k → k < i + m → f k ≤ c) := by
  intro m
  induction m with
  | zero => intro i a; exact ⟨fun h => ⟨h, fun k h1 h2 => by omega⟩, fun h => h.1⟩
  | succ m ih =>
    intro i a
    rw [it, ih, mx_max]
    constructor
    · rintro ⟨h1, h2⟩
      refine ⟨by omega, fun k hk hk2 => ?_⟩
      by_cases e : k = i
      · subst e; omega
      · exact h2 k (by omega) (by omega)
    · rintro ⟨h1, h2⟩
      have := h2 i (by omega) (by omega)
      exact ⟨by omega, fun k hk hk2 => h2 k (by omega) (by omega)⟩
theorem itc_pos (p : Nat → Bool) : ∀ m i a, it (fun k m => if p k = true then m + 1 else m) m i a ≠ a → ∃ b, i ≤ b ∧ b < i + m ∧ p b = true := by
  intro m
  induction m with
  | zero => intro i a h; exact absurd rfl h
  | succ m ih =>
    intro i a h
    by_cases e : p i = true
    · exact ⟨i, by omega, by omega, e⟩
    · rw [it, if_neg e] at h
      obtain ⟨b, h1, h2, h3⟩ := ih (i + 1) a h
      exact ⟨b, by omega, by omega, h3⟩
/-- the most that are read alike, those alone that may be -/
def mkN (K : Nat) (r : Nat → Nat) : Nat := it (fun k m => mxN m (if K.testBit k = true then ksN K r (r k) else 0)) 6 0 0
theorem mk_ma (K : Nat) (r : Nat → Nat) : mkN K r = maN K r := by
  apply Nat.le_antisymm
  · refine (itm_le _ _ 6 0 0).mpr ⟨Nat.zero_le _, fun k _ hk => ?_⟩
    have := ((itm_le (fun k => ksN K r (r k)) (maN K r) 6 0 0).mp (Nat.le_refl _)).2 k (Nat.zero_le _) hk
    split
    · exact this
    · exact Nat.zero_le _
  · refine (itm_le _ _ 6 0 0).mpr ⟨Nat.zero_le _, fun k _ hk => ?_⟩
    by_cases e : ksN K r (r k) = 0
    · rw [e]; exact Nat.zero_le _
    · obtain ⟨b, _, hb, hp⟩ := itc_pos (fun j => K.testBit j && decide (r j = r k)) 6 0 0 e
      simp only [Bool.and_eq_true, decide_eq_true_eq] at hp
      have := ((itm_le (fun k => if K.testBit k = true then ksN K r (r k) else 0) (mkN K r) 6 0 0).mp (Nat.le_refl _)).2 b (Nat.zero_le _) hb
      rw [if_pos hp.1, hp.2] at this
      exact this
section M24
variable {g : GL} {h : HP} {Φ : Value → HP → Prop} {M : Nat} {u : XS}
theorem p_has {K k : Nat} (hK : K < 64) (hk : k < 6) : J g k_X9_has 0 [.int (nI K), .int (nI k)] [] [] h Φ = Φ (.int (zI (K.testBit k))) h := by
  have e : K.testBit k = decide (K / 2 ^ k % 2 = 1) := Nat.testBit_eq_decide_div_mod_eq
  have hm : K / 2 ^ k % 2 < 2 := Nat.mod_lt _ (by decide)
  have q1 : (nI (K / 2 ^ k % 2) = 1) = (K / 2 ^ k % 2 = 1) := eq_nI (show K / 2 ^ k % 2 < 2147483648 by omega) (show 1 < 2147483648 by decide)
  simp only [s_X9_has_0, s_X9_has_1, s_X9_has_2, s_X9_has_3, s_X9_has_4, s_X9_has_5, s_X9_has_6, s_X9_has_9, s_X9_has_10, s_X9_has_13, s_X9_has_14, sh_bit k (by omega) K (by omega), q1, true_or, or_true, e]
  by_cases z : K / 2 ^ k % 2 = 1
  · rw [if_neg (not_not_intro z), decide_eq_true z]; rfl
  · rw [if_pos z, decide_eq_false z]; rfl
theorem p_alike (hM : isM h M u) {j x K : Nat} (hj : j < u.1.1.length) (hx : x < 9) (hK : K < 64) : J g k_X9_alike 0 [.ref M, .int (nI j), .int (nI K), .int (nI x), m_D, m_D, m_D, m_D, m_D] [] [] h Φ = Φ (.int (nI (maN K (rK (gS u.1.1 j) x)))) h := by
  have hl := hM.2.2.2.1.1
  obtain ⟨v1, v2, v3, v4⟩ := hM.2.2.2.1.2.2.2.1 j hj
  obtain ⟨e0, e1, e2, e3⟩ := hM.2.2.2.2.1 j hj
  have s := hM.1
  have q3 := hM.2.1.2.1 3 (by decide) (by decide)
  have q5 := hM.2.1.2.1 5 (by decide) (by decide)
  have b6 : m_inb (nI j) 6 = true := by rw [inb_nI (by omega)]; simpa using (show j < 6 by omega)
  have c5' : ∀ j : Nat, j < 2147483648 → ((5 : Int32) < nI j) = (5 < j) := fun j hj => lt_nI (show 5 < 2147483648 by decide) hj
  have w9 : (gS u.1.1 j).2.2.2 < 19 := by omega
  have hr : ∀ k, rK (gS u.1.1 j) x k < 100000 := fun k => rdX_lt v2 hx w9
  have pr : ∀ k (Ψ : Value → HP → Prop), k < 6 → J g k_X9_readBy 0 [.int (nI k), .int (nI (gS u.1.1 j).2.1), .int (nI x), .int (nI (gS u.1.1 j).2.2.2)] [] [] h Ψ = Ψ (.int (nI (rK (gS u.1.1 j) x k))) h := fun k Ψ hk => p_readBy hk v2 hx w9
  have inner : ∀ a (mo : Int32) (vs : Value), a < 6 → ∃ ve : Value, J g k_X9_alike 18 [.ref M, .int (nI j), .int (nI K), .int (nI x), .int mo, .int (nI a), .int 0, .int 0, vs] [] [] h Φ = J g k_X9_alike 109 [.ref M, .int (nI j), .int (nI K), .int (nI x), .int mo, .int (nI a), .int (nI (if K.testBit a = true then ksN K (rK (gS u.1.1 j) x) (rK (gS u.1.1 j) x a) else 0)), .int (nI 6), ve] [] [] h Φ := by
    intro a mo vs ha
    have key := J_it0 (fun b (q : Nat × Value) => J g k_X9_alike 18 [.ref M, .int (nI j), .int (nI K), .int (nI x), .int mo, .int (nI a), .int (nI q.1), .int (nI b), q.2] [] [] h Φ) (fun b q => ((if (K.testBit a && (K.testBit b && decide (rK (gS u.1.1 j) x b = rK (gS u.1.1 j) x a))) = true then q.1 + 1 else q.1), .int (zI (decide (rK (gS u.1.1 j) x a = rK (gS u.1.1 j) x b))))) 6 (fun b q hb => by
      have ra := hr a
      have rb := hr b
      rw [s_X9_alike_18]
      simp only [s_X9_alike_0, s_X9_alike_1, s_X9_alike_3, s_X9_alike_4, s_X9_alike_6, s_X9_alike_8, s_X9_alike_9, s_X9_alike_12, s_X9_alike_13, s_X9_alike_15, s_X9_alike_16, s_X9_alike_20, s_X9_alike_21, s_X9_alike_24, s_X9_alike_26, s_X9_alike_27, s_X9_alike_30, s_X9_alike_31, s_X9_alike_32, s_X9_alike_33, s_X9_alike_34, s_X9_alike_37, s_X9_alike_38, s_X9_alike_39, s_X9_alike_42, s_X9_alike_44, s_X9_alike_45, s_X9_alike_48, s_X9_alike_49, s_X9_alike_50, s_X9_alike_51, s_X9_alike_52, s_X9_alike_55, s_X9_alike_56, s_X9_alike_57, s_X9_alike_60, s_X9_alike_63, s_X9_alike_64, s_X9_alike_67, s_X9_alike_70, s_X9_alike_72, s_X9_alike_73, s_X9_alike_75, s_X9_alike_78, s_X9_alike_81, s_X9_alike_82, s_X9_alike_84, s_X9_alike_87, s_X9_alike_90, s_X9_alike_92, s_X9_alike_95, s_X9_alike_96, s_X9_alike_99, s_X9_alike_100, s_X9_alike_101, s_X9_alike_103, s_X9_alike_106, s_X9_alike_109, s_X9_alike_111, s_X9_alike_113, s_X9_alike_116, s_X9_alike_118, s_X9_alike_121, s_X9_alike_124, s_X9_alike_126, zI_0, Bool.true_eq_false, Bool.false_eq_true, not_true_eq_false, not_false_eq_true, if_true, if_false, KV_ap, KU_ap, dropL_nil, c5' b (by omega), if_neg (show ¬ 5 < b by omega), s.1, s.2.2.2.1, s.2.2.2.2.2.1, q3, q5, b6, cl_nI (show j < 2147483648 by omega), e1, e3, pr a _ ha, pr b _ hb, eq_nI (show rK (gS u.1.1 j) x a < 2147483648 by omega) (show rK (gS u.1.1 j) x b < 2147483648 by omega)]
      have two : ∀ z : Bool, J g k_X9_alike 68 [.ref M, .int (nI j), .int (nI K), .int (nI x), .int mo, .int (nI a), .int (nI q.1), .int (nI b), q.2] [] [.int (zI z)] h Φ = J g k_X9_alike 18 [.ref M, .int (nI j), .int (nI K), .int (nI x), .int mo, .int (nI a), .int (nI (if (K.testBit a && (K.testBit b && z)) = true then q.1 + 1 else q.1)), .int (nI (b + 1)), .int (zI z)] [] [] h Φ := fun z => by
        have n0 : nI q.1 + (0 : Int32) = nI q.1 := i_add q.1 0
        simp only [s_X9_alike_0, s_X9_alike_1, s_X9_alike_3, s_X9_alike_4, s_X9_alike_6, s_X9_alike_8, s_X9_alike_9, s_X9_alike_12, s_X9_alike_13, s_X9_alike_15, s_X9_alike_16, s_X9_alike_20, s_X9_alike_21, s_X9_alike_24, s_X9_alike_26, s_X9_alike_27, s_X9_alike_30, s_X9_alike_31, s_X9_alike_32, s_X9_alike_33, s_X9_alike_34, s_X9_alike_37, s_X9_alike_38, s_X9_alike_39, s_X9_alike_42, s_X9_alike_44, s_X9_alike_45, s_X9_alike_48, s_X9_alike_49, s_X9_alike_50, s_X9_alike_51, s_X9_alike_52, s_X9_alike_55, s_X9_alike_56, s_X9_alike_57, s_X9_alike_60, s_X9_alike_63, s_X9_alike_64, s_X9_alike_67, s_X9_alike_68, s_X9_alike_70, s_X9_alike_72, s_X9_alike_73, s_X9_alike_75, s_X9_alike_78, s_X9_alike_81, s_X9_alike_82, s_X9_alike_84, s_X9_alike_87, s_X9_alike_90, s_X9_alike_92, s_X9_alike_95, s_X9_alike_96, s_X9_alike_99, s_X9_alike_100, s_X9_alike_101, s_X9_alike_103, s_X9_alike_106, s_X9_alike_109, s_X9_alike_111, s_X9_alike_113, s_X9_alike_116, s_X9_alike_118, s_X9_alike_121, s_X9_alike_124, s_X9_alike_126, zI_0, Bool.true_eq_false, Bool.false_eq_true, not_true_eq_false, not_false_eq_true, if_true, if_false, KV_ap, KU_ap, dropL_nil, p_has hK ha, p_has hK hb, a1]
        cases K.testBit a
        · simp only [if_true, Bool.false_and, Bool.false_eq_true, if_false, n0]
        · cases K.testBit b
          · simp only [if_true, Bool.false_and, Bool.and_false, Bool.true_eq_false, Bool.false_eq_true, if_false, n0]
          · cases z
            · simp only [if_true, Bool.and_false, Bool.true_eq_false, Bool.false_eq_true, if_false, n0]
            · simp only [Bool.and_self, Bool.true_eq_false, if_true, if_false]
      by_cases e : rK (gS u.1.1 j) x a = rK (gS u.1.1 j) x b
      · rw [if_neg (not_not_intro e), decide_eq_true e, decide_eq_true e.symm]
        exact two true
      · rw [if_pos e, decide_eq_false e, decide_eq_false (fun z => e z.symm)]
        exact two false) (0, vs)
    refine ⟨(it (fun b (q : Nat × Value) => ((if (K.testBit a && (K.testBit b && decide (rK (gS u.1.1 j) x b = rK (gS u.1.1 j) x a))) = true then q.1 + 1 else q.1), Value.int (zI (decide (rK (gS u.1.1 j) x a = rK (gS u.1.1 j) x b))))) 6 0 (0, vs)).2, Eq.trans key ?_⟩
    rw [s_X9_alike_18]
    simp only [s_X9_alike_0, s_X9_alike_1, s_X9_alike_3, s_X9_alike_4, s_X9_alike_6, s_X9_alike_8, s_X9_alike_9, s_X9_alike_12, s_X9_alike_13, s_X9_alike_15, s_X9_alike_16, s_X9_alike_20, s_X9_alike_21, s_X9_alike_24, s_X9_alike_26, s_X9_alike_27, s_X9_alike_30, s_X9_alike_31, s_X9_alike_32, s_X9_alike_33, s_X9_alike_34, s_X9_alike_37, s_X9_alike_38, s_X9_alike_39, s_X9_alike_42, s_X9_alike_44, s_X9_alike_45, s_X9_alike_48, s_X9_alike_49, s_X9_alike_50, s_X9_alike_51, s_X9_alike_52, s_X9_alike_55, s_X9_alike_56, s_X9_alike_57, s_X9_alike_60, s_X9_alike_63, s_X9_alike_64, s_X9_alike_67, s_X9_alike_68, s_X9_alike_70, s_X9_alike_72, s_X9_alike_73, s_X9_alike_75, s_X9_alike_78, s_X9_alike_81, s_X9_alike_82, s_X9_alike_84, s_X9_alike_87, s_X9_alike_90, s_X9_alike_92, s_X9_alike_95, s_X9_alike_96, s_X9_alike_99, s_X9_alike_100, s_X9_alike_101, s_X9_alike_103, s_X9_alike_106, s_X9_alike_111, s_X9_alike_113, s_X9_alike_116, s_X9_alike_118, s_X9_alike_121, s_X9_alike_124, s_X9_alike_126, zI_0, Bool.true_eq_false, Bool.false_eq_true, not_true_eq_false, not_false_eq_true, if_true, if_false, KV_ap, KU_ap, dropL_nil, c5' 6 (by decide), show (5 < 6) = True by decide]
    have e2 : ∀ m i (q : Nat × Value), (it (fun b (q : Nat × Value) => ((if (K.testBit a && (K.testBit b && decide (rK (gS u.1.1 j) x b = rK (gS u.1.1 j) x a))) = true then q.1 + 1 else q.1), Value.int (zI (decide (rK (gS u.1.1 j) x a = rK (gS u.1.1 j) x b))))) m i q).1 = if K.testBit a = true then it (fun k m => if (K.testBit k && decide (rK (gS u.1.1 j) x k = rK (gS u.1.1 j) x a)) = true then m + 1 else m) m i q.1 else q.1 := by
      intro m
      induction m with
      | zero => intro i q; split <;> rfl
      | succ m ih =>
        intro i q
        rw [it, ih, it]
        cases K.testBit a
        · simp only [Bool.false_and, Bool.false_eq_true, if_false]
        · simp only [Bool.true_and, if_true]
    rw [e2]
    rfl
  simp only [s_X9_alike_0, s_X9_alike_1, s_X9_alike_3, s_X9_alike_4, s_X9_alike_8, s_X9_alike_9, s_X9_alike_12, s_X9_alike_13, s_X9_alike_15, s_X9_alike_16, s_X9_alike_20, s_X9_alike_21, s_X9_alike_24, s_X9_alike_26, s_X9_alike_27, s_X9_alike_30, s_X9_alike_31, s_X9_alike_32, s_X9_alike_33, s_X9_alike_34, s_X9_alike_37, s_X9_alike_38, s_X9_alike_39, s_X9_alike_42, s_X9_alike_44, s_X9_alike_45, s_X9_alike_48, s_X9_alike_49, s_X9_alike_50, s_X9_alike_51, s_X9_alike_52, s_X9_alike_55, s_X9_alike_56, s_X9_alike_57, s_X9_alike_60, s_X9_alike_63, s_X9_alike_64, s_X9_alike_67, s_X9_alike_68, s_X9_alike_70, s_X9_alike_72, s_X9_alike_73, s_X9_alike_75, s_X9_alike_78, s_X9_alike_81, s_X9_alike_82, s_X9_alike_84, s_X9_alike_87, s_X9_alike_90, s_X9_alike_92, s_X9_alike_95, s_X9_alike_96, s_X9_alike_99, s_X9_alike_100, s_X9_alike_101, s_X9_alike_103, s_X9_alike_106, s_X9_alike_109, s_X9_alike_111, s_X9_alike_113, s_X9_alike_116, s_X9_alike_118, s_X9_alike_121, s_X9_alike_124, s_X9_alike_126, zI_0, Bool.true_eq_false, Bool.false_eq_true, not_true_eq_false, not_false_eq_true, if_true, if_false, KV_ap, KU_ap, dropL_nil]
  have key : ∀ m a mo (vc vb vs : Value), a + m = 6 → J g k_X9_alike 6 [.ref M, .int (nI j), .int (nI K), .int (nI x), .int (nI mo), .int (nI a), vc, vb, vs] [] [] h Φ = Φ (.int (nI (it (fun k m => mxN m (if K.testBit k = true then ksN K (rK (gS u.1.1 j) x) (rK (gS u.1.1 j) x k) else 0)) m a mo))) h ∨ ¬ mo ≤ 6 := by
    intro m
    induction m with
    | zero =>
      intro a mo vc vb vs ha
      left
      have : a = 6 := by omega
      subst this
      rw [s_X9_alike_6]
      simp only [s_X9_alike_0, s_X9_alike_1, s_X9_alike_3, s_X9_alike_4, s_X9_alike_8, s_X9_alike_9, s_X9_alike_12, s_X9_alike_13, s_X9_alike_15, s_X9_alike_16, s_X9_alike_20, s_X9_alike_21, s_X9_alike_24, s_X9_alike_26, s_X9_alike_27, s_X9_alike_30, s_X9_alike_31, s_X9_alike_32, s_X9_alike_33, s_X9_alike_34, s_X9_alike_37, s_X9_alike_38, s_X9_alike_39, s_X9_alike_42, s_X9_alike_44, s_X9_alike_45, s_X9_alike_48, s_X9_alike_49, s_X9_alike_50, s_X9_alike_51, s_X9_alike_52, s_X9_alike_55, s_X9_alike_56, s_X9_alike_57, s_X9_alike_60, s_X9_alike_63, s_X9_alike_64, s_X9_alike_67, s_X9_alike_68, s_X9_alike_70, s_X9_alike_72, s_X9_alike_73, s_X9_alike_75, s_X9_alike_78, s_X9_alike_81, s_X9_alike_82, s_X9_alike_84, s_X9_alike_87, s_X9_alike_90, s_X9_alike_92, s_X9_alike_95, s_X9_alike_96, s_X9_alike_99, s_X9_alike_100, s_X9_alike_101, s_X9_alike_103, s_X9_alike_106, s_X9_alike_109, s_X9_alike_111, s_X9_alike_113, s_X9_alike_116, s_X9_alike_118, s_X9_alike_121, s_X9_alike_124, s_X9_alike_126, zI_0, Bool.true_eq_false, Bool.false_eq_true, not_true_eq_false, not_false_eq_true, if_true, if_false, KV_ap, KU_ap, dropL_nil, c5' 6 (by decide), show (5 < 6) = True by decide]
      rfl
    | succ m ih =>
      intro a mo vc vb vs ha
      by_cases hmo : mo ≤ 6
      · left
        obtain ⟨ve, hve⟩ := inner a (nI mo) vs (by omega)
        have hk : (if K.testBit a = true then ksN K (rK (gS u.1.1 j) x) (rK (gS u.1.1 j) x a) else 0) ≤ 6 := by
          split
          · exact ksN_le _ _ _
          · omega
        rw [s_X9_alike_6]
        simp only [s_X9_alike_0, s_X9_alike_1, s_X9_alike_3, s_X9_alike_4, s_X9_alike_8, s_X9_alike_9, s_X9_alike_12, s_X9_alike_13, s_X9_alike_15, s_X9_alike_16, s_X9_alike_20, s_X9_alike_21, s_X9_alike_24, s_X9_alike_26, s_X9_alike_27, s_X9_alike_30, s_X9_alike_31, s_X9_alike_32, s_X9_alike_33, s_X9_alike_34, s_X9_alike_37, s_X9_alike_38, s_X9_alike_39, s_X9_alike_42, s_X9_alike_44, s_X9_alike_45, s_X9_alike_48, s_X9_alike_49, s_X9_alike_50, s_X9_alike_51, s_X9_alike_52, s_X9_alike_55, s_X9_alike_56, s_X9_alike_57, s_X9_alike_60, s_X9_alike_63, s_X9_alike_64, s_X9_alike_67, s_X9_alike_68, s_X9_alike_70, s_X9_alike_72, s_X9_alike_73, s_X9_alike_75, s_X9_alike_78, s_X9_alike_81, s_X9_alike_82, s_X9_alike_84, s_X9_alike_87, s_X9_alike_90, s_X9_alike_92, s_X9_alike_95, s_X9_alike_96, s_X9_alike_99, s_X9_alike_100, s_X9_alike_101, s_X9_alike_103, s_X9_alike_106, s_X9_alike_109, s_X9_alike_111, s_X9_alike_113, s_X9_alike_116, s_X9_alike_118, s_X9_alike_121, s_X9_alike_124, s_X9_alike_126, zI_0, Bool.true_eq_false, Bool.false_eq_true, not_true_eq_false, not_false_eq_true, if_true, if_false, KV_ap, KU_ap, dropL_nil, c5' a (by omega), if_neg (show ¬ 5 < a by omega)]
        refine Eq.trans hve ?_
        rw [s_X9_alike_109]
        simp only [s_X9_alike_0, s_X9_alike_1, s_X9_alike_3, s_X9_alike_4, s_X9_alike_8, s_X9_alike_9, s_X9_alike_12, s_X9_alike_13, s_X9_alike_15, s_X9_alike_16, s_X9_alike_20, s_X9_alike_21, s_X9_alike_24, s_X9_alike_26, s_X9_alike_27, s_X9_alike_30, s_X9_alike_31, s_X9_alike_32, s_X9_alike_33, s_X9_alike_34, s_X9_alike_37, s_X9_alike_38, s_X9_alike_39, s_X9_alike_42, s_X9_alike_44, s_X9_alike_45, s_X9_alike_48, s_X9_alike_49, s_X9_alike_50, s_X9_alike_51, s_X9_alike_52, s_X9_alike_55, s_X9_alike_56, s_X9_alike_57, s_X9_alike_60, s_X9_alike_63, s_X9_alike_64, s_X9_alike_67, s_X9_alike_68, s_X9_alike_70, s_X9_alike_72, s_X9_alike_73, s_X9_alike_75, s_X9_alike_78, s_X9_alike_81, s_X9_alike_82, s_X9_alike_84, s_X9_alike_87, s_X9_alike_90, s_X9_alike_92, s_X9_alike_95, s_X9_alike_96, s_X9_alike_99, s_X9_alike_100, s_X9_alike_101, s_X9_alike_103, s_X9_alike_106, s_X9_alike_109, s_X9_alike_111, s_X9_alike_113, s_X9_alike_116, s_X9_alike_118, s_X9_alike_121, s_X9_alike_124, s_X9_alike_126, zI_0, Bool.true_eq_false, Bool.false_eq_true, not_true_eq_false, not_false_eq_true, if_true, if_false, KV_ap, KU_ap, dropL_nil, p_greater, gr_mx (show mo < 2147483648 by omega) (show (if K.testBit a = true then ksN K (rK (gS u.1.1 j) x) (rK (gS u.1.1 j) x a) else 0) < 2147483648 by omega), a1]
        rcases ih (a + 1) (mxN mo (if K.testBit a = true then ksN K (rK (gS u.1.1 j) x) (rK (gS u.1.1 j) x a) else 0)) (.int (nI (if K.testBit a = true then ksN K (rK (gS u.1.1 j) x) (rK (gS u.1.1 j) x a) else 0))) (.int (nI 6)) ve (by omega) with z | z
        · exact z
        · exact absurd (by rw [mx_max]; omega) z
      · exact Or.inr hmo
  rcases key 6 0 0 m_D m_D m_D rfl with z | z
  · rw [← mk_ma]
    exact z
  · exact absurd (Nat.zero_le _) z
end M24
theorem nx_eq (f : Nat → Nat) : ∀ m i (q : Nat × Nat), it (fun x (q : Int32 × Nat) => if f x < q.2 then (nI x, f x) else q) m i (nI q.1, q.2) = (nI (it (fun x (q : Nat × Nat) => if f x < q.2 then (x, f x) else q) m i q).1, (it (fun x (q : Nat × Nat) => if f x < q.2 then (x, f x) else q) m i q).2) := by
  intro m
  induction m with
  | zero => intro i q; rfl
  | succ m ih =>
    intro i q
    rw [it, it]
    by_cases e : f i < q.2
    · simp only [e, if_true]
      exact ih (i + 1) (i, f i)
    · simp only [e, if_false]
      exact ih (i + 1) q
theorem m_next (v : Int32) : cM k_X9_next [.int v, m_D, m_D, m_D, m_D, m_D] (aNext v) := by
  intro g h M u Φ hM k
  have hl := hM.2.2.2.1.1
  cases g1 : decide (0 ≤ v ∧ v < nI u.1.1.length)
  · have e : aNext v u = (.int (-2), bdU u 0) := by simp only [aNext, g1, Bool.false_eq_true, if_false]
    rw [e] at k
    simp only [s_X9_next_0, s_X9_next_1, s_X9_next_2, s_X9_next_5, s_X9_next_8, s_X9_next_9, s_X9_next_12, s_X9_next_13, s_X9_next_14, s_X9_next_15, s_X9_next_18, s_X9_next_19, s_X9_next_20, s_X9_next_21, s_X9_next_23, s_X9_next_25, s_X9_next_26, s_X9_next_30, s_X9_next_32, s_X9_next_35, s_X9_next_36, s_X9_next_39, s_X9_next_40, s_X9_next_41, s_X9_next_42, s_X9_next_44, s_X9_next_47, s_X9_next_49, s_X9_next_51, s_X9_next_53, s_X9_next_56, s_X9_next_58, s_X9_next_61, s_X9_next_62, s_X9_next_63, s_X9_next_65, s_X9_next_67, s_X9_next_70, s_X9_next_72, s_X9_next_75, s_X9_next_78, s_X9_next_79, zI_0, Bool.true_eq_false, Bool.false_eq_true, not_true_eq_false, not_false_eq_true, if_true, if_false, KV_ap, KU_ap, dropL_nil, hM.1.1, p_isStick hM, g1]
    exact p_bad hM (fun h' hM' hf => by simp only [KV_ap, s_X9_next_0, s_X9_next_1, s_X9_next_2, s_X9_next_5, s_X9_next_8, s_X9_next_9, s_X9_next_12, s_X9_next_13, s_X9_next_14, s_X9_next_15, s_X9_next_18, s_X9_next_19, s_X9_next_20, s_X9_next_21, s_X9_next_23, s_X9_next_25, s_X9_next_26, s_X9_next_30, s_X9_next_32, s_X9_next_35, s_X9_next_36, s_X9_next_39, s_X9_next_40, s_X9_next_41, s_X9_next_42, s_X9_next_44, s_X9_next_47, s_X9_next_49, s_X9_next_51, s_X9_next_53, s_X9_next_56, s_X9_next_58, s_X9_next_61, s_X9_next_62, s_X9_next_63, s_X9_next_65, s_X9_next_67, s_X9_next_70, s_X9_next_72, s_X9_next_75, s_X9_next_78, s_X9_next_79]; exact k h' hM' hf)
  · obtain ⟨j, ej, hj⟩ := hs_ex (show u.1.1.length < 2147483648 by omega) g1
    have e : aNext v u = (.int (if kfN u.1.2.1 j (gS u.1.1 j).2.1 = 0 then -1 else nI (nxN (kfN u.1.2.1 j (gS u.1.1 j).2.1) (gS u.1.1 j)).1), u) := by
      simp only [aNext, g1, if_true]
      rw [ej, cl_nI (show j < 2147483648 by omega)]
    rw [e] at k
    subst ej
    have k' := k h hM (frm_rfl h _ _)
    have hK := kfN_lt u.1.2.1 j (gS u.1.1 j).2.1
    simp only [s_X9_next_0, s_X9_next_1, s_X9_next_2, s_X9_next_5, s_X9_next_8, s_X9_next_9, s_X9_next_12, s_X9_next_13, s_X9_next_14, s_X9_next_15, s_X9_next_18, s_X9_next_19, s_X9_next_20, s_X9_next_21, s_X9_next_23, s_X9_next_25, s_X9_next_26, s_X9_next_30, s_X9_next_32, s_X9_next_35, s_X9_next_36, s_X9_next_39, s_X9_next_40, s_X9_next_41, s_X9_next_42, s_X9_next_44, s_X9_next_47, s_X9_next_49, s_X9_next_51, s_X9_next_53, s_X9_next_56, s_X9_next_58, s_X9_next_61, s_X9_next_62, s_X9_next_63, s_X9_next_65, s_X9_next_67, s_X9_next_70, s_X9_next_72, s_X9_next_75, s_X9_next_78, s_X9_next_79, zI_0, Bool.true_eq_false, Bool.false_eq_true, not_true_eq_false, not_false_eq_true, if_true, if_false, KV_ap, KU_ap, dropL_nil, hM.1.1, p_isStick hM, g1, p_kindsOf hM hj]
    generalize kfN u.1.2.1 j (gS u.1.1 j).2.1 = K at hK k'
    have c9' : ∀ k : Nat, k < 2147483648 → ((9 : Int32) ≤ nI k) = (9 ≤ k) := fun k hk => le_nI (show 9 < 2147483648 by decide) hk
    by_cases h0 : K = 0
    · rw [if_pos h0] at k'
      subst h0
      rw [s_X9_next_28]
      simp only [s_X9_next_0, s_X9_next_1, s_X9_next_2, s_X9_next_5, s_X9_next_8, s_X9_next_9, s_X9_next_12, s_X9_next_13, s_X9_next_14, s_X9_next_15, s_X9_next_18, s_X9_next_19, s_X9_next_20, s_X9_next_21, s_X9_next_23, s_X9_next_25, s_X9_next_26, s_X9_next_30, s_X9_next_32, s_X9_next_35, s_X9_next_36, s_X9_next_39, s_X9_next_40, s_X9_next_41, s_X9_next_42, s_X9_next_44, s_X9_next_47, s_X9_next_49, s_X9_next_51, s_X9_next_53, s_X9_next_56, s_X9_next_58, s_X9_next_61, s_X9_next_62, s_X9_next_63, s_X9_next_65, s_X9_next_67, s_X9_next_70, s_X9_next_72, s_X9_next_75, s_X9_next_78, s_X9_next_79, zI_0, Bool.true_eq_false, Bool.false_eq_true, not_true_eq_false, not_false_eq_true, if_true, if_false, KV_ap, KU_ap, dropL_nil]
      rw [if_neg (by decide), if_pos (show nI 0 = 0 from rfl)]
      exact k'
    · rw [if_neg h0] at k'
      have key := J_it (fun x (q : (Int32 × Nat) × Value) => J g k_X9_next 28 [.ref M, .int (nI j), .int (nI K), .int q.1.1, .int (nI q.1.2), .int (nI x), q.2] [] [] h Φ) (fun x q => ((if maN K (rK (gS u.1.1 j) x) < q.1.2 then (nI x, maN K (rK (gS u.1.1 j) x)) else q.1), .int (nI (maN K (rK (gS u.1.1 j) x))))) 9 (fun _ q => q.1.2 < 2147483648) (fun x q _ hq => by
          have := maN_le K (rK (gS u.1.1 j) x)
          dsimp only
          split
          · show maN K (rK (gS u.1.1 j) x) < _; omega
          · exact hq) (fun x q hx hq => by
        have hle := maN_le K (rK (gS u.1.1 j) x)
        rw [s_X9_next_28]
        simp only [s_X9_next_0, s_X9_next_1, s_X9_next_2, s_X9_next_5, s_X9_next_8, s_X9_next_9, s_X9_next_12, s_X9_next_13, s_X9_next_14, s_X9_next_15, s_X9_next_18, s_X9_next_19, s_X9_next_20, s_X9_next_21, s_X9_next_23, s_X9_next_25, s_X9_next_26, s_X9_next_30, s_X9_next_32, s_X9_next_35, s_X9_next_36, s_X9_next_39, s_X9_next_40, s_X9_next_41, s_X9_next_42, s_X9_next_44, s_X9_next_47, s_X9_next_49, s_X9_next_51, s_X9_next_53, s_X9_next_56, s_X9_next_58, s_X9_next_61, s_X9_next_62, s_X9_next_63, s_X9_next_65, s_X9_next_67, s_X9_next_70, s_X9_next_72, s_X9_next_75, s_X9_next_78, s_X9_next_79, zI_0, Bool.true_eq_false, Bool.false_eq_true, not_true_eq_false, not_false_eq_true, if_true, if_false, KV_ap, KU_ap, dropL_nil, c9' x (by omega), if_neg (Nat.not_le.mpr hx), eq0 (show K < 2147483648 by omega), h0, hM.1.1, p_alike hM hj hx hK, le_nI hq (show maN K (rK (gS u.1.1 j) x) < 2147483648 by omega), p_lesser, mn_nI hq (show maN K (rK (gS u.1.1 j) x) < 2147483648 by omega), a1]
        by_cases z : maN K (rK (gS u.1.1 j) x) < q.1.2
        · simp only [if_pos z, if_neg (show ¬ q.1.2 ≤ maN K (rK (gS u.1.1 j) x) by omega), Nat.min_eq_right (show maN K (rK (gS u.1.1 j) x) ≤ q.1.2 by omega)]
        · simp only [if_neg z, if_pos (show q.1.2 ≤ maN K (rK (gS u.1.1 j) x) by omega), Nat.min_eq_left (show q.1.2 ≤ maN K (rK (gS u.1.1 j) x) by omega)]) 9 0 ((-1, 1048576), m_D) rfl (by decide)
      refine Eq.mpr key.1 ?_
      have e2 : ∀ m i (q : (Int32 × Nat) × Value), (it (fun x (q : (Int32 × Nat) × Value) => ((if maN K (rK (gS u.1.1 j) x) < q.1.2 then (nI x, maN K (rK (gS u.1.1 j) x)) else q.1), Value.int (nI (maN K (rK (gS u.1.1 j) x))))) m i q).1 = it (fun x (q : Int32 × Nat) => if maN K (rK (gS u.1.1 j) x) < q.2 then (nI x, maN K (rK (gS u.1.1 j) x)) else q) m i q.1 := by
        intro m
        induction m with
        | zero => intro i q; rfl
        | succ m ih => intro i q; rw [it, it, ih]
      have l0 := maN_le K (rK (gS u.1.1 j) 0)
      have e3 : (it (fun x (q : Int32 × Nat) => if maN K (rK (gS u.1.1 j) x) < q.2 then (nI x, maN K (rK (gS u.1.1 j) x)) else q) 9 0 (-1, 1048576)).1 = nI (nxN K (gS u.1.1 j)).1 := by
        rw [it]
        dsimp only
        rw [if_pos (by omega)]
        have := nx_eq (fun x => maN K (rK (gS u.1.1 j) x)) 8 1 (0, maN K (rK (gS u.1.1 j) 0))
        dsimp only at this
        rw [Nat.zero_add, this]
        have e4 : nxN K (gS u.1.1 j) = it (fun x (q : Nat × Nat) => if maN K (rK (gS u.1.1 j) x) < q.2 then (x, maN K (rK (gS u.1.1 j) x)) else q) 8 1 (0, maN K (rK (gS u.1.1 j) 0)) := by
          show it (fun x (q : Nat × Nat) => if maN K (rK (gS u.1.1 j) x) < q.2 then (x, maN K (rK (gS u.1.1 j) x)) else q) 8 (0 + 1) (if maN K (rK (gS u.1.1 j) 0) < 7 then (0, maN K (rK (gS u.1.1 j) 0)) else (0, 7)) = _
          rw [if_pos (by omega)]
        rw [e4]
      rw [s_X9_next_28]
      simp only [s_X9_next_0, s_X9_next_1, s_X9_next_2, s_X9_next_5, s_X9_next_8, s_X9_next_9, s_X9_next_12, s_X9_next_13, s_X9_next_14, s_X9_next_15, s_X9_next_18, s_X9_next_19, s_X9_next_20, s_X9_next_21, s_X9_next_23, s_X9_next_25, s_X9_next_26, s_X9_next_30, s_X9_next_32, s_X9_next_35, s_X9_next_36, s_X9_next_39, s_X9_next_40, s_X9_next_41, s_X9_next_42, s_X9_next_44, s_X9_next_47, s_X9_next_49, s_X9_next_51, s_X9_next_53, s_X9_next_56, s_X9_next_58, s_X9_next_61, s_X9_next_62, s_X9_next_63, s_X9_next_65, s_X9_next_67, s_X9_next_70, s_X9_next_72, s_X9_next_75, s_X9_next_78, s_X9_next_79, zI_0, Bool.true_eq_false, Bool.false_eq_true, not_true_eq_false, not_false_eq_true, if_true, if_false, KV_ap, KU_ap, dropL_nil, c9' 9 (by decide), Nat.le_refl, e2, e3]
      exact k'

/-! The model's reading: numbers, ends -/
def fvN (tx : List Nat) (q n : Nat) : Nat := if n = 0 then 0 else if n = 1 then tx.getD q 0 - 48 else (tx.getD q 0 - 48) * 10 + (tx.getD (q + 1) 0 - 48)
section R8
variable {g : GL} {h0 h : HP} {Φ : Value → HP → Prop} {M : Nat} {tx : List Nat} {p : Nat} {D : List St}
theorem p_number (Q : mQ h0 h M tx p D) (lo hi : Nat) (l' u' : Int32) (el : l' = nI lo) (eh : u' = nI hi - 1) (hlo : lo < 100) (hhi : hi < 100) (k1 : nOk tx (sk tx p) lo hi = true → ∀ h', mQ h0 h' M tx (sk tx p + tl tx (sk tx p)) D → hF h' M 16 = .int (nI (nvN tx (sk tx p))) → hI h' (M + 11) = hI h (M + 11) → Φ (.int 1) h') (k0 : nOk tx (sk tx p) lo hi = false → ∀ h', mQ h0 h' M tx (sk tx p) D → hI h' (M + 11) = hI h (M + 11) → Φ (.int 0) h') : J g k_X9_number 0 [.ref M, .int l', .int u', m_D, m_D] [] [] h Φ := by
  subst el
  simp only [s_X9_number_0, s_X9_number_1, s_X9_number_4, s_X9_number_5, s_X9_number_6, s_X9_number_7, s_X9_number_10, s_X9_number_13, s_X9_number_14, s_X9_number_15, s_X9_number_16, s_X9_number_19, s_X9_number_22, s_X9_number_23, s_X9_number_26, s_X9_number_27, s_X9_number_30, s_X9_number_31, s_X9_number_32, s_X9_number_33, s_X9_number_36, s_X9_number_39, s_X9_number_40, s_X9_number_41, s_X9_number_44, s_X9_number_46, s_X9_number_48, s_X9_number_49, s_X9_number_50, s_X9_number_53, s_X9_number_54, s_X9_number_57, s_X9_number_58, s_X9_number_59, s_X9_number_60, s_X9_number_61, s_X9_number_63, s_X9_number_64, s_X9_number_67, s_X9_number_69, s_X9_number_71, s_X9_number_74, s_X9_number_77, s_X9_number_78, s_X9_number_79, s_X9_number_80, s_X9_number_83, s_X9_number_86, s_X9_number_88, s_X9_number_89, s_X9_number_90, s_X9_number_93, s_X9_number_96, s_X9_number_97, s_X9_number_98, s_X9_number_99, s_X9_number_101, s_X9_number_104, s_X9_number_105, s_X9_number_106, s_X9_number_109, s_X9_number_110, s_X9_number_111, s_X9_number_114, s_X9_number_115, zI_0, Bool.true_eq_false, Bool.false_eq_true, not_true_eq_false, not_false_eq_true, if_true, if_false, KV_ap, KU_ap, dropL_nil, Q.1.1.1]
  refine p_skip Q (fun h1 Q1 _ e11 => ?_)
  generalize hq : sk tx p = q at Q1 k1 k0
  obtain ⟨⟨s, s10, s11, f12, hl, hR⟩, z1, z2, z3, f13, hle, f14, hrd, hD6, hvD, hfr⟩ := id Q1
  have f11 : hF h1 M 11 = .ref (M + 10) := s.2.2.2.2.2.2.2.2.2.2.1
  have s48 : ∀ n : Nat, 48 ≤ n → nI n - (48 : Int32) = nI (n - 48) := fun n hn => i_sub hn
  have m10' : ∀ a : Nat, (10 : Int32) * nI a = nI (10 * a) := fun a => i_mul 10 a
  have rle := rn_le tx (s := 2) (by decide) hle
  have key : ∀ w n, rn tx 2 (q + n) = w → q + n ≤ tx.length → J g k_X9_number 9 [.ref M, .int (nI lo), .int u', .int (nI n), .int (nI (fvN tx q n))] [] [] h1 Φ = J g k_X9_number 77 [.ref M, .int (nI lo), .int u', .int (nI (n + w)), .int (nI (fvN tx q (n + w)))] [] [] h1 Φ := by
    intro w
    induction w with
    | zero =>
      intro n hn hlen
      have hsp := rn_end tx (s := 2) (by decide) 0 (q + n) hn
      rw [Nat.add_zero] at hsp
      rw [s_X9_number_9]
      by_cases z : q + n < tx.length
      · have b : m_inb (nI (q + n)) 150 = true := by rw [inb_nI (by omega)]; simpa using (show q + n < 150 by omega)
        have hr := hR (q + n) z
        have hs : decide (soN (tx.getD (q + n) 0) = 2) = false := decide_eq_false (by rw [← sp_in z]; exact hsp)
        simp only [s_X9_number_0, s_X9_number_1, s_X9_number_4, s_X9_number_5, s_X9_number_6, s_X9_number_7, s_X9_number_10, s_X9_number_13, s_X9_number_14, s_X9_number_15, s_X9_number_16, s_X9_number_19, s_X9_number_22, s_X9_number_23, s_X9_number_26, s_X9_number_27, s_X9_number_30, s_X9_number_31, s_X9_number_32, s_X9_number_33, s_X9_number_36, s_X9_number_39, s_X9_number_40, s_X9_number_41, s_X9_number_44, s_X9_number_46, s_X9_number_48, s_X9_number_49, s_X9_number_50, s_X9_number_53, s_X9_number_54, s_X9_number_57, s_X9_number_58, s_X9_number_59, s_X9_number_60, s_X9_number_61, s_X9_number_63, s_X9_number_64, s_X9_number_67, s_X9_number_69, s_X9_number_71, s_X9_number_74, s_X9_number_78, s_X9_number_79, s_X9_number_80, s_X9_number_83, s_X9_number_86, s_X9_number_88, s_X9_number_89, s_X9_number_90, s_X9_number_93, s_X9_number_96, s_X9_number_97, s_X9_number_98, s_X9_number_99, s_X9_number_101, s_X9_number_104, s_X9_number_105, s_X9_number_106, s_X9_number_109, s_X9_number_110, s_X9_number_111, s_X9_number_114, s_X9_number_115, zI_0, Bool.true_eq_false, Bool.false_eq_true, not_true_eq_false, not_false_eq_true, if_true, if_false, KV_ap, KU_ap, dropL_nil, s.1, f11, f12, f13, i_add, le_nI (show tx.length < 2147483648 by omega) (show q + n < 2147483648 by omega), show ¬ tx.length ≤ q + n by omega, s10, b, cl_nI (show q + n < 2147483648 by omega), hr.1, p_isFigure hr.2, hs, Nat.add_zero]
      · simp only [s_X9_number_0, s_X9_number_1, s_X9_number_4, s_X9_number_5, s_X9_number_6, s_X9_number_7, s_X9_number_10, s_X9_number_13, s_X9_number_14, s_X9_number_15, s_X9_number_16, s_X9_number_19, s_X9_number_22, s_X9_number_23, s_X9_number_26, s_X9_number_27, s_X9_number_30, s_X9_number_31, s_X9_number_32, s_X9_number_33, s_X9_number_36, s_X9_number_39, s_X9_number_40, s_X9_number_41, s_X9_number_44, s_X9_number_46, s_X9_number_48, s_X9_number_49, s_X9_number_50, s_X9_number_53, s_X9_number_54, s_X9_number_57, s_X9_number_58, s_X9_number_59, s_X9_number_60, s_X9_number_61, s_X9_number_63, s_X9_number_64, s_X9_number_67, s_X9_number_69, s_X9_number_71, s_X9_number_74, s_X9_number_78, s_X9_number_79, s_X9_number_80, s_X9_number_83, s_X9_number_86, s_X9_number_88, s_X9_number_89, s_X9_number_90, s_X9_number_93, s_X9_number_96, s_X9_number_97, s_X9_number_98, s_X9_number_99, s_X9_number_101, s_X9_number_104, s_X9_number_105, s_X9_number_106, s_X9_number_109, s_X9_number_110, s_X9_number_111, s_X9_number_114, s_X9_number_115, zI_0, Bool.true_eq_false, Bool.false_eq_true, not_true_eq_false, not_false_eq_true, if_true, if_false, KV_ap, KU_ap, dropL_nil, s.1, f11, f12, f13, i_add, le_nI (show tx.length < 2147483648 by omega) (show q + n < 2147483648 by omega), show tx.length ≤ q + n by omega, Nat.add_zero]
    | succ w ih =>
      intro n hn hlen
      have hsp := rn_in tx (s := 2) (by decide) 0 (q + n) (by omega)
      rw [Nat.add_zero] at hsp
      have z : q + n < tx.length := sp_lt (by rw [hsp]; decide)
      have hn' : rn tx 2 (q + (n + 1)) = w := by
        rw [rn_un tx (by decide), if_pos hsp] at hn
        rw [← Nat.add_assoc]; omega
      have b : m_inb (nI (q + n)) 150 = true := by rw [inb_nI (by omega)]; simpa using (show q + n < 150 by omega)
      have hr := hR (q + n) z
      have h48 := (so_2 (tx.getD (q + n) 0)).mp (by rw [← sp_in z]; exact hsp)
      have hs : decide (soN (tx.getD (q + n) 0) = 2) = true := decide_eq_true (by rw [← sp_in z]; exact hsp)
      have l2 : ((2 : Int32) ≤ nI n) = (2 ≤ n) := le_nI (show 2 < 2147483648 by decide) (show n < 2147483648 by omega)
      rw [s_X9_number_9]
      simp only [s_X9_number_0, s_X9_number_1, s_X9_number_4, s_X9_number_5, s_X9_number_6, s_X9_number_7, s_X9_number_10, s_X9_number_13, s_X9_number_14, s_X9_number_15, s_X9_number_16, s_X9_number_19, s_X9_number_22, s_X9_number_23, s_X9_number_26, s_X9_number_27, s_X9_number_30, s_X9_number_31, s_X9_number_32, s_X9_number_33, s_X9_number_36, s_X9_number_39, s_X9_number_40, s_X9_number_41, s_X9_number_44, s_X9_number_46, s_X9_number_48, s_X9_number_49, s_X9_number_50, s_X9_number_53, s_X9_number_54, s_X9_number_57, s_X9_number_58, s_X9_number_59, s_X9_number_60, s_X9_number_61, s_X9_number_63, s_X9_number_64, s_X9_number_67, s_X9_number_69, s_X9_number_71, s_X9_number_74, s_X9_number_78, s_X9_number_79, s_X9_number_80, s_X9_number_83, s_X9_number_86, s_X9_number_88, s_X9_number_89, s_X9_number_90, s_X9_number_93, s_X9_number_96, s_X9_number_97, s_X9_number_98, s_X9_number_99, s_X9_number_101, s_X9_number_104, s_X9_number_105, s_X9_number_106, s_X9_number_109, s_X9_number_110, s_X9_number_111, s_X9_number_114, s_X9_number_115, zI_0, Bool.true_eq_false, Bool.false_eq_true, not_true_eq_false, not_false_eq_true, if_true, if_false, KV_ap, KU_ap, dropL_nil, s.1, f11, f12, f13, i_add, le_nI (show tx.length < 2147483648 by omega) (show q + n < 2147483648 by omega), show ¬ tx.length ≤ q + n by omega, s10, b, cl_nI (show q + n < 2147483648 by omega), hr.1, p_isFigure hr.2, hs, l2, m10', s48 (10 * fvN tx q n + tx.getD (q + n) 0) (by omega), a1]
      rw [show n + (w + 1) = n + 1 + w by omega, ← ih (n + 1) hn' (by omega)]
      by_cases n2 : 2 ≤ n
      · rw [if_pos n2]
        have : fvN tx q (n + 1) = fvN tx q n := by
          unfold fvN
          rw [if_neg (by omega), if_neg (by omega), if_neg (by omega), if_neg (by omega)]
        rw [this]
      · rw [if_neg n2]
        have : fvN tx q (n + 1) = 10 * fvN tx q n + tx.getD (q + n) 0 - 48 := by
          obtain e | e : n = 0 ∨ n = 1 := by omega
          · subst e
            rw [fvN, if_neg (by decide), if_pos rfl, fvN, if_pos rfl, Nat.mul_zero, Nat.zero_add, Nat.add_zero]
          · subst e
            rw [fvN, if_neg (by decide), if_neg (by decide), fvN, if_neg (by decide), if_pos rfl]
            omega
        rw [this]
  have k77 := key (rn tx 2 q) 0 rfl hle
  rw [Nat.zero_add] at k77
  simp only [KU_ap, s_X9_number_0, s_X9_number_1, s_X9_number_4, s_X9_number_5, s_X9_number_6, s_X9_number_7, s_X9_number_10, s_X9_number_13, s_X9_number_14, s_X9_number_15, s_X9_number_16, s_X9_number_19, s_X9_number_22, s_X9_number_23, s_X9_number_26, s_X9_number_27, s_X9_number_30, s_X9_number_31, s_X9_number_32, s_X9_number_33, s_X9_number_36, s_X9_number_39, s_X9_number_40, s_X9_number_41, s_X9_number_44, s_X9_number_46, s_X9_number_48, s_X9_number_49, s_X9_number_50, s_X9_number_53, s_X9_number_54, s_X9_number_57, s_X9_number_58, s_X9_number_59, s_X9_number_60, s_X9_number_61, s_X9_number_63, s_X9_number_64, s_X9_number_67, s_X9_number_69, s_X9_number_71, s_X9_number_74, s_X9_number_77, s_X9_number_78, s_X9_number_79, s_X9_number_80, s_X9_number_83, s_X9_number_86, s_X9_number_88, s_X9_number_89, s_X9_number_90, s_X9_number_93, s_X9_number_96, s_X9_number_97, s_X9_number_98, s_X9_number_99, s_X9_number_101, s_X9_number_104, s_X9_number_105, s_X9_number_106, s_X9_number_109, s_X9_number_110, s_X9_number_111, s_X9_number_114, s_X9_number_115, zI_0, Bool.true_eq_false, Bool.false_eq_true, not_true_eq_false, not_false_eq_true, if_true, if_false, KV_ap, KU_ap, dropL_nil]
  refine Eq.mpr k77 ?_
  have rlt : rn tx 2 q < 2147483648 := by omega
  have ein : decide ((1 : Int32) ≤ nI (rn tx 2 q) ∧ nI (rn tx 2 q) ≤ 2) = decide (1 ≤ rn tx 2 q ∧ rn tx 2 q ≤ 2) := by
    have l1 : ((1 : Int32) ≤ nI (rn tx 2 q)) = (1 ≤ rn tx 2 q) := le_nI (show 1 < 2147483648 by decide) rlt
    have l2 : (nI (rn tx 2 q) ≤ (2 : Int32)) = (rn tx 2 q ≤ 2) := le_nI rlt (show 2 < 2147483648 by decide)
    simp only [l1, l2]
  rw [s_X9_number_77]
  by_cases hN : 1 ≤ rn tx 2 q ∧ rn tx 2 q ≤ 2
  · have hsp : sp tx q = 2 := by
      have := rn_in tx (s := 2) (by decide) 0 q (by omega)
      exact this
    have htl : tl tx q = rn tx 2 q := by rw [tl, hsp, if_pos (Or.inr rfl)]
    have hfv : fvN tx q (rn tx 2 q) = nvN tx q := by
      unfold nvN fvN
      rw [htl, if_neg (by omega)]
      by_cases e : rn tx 2 q = 2
      · rw [if_pos e, if_neg (by omega)]
      · rw [if_neg e, if_pos (by omega)]
    have hnv : nvN tx q < 2147483648 := by
      have hq' : q < tx.length := sp_lt (by rw [hsp]; decide)
      have r0 := (hR q hq').2
      unfold nvN
      by_cases e : tl tx q = 2
      · rw [if_pos e]
        have := (hR (q + 1) (by omega)).2
        omega
      · rw [if_neg e]; omega
    have lm : (nI (nvN tx q) ≤ u') = (nvN tx q < hi) := by
      rw [eh]
      by_cases e0 : hi = 0
      · subst e0
        apply propext
        constructor
        · intro y
          have h1 : (0 : Int32) ≤ nI (nvN tx q) := by rw [ge0 hnv]; trivial
          exact absurd (Int32.le_trans h1 y) (by decide)
        · intro y; omega
      · rw [s1 (by omega), le_nI hnv (by omega)]
        apply propext; omega
    have e2 : decide (nI lo ≤ nI (nvN tx q) ∧ nI (nvN tx q) ≤ u') = nOk tx q lo hi := by
      unfold nOk
      simp only [le_nI (show lo < 2147483648 by omega) hnv, lm, hsp, htl, hN.2, true_and]
    have g16 : ∀ (h : HP) v, hF (pF h M 16 v) M 13 = hF h M 13 := fun h v => by rw [hF_pF, if_neg (by omega)]
    rw [hfv]
    simp only [s_X9_number_0, s_X9_number_1, s_X9_number_4, s_X9_number_5, s_X9_number_6, s_X9_number_7, s_X9_number_10, s_X9_number_13, s_X9_number_14, s_X9_number_15, s_X9_number_16, s_X9_number_19, s_X9_number_22, s_X9_number_23, s_X9_number_26, s_X9_number_27, s_X9_number_30, s_X9_number_31, s_X9_number_32, s_X9_number_33, s_X9_number_36, s_X9_number_39, s_X9_number_40, s_X9_number_41, s_X9_number_44, s_X9_number_46, s_X9_number_48, s_X9_number_49, s_X9_number_50, s_X9_number_53, s_X9_number_54, s_X9_number_57, s_X9_number_58, s_X9_number_59, s_X9_number_60, s_X9_number_61, s_X9_number_63, s_X9_number_64, s_X9_number_67, s_X9_number_69, s_X9_number_71, s_X9_number_74, s_X9_number_78, s_X9_number_79, s_X9_number_80, s_X9_number_83, s_X9_number_86, s_X9_number_88, s_X9_number_89, s_X9_number_90, s_X9_number_93, s_X9_number_96, s_X9_number_97, s_X9_number_98, s_X9_number_99, s_X9_number_101, s_X9_number_104, s_X9_number_105, s_X9_number_106, s_X9_number_109, s_X9_number_110, s_X9_number_111, s_X9_number_114, s_X9_number_115, zI_0, Bool.true_eq_false, Bool.false_eq_true, not_true_eq_false, not_false_eq_true, if_true, if_false, KV_ap, KU_ap, dropL_nil, p_in, ein, decide_eq_true hN, e2]
    cases e : nOk tx q lo hi
    · simp only [s_X9_number_0, s_X9_number_1, s_X9_number_4, s_X9_number_5, s_X9_number_6, s_X9_number_7, s_X9_number_10, s_X9_number_13, s_X9_number_14, s_X9_number_15, s_X9_number_16, s_X9_number_19, s_X9_number_22, s_X9_number_23, s_X9_number_26, s_X9_number_27, s_X9_number_30, s_X9_number_31, s_X9_number_32, s_X9_number_33, s_X9_number_36, s_X9_number_39, s_X9_number_40, s_X9_number_41, s_X9_number_44, s_X9_number_46, s_X9_number_48, s_X9_number_49, s_X9_number_50, s_X9_number_53, s_X9_number_54, s_X9_number_57, s_X9_number_58, s_X9_number_59, s_X9_number_60, s_X9_number_61, s_X9_number_63, s_X9_number_64, s_X9_number_67, s_X9_number_69, s_X9_number_71, s_X9_number_74, s_X9_number_78, s_X9_number_79, s_X9_number_80, s_X9_number_83, s_X9_number_86, s_X9_number_88, s_X9_number_89, s_X9_number_90, s_X9_number_93, s_X9_number_96, s_X9_number_97, s_X9_number_98, s_X9_number_99, s_X9_number_101, s_X9_number_104, s_X9_number_105, s_X9_number_106, s_X9_number_109, s_X9_number_110, s_X9_number_111, s_X9_number_114, s_X9_number_115, zI_0, Bool.true_eq_false, Bool.false_eq_true, not_true_eq_false, not_false_eq_true, if_true, if_false, KV_ap, KU_ap, dropL_nil, if_true, true_or, or_true]
      exact k0 e h1 Q1 e11
    · simp only [s_X9_number_0, s_X9_number_1, s_X9_number_4, s_X9_number_5, s_X9_number_6, s_X9_number_7, s_X9_number_10, s_X9_number_13, s_X9_number_14, s_X9_number_15, s_X9_number_16, s_X9_number_19, s_X9_number_22, s_X9_number_23, s_X9_number_26, s_X9_number_27, s_X9_number_30, s_X9_number_31, s_X9_number_32, s_X9_number_33, s_X9_number_36, s_X9_number_39, s_X9_number_40, s_X9_number_41, s_X9_number_44, s_X9_number_46, s_X9_number_48, s_X9_number_49, s_X9_number_50, s_X9_number_53, s_X9_number_54, s_X9_number_57, s_X9_number_58, s_X9_number_59, s_X9_number_60, s_X9_number_61, s_X9_number_63, s_X9_number_64, s_X9_number_67, s_X9_number_69, s_X9_number_71, s_X9_number_74, s_X9_number_78, s_X9_number_79, s_X9_number_80, s_X9_number_83, s_X9_number_86, s_X9_number_88, s_X9_number_89, s_X9_number_90, s_X9_number_93, s_X9_number_96, s_X9_number_97, s_X9_number_98, s_X9_number_99, s_X9_number_101, s_X9_number_104, s_X9_number_105, s_X9_number_106, s_X9_number_109, s_X9_number_110, s_X9_number_111, s_X9_number_114, s_X9_number_115, zI_0, Bool.true_eq_false, Bool.false_eq_true, not_true_eq_false, not_false_eq_true, if_true, if_false, KV_ap, KU_ap, dropL_nil, hS_pF, s.1, g16, f13, i_add, true_or, or_true]
      rw [← htl]
      refine k1 e _ (mQ_13 (mQ_16 Q1) (by omega)) (by rw [hF_pF, if_neg (by omega), hF_pF, if_pos ⟨rfl, rfl⟩]) e11
  · have e : nOk tx q lo hi = false := by
      unfold nOk
      apply decide_eq_false
      rintro ⟨y1, y2, _⟩
      have hsp : sp tx q = 2 := y1
      have htl : tl tx q = rn tx 2 q := by rw [tl, hsp, if_pos (Or.inr rfl)]
      have := tl_pos tx q
      omega
    simp only [s_X9_number_0, s_X9_number_1, s_X9_number_4, s_X9_number_5, s_X9_number_6, s_X9_number_7, s_X9_number_10, s_X9_number_13, s_X9_number_14, s_X9_number_15, s_X9_number_16, s_X9_number_19, s_X9_number_22, s_X9_number_23, s_X9_number_26, s_X9_number_27, s_X9_number_30, s_X9_number_31, s_X9_number_32, s_X9_number_33, s_X9_number_36, s_X9_number_39, s_X9_number_40, s_X9_number_41, s_X9_number_44, s_X9_number_46, s_X9_number_48, s_X9_number_49, s_X9_number_50, s_X9_number_53, s_X9_number_54, s_X9_number_57, s_X9_number_58, s_X9_number_59, s_X9_number_60, s_X9_number_61, s_X9_number_63, s_X9_number_64, s_X9_number_67, s_X9_number_69, s_X9_number_71, s_X9_number_74, s_X9_number_78, s_X9_number_79, s_X9_number_80, s_X9_number_83, s_X9_number_86, s_X9_number_88, s_X9_number_89, s_X9_number_90, s_X9_number_93, s_X9_number_96, s_X9_number_97, s_X9_number_98, s_X9_number_99, s_X9_number_101, s_X9_number_104, s_X9_number_105, s_X9_number_106, s_X9_number_109, s_X9_number_110, s_X9_number_111, s_X9_number_114, s_X9_number_115, zI_0, Bool.true_eq_false, Bool.false_eq_true, not_true_eq_false, not_false_eq_true, if_true, if_false, KV_ap, KU_ap, dropL_nil, p_in, ein, decide_eq_false hN, true_or, or_true]
    exact k0 e h1 Q1 e11
theorem p_ends (Q : mQ h0 h M tx p D) (k1 : sp tx (sk tx p) = 3 → ∀ h', mQ h0 h' M tx (sk tx p + tl tx (sk tx p)) D → hF h' M 16 = hF h M 16 → hI h' (M + 11) = hI h (M + 11) → Φ (.int 1) h') (k0 : ¬ sp tx (sk tx p) = 3 → ∀ h', mQ h0 h' M tx (sk tx p) D → hI h' (M + 11) = hI h (M + 11) → Φ (.int 0) h') : J g k_X9_ends 0 [.ref M] [] [] h Φ := by
  simp only [s_X9_ends_0, s_X9_ends_1, s_X9_ends_4, s_X9_ends_5, s_X9_ends_8, s_X9_ends_10, s_X9_ends_13, s_X9_ends_14, s_X9_ends_15, s_X9_ends_16, s_X9_ends_17, s_X9_ends_20, s_X9_ends_21, s_X9_ends_22, s_X9_ends_25, s_X9_ends_26, zI_0, Bool.true_eq_false, Bool.false_eq_true, not_true_eq_false, not_false_eq_true, if_true, if_false, KV_ap, KU_ap, dropL_nil, Q.1.1.1]
  refine p_skip Q (fun h1 Q1 e16 e11 => ?_)
  have hr := hr_c (p := sk tx p) (x := 59) (c := 59) Q1.1.2.2.2.2.2 Q1.1.2.2.2.2.1 rfl (by decide)
  have es : (sk tx p < tx.length ∧ tx.getD (sk tx p) 0 = 59) ↔ sp tx (sk tx p) = 3 := by
    constructor
    · intro z; rw [sp_in z.1]; exact (so_3 _).mpr z.2
    · intro z
      have hlt : sk tx p < tx.length := sp_lt (by rw [z]; decide)
      exact ⟨hlt, (so_3 _).mp (by rw [← sp_in hlt]; exact z)⟩
  simp only [KU_ap, s_X9_ends_0, s_X9_ends_1, s_X9_ends_4, s_X9_ends_5, s_X9_ends_8, s_X9_ends_10, s_X9_ends_13, s_X9_ends_14, s_X9_ends_15, s_X9_ends_16, s_X9_ends_17, s_X9_ends_20, s_X9_ends_21, s_X9_ends_22, s_X9_ends_25, s_X9_ends_26, zI_0, Bool.true_eq_false, Bool.false_eq_true, not_true_eq_false, not_false_eq_true, if_true, if_false, KV_ap, KU_ap, dropL_nil, Q1.1.1.1, p_here Q1.1 Q1.2.2.2.2.1 Q1.2.2.2.2.2.1, hr, es]
  by_cases z : sp tx (sk tx p) = 3
  · have hlt : sk tx p < tx.length := sp_lt (by rw [z]; decide)
    have htl : tl tx (sk tx p) = 1 := by rw [tl, z, if_neg (by decide)]
    rw [if_pos z]
    simp only [s_X9_ends_0, s_X9_ends_1, s_X9_ends_4, s_X9_ends_5, s_X9_ends_8, s_X9_ends_10, s_X9_ends_13, s_X9_ends_14, s_X9_ends_15, s_X9_ends_16, s_X9_ends_17, s_X9_ends_20, s_X9_ends_21, s_X9_ends_22, s_X9_ends_25, s_X9_ends_26, zI_0, Bool.true_eq_false, Bool.false_eq_true, not_true_eq_false, not_false_eq_true, if_true, if_false, KV_ap, KU_ap, dropL_nil, Q1.1.1.1, Q1.2.2.2.2.1, a1, true_or, or_true]
    refine k1 z _ ?_ (by rw [hF_pF, if_neg (by omega)]; exact e16) e11
    rw [htl]
    exact mQ_13 Q1 (by omega)
  · rw [if_neg z]
    simp only [s_X9_ends_0, s_X9_ends_1, s_X9_ends_4, s_X9_ends_5, s_X9_ends_8, s_X9_ends_10, s_X9_ends_13, s_X9_ends_14, s_X9_ends_15, s_X9_ends_16, s_X9_ends_17, s_X9_ends_20, s_X9_ends_21, s_X9_ends_22, s_X9_ends_25, s_X9_ends_26, zI_0, Bool.true_eq_false, Bool.false_eq_true, not_true_eq_false, not_false_eq_true, if_true, if_false, KV_ap, KU_ap, dropL_nil, true_or, or_true]
    exact k0 z h1 Q1 e11
end R8

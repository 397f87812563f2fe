/-! The model reads a name as the class does -/
theorem rm_chk1 : NM.all (fun n => decide (pmN n 0 = n) && (decide (pmN n 5 = wdN n) && decide (bmN n = trN n))) = true := by decide +kernel
theorem rm_chk2 : NM.all (fun n => (List.range 9).all (fun x => decide (trM n x 0 = tuN n x) && decide (trM n x 1 = raN (tuN n x)))) = true := by decide +kernel
theorem pmS_w {n w : Nat} : pmN n w = pmN n (if w < 5 then 0 else 5) := by
  unfold pmN
  congr 1
  funext k r
  unfold pmS
  by_cases h : w < 5
  · rw [if_pos h, if_neg (by omega), if_neg (by omega)]
  · rw [if_neg h]
    by_cases h2 : 0 < k ∧ loN n k = loN n (k - 1)
    · rw [if_pos ⟨by omega, h2⟩, if_pos ⟨by decide, h2⟩]
    · rw [if_neg (fun z => h2 z.2), if_neg (fun z => h2 z.2)]
theorem pm_pl {n w : Nat} (h : isNm n = true) : pmN n w = plX n w := by
  have := List.all_eq_true.mp rm_chk1 n (isNm_mem h)
  simp only [Bool.and_eq_true, decide_eq_true_eq] at this
  rw [pmS_w]
  unfold plX
  by_cases hw : w < 5
  · rw [if_pos hw, if_pos hw]; exact this.1
  · rw [if_neg hw, if_neg hw]; exact this.2.1
theorem bm_tr {n : Nat} (h : isNm n = true) : bmN n = trN n := by
  have := List.all_eq_true.mp rm_chk1 n (isNm_mem h)
  simp only [Bool.and_eq_true, decide_eq_true_eq] at this
  exact this.2.2
theorem tr_tu {n x : Nat} (h : isNm n = true) (hx : x < 9) : trM n x 0 = tuN n x ∧ trM n x 1 = raN (tuN n x) := by
  have := List.all_eq_true.mp rm_chk2 n (isNm_mem h)
  have := List.all_eq_true.mp this x (List.mem_range.mpr hx)
  simpa using this
theorem p_readBy {g : GL} {h : HP} {Φ : Value → HP → Prop} {k n x w : Nat} (hk : k < 6) (hn : isNm n = true) (hx : x < 9) (hw : w < 19) : J g k_X9_readBy 0 [.int (nI k), .int (nI n), .int (nI x), .int (nI w)] [] [] h Φ = Φ (.int (nI (rdX k n x w))) h := by
  have hp := plX_nm (w := w) hn
  have h1 := nm1 hn
  have h2 := nm1 hp
  have hn' : n < 2147483648 := by omega
  have hw' : w < 2147483648 := by omega
  have pp : ∀ Ψ : Value → HP → Prop, J g k_X9_plain 0 [.int (nI n), .int (nI w), m_D, m_D, m_D, m_D] [] [] h Ψ = Ψ (.int (nI (plX n w))) h := fun Ψ => by rw [p_plain hn' hw', pm_pl hn]
  have pw : ∀ Ψ : Value → HP → Prop, J g k_X9_worn 0 [.int (nI n), .int (nI w), m_D, m_D] [] [] h Ψ = Ψ (.int (nI (cutN (plX n w) (w / 3)))) h := fun Ψ => by rw [p_worn hn' hw' (by rw [pm_pl hn]; omega), pm_pl hn]
  have pb : ∀ Ψ : Value → HP → Prop, J g k_X9_back 0 [.int (nI (plX n w)), m_D, m_D, m_D] [] [] h Ψ = Ψ (.int (nI (trN (plX n w)))) h := fun Ψ => by rw [p_back (by omega), bm_tr hp]
  have t0 : ∀ Ψ : Value → HP → Prop, J g k_X9_turned 0 [.int (nI (plX n w)), .int (nI x), .int 0, m_D, m_D, m_D, m_D] [] [] h Ψ = Ψ (.int (nI (tuN (plX n w) x))) h := fun Ψ => by
    have := p_turned (g := g) (h := h) (Φ := Ψ) hp (show x < 100 by omega) (show 0 < 100 by decide)
    rw [(tr_tu hp hx).1] at this
    exact this
  have t1 : ∀ Ψ : Value → HP → Prop, J g k_X9_turned 0 [.int (nI (plX n w)), .int (nI x), .int 1, m_D, m_D, m_D, m_D] [] [] h Ψ = Ψ (.int (nI (raN (tuN (plX n w) x)))) h := fun Ψ => by
    have := p_turned (g := g) (h := h) (Φ := Ψ) hp (show x < 100 by omega) (show 1 < 100 by decide)
    rw [(tr_tu hp hx).2] at this
    exact this
  obtain rfl | rfl | rfl | rfl | rfl | rfl : k = 0 ∨ k = 1 ∨ k = 2 ∨ k = 3 ∨ k = 4 ∨ k = 5 := by omega
  · rw [s_X9_readBy_0, s_X9_readBy_1_d (by decide)]
    simp only [s_X9_readBy_0, s_X9_readBy_36, s_X9_readBy_37, s_X9_readBy_38, s_X9_readBy_41, s_X9_readBy_42, s_X9_readBy_43, s_X9_readBy_46, s_X9_readBy_47, s_X9_readBy_48, s_X9_readBy_51, s_X9_readBy_54, s_X9_readBy_57, s_X9_readBy_58, s_X9_readBy_59, s_X9_readBy_62, s_X9_readBy_63, s_X9_readBy_64, s_X9_readBy_65, s_X9_readBy_68, s_X9_readBy_69, s_X9_readBy_70, s_X9_readBy_73, s_X9_readBy_74, s_X9_readBy_75, s_X9_readBy_76, s_X9_readBy_77, s_X9_readBy_78, s_X9_readBy_81, s_X9_readBy_82, s_X9_readBy_85, s_X9_readBy_86, s_X9_readBy_87, s_X9_readBy_90, s_X9_readBy_91, s_X9_readBy_92, s_X9_readBy_93, s_X9_readBy_96, s_X9_readBy_97, s_X9_readBy_98, s_X9_readBy_99, s_X9_readBy_102, s_X9_readBy_103, s_X9_readBy_106, s_X9_readBy_107, s_X9_readBy_110, s_X9_readBy_111, s_X9_readBy_112, s_X9_readBy_113, s_X9_readBy_116, zI_0, Bool.true_eq_false, Bool.false_eq_true, not_true_eq_false, not_false_eq_true, if_true, if_false, KV_ap, KU_ap, dropL_nil, pp, rdX]
  · rw [← c1]
    simp only [s_X9_readBy_0, s_X9_readBy_1_0, s_X9_readBy_1_1, s_X9_readBy_1_2, s_X9_readBy_1_3, s_X9_readBy_1_4, s_X9_readBy_1_d, s_X9_readBy_36, s_X9_readBy_37, s_X9_readBy_38, s_X9_readBy_41, s_X9_readBy_42, s_X9_readBy_43, s_X9_readBy_46, s_X9_readBy_47, s_X9_readBy_48, s_X9_readBy_51, s_X9_readBy_54, s_X9_readBy_57, s_X9_readBy_58, s_X9_readBy_59, s_X9_readBy_62, s_X9_readBy_63, s_X9_readBy_64, s_X9_readBy_65, s_X9_readBy_68, s_X9_readBy_69, s_X9_readBy_70, s_X9_readBy_73, s_X9_readBy_74, s_X9_readBy_75, s_X9_readBy_76, s_X9_readBy_77, s_X9_readBy_78, s_X9_readBy_81, s_X9_readBy_82, s_X9_readBy_85, s_X9_readBy_86, s_X9_readBy_87, s_X9_readBy_90, s_X9_readBy_91, s_X9_readBy_92, s_X9_readBy_93, s_X9_readBy_96, s_X9_readBy_97, s_X9_readBy_98, s_X9_readBy_99, s_X9_readBy_102, s_X9_readBy_103, s_X9_readBy_106, s_X9_readBy_107, s_X9_readBy_110, s_X9_readBy_111, s_X9_readBy_112, s_X9_readBy_113, s_X9_readBy_116, zI_0, Bool.true_eq_false, Bool.false_eq_true, not_true_eq_false, not_false_eq_true, if_true, if_false, KV_ap, KU_ap, dropL_nil, pw, rdX]
  · rw [← c2]
    simp only [s_X9_readBy_0, s_X9_readBy_1_0, s_X9_readBy_1_1, s_X9_readBy_1_2, s_X9_readBy_1_3, s_X9_readBy_1_4, s_X9_readBy_1_d, s_X9_readBy_36, s_X9_readBy_37, s_X9_readBy_38, s_X9_readBy_41, s_X9_readBy_42, s_X9_readBy_43, s_X9_readBy_46, s_X9_readBy_47, s_X9_readBy_48, s_X9_readBy_51, s_X9_readBy_54, s_X9_readBy_57, s_X9_readBy_58, s_X9_readBy_59, s_X9_readBy_62, s_X9_readBy_63, s_X9_readBy_64, s_X9_readBy_65, s_X9_readBy_68, s_X9_readBy_69, s_X9_readBy_70, s_X9_readBy_73, s_X9_readBy_74, s_X9_readBy_75, s_X9_readBy_76, s_X9_readBy_77, s_X9_readBy_78, s_X9_readBy_81, s_X9_readBy_82, s_X9_readBy_85, s_X9_readBy_86, s_X9_readBy_87, s_X9_readBy_90, s_X9_readBy_91, s_X9_readBy_92, s_X9_readBy_93, s_X9_readBy_96, s_X9_readBy_97, s_X9_readBy_98, s_X9_readBy_99, s_X9_readBy_102, s_X9_readBy_103, s_X9_readBy_106, s_X9_readBy_107, s_X9_readBy_110, s_X9_readBy_111, s_X9_readBy_112, s_X9_readBy_113, s_X9_readBy_116, zI_0, Bool.true_eq_false, Bool.false_eq_true, not_true_eq_false, not_false_eq_true, if_true, if_false, KV_ap, KU_ap, dropL_nil, eq0 (show x < 2147483648 by omega), pp, pb, rdX]
    by_cases h0 : x = 0
    · rw [if_pos h0, if_neg (fun z => z h0)]
    · rw [if_neg h0, if_pos h0]
  · rw [← c3]
    simp only [s_X9_readBy_0, s_X9_readBy_1_0, s_X9_readBy_1_1, s_X9_readBy_1_2, s_X9_readBy_1_3, s_X9_readBy_1_4, s_X9_readBy_1_d, s_X9_readBy_36, s_X9_readBy_37, s_X9_readBy_38, s_X9_readBy_41, s_X9_readBy_42, s_X9_readBy_43, s_X9_readBy_46, s_X9_readBy_47, s_X9_readBy_48, s_X9_readBy_51, s_X9_readBy_54, s_X9_readBy_57, s_X9_readBy_58, s_X9_readBy_59, s_X9_readBy_62, s_X9_readBy_63, s_X9_readBy_64, s_X9_readBy_65, s_X9_readBy_68, s_X9_readBy_69, s_X9_readBy_70, s_X9_readBy_73, s_X9_readBy_74, s_X9_readBy_75, s_X9_readBy_76, s_X9_readBy_77, s_X9_readBy_78, s_X9_readBy_81, s_X9_readBy_82, s_X9_readBy_85, s_X9_readBy_86, s_X9_readBy_87, s_X9_readBy_90, s_X9_readBy_91, s_X9_readBy_92, s_X9_readBy_93, s_X9_readBy_96, s_X9_readBy_97, s_X9_readBy_98, s_X9_readBy_99, s_X9_readBy_102, s_X9_readBy_103, s_X9_readBy_106, s_X9_readBy_107, s_X9_readBy_110, s_X9_readBy_111, s_X9_readBy_112, s_X9_readBy_113, s_X9_readBy_116, zI_0, Bool.true_eq_false, Bool.false_eq_true, not_true_eq_false, not_false_eq_true, if_true, if_false, KV_ap, KU_ap, dropL_nil, pp, t0, rdX]
  · rw [← c4]
    simp only [s_X9_readBy_0, s_X9_readBy_1_0, s_X9_readBy_1_1, s_X9_readBy_1_2, s_X9_readBy_1_3, s_X9_readBy_1_4, s_X9_readBy_1_d, s_X9_readBy_36, s_X9_readBy_37, s_X9_readBy_38, s_X9_readBy_41, s_X9_readBy_42, s_X9_readBy_43, s_X9_readBy_46, s_X9_readBy_47, s_X9_readBy_48, s_X9_readBy_51, s_X9_readBy_54, s_X9_readBy_57, s_X9_readBy_58, s_X9_readBy_59, s_X9_readBy_62, s_X9_readBy_63, s_X9_readBy_64, s_X9_readBy_65, s_X9_readBy_68, s_X9_readBy_69, s_X9_readBy_70, s_X9_readBy_73, s_X9_readBy_74, s_X9_readBy_75, s_X9_readBy_76, s_X9_readBy_77, s_X9_readBy_78, s_X9_readBy_81, s_X9_readBy_82, s_X9_readBy_85, s_X9_readBy_86, s_X9_readBy_87, s_X9_readBy_90, s_X9_readBy_91, s_X9_readBy_92, s_X9_readBy_93, s_X9_readBy_96, s_X9_readBy_97, s_X9_readBy_98, s_X9_readBy_99, s_X9_readBy_102, s_X9_readBy_103, s_X9_readBy_106, s_X9_readBy_107, s_X9_readBy_110, s_X9_readBy_111, s_X9_readBy_112, s_X9_readBy_113, s_X9_readBy_116, zI_0, Bool.true_eq_false, Bool.false_eq_true, not_true_eq_false, not_false_eq_true, if_true, if_false, KV_ap, KU_ap, dropL_nil, n2, d2 (show x < 2147483648 by omega), m2, r2, pw, rdX]
    simp only [c1, eq_nI (show x % 2 < 2147483648 by omega) (show 1 < 2147483648 by decide)]
    by_cases h0 : x % 2 = 1
    · rw [if_pos h0, if_neg (fun z => z h0)]; rfl
    · rw [if_neg h0, if_pos h0]
  · rw [← c5]
    simp only [s_X9_readBy_0, s_X9_readBy_1_0, s_X9_readBy_1_1, s_X9_readBy_1_2, s_X9_readBy_1_3, s_X9_readBy_1_4, s_X9_readBy_1_d, s_X9_readBy_36, s_X9_readBy_37, s_X9_readBy_38, s_X9_readBy_41, s_X9_readBy_42, s_X9_readBy_43, s_X9_readBy_46, s_X9_readBy_47, s_X9_readBy_48, s_X9_readBy_51, s_X9_readBy_54, s_X9_readBy_57, s_X9_readBy_58, s_X9_readBy_59, s_X9_readBy_62, s_X9_readBy_63, s_X9_readBy_64, s_X9_readBy_65, s_X9_readBy_68, s_X9_readBy_69, s_X9_readBy_70, s_X9_readBy_73, s_X9_readBy_74, s_X9_readBy_75, s_X9_readBy_76, s_X9_readBy_77, s_X9_readBy_78, s_X9_readBy_81, s_X9_readBy_82, s_X9_readBy_85, s_X9_readBy_86, s_X9_readBy_87, s_X9_readBy_90, s_X9_readBy_91, s_X9_readBy_92, s_X9_readBy_93, s_X9_readBy_96, s_X9_readBy_97, s_X9_readBy_98, s_X9_readBy_99, s_X9_readBy_102, s_X9_readBy_103, s_X9_readBy_106, s_X9_readBy_107, s_X9_readBy_110, s_X9_readBy_111, s_X9_readBy_112, s_X9_readBy_113, s_X9_readBy_116, zI_0, Bool.true_eq_false, Bool.false_eq_true, not_true_eq_false, not_false_eq_true, if_true, if_false, KV_ap, KU_ap, dropL_nil, pp, t0, t1, rdX]
    simp only [c4, le_nI (show 4 < 2147483648 by decide) (show x < 2147483648 by omega)]
    by_cases h0 : x < 4
    · rw [if_pos h0, if_neg (by omega)]
    · rw [if_neg h0, if_pos (by omega)]

/-! The model: how many letters, which letter, plain, worn -/
section M2
variable {g : GL} {h : HP} {Φ : Value → HP → Prop}
theorem p_sizeOf {n : Nat} (hn : n < 2147483648) : J g k_X9_sizeOf 0 [.int (nI n), m_D, m_D] [] [] h Φ = Φ (.int (nI (dg n))) h := by
  simp only [s_X9_sizeOf_0, s_X9_sizeOf_1, s_X9_sizeOf_2, s_X9_sizeOf_3, s_X9_sizeOf_5, s_X9_sizeOf_8, s_X9_sizeOf_9, s_X9_sizeOf_11, s_X9_sizeOf_12, s_X9_sizeOf_13, s_X9_sizeOf_16, s_X9_sizeOf_19, s_X9_sizeOf_20, dropL_nil]
  have key := J_dl (fun r a => J g k_X9_sizeOf 4 [.int (nI n), .int (nI a), .int (nI r)] [] [] h Φ) (fun _ a => a + 1) (fun r a h0 hr => by
    rw [s_X9_sizeOf_4]
    simp only [s_X9_sizeOf_0, s_X9_sizeOf_1, s_X9_sizeOf_2, s_X9_sizeOf_3, s_X9_sizeOf_5, s_X9_sizeOf_8, s_X9_sizeOf_9, s_X9_sizeOf_11, s_X9_sizeOf_12, s_X9_sizeOf_13, s_X9_sizeOf_16, s_X9_sizeOf_19, s_X9_sizeOf_20, dropL_nil, le0 hr, if_neg (Nat.ne_of_gt h0), n10, not_false_eq_true, d10 hr, c1, i_add]) 10 n 0 (p10 n hn) hn
  rw [c0, key, s_X9_sizeOf_4]
  simp only [s_X9_sizeOf_0, s_X9_sizeOf_1, s_X9_sizeOf_2, s_X9_sizeOf_3, s_X9_sizeOf_5, s_X9_sizeOf_8, s_X9_sizeOf_9, s_X9_sizeOf_11, s_X9_sizeOf_12, s_X9_sizeOf_13, s_X9_sizeOf_16, s_X9_sizeOf_19, s_X9_sizeOf_20, dropL_nil, le0 (show 0 < 2147483648 by decide), if_true]
  rfl
theorem am1 (j : Nat) : nI (j + 1) + (-1) = nI j := by
  rw [← Int32.sub_eq_add_neg, s1 (by omega)]
  rfl
/-- letter k of a name, the first one 0; behind its end 0 -/
def loN (n k : Nat) : Nat := if k < dg n then n / 10 ^ (dg n - 1 - k) % 10 else 0
theorem p_letterOf {n k : Nat} (hn : n < 2147483648) (hk : k < 2147483648) : J g k_X9_letterOf 0 [.int (nI n), .int (nI k), m_D, m_D, m_D] [] [] h Φ = Φ (.int (nI (loN n k))) h := by
  have hd := dg_le n
  simp only [s_X9_letterOf_0, s_X9_letterOf_1, s_X9_letterOf_4, s_X9_letterOf_5, s_X9_letterOf_6, s_X9_letterOf_7, s_X9_letterOf_10, s_X9_letterOf_11, s_X9_letterOf_12, s_X9_letterOf_13, s_X9_letterOf_14, s_X9_letterOf_15, s_X9_letterOf_16, s_X9_letterOf_17, s_X9_letterOf_21, s_X9_letterOf_22, s_X9_letterOf_25, s_X9_letterOf_26, s_X9_letterOf_28, s_X9_letterOf_29, s_X9_letterOf_30, s_X9_letterOf_33, s_X9_letterOf_36, s_X9_letterOf_37, s_X9_letterOf_39, s_X9_letterOf_40, dropL_nil, p_sizeOf hn, KV_ap, lt_nI hk (show dg n < 2147483648 by omega)]
  by_cases hc : k < dg n
  · rw [if_pos hc, loN, if_pos hc, s1 (by omega)]
    have key : ∀ m r, r < 2147483648 → k + m < 2147483648 → J g k_X9_letterOf 19 [.int (nI n), .int (nI k), .int (nI (dg n)), .int (nI r), .int (nI (k + m))] [] [] h Φ = Φ (.int (nI (r / 10 ^ m % 10))) h := by
      intro m
      induction m with
      | zero =>
        intro r hr _
        rw [s_X9_letterOf_19]
        simp only [s_X9_letterOf_0, s_X9_letterOf_1, s_X9_letterOf_4, s_X9_letterOf_5, s_X9_letterOf_6, s_X9_letterOf_7, s_X9_letterOf_10, s_X9_letterOf_11, s_X9_letterOf_12, s_X9_letterOf_13, s_X9_letterOf_14, s_X9_letterOf_15, s_X9_letterOf_16, s_X9_letterOf_17, s_X9_letterOf_21, s_X9_letterOf_22, s_X9_letterOf_25, s_X9_letterOf_26, s_X9_letterOf_28, s_X9_letterOf_29, s_X9_letterOf_30, s_X9_letterOf_33, s_X9_letterOf_36, s_X9_letterOf_37, s_X9_letterOf_39, s_X9_letterOf_40, Nat.add_zero, le_nI hk hk, Nat.le_refl, if_true, n10, not_false_eq_true, d10 hr, m10, r10, Nat.pow_zero, Nat.div_one]
      | succ m ih =>
        intro r hr hm
        rw [s_X9_letterOf_19]
        simp only [s_X9_letterOf_0, s_X9_letterOf_1, s_X9_letterOf_4, s_X9_letterOf_5, s_X9_letterOf_6, s_X9_letterOf_7, s_X9_letterOf_10, s_X9_letterOf_11, s_X9_letterOf_12, s_X9_letterOf_13, s_X9_letterOf_14, s_X9_letterOf_15, s_X9_letterOf_16, s_X9_letterOf_17, s_X9_letterOf_21, s_X9_letterOf_22, s_X9_letterOf_25, s_X9_letterOf_26, s_X9_letterOf_28, s_X9_letterOf_29, s_X9_letterOf_30, s_X9_letterOf_33, s_X9_letterOf_36, s_X9_letterOf_37, s_X9_letterOf_39, s_X9_letterOf_40, le_nI hm hk, if_neg (show ¬ k + (m + 1) ≤ k by omega), n10, not_false_eq_true, d10 hr, dropL_nil]
        rw [← Nat.add_assoc, am1, ih (r / 10) (by omega) (by omega), Nat.div_div_eq_div_mul, Nat.pow_succ, Nat.mul_comm]
    have := key (dg n - 1 - k) n hn (by omega)
    rw [show k + (dg n - 1 - k) = dg n - 1 by omega] at this
    exact this
  · rw [if_neg hc, loN, if_neg hc]
    rfl
/-- a name without its doubles, once it is worn -/
def pmS (n w k r : Nat) : Nat := if 4 < w ∧ 0 < k ∧ loN n k = loN n (k - 1) then r else 10 * r + loN n k
def pmN (n w : Nat) : Nat := it (fun k r => pmS n w k r) (dg n) 0 0
theorem loN_lt (n k : Nat) : loN n k < 10 := by
  unfold loN
  split
  · exact Nat.mod_lt _ (by decide)
  · decide
theorem p_plain {n w : Nat} (hn : n < 2147483648) (hw : w < 2147483648) : J g k_X9_plain 0 [.int (nI n), .int (nI w), m_D, m_D, m_D, m_D] [] [] h Φ = Φ (.int (nI (pmN n w))) h := by
  have hd := dg_le n
  have m10' : ∀ a : Nat, (10 : Int32) * nI a = nI (10 * a) := fun a => i_mul 10 a
  simp only [s_X9_plain_0, s_X9_plain_1, s_X9_plain_2, s_X9_plain_3, s_X9_plain_6, s_X9_plain_7, s_X9_plain_8, s_X9_plain_12, s_X9_plain_13, s_X9_plain_16, s_X9_plain_18, s_X9_plain_21, s_X9_plain_22, s_X9_plain_24, s_X9_plain_27, s_X9_plain_28, s_X9_plain_30, s_X9_plain_31, s_X9_plain_32, s_X9_plain_35, s_X9_plain_38, s_X9_plain_39, s_X9_plain_42, s_X9_plain_43, s_X9_plain_45, s_X9_plain_46, s_X9_plain_47, s_X9_plain_50, s_X9_plain_52, s_X9_plain_55, s_X9_plain_56, s_X9_plain_59, s_X9_plain_61, s_X9_plain_62, s_X9_plain_63, s_X9_plain_64, s_X9_plain_66, s_X9_plain_69, s_X9_plain_70, s_X9_plain_71, s_X9_plain_74, s_X9_plain_77, s_X9_plain_78, dropL_nil, p_sizeOf hn, KV_ap]
  have key := J_it0 (fun k (q : Nat × Value) => J g k_X9_plain 10 [.int (nI n), .int (nI w), .int (nI q.1), .int (nI (dg n)), .int (nI k), q.2] [] [] h Φ) (fun k q => (pmS n w k q.1, .int (zI (decide (0 < k ∧ loN n k = loN n (k - 1)))))) (dg n) (fun k q hk => by
    have h1 := loN_lt n k
    have h2 := loN_lt n (k - 1)
    rw [s_X9_plain_10]
    unfold pmS
    by_cases h0 : k = 0
    · subst h0
      have z : ((0 : Int32) = 0) = True := by simp
      simp only [s_X9_plain_0, s_X9_plain_1, s_X9_plain_2, s_X9_plain_3, s_X9_plain_6, s_X9_plain_7, s_X9_plain_8, s_X9_plain_12, s_X9_plain_13, s_X9_plain_16, s_X9_plain_18, s_X9_plain_21, s_X9_plain_22, s_X9_plain_24, s_X9_plain_27, s_X9_plain_28, s_X9_plain_30, s_X9_plain_31, s_X9_plain_32, s_X9_plain_35, s_X9_plain_38, s_X9_plain_39, s_X9_plain_42, s_X9_plain_43, s_X9_plain_45, s_X9_plain_46, s_X9_plain_47, s_X9_plain_50, s_X9_plain_52, s_X9_plain_55, s_X9_plain_56, s_X9_plain_59, s_X9_plain_61, s_X9_plain_62, s_X9_plain_63, s_X9_plain_64, s_X9_plain_66, s_X9_plain_69, s_X9_plain_70, s_X9_plain_71, s_X9_plain_74, s_X9_plain_77, s_X9_plain_78, zI_0, Bool.true_eq_false, Bool.false_eq_true, not_true_eq_false, not_false_eq_true, if_true, if_false, KV_ap, KU_ap, dropL_nil, le_nI (show dg n < 2147483648 by omega) (show 0 < 2147483648 by omega), if_neg (Nat.not_le.mpr hk), le0 (show 0 < 2147483648 by decide), p_letterOf hn (show 0 < 2147483648 by decide), m10', i_add, a1, c4, le_nI hw (show 4 < 2147483648 by decide), Nat.lt_irrefl, false_and, and_false, decide_false, zI_f, if_same]
    · simp only [s_X9_plain_0, s_X9_plain_1, s_X9_plain_2, s_X9_plain_3, s_X9_plain_6, s_X9_plain_7, s_X9_plain_8, s_X9_plain_12, s_X9_plain_13, s_X9_plain_16, s_X9_plain_18, s_X9_plain_21, s_X9_plain_22, s_X9_plain_24, s_X9_plain_27, s_X9_plain_28, s_X9_plain_30, s_X9_plain_31, s_X9_plain_32, s_X9_plain_35, s_X9_plain_38, s_X9_plain_39, s_X9_plain_42, s_X9_plain_43, s_X9_plain_45, s_X9_plain_46, s_X9_plain_47, s_X9_plain_50, s_X9_plain_52, s_X9_plain_55, s_X9_plain_56, s_X9_plain_59, s_X9_plain_61, s_X9_plain_62, s_X9_plain_63, s_X9_plain_64, s_X9_plain_66, s_X9_plain_69, s_X9_plain_70, s_X9_plain_71, s_X9_plain_74, s_X9_plain_77, s_X9_plain_78, zI_0, Bool.true_eq_false, Bool.false_eq_true, not_true_eq_false, not_false_eq_true, if_true, if_false, KV_ap, KU_ap, dropL_nil, le_nI (show dg n < 2147483648 by omega) (show k < 2147483648 by omega), if_neg (Nat.not_le.mpr hk), le0 (show k < 2147483648 by omega), h0, p_letterOf hn (show k < 2147483648 by omega), s1 (show 1 ≤ k by omega), p_letterOf hn (show k - 1 < 2147483648 by omega), eq_nI (show loN n k < 2147483648 by omega) (show loN n (k - 1) < 2147483648 by omega), m10', i_add, a1, c4, le_nI hw (show 4 < 2147483648 by decide)]
      have hk0 : 0 < k := by omega
      have one0 : ((1 : Int32) = 0) = False := by decide
      by_cases hc : loN n k = loN n (k - 1)
      · by_cases h4 : w ≤ 4
        · simp only [hc, h4, if_true, if_false, not_true_eq_false, hk0, show ¬ 4 < w by omega, false_and, and_self, decide_true, zI_t]
        · simp only [hc, h4, if_true, if_false, not_true_eq_false, hk0, show 4 < w by omega, and_self, decide_true, zI_t, one0]
      · by_cases h4 : w ≤ 4
        · simp only [hc, h4, if_true, if_false, not_false_eq_true, and_false, decide_false, zI_f]
        · simp only [hc, h4, if_true, if_false, not_false_eq_true, and_false, decide_false, zI_f]) (0, m_D)
  refine Eq.trans key ?_
  have e2 : ∀ m i (q : Nat × Value), (it (fun k (q : Nat × Value) => (pmS n w k q.1, Value.int (zI (decide (0 < k ∧ loN n k = loN n (k - 1)))))) m i q).1 = it (fun k r => pmS n w k r) m i q.1 := by
    intro m
    induction m with
    | zero => intro i q; rfl
    | succ m ih => intro i q; rw [it, it, ih]
  rw [s_X9_plain_10]
  simp only [s_X9_plain_0, s_X9_plain_1, s_X9_plain_2, s_X9_plain_3, s_X9_plain_6, s_X9_plain_7, s_X9_plain_8, s_X9_plain_12, s_X9_plain_13, s_X9_plain_16, s_X9_plain_18, s_X9_plain_21, s_X9_plain_22, s_X9_plain_24, s_X9_plain_27, s_X9_plain_28, s_X9_plain_30, s_X9_plain_31, s_X9_plain_32, s_X9_plain_35, s_X9_plain_38, s_X9_plain_39, s_X9_plain_42, s_X9_plain_43, s_X9_plain_45, s_X9_plain_46, s_X9_plain_47, s_X9_plain_50, s_X9_plain_52, s_X9_plain_55, s_X9_plain_56, s_X9_plain_59, s_X9_plain_61, s_X9_plain_62, s_X9_plain_63, s_X9_plain_64, s_X9_plain_66, s_X9_plain_69, s_X9_plain_70, s_X9_plain_71, s_X9_plain_74, s_X9_plain_77, s_X9_plain_78, le_nI (show dg n < 2147483648 by omega) (show dg n < 2147483648 by omega), Nat.le_refl, if_true, e2]
  rfl
end M2

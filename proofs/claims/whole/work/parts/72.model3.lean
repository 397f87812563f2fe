/-! The model: worn, back, turned -/
section M3
variable {g : GL} {h : HP} {Φ : Value → HP → Prop}
theorem p_worn {n w : Nat} (hn : n < 2147483648) (hw : w < 2147483648) (hp : pmN n w < 2147483648) : J g k_X9_worn 0 [.int (nI n), .int (nI w), m_D, m_D] [] [] h Φ = Φ (.int (nI (cutN (pmN n w) (w / 3)))) h := by
  simp only [s_X9_worn_0, s_X9_worn_1, s_X9_worn_2, s_X9_worn_5, s_X9_worn_6, s_X9_worn_7, s_X9_worn_9, s_X9_worn_10, s_X9_worn_11, s_X9_worn_12, s_X9_worn_15, s_X9_worn_16, s_X9_worn_18, s_X9_worn_19, s_X9_worn_20, s_X9_worn_23, s_X9_worn_26, s_X9_worn_27, zI_0, Bool.true_eq_false, Bool.false_eq_true, not_true_eq_false, not_false_eq_true, if_true, if_false, KV_ap, KU_ap, dropL_nil, p_plain hn hw]
  have key := J_it (fun k r => J g k_X9_worn 8 [.int (nI n), .int (nI w), .int (nI r), .int (nI k)] [] [] h Φ) (fun _ r => r / 10) (w / 3) (fun _ r => r < 2147483648) (fun _ r _ hr => by omega) (fun k r hk hr => by
    rw [s_X9_worn_8]
    simp only [s_X9_worn_0, s_X9_worn_1, s_X9_worn_2, s_X9_worn_5, s_X9_worn_6, s_X9_worn_7, s_X9_worn_9, s_X9_worn_10, s_X9_worn_11, s_X9_worn_12, s_X9_worn_15, s_X9_worn_16, s_X9_worn_18, s_X9_worn_19, s_X9_worn_20, s_X9_worn_23, s_X9_worn_26, s_X9_worn_27, zI_0, Bool.true_eq_false, Bool.false_eq_true, not_true_eq_false, not_false_eq_true, if_true, if_false, KV_ap, KU_ap, dropL_nil, n3, d3 hw, le_nI (show w / 3 < 2147483648 by omega) (show k < 2147483648 by omega), if_neg (Nat.not_le.mpr hk), n10, d10 hr, a1]) (w / 3) 0 (pmN n w) (Nat.zero_add _) hp
  refine Eq.trans key.1 ?_
  rw [s_X9_worn_8]
  simp only [s_X9_worn_0, s_X9_worn_1, s_X9_worn_2, s_X9_worn_5, s_X9_worn_6, s_X9_worn_7, s_X9_worn_9, s_X9_worn_10, s_X9_worn_11, s_X9_worn_12, s_X9_worn_15, s_X9_worn_16, s_X9_worn_18, s_X9_worn_19, s_X9_worn_20, s_X9_worn_23, s_X9_worn_26, s_X9_worn_27, zI_0, Bool.true_eq_false, Bool.false_eq_true, not_true_eq_false, not_false_eq_true, if_true, if_false, KV_ap, KU_ap, dropL_nil, n3, d3 hw, le_nI (show w / 3 < 2147483648 by omega) (show w / 3 < 2147483648 by omega), Nat.le_refl]
  rfl
def bmF (n : Nat) : Nat → Nat → Nat
  | 0, r => r
  | m + 1, r => bmF n m (10 * r + loN n m)
def bmN (n : Nat) : Nat := bmF n (dg n) 0
theorem m1_lt : ((nI 0 - 1 : Int32) < 0) = True := by simp only [eq_iff_iff, iff_true]; decide
theorem p_back {n : Nat} (hn : n < 2147483648) : J g k_X9_back 0 [.int (nI n), m_D, m_D, m_D] [] [] h Φ = Φ (.int (nI (bmN n))) h := by
  have hd := dg_le n
  have m10' : ∀ a : Nat, (10 : Int32) * nI a = nI (10 * a) := fun a => i_mul 10 a
  simp only [s_X9_back_0, s_X9_back_1, s_X9_back_2, s_X9_back_3, s_X9_back_6, s_X9_back_7, s_X9_back_8, s_X9_back_9, s_X9_back_10, s_X9_back_12, s_X9_back_15, s_X9_back_17, s_X9_back_18, s_X9_back_19, s_X9_back_20, s_X9_back_21, s_X9_back_24, s_X9_back_25, s_X9_back_26, s_X9_back_29, s_X9_back_32, s_X9_back_33, zI_0, Bool.true_eq_false, Bool.false_eq_true, not_true_eq_false, not_false_eq_true, if_true, if_false, KV_ap, KU_ap, dropL_nil, p_sizeOf hn]
  have key : ∀ m r, m ≤ 10 → J g k_X9_back 11 [.int (nI n), .int (nI r), .int (nI (dg n)), .int (nI m - 1)] [] [] h Φ = Φ (.int (nI (bmF n m r))) h := by
    intro m
    induction m with
    | zero =>
      intro r _
      rw [s_X9_back_11]
      simp only [s_X9_back_0, s_X9_back_1, s_X9_back_2, s_X9_back_3, s_X9_back_6, s_X9_back_7, s_X9_back_8, s_X9_back_9, s_X9_back_10, s_X9_back_12, s_X9_back_15, s_X9_back_17, s_X9_back_18, s_X9_back_19, s_X9_back_20, s_X9_back_21, s_X9_back_24, s_X9_back_25, s_X9_back_26, s_X9_back_29, s_X9_back_32, s_X9_back_33, m1_lt, if_true]
      rfl
    | succ m ih =>
      intro r hm
      rw [s1 (by omega), Nat.add_sub_cancel, s_X9_back_11]
      simp only [s_X9_back_0, s_X9_back_1, s_X9_back_2, s_X9_back_3, s_X9_back_6, s_X9_back_7, s_X9_back_8, s_X9_back_9, s_X9_back_10, s_X9_back_12, s_X9_back_15, s_X9_back_17, s_X9_back_18, s_X9_back_19, s_X9_back_20, s_X9_back_21, s_X9_back_24, s_X9_back_25, s_X9_back_26, s_X9_back_29, s_X9_back_32, s_X9_back_33, zI_0, Bool.true_eq_false, Bool.false_eq_true, not_true_eq_false, not_false_eq_true, if_true, if_false, KV_ap, KU_ap, dropL_nil, lt0 (show m < 2147483648 by omega), m10', p_letterOf hn (show m < 2147483648 by omega), i_add]
      have := ih (10 * r + loN n m) (by omega)
      rw [Int32.sub_eq_add_neg] at this
      exact this
  exact key (dg n) 0 hd
theorem lo_chk : NM.all (fun n => (List.range 5).all (fun k => decide (dg n ≤ k) || decide (1 ≤ loN n k))) = true := by decide +kernel
theorem lo_pos {n k : Nat} (h : isNm n = true) (hk : k < dg n) : 1 ≤ loN n k := by
  have h1 := (nm1 h).2.2.2.2
  have := List.all_eq_true.mp lo_chk n (isNm_mem h)
  have := List.all_eq_true.mp this k (List.mem_range.mpr (by omega))
  rw [decide_eq_false (by omega), Bool.false_or] at this
  simpa using this
def trM (n x more : Nat) : Nat := it (fun k r => 10 * r + (loN n ((k + x) % dg n) - 1 + more) % 4 + 1) (dg n) 0 0
theorem p_turned {n x more : Nat} (hn : isNm n = true) (hx : x < 100) (hm : more < 100) : J g k_X9_turned 0 [.int (nI n), .int (nI x), .int (nI more), m_D, m_D, m_D, m_D] [] [] h Φ = Φ (.int (nI (trM n x more))) h := by
  have hd := dg_le n
  have h1 := nm1 hn
  have hn' : n < 2147483648 := by omega
  have m10' : ∀ a : Nat, (10 : Int32) * nI a = nI (10 * a) := fun a => i_mul 10 a
  simp only [s_X9_turned_0, s_X9_turned_1, s_X9_turned_2, s_X9_turned_3, s_X9_turned_6, s_X9_turned_8, s_X9_turned_9, s_X9_turned_13, s_X9_turned_15, s_X9_turned_18, s_X9_turned_19, s_X9_turned_21, s_X9_turned_22, s_X9_turned_23, s_X9_turned_25, s_X9_turned_26, s_X9_turned_29, s_X9_turned_31, s_X9_turned_33, s_X9_turned_34, s_X9_turned_35, s_X9_turned_37, s_X9_turned_38, s_X9_turned_39, s_X9_turned_40, s_X9_turned_41, s_X9_turned_42, s_X9_turned_43, s_X9_turned_44, s_X9_turned_45, s_X9_turned_46, s_X9_turned_47, s_X9_turned_50, s_X9_turned_53, s_X9_turned_54, zI_0, Bool.true_eq_false, Bool.false_eq_true, not_true_eq_false, not_false_eq_true, if_true, if_false, KV_ap, KU_ap, dropL_nil, p_sizeOf hn']
  have key := J_it0 (fun k (q : Nat × Value) => J g k_X9_turned 11 [.int (nI n), .int (nI x), .int (nI more), .int (nI q.1), .int (nI (dg n)), .int (nI k), q.2] [] [] h Φ) (fun k q => (10 * q.1 + (loN n ((k + x) % dg n) - 1 + more) % 4 + 1, .int (nI (loN n ((k + x) % dg n))))) (dg n) (fun k q hk => by
    have hmod : (k + x) % dg n < dg n := Nat.mod_lt _ (by omega)
    have hp := lo_pos hn hmod
    have hl := loN_lt n ((k + x) % dg n)
    have nz : ¬ (nI (dg n) = 0) := by rw [eq0 (by omega)]; omega
    have er : nI (k + x) - nI (k + x) / nI (dg n) * nI (dg n) = nI ((k + x) % dg n) := by
      rw [i_div (show k + x < 2147483648 by omega) (show 0 < dg n by omega) (show dg n < 2147483648 by omega), i_mul, i_rem]
    rw [s_X9_turned_11]
    simp only [s_X9_turned_0, s_X9_turned_1, s_X9_turned_2, s_X9_turned_3, s_X9_turned_6, s_X9_turned_8, s_X9_turned_9, s_X9_turned_13, s_X9_turned_15, s_X9_turned_18, s_X9_turned_19, s_X9_turned_21, s_X9_turned_22, s_X9_turned_23, s_X9_turned_25, s_X9_turned_26, s_X9_turned_29, s_X9_turned_31, s_X9_turned_33, s_X9_turned_34, s_X9_turned_35, s_X9_turned_37, s_X9_turned_38, s_X9_turned_39, s_X9_turned_40, s_X9_turned_41, s_X9_turned_42, s_X9_turned_43, s_X9_turned_44, s_X9_turned_45, s_X9_turned_46, s_X9_turned_47, s_X9_turned_50, s_X9_turned_53, s_X9_turned_54, zI_0, Bool.true_eq_false, Bool.false_eq_true, not_true_eq_false, not_false_eq_true, if_true, if_false, KV_ap, KU_ap, dropL_nil, le_nI (show dg n < 2147483648 by omega) (show k < 2147483648 by omega), if_neg (Nat.not_le.mpr hk), i_add, nz, er, p_letterOf hn' (show (k + x) % dg n < 2147483648 by omega), m10', s1 hp, n4, d4 (show loN n ((k + x) % dg n) - 1 + more < 2147483648 by omega), m4, r4, a1]) (0, m_D)
  refine Eq.trans key ?_
  have e2 : ∀ m i (q : Nat × Value), (it (fun k (q : Nat × Value) => (10 * q.1 + (loN n ((k + x) % dg n) - 1 + more) % 4 + 1, Value.int (nI (loN n ((k + x) % dg n))))) m i q).1 = it (fun k r => 10 * r + (loN n ((k + x) % dg n) - 1 + more) % 4 + 1) m i q.1 := by
    intro m
    induction m with
    | zero => intro i q; rfl
    | succ m ih => intro i q; rw [it, it, ih]
  rw [s_X9_turned_11]
  simp only [s_X9_turned_0, s_X9_turned_1, s_X9_turned_2, s_X9_turned_3, s_X9_turned_6, s_X9_turned_8, s_X9_turned_9, s_X9_turned_13, s_X9_turned_15, s_X9_turned_18, s_X9_turned_19, s_X9_turned_21, s_X9_turned_22, s_X9_turned_23, s_X9_turned_25, s_X9_turned_26, s_X9_turned_29, s_X9_turned_31, s_X9_turned_33, s_X9_turned_34, s_X9_turned_35, s_X9_turned_37, s_X9_turned_38, s_X9_turned_39, s_X9_turned_40, s_X9_turned_41, s_X9_turned_42, s_X9_turned_43, s_X9_turned_44, s_X9_turned_45, s_X9_turned_46, s_X9_turned_47, s_X9_turned_50, s_X9_turned_53, s_X9_turned_54, le_nI (show dg n < 2147483648 by omega) (show dg n < 2147483648 by omega), Nat.le_refl, if_true, e2]
  rfl
end M3

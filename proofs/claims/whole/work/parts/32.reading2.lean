/-! Reading, on -/
section RD3
variable {g : GL} {h : HP} {Φ : Value → HP → Prop}
theorem q_lettersIn_neg {v : Int32} (hv : v < 0) : J g k_X2_lettersIn 0 [.int v, m_D, m_D] [] [] h Φ = Φ (.int 0) h := by
  have h1 : v ≤ 0 := Int32.le_of_lt hv
  simp only [s_X2_lettersIn_0, s_X2_lettersIn_1, s_X2_lettersIn_2, s_X2_lettersIn_3, s_X2_lettersIn_4, s_X2_lettersIn_5, s_X2_lettersIn_8, s_X2_lettersIn_11, s_X2_lettersIn_12, s_X2_lettersIn_14, s_X2_lettersIn_15, s_X2_lettersIn_16, s_X2_lettersIn_19, s_X2_lettersIn_20, dropL_nil, h1, if_true]
theorem dg_le (n : Nat) : dg n ≤ 10 := by
  have key : ∀ F r a, dl (fun _ a => a + 1) F r a ≤ a + F := by
    intro F
    induction F with
    | zero => intro r a; exact Nat.le_refl _
    | succ F ih => intro r a; rw [dl]; split; · omega
                   · have := ih (r / 10) (a + 1); omega
  have := key 10 n 0
  unfold dg
  omega
def isNm (n : Nat) : Bool := decide (1 ≤ dg n) && (decide (dg n ≤ 5) && al n)
def nmI (v : Int32) : Bool := !(decide (v < 0)) && isNm v.toNatClampNeg
theorem nmI_nI {n : Nat} (hn : n < 2147483648) : nmI (nI n) = isNm n := by simp [nmI, lt0 hn, cl_nI hn]
theorem q_isName (v : Int32) : J g k_X2_isName 0 [.int v] [] [] h Φ = Φ (.int (zI (nmI v))) h := by
  by_cases hv : v < 0
  · simp only [s_X2_isName_0, s_X2_isName_1, s_X2_isName_4, s_X2_isName_5, s_X2_isName_8, s_X2_isName_9, s_X2_isName_12, s_X2_isName_13, s_X2_isName_16, s_X2_isName_17, s_X2_isName_20, s_X2_isName_23, s_X2_isName_24, s_X2_isName_27, s_X2_isName_28, q_lettersIn_neg hv, KV_ap, true_or, or_true, nmI, hv, decide_true, Bool.not_true, Bool.false_and]
    rw [if_pos (by decide)]
    rfl
  · obtain ⟨n, hn, rfl⟩ := nI_of hv
    have hd := dg_le n
    rw [nmI_nI hn]
    simp only [s_X2_isName_0, s_X2_isName_1, s_X2_isName_4, s_X2_isName_5, s_X2_isName_8, s_X2_isName_9, s_X2_isName_12, s_X2_isName_13, s_X2_isName_16, s_X2_isName_17, s_X2_isName_20, s_X2_isName_23, s_X2_isName_24, s_X2_isName_27, s_X2_isName_28, q_lettersIn hn, q_hasLettersAlone hn, KV_ap, true_or, or_true, c1, c5, lt_nI (show dg n < 2147483648 by omega) (show 1 < 2147483648 by decide), lt_nI (show 5 < 2147483648 by decide) (show dg n < 2147483648 by omega), zI_0]
    unfold isNm
    by_cases h1 : dg n < 1
    · rw [if_pos h1, decide_eq_false (by omega)]; simp only [s_X2_isName_0, s_X2_isName_1, s_X2_isName_4, s_X2_isName_5, s_X2_isName_8, s_X2_isName_9, s_X2_isName_12, s_X2_isName_13, s_X2_isName_16, s_X2_isName_17, s_X2_isName_20, s_X2_isName_23, s_X2_isName_24, s_X2_isName_27, s_X2_isName_28, true_or, or_true]; rfl
    · rw [if_neg h1, decide_eq_true (show 1 ≤ dg n by omega)]
      by_cases h2 : 5 < dg n
      · rw [if_pos h2, decide_eq_false (show ¬ dg n ≤ 5 by omega)]; simp only [s_X2_isName_0, s_X2_isName_1, s_X2_isName_4, s_X2_isName_5, s_X2_isName_8, s_X2_isName_9, s_X2_isName_12, s_X2_isName_13, s_X2_isName_16, s_X2_isName_17, s_X2_isName_20, s_X2_isName_23, s_X2_isName_24, s_X2_isName_27, s_X2_isName_28, true_or, or_true]; rfl
      · rw [if_neg h2, decide_eq_true (show dg n ≤ 5 by omega)]
        cases al n
        · rw [if_pos rfl]; simp only [s_X2_isName_0, s_X2_isName_1, s_X2_isName_4, s_X2_isName_5, s_X2_isName_8, s_X2_isName_9, s_X2_isName_12, s_X2_isName_13, s_X2_isName_16, s_X2_isName_17, s_X2_isName_20, s_X2_isName_23, s_X2_isName_24, s_X2_isName_27, s_X2_isName_28, true_or, or_true]; rfl
        · rw [if_neg (by decide)]; simp only [s_X2_isName_0, s_X2_isName_1, s_X2_isName_4, s_X2_isName_5, s_X2_isName_8, s_X2_isName_9, s_X2_isName_12, s_X2_isName_13, s_X2_isName_16, s_X2_isName_17, s_X2_isName_20, s_X2_isName_23, s_X2_isName_24, s_X2_isName_27, s_X2_isName_28, true_or, or_true, ← c1]; rfl
def rdI (v : Int32) : Bool := decide (v = 0) || nmI v
theorem q_isReading (v : Int32) : J g k_X2_isReading 0 [.int v] [] [] h Φ = Φ (.int (zI (rdI v))) h := by
  simp only [s_X2_isReading_0, s_X2_isReading_1, s_X2_isReading_4, s_X2_isReading_5, s_X2_isReading_8, s_X2_isReading_11, s_X2_isReading_12, s_X2_isReading_15, s_X2_isReading_16, q_isName, KV_ap, true_or, or_true, zI_0]
  unfold rdI
  by_cases h0 : v = 0
  · rw [if_pos h0, decide_eq_true h0]; rfl
  · rw [if_neg h0, decide_eq_false h0]
    cases nmI v
    · rw [if_pos rfl]; rfl
    · rw [if_neg (by decide)]; rfl
def cutN (n m : Nat) : Nat := it (fun _ l => l / 10) m 0 n
theorem it_cut : ∀ (m i n B : Nat), n < B → it (fun _ l => l / 10) m i n < B := by
  intro m
  induction m with
  | zero => intro i n B hn; exact hn
  | succ m ih => intro i n B hn; exact ih _ _ _ (show n / 10 < B by omega)
theorem q_cut {n m : Nat} (hn : n < 2147483648) (hm : m < 2147483647) : J g k_X2_cut 0 [.int (nI n), .int (nI m), m_D, m_D] [] [] h Φ = Φ (.int (nI (cutN n m))) h := by
  simp only [s_X2_cut_0, s_X2_cut_1, s_X2_cut_2, s_X2_cut_3, s_X2_cut_5, s_X2_cut_6, s_X2_cut_9, s_X2_cut_10, s_X2_cut_12, s_X2_cut_13, s_X2_cut_14, s_X2_cut_17, s_X2_cut_20, s_X2_cut_21, dropL_nil]
  have key := J_it (fun i a => J g k_X2_cut 4 [.int (nI n), .int (nI m), .int (nI a), .int (nI i)] [] [] h Φ) (fun _ l => l / 10) m (fun _ a => a < 2147483648) (fun i a _ ha => by omega) (fun i a hi ha => by
    rw [s_X2_cut_4]
    simp only [s_X2_cut_0, s_X2_cut_1, s_X2_cut_2, s_X2_cut_3, s_X2_cut_5, s_X2_cut_6, s_X2_cut_9, s_X2_cut_10, s_X2_cut_12, s_X2_cut_13, s_X2_cut_14, s_X2_cut_17, s_X2_cut_20, s_X2_cut_21, dropL_nil, le_nI (show m < 2147483648 by omega) (show i < 2147483648 by omega), if_neg (Nat.not_le.mpr hi), n10, not_false_eq_true, d10 ha, c1, i_add]) m 0 n (Nat.zero_add m) hn
  rw [c0, key.1, s_X2_cut_4]
  simp only [s_X2_cut_0, s_X2_cut_1, s_X2_cut_2, s_X2_cut_3, s_X2_cut_5, s_X2_cut_6, s_X2_cut_9, s_X2_cut_10, s_X2_cut_12, s_X2_cut_13, s_X2_cut_14, s_X2_cut_17, s_X2_cut_20, s_X2_cut_21, dropL_nil, le_nI (show m < 2147483648 by omega) (show m < 2147483648 by omega), Nat.le_refl, if_true]
  rfl
def wdN (n : Nat) : Nat := (dl (fun r (q : Nat × Nat × Value) => if r % 10 = r / 10 % 10 then (q.1, q.2.1, .int (nI (r % 10))) else (q.1 + r % 10 * q.2.1, q.2.1 * 10, .int (nI (r % 10)))) 10 n (0, 1, m_D)).1
theorem q_withoutDoubles {n : Nat} (hn : n < 2147483648) : J g k_X2_withoutDoubles 0 [.int (nI n), m_D, m_D, m_D, m_D] [] [] h Φ = Φ (.int (nI (wdN n))) h := by
  simp only [s_X2_withoutDoubles_0, s_X2_withoutDoubles_1, s_X2_withoutDoubles_2, s_X2_withoutDoubles_3, s_X2_withoutDoubles_4, s_X2_withoutDoubles_5, s_X2_withoutDoubles_7, s_X2_withoutDoubles_10, s_X2_withoutDoubles_11, s_X2_withoutDoubles_13, s_X2_withoutDoubles_14, s_X2_withoutDoubles_16, s_X2_withoutDoubles_18, s_X2_withoutDoubles_19, s_X2_withoutDoubles_21, s_X2_withoutDoubles_22, s_X2_withoutDoubles_24, s_X2_withoutDoubles_25, s_X2_withoutDoubles_28, s_X2_withoutDoubles_29, s_X2_withoutDoubles_31, s_X2_withoutDoubles_32, s_X2_withoutDoubles_33, s_X2_withoutDoubles_34, s_X2_withoutDoubles_35, s_X2_withoutDoubles_36, s_X2_withoutDoubles_38, s_X2_withoutDoubles_39, s_X2_withoutDoubles_40, s_X2_withoutDoubles_41, s_X2_withoutDoubles_43, s_X2_withoutDoubles_44, s_X2_withoutDoubles_45, s_X2_withoutDoubles_48, s_X2_withoutDoubles_49, dropL_nil]
  have key := J_dl (fun r (q : Nat × Nat × Value) => J g k_X2_withoutDoubles 6 [.int (nI n), .int (nI q.1), .int (nI q.2.1), .int (nI r), q.2.2] [] [] h Φ) (fun r q => if r % 10 = r / 10 % 10 then (q.1, q.2.1, .int (nI (r % 10))) else (q.1 + r % 10 * q.2.1, q.2.1 * 10, .int (nI (r % 10)))) (fun r q h0 hr => by
    rw [s_X2_withoutDoubles_6]
    simp only [s_X2_withoutDoubles_0, s_X2_withoutDoubles_1, s_X2_withoutDoubles_2, s_X2_withoutDoubles_3, s_X2_withoutDoubles_4, s_X2_withoutDoubles_5, s_X2_withoutDoubles_7, s_X2_withoutDoubles_10, s_X2_withoutDoubles_11, s_X2_withoutDoubles_13, s_X2_withoutDoubles_14, s_X2_withoutDoubles_16, s_X2_withoutDoubles_18, s_X2_withoutDoubles_19, s_X2_withoutDoubles_21, s_X2_withoutDoubles_22, s_X2_withoutDoubles_24, s_X2_withoutDoubles_25, s_X2_withoutDoubles_28, s_X2_withoutDoubles_29, s_X2_withoutDoubles_31, s_X2_withoutDoubles_32, s_X2_withoutDoubles_33, s_X2_withoutDoubles_34, s_X2_withoutDoubles_35, s_X2_withoutDoubles_36, s_X2_withoutDoubles_38, s_X2_withoutDoubles_39, s_X2_withoutDoubles_40, s_X2_withoutDoubles_41, s_X2_withoutDoubles_43, s_X2_withoutDoubles_44, s_X2_withoutDoubles_45, s_X2_withoutDoubles_48, s_X2_withoutDoubles_49, dropL_nil, le0 hr, if_neg (Nat.ne_of_gt h0), n10, not_false_eq_true, d10 hr, d10 (show r / 10 < 2147483648 by omega), r10, eq_nI (show r % 10 < 2147483648 by omega) (show r / 10 % 10 < 2147483648 by omega), m10, i_mul, i_add]
    by_cases hq : r % 10 = r / 10 % 10
    · rw [if_pos hq, if_pos hq]
    · rw [if_neg hq, if_neg hq]) 10 n (0, 1, m_D) (p10 n hn) hn
  rw [c0, c1, key, s_X2_withoutDoubles_6]
  simp only [s_X2_withoutDoubles_0, s_X2_withoutDoubles_1, s_X2_withoutDoubles_2, s_X2_withoutDoubles_3, s_X2_withoutDoubles_4, s_X2_withoutDoubles_5, s_X2_withoutDoubles_7, s_X2_withoutDoubles_10, s_X2_withoutDoubles_11, s_X2_withoutDoubles_13, s_X2_withoutDoubles_14, s_X2_withoutDoubles_16, s_X2_withoutDoubles_18, s_X2_withoutDoubles_19, s_X2_withoutDoubles_21, s_X2_withoutDoubles_22, s_X2_withoutDoubles_24, s_X2_withoutDoubles_25, s_X2_withoutDoubles_28, s_X2_withoutDoubles_29, s_X2_withoutDoubles_31, s_X2_withoutDoubles_32, s_X2_withoutDoubles_33, s_X2_withoutDoubles_34, s_X2_withoutDoubles_35, s_X2_withoutDoubles_36, s_X2_withoutDoubles_38, s_X2_withoutDoubles_39, s_X2_withoutDoubles_40, s_X2_withoutDoubles_41, s_X2_withoutDoubles_43, s_X2_withoutDoubles_44, s_X2_withoutDoubles_45, s_X2_withoutDoubles_48, s_X2_withoutDoubles_49, dropL_nil, le0 (show 0 < 2147483648 by decide), if_true]
  rfl
def trN (n : Nat) : Nat := dl (fun r a => a * 10 + r % 10) 10 n 0
theorem q_turnedRound {n : Nat} (hn : n < 2147483648) : J g k_X2_turnedRound 0 [.int (nI n), m_D, m_D] [] [] h Φ = Φ (.int (nI (trN n))) h := by
  simp only [s_X2_turnedRound_0, s_X2_turnedRound_1, s_X2_turnedRound_2, s_X2_turnedRound_3, s_X2_turnedRound_5, s_X2_turnedRound_8, s_X2_turnedRound_9, s_X2_turnedRound_11, s_X2_turnedRound_12, s_X2_turnedRound_13, s_X2_turnedRound_15, s_X2_turnedRound_16, s_X2_turnedRound_17, s_X2_turnedRound_18, s_X2_turnedRound_19, s_X2_turnedRound_21, s_X2_turnedRound_22, s_X2_turnedRound_23, s_X2_turnedRound_26, s_X2_turnedRound_27, dropL_nil]
  have key := J_dl (fun r a => J g k_X2_turnedRound 4 [.int (nI n), .int (nI a), .int (nI r)] [] [] h Φ) (fun r a => a * 10 + r % 10) (fun r a h0 hr => by
    rw [s_X2_turnedRound_4]
    simp only [s_X2_turnedRound_0, s_X2_turnedRound_1, s_X2_turnedRound_2, s_X2_turnedRound_3, s_X2_turnedRound_5, s_X2_turnedRound_8, s_X2_turnedRound_9, s_X2_turnedRound_11, s_X2_turnedRound_12, s_X2_turnedRound_13, s_X2_turnedRound_15, s_X2_turnedRound_16, s_X2_turnedRound_17, s_X2_turnedRound_18, s_X2_turnedRound_19, s_X2_turnedRound_21, s_X2_turnedRound_22, s_X2_turnedRound_23, s_X2_turnedRound_26, s_X2_turnedRound_27, dropL_nil, le0 hr, if_neg (Nat.ne_of_gt h0), n10, not_false_eq_true, d10 hr, r10, m10, i_add]) 10 n 0 (p10 n hn) hn
  rw [c0, key, s_X2_turnedRound_4]
  simp only [s_X2_turnedRound_0, s_X2_turnedRound_1, s_X2_turnedRound_2, s_X2_turnedRound_3, s_X2_turnedRound_5, s_X2_turnedRound_8, s_X2_turnedRound_9, s_X2_turnedRound_11, s_X2_turnedRound_12, s_X2_turnedRound_13, s_X2_turnedRound_15, s_X2_turnedRound_16, s_X2_turnedRound_17, s_X2_turnedRound_18, s_X2_turnedRound_19, s_X2_turnedRound_21, s_X2_turnedRound_22, s_X2_turnedRound_23, s_X2_turnedRound_26, s_X2_turnedRound_27, dropL_nil, le0 (show 0 < 2147483648 by decide), if_true]
  rfl
def raN (n : Nat) : Nat := (dl (fun r (q : Nat × Nat) => (q.1 + (r % 10 % 4 + 1) * q.2, q.2 * 10)) 10 n (0, 1)).1
theorem q_raised {n : Nat} (hn : n < 2147483648) : J g k_X2_raised 0 [.int (nI n), m_D, m_D, m_D] [] [] h Φ = Φ (.int (nI (raN n))) h := by
  simp only [s_X2_raised_0, s_X2_raised_1, s_X2_raised_2, s_X2_raised_3, s_X2_raised_4, s_X2_raised_5, s_X2_raised_7, s_X2_raised_10, s_X2_raised_11, s_X2_raised_12, s_X2_raised_14, s_X2_raised_15, s_X2_raised_16, s_X2_raised_17, s_X2_raised_18, s_X2_raised_19, s_X2_raised_20, s_X2_raised_21, s_X2_raised_22, s_X2_raised_23, s_X2_raised_24, s_X2_raised_26, s_X2_raised_27, s_X2_raised_28, s_X2_raised_29, s_X2_raised_31, s_X2_raised_32, s_X2_raised_33, s_X2_raised_36, s_X2_raised_37, dropL_nil]
  have key := J_dl (fun r (q : Nat × Nat) => J g k_X2_raised 6 [.int (nI n), .int (nI q.1), .int (nI q.2), .int (nI r)] [] [] h Φ) (fun r q => (q.1 + (r % 10 % 4 + 1) * q.2, q.2 * 10)) (fun r q h0 hr => by
    rw [s_X2_raised_6]
    simp only [s_X2_raised_0, s_X2_raised_1, s_X2_raised_2, s_X2_raised_3, s_X2_raised_4, s_X2_raised_5, s_X2_raised_7, s_X2_raised_10, s_X2_raised_11, s_X2_raised_12, s_X2_raised_14, s_X2_raised_15, s_X2_raised_16, s_X2_raised_17, s_X2_raised_18, s_X2_raised_19, s_X2_raised_20, s_X2_raised_21, s_X2_raised_22, s_X2_raised_23, s_X2_raised_24, s_X2_raised_26, s_X2_raised_27, s_X2_raised_28, s_X2_raised_29, s_X2_raised_31, s_X2_raised_32, s_X2_raised_33, s_X2_raised_36, s_X2_raised_37, dropL_nil, le0 hr, if_neg (Nat.ne_of_gt h0), n10, n4, not_false_eq_true, d10 hr, r10, d4 (show r % 10 < 2147483648 by omega), m4, r4, m10, a1, i_mul, i_add]) 10 n (0, 1) (p10 n hn) hn
  rw [c0, c1, key, s_X2_raised_6]
  simp only [s_X2_raised_0, s_X2_raised_1, s_X2_raised_2, s_X2_raised_3, s_X2_raised_4, s_X2_raised_5, s_X2_raised_7, s_X2_raised_10, s_X2_raised_11, s_X2_raised_12, s_X2_raised_14, s_X2_raised_15, s_X2_raised_16, s_X2_raised_17, s_X2_raised_18, s_X2_raised_19, s_X2_raised_20, s_X2_raised_21, s_X2_raised_22, s_X2_raised_23, s_X2_raised_24, s_X2_raised_26, s_X2_raised_27, s_X2_raised_28, s_X2_raised_29, s_X2_raised_31, s_X2_raised_32, s_X2_raised_33, s_X2_raised_36, s_X2_raised_37, dropL_nil, le0 (show 0 < 2147483648 by decide), if_true]
  rfl
def poN (n : Nat) : Nat := dl (fun _ a => a * 10) 10 (n / 10) 1
theorem q_placeOfFirst {n : Nat} (hn : n < 2147483648) : J g k_X2_placeOfFirst 0 [.int (nI n), m_D, m_D] [] [] h Φ = Φ (.int (nI (poN n))) h := by
  simp only [s_X2_placeOfFirst_0, s_X2_placeOfFirst_1, s_X2_placeOfFirst_2, s_X2_placeOfFirst_3, s_X2_placeOfFirst_5, s_X2_placeOfFirst_6, s_X2_placeOfFirst_8, s_X2_placeOfFirst_11, s_X2_placeOfFirst_12, s_X2_placeOfFirst_14, s_X2_placeOfFirst_15, s_X2_placeOfFirst_16, s_X2_placeOfFirst_17, s_X2_placeOfFirst_19, s_X2_placeOfFirst_20, s_X2_placeOfFirst_21, s_X2_placeOfFirst_24, s_X2_placeOfFirst_25, dropL_nil, n10, not_false_eq_true, d10 hn]
  have key := J_dl (fun r a => J g k_X2_placeOfFirst 7 [.int (nI n), .int (nI a), .int (nI r)] [] [] h Φ) (fun _ a => a * 10) (fun r a h0 hr => by
    rw [s_X2_placeOfFirst_7]
    simp only [s_X2_placeOfFirst_0, s_X2_placeOfFirst_1, s_X2_placeOfFirst_2, s_X2_placeOfFirst_3, s_X2_placeOfFirst_5, s_X2_placeOfFirst_6, s_X2_placeOfFirst_8, s_X2_placeOfFirst_11, s_X2_placeOfFirst_12, s_X2_placeOfFirst_14, s_X2_placeOfFirst_15, s_X2_placeOfFirst_16, s_X2_placeOfFirst_17, s_X2_placeOfFirst_19, s_X2_placeOfFirst_20, s_X2_placeOfFirst_21, s_X2_placeOfFirst_24, s_X2_placeOfFirst_25, dropL_nil, le0 hr, if_neg (Nat.ne_of_gt h0), n10, not_false_eq_true, d10 hr, m10]) 10 (n / 10) 1 (p10 _ (by omega)) (by omega)
  rw [c1, key, s_X2_placeOfFirst_7]
  simp only [s_X2_placeOfFirst_0, s_X2_placeOfFirst_1, s_X2_placeOfFirst_2, s_X2_placeOfFirst_3, s_X2_placeOfFirst_5, s_X2_placeOfFirst_6, s_X2_placeOfFirst_8, s_X2_placeOfFirst_11, s_X2_placeOfFirst_12, s_X2_placeOfFirst_14, s_X2_placeOfFirst_15, s_X2_placeOfFirst_16, s_X2_placeOfFirst_17, s_X2_placeOfFirst_19, s_X2_placeOfFirst_20, s_X2_placeOfFirst_21, s_X2_placeOfFirst_24, s_X2_placeOfFirst_25, dropL_nil, le0 (show 0 < 2147483648 by decide), if_true]
  rfl
def tuN (n m : Nat) : Nat := it (fun _ t => t % poN n * 10 + t / poN n) m 0 n
theorem q_turned {n m : Nat} (hn : n < 10 * poN n) (hp : 0 < poN n) (hp2 : poN n ≤ 100000) (hm : m < 2147483647) : J g k_X2_turned 0 [.int (nI n), .int (nI m), m_D, m_D, m_D] [] [] h Φ = Φ (.int (nI (tuN n m))) h := by
  have hn' : n < 2147483648 := by omega
  have hp3 : poN n < 2147483648 := by omega
  simp only [s_X2_turned_0, s_X2_turned_1, s_X2_turned_2, s_X2_turned_3, s_X2_turned_6, s_X2_turned_7, s_X2_turned_8, s_X2_turned_12, s_X2_turned_13, s_X2_turned_16, s_X2_turned_17, s_X2_turned_20, s_X2_turned_21, s_X2_turned_22, s_X2_turned_23, s_X2_turned_25, s_X2_turned_26, s_X2_turned_27, s_X2_turned_28, s_X2_turned_29, s_X2_turned_30, s_X2_turned_31, s_X2_turned_34, s_X2_turned_37, s_X2_turned_38, dropL_nil, q_placeOfFirst hn', KV_ap]
  have key := J_it (fun i a => J g k_X2_turned 10 [.int (nI n), .int (nI m), .int (nI a), .int (nI (poN n)), .int (nI i)] [] [] h Φ) (fun _ t => t % poN n * 10 + t / poN n) m (fun _ a => a < 10 * poN n) (fun i a _ ha => by
      have h1 : a % poN n < poN n := Nat.mod_lt _ hp
      have h2 : a / poN n < 10 := Nat.div_lt_of_lt_mul (by rw [Nat.mul_comm]; exact ha)
      omega) (fun i a hi ha => by
    rw [s_X2_turned_10]
    simp only [s_X2_turned_0, s_X2_turned_1, s_X2_turned_2, s_X2_turned_3, s_X2_turned_6, s_X2_turned_7, s_X2_turned_8, s_X2_turned_12, s_X2_turned_13, s_X2_turned_16, s_X2_turned_17, s_X2_turned_20, s_X2_turned_21, s_X2_turned_22, s_X2_turned_23, s_X2_turned_25, s_X2_turned_26, s_X2_turned_27, s_X2_turned_28, s_X2_turned_29, s_X2_turned_30, s_X2_turned_31, s_X2_turned_34, s_X2_turned_37, s_X2_turned_38, dropL_nil, le_nI (show m < 2147483648 by omega) (show i < 2147483648 by omega), if_neg (Nat.not_le.mpr hi), le0 hp3, if_neg (Nat.ne_of_gt hp), eq0 hp3, Nat.ne_of_gt hp, not_false_eq_true, i_div (show a < 2147483648 by omega) hp hp3, i_mul, i_rem, m10, a1, i_add, if_false]) m 0 n (Nat.zero_add m) hn
  rw [c0, key.1, s_X2_turned_10]
  simp only [s_X2_turned_0, s_X2_turned_1, s_X2_turned_2, s_X2_turned_3, s_X2_turned_6, s_X2_turned_7, s_X2_turned_8, s_X2_turned_12, s_X2_turned_13, s_X2_turned_16, s_X2_turned_17, s_X2_turned_20, s_X2_turned_21, s_X2_turned_22, s_X2_turned_23, s_X2_turned_25, s_X2_turned_26, s_X2_turned_27, s_X2_turned_28, s_X2_turned_29, s_X2_turned_30, s_X2_turned_31, s_X2_turned_34, s_X2_turned_37, s_X2_turned_38, dropL_nil, le_nI (show m < 2147483648 by omega) (show m < 2147483648 by omega), Nat.le_refl, if_true]
  rfl
end RD3

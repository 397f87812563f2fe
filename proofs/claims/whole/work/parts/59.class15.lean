/-! The class's calls: breaks -/
def usI (x y : Int32) : Int32 := (x.toUInt32 >>> (y.toUInt32 &&& Int32.toUInt32 31)).toInt32
def bc1 (x : Int32) : Int32 := x - (usI x 1 &&& 1431655765)
def bc2 (x : Int32) : Int32 := (x &&& 858993459) + (usI x 2 &&& 858993459)
def bc3 (x : Int32) : Int32 := (x + usI x 4) &&& 252645135
def bc4 (x : Int32) : Int32 := x + usI x 8
def bc5 (x : Int32) : Int32 := x + usI x 16
def bcI (x : Int32) : Int32 := bc5 (bc4 (bc3 (bc2 (bc1 x)))) &&& 63
def pcN (n : Nat) : Nat := it (fun k c => c + n / 2 ^ k % 2) 9 0 0
theorem bc_chk : ∀ n, n < 512 → bcI (nI n) = nI (pcN n) := by decide +kernel
theorem pcN_le (n : Nat) : pcN n ≤ 9 := by
  unfold pcN
  have : ∀ m i a, a ≤ i → it (fun k c => c + n / 2 ^ k % 2) m i a ≤ i + m := by
    intro m
    induction m with
    | zero => intro i a h; exact h
    | succ m ih =>
      intro i a h
      rw [it]
      refine Nat.le_trans (ih (i + 1) _ ?_) (by omega)
      have := Nat.mod_lt (n / 2 ^ i) (show 2 > 0 by decide)
      omega
  exact this 9 0 0 (Nat.le_refl 0)
theorem i_and (a b : Nat) : nI a &&& nI b = nI (a &&& b) := by
  apply Int32.toBitVec_inj.mp
  show BitVec.ofNat 32 a &&& BitVec.ofNat 32 b = BitVec.ofNat 32 (a &&& b)
  rw [BitVec.ofNat_and]
section C15
variable {g : GL} {h : HP} {Φ : Value → HP → Prop} {B : Nat}
theorem q_bitCount (v : Int32) : J g k_J6_bitCount_0f7a4 0 [.int v] [] [] h Φ = Φ (.int (bcI v)) h := by
  simp only [s_J6_bitCount_0f7a4_0, s_J6_bitCount_0f7a4_1, s_J6_bitCount_0f7a4_2, s_J6_bitCount_0f7a4_3, s_J6_bitCount_0f7a4_4, s_J6_bitCount_0f7a4_7, s_J6_bitCount_0f7a4_8, s_J6_bitCount_0f7a4_9, s_J6_bitCount_0f7a4_10, s_J6_bitCount_0f7a4_11, s_J6_bitCount_0f7a4_14, s_J6_bitCount_0f7a4_15, s_J6_bitCount_0f7a4_16, s_J6_bitCount_0f7a4_17, s_J6_bitCount_0f7a4_18, s_J6_bitCount_0f7a4_21, s_J6_bitCount_0f7a4_22, s_J6_bitCount_0f7a4_23, s_J6_bitCount_0f7a4_24, s_J6_bitCount_0f7a4_25, s_J6_bitCount_0f7a4_26, s_J6_bitCount_0f7a4_27, s_J6_bitCount_0f7a4_28, s_J6_bitCount_0f7a4_29, s_J6_bitCount_0f7a4_32, s_J6_bitCount_0f7a4_33, s_J6_bitCount_0f7a4_34, s_J6_bitCount_0f7a4_35, s_J6_bitCount_0f7a4_36, s_J6_bitCount_0f7a4_38, s_J6_bitCount_0f7a4_39, s_J6_bitCount_0f7a4_40, s_J6_bitCount_0f7a4_41, s_J6_bitCount_0f7a4_42, s_J6_bitCount_0f7a4_43, s_J6_bitCount_0f7a4_45, s_J6_bitCount_0f7a4_46, s_J6_bitCount_0f7a4_47, s_J6_bitCount_0f7a4_48, s_J6_bitCount_0f7a4_49, s_J6_bitCount_0f7a4_51, s_J6_bitCount_0f7a4_52, dropL_nil]
  rfl
/-- the inches, as bits, at which a stick is read otherwise, were it of a kind -/
def tlN (s : St) (k : Nat) : Nat := bN (fun x => !decide (rdX k s.2.1 x s.2.2.2 = rS s x)) s.2.2.1
theorem q_inchesThatTell {L N : List St} {P : List (List St)} {im : Nat → Option TW} {tx : List Nat} {fr : Int64 × Int64} {rf : Nat → Int32} (hX : isX h B ((L, N, P), im, tx, fr, rf)) {j k : Nat} (hj : j < L.length) (hk : k < 6) : J g k_X8_inchesThatTell 0 [.ref B, .int (nI j), .int (nI k), m_D, m_D, m_D] [] [] h Φ = Φ (.int (nI (tlN (gS L j) k))) h := by
  have o := hX.1
  obtain ⟨t0, t1, t2, t3, t4, t5, t6⟩ := hX.2.1
  have t4 : isS h (B + 1 + 1) L := t4
  have hl6 : L.length ≤ 6 := t4.2.1.2.2.2.1
  obtain ⟨w1, w2, w3, w4⟩ := t4.2.2.2 j hj
  simp only [s_X8_inchesThatTell_0, s_X8_inchesThatTell_1, s_X8_inchesThatTell_2, s_X8_inchesThatTell_3, s_X8_inchesThatTell_6, s_X8_inchesThatTell_9, s_X8_inchesThatTell_10, s_X8_inchesThatTell_11, s_X8_inchesThatTell_14, s_X8_inchesThatTell_16, s_X8_inchesThatTell_17, s_X8_inchesThatTell_21, s_X8_inchesThatTell_23, s_X8_inchesThatTell_26, s_X8_inchesThatTell_27, s_X8_inchesThatTell_30, s_X8_inchesThatTell_33, s_X8_inchesThatTell_34, s_X8_inchesThatTell_35, s_X8_inchesThatTell_37, s_X8_inchesThatTell_40, s_X8_inchesThatTell_41, s_X8_inchesThatTell_44, s_X8_inchesThatTell_47, s_X8_inchesThatTell_48, s_X8_inchesThatTell_50, s_X8_inchesThatTell_53, s_X8_inchesThatTell_56, s_X8_inchesThatTell_57, s_X8_inchesThatTell_58, s_X8_inchesThatTell_60, s_X8_inchesThatTell_61, s_X8_inchesThatTell_62, s_X8_inchesThatTell_63, s_X8_inchesThatTell_66, s_X8_inchesThatTell_69, s_X8_inchesThatTell_70, o.1, o.2.1, t0, t1, t4.1, zI_0, Bool.true_eq_false, Bool.false_eq_true, not_true_eq_false, not_false_eq_true, if_true, if_false, KV_ap, KU_ap, dropL_nil, q_fact2 t4.2.1 (show j < 2147483648 by omega), fc2 t4 hj]
  have key := J_it (fun x b => J g k_X8_inchesThatTell 19 [.ref B, .int (nI j), .int (nI k), .int (nI b), .int (nI (gS L j).2.2.1), .int (nI x)] [] [] h Φ) (fun x b => if (!decide (rdX k (gS L j).2.1 x (gS L j).2.2.2 = rS (gS L j) x)) = true then b + 2 ^ x else b) (gS L j).2.2.1 (fun x b => b < 2 ^ x) (fun x b _ hb => by
      rw [Nat.pow_succ]; split <;> omega) (fun x b hx hb => by
    have hx9 : x < 9 := by omega
    have r1 := rdX_lt (k := k) w2 hx9 (show (gS L j).2.2.2 < 19 by omega)
    have r2 := rS_lt t4.2.2.2 (x := x) hj hx9
    rw [s_X8_inchesThatTell_19]
    simp only [s_X8_inchesThatTell_0, s_X8_inchesThatTell_1, s_X8_inchesThatTell_2, s_X8_inchesThatTell_3, s_X8_inchesThatTell_6, s_X8_inchesThatTell_9, s_X8_inchesThatTell_10, s_X8_inchesThatTell_11, s_X8_inchesThatTell_14, s_X8_inchesThatTell_16, s_X8_inchesThatTell_17, s_X8_inchesThatTell_21, s_X8_inchesThatTell_23, s_X8_inchesThatTell_26, s_X8_inchesThatTell_27, s_X8_inchesThatTell_30, s_X8_inchesThatTell_33, s_X8_inchesThatTell_34, s_X8_inchesThatTell_35, s_X8_inchesThatTell_37, s_X8_inchesThatTell_40, s_X8_inchesThatTell_41, s_X8_inchesThatTell_44, s_X8_inchesThatTell_47, s_X8_inchesThatTell_48, s_X8_inchesThatTell_50, s_X8_inchesThatTell_53, s_X8_inchesThatTell_56, s_X8_inchesThatTell_57, s_X8_inchesThatTell_58, s_X8_inchesThatTell_60, s_X8_inchesThatTell_61, s_X8_inchesThatTell_62, s_X8_inchesThatTell_63, s_X8_inchesThatTell_66, s_X8_inchesThatTell_69, s_X8_inchesThatTell_70, o.1, o.2.1, t0, t1, t4.1, zI_0, Bool.true_eq_false, Bool.false_eq_true, not_true_eq_false, not_false_eq_true, if_true, if_false, KV_ap, KU_ap, dropL_nil, le_nI (show (gS L j).2.2.1 < 2147483648 by omega) (show x < 2147483648 by omega), if_neg (Nat.not_le.mpr hx), q_seenAsKind t4 hj hx9 hk, q_seenAt t4 hj hx9, eq_nI (show rdX k (gS L j).2.1 x (gS L j).2.2.2 < 2147483648 by omega) (show rS (gS L j) x < 2147483648 by omega), orb x (by omega) b hb, a1]
    by_cases hc : rdX k (gS L j).2.1 x (gS L j).2.2.2 = rS (gS L j) x
    · simp only [hc, if_true, decide_true, Bool.not_true, Bool.false_eq_true, if_false]
    · simp only [hc, if_true, decide_false, Bool.not_false, if_false]) (gS L j).2.2.1 0 0 (Nat.zero_add _) (by decide)
  rw [c0, key.1, s_X8_inchesThatTell_19]
  simp only [s_X8_inchesThatTell_0, s_X8_inchesThatTell_1, s_X8_inchesThatTell_2, s_X8_inchesThatTell_3, s_X8_inchesThatTell_6, s_X8_inchesThatTell_9, s_X8_inchesThatTell_10, s_X8_inchesThatTell_11, s_X8_inchesThatTell_14, s_X8_inchesThatTell_16, s_X8_inchesThatTell_17, s_X8_inchesThatTell_21, s_X8_inchesThatTell_23, s_X8_inchesThatTell_26, s_X8_inchesThatTell_27, s_X8_inchesThatTell_30, s_X8_inchesThatTell_33, s_X8_inchesThatTell_34, s_X8_inchesThatTell_35, s_X8_inchesThatTell_37, s_X8_inchesThatTell_40, s_X8_inchesThatTell_41, s_X8_inchesThatTell_44, s_X8_inchesThatTell_47, s_X8_inchesThatTell_48, s_X8_inchesThatTell_50, s_X8_inchesThatTell_53, s_X8_inchesThatTell_56, s_X8_inchesThatTell_57, s_X8_inchesThatTell_58, s_X8_inchesThatTell_60, s_X8_inchesThatTell_61, s_X8_inchesThatTell_62, s_X8_inchesThatTell_63, s_X8_inchesThatTell_66, s_X8_inchesThatTell_69, s_X8_inchesThatTell_70, le_nI (show (gS L j).2.2.1 < 2147483648 by omega) (show (gS L j).2.2.1 < 2147483648 by omega), Nat.le_refl, if_true]
  rfl
theorem tlN_lt {s : St} (hs : vS s) (k : Nat) : tlN s k < 512 := by
  have h1 := bN_lt (fun x => !decide (rdX k s.2.1 x s.2.2.2 = rS s x)) s.2.2.1
  have h2 : 2 ^ s.2.2.1 ≤ 2 ^ 9 := Nat.pow_le_pow_right (by decide) hs.2.2.1.2
  exact Nat.lt_of_lt_of_le h1 h2
def taK (s : St) (I k : Nat) : Bool := decide (k = s.1) || !decide (I &&& tlN s k = 0)
def taN (s : St) (I : Nat) : Bool := (List.range 6).all (fun k => taK s I k)
theorem taN_iff (s : St) (I : Nat) : taN s I = true ↔ ∀ k, k < 6 → taK s I k = true := by
  unfold taN
  rw [List.all_eq_true]
  exact ⟨fun z k hk => z k (List.mem_range.mpr hk), fun z k hk => z k (List.mem_range.mp hk)⟩
theorem q_tellsAll (ho : hS h B = (0, 6)) (h6 : hF h B 6 = .ref (B + 23)) (hs : hS h (B + 23) = (1, 6)) {s : St} (hv : vS s) (hb : ∀ k, k < 6 → hI h (B + 23) k = nI (tlN s k)) {I : Nat} (hI : I < 512) : J g k_X8_tellsAll 0 [.ref B, .int (nI I), .int (nI s.1), m_D] [] [] h Φ = Φ (.int (zI (taN s I))) h := by
  have key := J_all (fun k => J g k_X8_tellsAll 2 [.ref B, .int (nI I), .int (nI s.1), .int (nI k)] [] [] h Φ) (fun k => taK s I k) 6 (Φ (.int 1) h) (Φ (.int 0) h) (fun k hk => by
    have hv1 := hv.1
    have hi : m_inb (nI k) 6 = true := by rw [inb_nI (by omega)]; simpa using hk
    have ha : I &&& tlN s k < 2147483648 := Nat.lt_of_le_of_lt Nat.and_le_left (by omega)
    rw [s_X8_tellsAll_2]
    unfold taK
    simp only [s_X8_tellsAll_0, s_X8_tellsAll_1, s_X8_tellsAll_3, s_X8_tellsAll_5, s_X8_tellsAll_8, s_X8_tellsAll_9, s_X8_tellsAll_10, s_X8_tellsAll_13, s_X8_tellsAll_14, s_X8_tellsAll_15, s_X8_tellsAll_18, s_X8_tellsAll_19, s_X8_tellsAll_20, s_X8_tellsAll_21, s_X8_tellsAll_24, s_X8_tellsAll_25, s_X8_tellsAll_26, s_X8_tellsAll_29, s_X8_tellsAll_32, s_X8_tellsAll_33, zI_0, Bool.true_eq_false, Bool.false_eq_true, not_true_eq_false, not_false_eq_true, if_true, if_false, KV_ap, KU_ap, dropL_nil, c6, le_nI (show 6 < 2147483648 by decide) (show k < 2147483648 by omega), if_neg (Nat.not_le.mpr hk), eq_nI (show k < 2147483648 by omega) (show s.1 < 2147483648 by omega), ho, h6, hs, hi, cl_nI (show k < 2147483648 by omega), hb k hk, i_and, eq0 ha, a1, true_or, or_true]
    by_cases hc : k = s.1
    · simp only [hc, if_true, decide_true, Bool.true_or]
    · by_cases hd : I &&& tlN s k = 0
      · simp only [hc, hd, if_true, if_false, decide_true, decide_false, Bool.false_or, Bool.not_true, Bool.false_eq_true, not_true_eq_false]
      · simp only [hc, hd, if_true, if_false, decide_false, Bool.false_or, Bool.not_false, not_false_eq_true]) (by
    rw [s_X8_tellsAll_2]
    simp only [s_X8_tellsAll_0, s_X8_tellsAll_1, s_X8_tellsAll_3, s_X8_tellsAll_5, s_X8_tellsAll_8, s_X8_tellsAll_9, s_X8_tellsAll_10, s_X8_tellsAll_13, s_X8_tellsAll_14, s_X8_tellsAll_15, s_X8_tellsAll_18, s_X8_tellsAll_19, s_X8_tellsAll_20, s_X8_tellsAll_21, s_X8_tellsAll_24, s_X8_tellsAll_25, s_X8_tellsAll_26, s_X8_tellsAll_29, s_X8_tellsAll_32, s_X8_tellsAll_33, c6, le_nI (show 6 < 2147483648 by decide) (show 6 < 2147483648 by decide), Nat.le_refl, if_true, true_or, or_true])
  rw [s_X8_tellsAll_0, s_X8_tellsAll_1, dropL_nil, c0, key]
  cases ht : taN s I
  · rw [if_neg (fun z => by rw [(taN_iff s I).mpr z] at ht; exact absurd ht (by decide))]; rfl
  · rw [if_pos ((taN_iff s I).mp ht)]; rfl
def fbN (s : St) : Int32 × Nat := it (fun I (q : Int32 × Nat) => if (decide (pcN I < q.2) && taN s I) = true then (nI I, pcN I) else q) (2 ^ s.2.2.1 - 1) 1 (-1, 10)
theorem q_fewestBreaks {L N : List St} {P : List (List St)} {im : Nat → Option TW} {tx : List Nat} {fr : Int64 × Int64} {rf : Nat → Int32} (hX : isX h B ((L, N, P), im, tx, fr, rf)) {j : Nat} (hj : j < L.length) : J g k_X8_fewestBreaks 0 [.ref B, .int (nI j), m_D, m_D, m_D, m_D, m_D, m_D] [] [] h Φ = Φ (.int (fbN (gS L j)).1) (pI h (B + 23) (bkF (tlN (gS L j)) (hI h (B + 23)))) := by
  have o := hX.1
  obtain ⟨t0, t1, t2, t3, t4, t5, t6⟩ := hX.2.1
  have t4 : isS h (B + 1 + 1) L := t4
  have hl6 : L.length ≤ 6 := t4.2.1.2.2.2.1
  have o6 : hF h B 6 = .ref (B + 23) := o.2.2.2.2.2.2.2.1
  have sh : hS h (B + 23) = (1, 6) := hX.2.2.2.2.2.2.2.1
  have hvS := t4.2.2.2 j hj
  obtain ⟨w1, w2, w3, w4⟩ := id hvS
  simp only [s_X8_fewestBreaks_0, s_X8_fewestBreaks_1, s_X8_fewestBreaks_3, s_X8_fewestBreaks_5, s_X8_fewestBreaks_8, s_X8_fewestBreaks_9, s_X8_fewestBreaks_12, s_X8_fewestBreaks_13, s_X8_fewestBreaks_14, s_X8_fewestBreaks_15, s_X8_fewestBreaks_16, s_X8_fewestBreaks_19, s_X8_fewestBreaks_20, s_X8_fewestBreaks_23, s_X8_fewestBreaks_26, s_X8_fewestBreaks_27, s_X8_fewestBreaks_30, s_X8_fewestBreaks_33, s_X8_fewestBreaks_34, s_X8_fewestBreaks_35, s_X8_fewestBreaks_38, s_X8_fewestBreaks_39, s_X8_fewestBreaks_40, s_X8_fewestBreaks_41, s_X8_fewestBreaks_43, s_X8_fewestBreaks_45, s_X8_fewestBreaks_46, s_X8_fewestBreaks_47, s_X8_fewestBreaks_50, s_X8_fewestBreaks_53, s_X8_fewestBreaks_54, s_X8_fewestBreaks_55, s_X8_fewestBreaks_58, s_X8_fewestBreaks_59, s_X8_fewestBreaks_61, s_X8_fewestBreaks_62, s_X8_fewestBreaks_66, s_X8_fewestBreaks_68, s_X8_fewestBreaks_71, s_X8_fewestBreaks_73, s_X8_fewestBreaks_76, s_X8_fewestBreaks_78, s_X8_fewestBreaks_80, s_X8_fewestBreaks_82, s_X8_fewestBreaks_85, s_X8_fewestBreaks_86, s_X8_fewestBreaks_88, s_X8_fewestBreaks_89, s_X8_fewestBreaks_92, s_X8_fewestBreaks_95, s_X8_fewestBreaks_97, s_X8_fewestBreaks_99, s_X8_fewestBreaks_101, s_X8_fewestBreaks_102, s_X8_fewestBreaks_105, s_X8_fewestBreaks_108, s_X8_fewestBreaks_109, dropL_nil]
  have key1 := J_it0 (fun k f => J g k_X8_fewestBreaks 2 [.ref B, .int (nI j), .int (nI k), m_D, m_D, m_D, m_D, m_D] [] [] (pI h (B + 23) f) Φ) (fun k f => upd f k (nI (tlN (gS L j) k))) 6 (fun k f hk => by
    have hi : m_inb (nI k) 6 = true := by rw [inb_nI (by omega)]; simpa using hk
    have hXq : isX (pI h (B + 23) f) B ((L, N, P), im, tx, fr, rf) := isX_sc hX (Or.inr rfl)
    rw [s_X8_fewestBreaks_2]
    simp only [s_X8_fewestBreaks_0, s_X8_fewestBreaks_1, s_X8_fewestBreaks_3, s_X8_fewestBreaks_5, s_X8_fewestBreaks_8, s_X8_fewestBreaks_9, s_X8_fewestBreaks_12, s_X8_fewestBreaks_13, s_X8_fewestBreaks_14, s_X8_fewestBreaks_15, s_X8_fewestBreaks_16, s_X8_fewestBreaks_19, s_X8_fewestBreaks_20, s_X8_fewestBreaks_23, s_X8_fewestBreaks_26, s_X8_fewestBreaks_27, s_X8_fewestBreaks_30, s_X8_fewestBreaks_33, s_X8_fewestBreaks_34, s_X8_fewestBreaks_35, s_X8_fewestBreaks_38, s_X8_fewestBreaks_39, s_X8_fewestBreaks_40, s_X8_fewestBreaks_41, s_X8_fewestBreaks_43, s_X8_fewestBreaks_45, s_X8_fewestBreaks_46, s_X8_fewestBreaks_47, s_X8_fewestBreaks_50, s_X8_fewestBreaks_53, s_X8_fewestBreaks_54, s_X8_fewestBreaks_55, s_X8_fewestBreaks_58, s_X8_fewestBreaks_59, s_X8_fewestBreaks_61, s_X8_fewestBreaks_62, s_X8_fewestBreaks_66, s_X8_fewestBreaks_68, s_X8_fewestBreaks_71, s_X8_fewestBreaks_73, s_X8_fewestBreaks_76, s_X8_fewestBreaks_78, s_X8_fewestBreaks_80, s_X8_fewestBreaks_82, s_X8_fewestBreaks_85, s_X8_fewestBreaks_86, s_X8_fewestBreaks_88, s_X8_fewestBreaks_89, s_X8_fewestBreaks_92, s_X8_fewestBreaks_95, s_X8_fewestBreaks_97, s_X8_fewestBreaks_99, s_X8_fewestBreaks_101, s_X8_fewestBreaks_102, s_X8_fewestBreaks_105, s_X8_fewestBreaks_108, s_X8_fewestBreaks_109, zI_0, Bool.true_eq_false, Bool.false_eq_true, not_true_eq_false, not_false_eq_true, if_true, if_false, KV_ap, KU_ap, dropL_nil, c6, le_nI (show 6 < 2147483648 by decide) (show k < 2147483648 by omega), if_neg (Nat.not_le.mpr hk), hS_pI, hF_pI, o.1, o6, sh, q_inchesThatTell hXq hj hk, hi, cl_nI (show k < 2147483648 by omega), hI_pIs, pI_pI, a1]) (hI h (B + 23))
  have key1' := key1
  simp only [pI_id] at key1'
  refine Eq.trans key1' ?_
  rw [s_X8_fewestBreaks_2]
  have hFe : it (fun k f => upd f k (nI (tlN (gS L j) k))) 6 0 (hI h (B + 23)) = bkF (tlN (gS L j)) (hI h (B + 23)) := rfl
  rw [hFe]
  generalize hF : bkF (tlN (gS L j)) (hI h (B + 23)) = F
  have hFk : ∀ k, k < 6 → hI (pI h (B + 23) F) (B + 23) k = nI (tlN (gS L j) k) := fun k hk => by rw [hI_pIs, ← hF]; exact bkF_at _ _ k hk
  have t4' : isS (pI h (B + 23) F) (B + 1 + 1) L := isS_pI (by omega) t4
  have hb9 : 2 ^ (gS L j).2.2.1 ≤ 512 := Nat.pow_le_pow_right (n := 2) (by decide) (show (gS L j).2.2.1 ≤ 9 from w3.2)
  have hb1 : 1 ≤ 2 ^ (gS L j).2.2.1 := Nat.one_le_two_pow
  simp only [s_X8_fewestBreaks_0, s_X8_fewestBreaks_1, s_X8_fewestBreaks_3, s_X8_fewestBreaks_5, s_X8_fewestBreaks_8, s_X8_fewestBreaks_9, s_X8_fewestBreaks_12, s_X8_fewestBreaks_13, s_X8_fewestBreaks_14, s_X8_fewestBreaks_15, s_X8_fewestBreaks_16, s_X8_fewestBreaks_19, s_X8_fewestBreaks_20, s_X8_fewestBreaks_23, s_X8_fewestBreaks_26, s_X8_fewestBreaks_27, s_X8_fewestBreaks_30, s_X8_fewestBreaks_33, s_X8_fewestBreaks_34, s_X8_fewestBreaks_35, s_X8_fewestBreaks_38, s_X8_fewestBreaks_39, s_X8_fewestBreaks_40, s_X8_fewestBreaks_41, s_X8_fewestBreaks_43, s_X8_fewestBreaks_45, s_X8_fewestBreaks_46, s_X8_fewestBreaks_47, s_X8_fewestBreaks_50, s_X8_fewestBreaks_53, s_X8_fewestBreaks_54, s_X8_fewestBreaks_55, s_X8_fewestBreaks_58, s_X8_fewestBreaks_59, s_X8_fewestBreaks_61, s_X8_fewestBreaks_62, s_X8_fewestBreaks_66, s_X8_fewestBreaks_68, s_X8_fewestBreaks_71, s_X8_fewestBreaks_73, s_X8_fewestBreaks_76, s_X8_fewestBreaks_78, s_X8_fewestBreaks_80, s_X8_fewestBreaks_82, s_X8_fewestBreaks_85, s_X8_fewestBreaks_86, s_X8_fewestBreaks_88, s_X8_fewestBreaks_89, s_X8_fewestBreaks_92, s_X8_fewestBreaks_95, s_X8_fewestBreaks_97, s_X8_fewestBreaks_99, s_X8_fewestBreaks_101, s_X8_fewestBreaks_102, s_X8_fewestBreaks_105, s_X8_fewestBreaks_108, s_X8_fewestBreaks_109, zI_0, Bool.true_eq_false, Bool.false_eq_true, not_true_eq_false, not_false_eq_true, if_true, if_false, KV_ap, KU_ap, dropL_nil, c6, le_nI (show 6 < 2147483648 by decide) (show 6 < 2147483648 by decide), Nat.le_refl, hS_pI, hF_pI, o.1, o.2.1, t0, t1, t4.1, q_fact0 t4'.2.1 (show j < 2147483648 by omega), fc0 t4' hj, q_fact2 t4'.2.1 (show j < 2147483648 by omega), fc2 t4' hj, shl1 (gS L j).2.2.1 (by omega)]
  have key2 := J_it (fun I (q : (Int32 × Nat) × Value) => J g k_X8_fewestBreaks 64 [.ref B, .int (nI j), .int (nI (gS L j).1), .int q.1.1, .int (nI q.1.2), .int (nI (2 ^ (gS L j).2.2.1)), .int (nI I), q.2] [] [] (pI h (B + 23) F) Φ) (fun I q => (if (decide (pcN I < q.1.2) && taN (gS L j) I) = true then (nI I, pcN I) else q.1, .int (nI (pcN I)))) (2 ^ (gS L j).2.2.1) (fun _ q => q.1.2 ≤ 10) (fun I q _ hq => by
    have := pcN_le I
    show (if (decide (pcN I < q.1.2) && taN (gS L j) I) = true then (nI I, pcN I) else q.1).2 ≤ 10
    split
    · show pcN I ≤ 10; omega
    · exact hq) (fun I q hI hq => by
    have hp := pcN_le I
    rw [s_X8_fewestBreaks_64]
    simp only [s_X8_fewestBreaks_0, s_X8_fewestBreaks_1, s_X8_fewestBreaks_3, s_X8_fewestBreaks_5, s_X8_fewestBreaks_8, s_X8_fewestBreaks_9, s_X8_fewestBreaks_12, s_X8_fewestBreaks_13, s_X8_fewestBreaks_14, s_X8_fewestBreaks_15, s_X8_fewestBreaks_16, s_X8_fewestBreaks_19, s_X8_fewestBreaks_20, s_X8_fewestBreaks_23, s_X8_fewestBreaks_26, s_X8_fewestBreaks_27, s_X8_fewestBreaks_30, s_X8_fewestBreaks_33, s_X8_fewestBreaks_34, s_X8_fewestBreaks_35, s_X8_fewestBreaks_38, s_X8_fewestBreaks_39, s_X8_fewestBreaks_40, s_X8_fewestBreaks_41, s_X8_fewestBreaks_43, s_X8_fewestBreaks_45, s_X8_fewestBreaks_46, s_X8_fewestBreaks_47, s_X8_fewestBreaks_50, s_X8_fewestBreaks_53, s_X8_fewestBreaks_54, s_X8_fewestBreaks_55, s_X8_fewestBreaks_58, s_X8_fewestBreaks_59, s_X8_fewestBreaks_61, s_X8_fewestBreaks_62, s_X8_fewestBreaks_66, s_X8_fewestBreaks_68, s_X8_fewestBreaks_71, s_X8_fewestBreaks_73, s_X8_fewestBreaks_76, s_X8_fewestBreaks_78, s_X8_fewestBreaks_80, s_X8_fewestBreaks_82, s_X8_fewestBreaks_85, s_X8_fewestBreaks_86, s_X8_fewestBreaks_88, s_X8_fewestBreaks_89, s_X8_fewestBreaks_92, s_X8_fewestBreaks_95, s_X8_fewestBreaks_97, s_X8_fewestBreaks_99, s_X8_fewestBreaks_101, s_X8_fewestBreaks_102, s_X8_fewestBreaks_105, s_X8_fewestBreaks_108, s_X8_fewestBreaks_109, zI_0, Bool.true_eq_false, Bool.false_eq_true, not_true_eq_false, not_false_eq_true, if_true, if_false, KV_ap, KU_ap, dropL_nil, le_nI (show 2 ^ (gS L j).2.2.1 < 2147483648 by omega) (show I < 2147483648 by omega), if_neg (Nat.not_le.mpr hI), q_bitCount, bc_chk I (by omega), le_nI (show q.1.2 < 2147483648 by omega) (show pcN I < 2147483648 by omega), hS_pI, o.1, q_tellsAll (h := pI h (B + 23) F) o.1 o6 sh hvS hFk (show I < 512 by omega), a1]
    by_cases hc : pcN I < q.1.2
    · cases hd : taN (gS L j) I
      · simp only [if_neg (show ¬ q.1.2 ≤ pcN I by omega), Bool.and_false, Bool.false_eq_true, if_false, if_true]
      · simp only [if_neg (show ¬ q.1.2 ≤ pcN I by omega), decide_eq_true hc, Bool.and_self, Bool.true_eq_false, if_false, if_true]
    · simp only [if_pos (show q.1.2 ≤ pcN I by omega), decide_eq_false hc, Bool.false_and, Bool.false_eq_true, if_false]) (2 ^ (gS L j).2.2.1 - 1) 1 ((-1, 10), m_D) (by omega) (Nat.le_refl 10)
  refine Eq.trans key2.1 ?_
  rw [s_X8_fewestBreaks_64]
  have e2 : ∀ m i (q : (Int32 × Nat) × Value), (it (fun I (q : (Int32 × Nat) × Value) => (if (decide (pcN I < q.1.2) && taN (gS L j) I) = true then (nI I, pcN I) else q.1, Value.int (nI (pcN I)))) m i q).1 = it (fun I (q : Int32 × Nat) => if (decide (pcN I < q.2) && taN (gS L j) I) = true then (nI I, pcN I) else q) m i q.1 := by
    intro m
    induction m with
    | zero => intro i q; rfl
    | succ m ih => intro i q; rw [it, it, ih]
  simp only [s_X8_fewestBreaks_0, s_X8_fewestBreaks_1, s_X8_fewestBreaks_3, s_X8_fewestBreaks_5, s_X8_fewestBreaks_8, s_X8_fewestBreaks_9, s_X8_fewestBreaks_12, s_X8_fewestBreaks_13, s_X8_fewestBreaks_14, s_X8_fewestBreaks_15, s_X8_fewestBreaks_16, s_X8_fewestBreaks_19, s_X8_fewestBreaks_20, s_X8_fewestBreaks_23, s_X8_fewestBreaks_26, s_X8_fewestBreaks_27, s_X8_fewestBreaks_30, s_X8_fewestBreaks_33, s_X8_fewestBreaks_34, s_X8_fewestBreaks_35, s_X8_fewestBreaks_38, s_X8_fewestBreaks_39, s_X8_fewestBreaks_40, s_X8_fewestBreaks_41, s_X8_fewestBreaks_43, s_X8_fewestBreaks_45, s_X8_fewestBreaks_46, s_X8_fewestBreaks_47, s_X8_fewestBreaks_50, s_X8_fewestBreaks_53, s_X8_fewestBreaks_54, s_X8_fewestBreaks_55, s_X8_fewestBreaks_58, s_X8_fewestBreaks_59, s_X8_fewestBreaks_61, s_X8_fewestBreaks_62, s_X8_fewestBreaks_66, s_X8_fewestBreaks_68, s_X8_fewestBreaks_71, s_X8_fewestBreaks_73, s_X8_fewestBreaks_76, s_X8_fewestBreaks_78, s_X8_fewestBreaks_80, s_X8_fewestBreaks_82, s_X8_fewestBreaks_85, s_X8_fewestBreaks_86, s_X8_fewestBreaks_88, s_X8_fewestBreaks_89, s_X8_fewestBreaks_92, s_X8_fewestBreaks_95, s_X8_fewestBreaks_97, s_X8_fewestBreaks_99, s_X8_fewestBreaks_101, s_X8_fewestBreaks_102, s_X8_fewestBreaks_105, s_X8_fewestBreaks_108, s_X8_fewestBreaks_109, zI_0, Bool.true_eq_false, Bool.false_eq_true, not_true_eq_false, not_false_eq_true, if_true, if_false, KV_ap, KU_ap, dropL_nil, le_nI (show 2 ^ (gS L j).2.2.1 < 2147483648 by omega) (show 2 ^ (gS L j).2.2.1 < 2147483648 by omega), Nat.le_refl, e2]
  rfl
end C15
def aBreaks (v0 v1 : Int32) (u : XS) : Value × XS := if (decide (0 ≤ v0 ∧ v0 < nI u.1.1.length) && decide (0 ≤ v1 ∧ v1 < 2)) = true then (.int (if (fbN (gS u.1.1 v0.toNatClampNeg)).1 = -1 then -1 else if v1 = 0 then bcI (fbN (gS u.1.1 v0.toNatClampNeg)).1 else (fbN (gS u.1.1 v0.toNatClampNeg)).1), u) else (.int (-2), bdU u 0)
theorem x_breaks (v0 v1 : Int32) : cX k_X8_breaks [.int v0, .int v1, m_D] (aBreaks v0 v1) := by
  intro g h B u Φ hX k
  obtain ⟨⟨L, N, P⟩, im, tx, fr, rf⟩ := u
  have o := hX.1
  have t := hX.2.1
  obtain ⟨t0, t1, t2, t3, t4, t5, t6⟩ := id t
  have t4 : isS h (B + 1 + 1) L := t4
  have t5 : isN h (B + 1 + 3) N := t5
  have t6 : isP h (B + 1 + 5) P := t6
  have hl6 : L.length ≤ 6 := t4.2.1.2.2.2.1
  have hbad : (decide (0 ≤ v0 ∧ v0 < nI L.length) && decide (0 ≤ v1 ∧ v1 < 2)) = false → aBreaks v0 v1 ((L, N, P), im, tx, fr, rf) = (.int (-2), bdU ((L, N, P), im, tx, fr, rf) 0) := fun z => by rw [aBreaks, z]; rfl
  cases g1 : decide (0 ≤ v0 ∧ v0 < nI L.length)
  · rw [hbad (by simp only [g1, Bool.false_and])] at k
    simp only [s_X8_breaks_0, s_X8_breaks_1, s_X8_breaks_4, s_X8_breaks_7, s_X8_breaks_8, s_X8_breaks_11, s_X8_breaks_14, s_X8_breaks_15, s_X8_breaks_16, s_X8_breaks_19, s_X8_breaks_22, s_X8_breaks_23, s_X8_breaks_26, s_X8_breaks_27, s_X8_breaks_28, s_X8_breaks_29, s_X8_breaks_32, s_X8_breaks_33, s_X8_breaks_34, s_X8_breaks_35, s_X8_breaks_38, s_X8_breaks_39, s_X8_breaks_40, s_X8_breaks_41, s_X8_breaks_44, s_X8_breaks_45, s_X8_breaks_48, s_X8_breaks_51, s_X8_breaks_52, o.1, o.2.1, t0, t1, t4.1, q_has t4.2.1, zI_0, Bool.true_eq_false, Bool.false_eq_true, not_true_eq_false, not_false_eq_true, if_true, if_false, KV_ap, KU_ap, dropL_nil, g1]
    exact q_bad hX (fun h' hX' hf => by simp only [KV_ap, s_X8_breaks_0, s_X8_breaks_1, s_X8_breaks_4, s_X8_breaks_7, s_X8_breaks_8, s_X8_breaks_11, s_X8_breaks_14, s_X8_breaks_15, s_X8_breaks_16, s_X8_breaks_19, s_X8_breaks_22, s_X8_breaks_23, s_X8_breaks_26, s_X8_breaks_27, s_X8_breaks_28, s_X8_breaks_29, s_X8_breaks_32, s_X8_breaks_33, s_X8_breaks_34, s_X8_breaks_35, s_X8_breaks_38, s_X8_breaks_39, s_X8_breaks_40, s_X8_breaks_41, s_X8_breaks_44, s_X8_breaks_45, s_X8_breaks_48, s_X8_breaks_51, s_X8_breaks_52]; exact k h' hX' hf)
  · cases g2 : decide (0 ≤ v1 ∧ v1 < 2)
    · rw [hbad (by simp only [g1, g2, Bool.and_false])] at k
      simp only [s_X8_breaks_0, s_X8_breaks_1, s_X8_breaks_4, s_X8_breaks_7, s_X8_breaks_8, s_X8_breaks_11, s_X8_breaks_14, s_X8_breaks_15, s_X8_breaks_16, s_X8_breaks_19, s_X8_breaks_22, s_X8_breaks_23, s_X8_breaks_26, s_X8_breaks_27, s_X8_breaks_28, s_X8_breaks_29, s_X8_breaks_32, s_X8_breaks_33, s_X8_breaks_34, s_X8_breaks_35, s_X8_breaks_38, s_X8_breaks_39, s_X8_breaks_40, s_X8_breaks_41, s_X8_breaks_44, s_X8_breaks_45, s_X8_breaks_48, s_X8_breaks_51, s_X8_breaks_52, o.1, o.2.1, t0, t1, t4.1, q_has t4.2.1, q_isBelow, zI_0, Bool.true_eq_false, Bool.false_eq_true, not_true_eq_false, not_false_eq_true, if_true, if_false, KV_ap, KU_ap, dropL_nil, g1, g2]
      exact q_bad hX (fun h' hX' hf => by simp only [KV_ap, s_X8_breaks_0, s_X8_breaks_1, s_X8_breaks_4, s_X8_breaks_7, s_X8_breaks_8, s_X8_breaks_11, s_X8_breaks_14, s_X8_breaks_15, s_X8_breaks_16, s_X8_breaks_19, s_X8_breaks_22, s_X8_breaks_23, s_X8_breaks_26, s_X8_breaks_27, s_X8_breaks_28, s_X8_breaks_29, s_X8_breaks_32, s_X8_breaks_33, s_X8_breaks_34, s_X8_breaks_35, s_X8_breaks_38, s_X8_breaks_39, s_X8_breaks_40, s_X8_breaks_41, s_X8_breaks_44, s_X8_breaks_45, s_X8_breaks_48, s_X8_breaks_51, s_X8_breaks_52]; exact k h' hX' hf)
    · obtain ⟨j, ej, hj⟩ := hs_ex (show L.length < 2147483648 by omega) g1
      have e : aBreaks v0 v1 ((L, N, P), im, tx, fr, rf) = (.int (if (fbN (gS L j)).1 = -1 then -1 else if v1 = 0 then bcI (fbN (gS L j)).1 else (fbN (gS L j)).1), ((L, N, P), im, tx, fr, rf)) := by
        simp only [aBreaks, g1, g2, Bool.and_self, if_true]
        rw [ej, cl_nI (show j < 2147483648 by omega)]
      rw [e] at k
      subst ej
      have k' := k _ (isX_sc (f := bkF (tlN (gS L j)) (hI h (B + 23))) hX (Or.inr rfl)) (frX_of (lo := B + 23) (hi := B + 24) (by omega) (by omega) (frm_pI (by omega) (by omega) (frm_rfl h _ _)))
      simp only [s_X8_breaks_0, s_X8_breaks_1, s_X8_breaks_4, s_X8_breaks_7, s_X8_breaks_8, s_X8_breaks_11, s_X8_breaks_14, s_X8_breaks_15, s_X8_breaks_16, s_X8_breaks_19, s_X8_breaks_22, s_X8_breaks_23, s_X8_breaks_26, s_X8_breaks_27, s_X8_breaks_28, s_X8_breaks_29, s_X8_breaks_32, s_X8_breaks_33, s_X8_breaks_34, s_X8_breaks_35, s_X8_breaks_38, s_X8_breaks_39, s_X8_breaks_40, s_X8_breaks_41, s_X8_breaks_44, s_X8_breaks_45, s_X8_breaks_48, s_X8_breaks_51, s_X8_breaks_52, o.1, o.2.1, t0, t1, t4.1, q_has t4.2.1, q_isBelow, zI_0, Bool.true_eq_false, Bool.false_eq_true, not_true_eq_false, not_false_eq_true, if_true, if_false, KV_ap, KU_ap, dropL_nil, g1, g2, q_fewestBreaks hX hj, q_bitCount]
      by_cases h1 : (fbN (gS L j)).1 = -1
      · simp only [h1, if_true, not_true_eq_false, if_false] at k' ⊢
        exact k'
      · by_cases h2 : v1 = 0
        · simp only [h1, h2, if_true, if_false, not_false_eq_true, not_true_eq_false] at k' ⊢
          exact k'
        · simp only [h1, h2, if_true, if_false, not_false_eq_true] at k' ⊢
          exact k'

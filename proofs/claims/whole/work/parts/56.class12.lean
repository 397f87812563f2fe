/-! Longs that are not below 0; the years -/
def nL (n : Nat) : Int64 := Int64.ofNat n
theorem nL_toInt {n : Nat} (h : n < 9223372036854775808) : (nL n).toInt = n := Int64.toInt_ofNat_of_lt h
theorem L_mul (a b : Nat) : nL a * nL b = nL (a * b) := (Int64.ofNat_mul a b).symm
theorem L_add (a b : Nat) : nL a + nL b = nL (a + b) := (Int64.ofNat_add a b).symm
theorem L_sub {a b : Nat} (h : b ≤ a) : nL a - nL b = nL (a - b) := (Int64.ofNat_sub a b h).symm
theorem L_div {a b : Nat} (ha : a < 9223372036854775808) (hb : b < 9223372036854775808) (h0 : 0 < b) : nL a / nL b = nL (a / b) := by
  apply Int64.toInt_inj.mp
  rw [lg_ldiv_nonneg (by rw [nL_toInt ha]; omega) (by rw [nL_toInt hb]; omega), nL_toInt ha, nL_toInt hb, nL_toInt (Nat.lt_of_le_of_lt (Nat.div_le_self a b) ha)]
  rfl
theorem L_rem {a d : Nat} (ha : a < 9223372036854775808) (hd : d < 9223372036854775808) (h0 : 0 < d) : nL a - nL a / nL d * nL d = nL (a % d) := by
  rw [L_div ha hd h0, L_mul, L_sub (Nat.div_mul_le_self a d)]
  congr 1
  have := Nat.div_add_mod a d
  rw [Nat.mul_comm] at this
  omega
theorem L_i {a : Nat} (ha : a < 2147483648) : (nL a).toInt32 = nI a := by
  apply Int32.toInt_inj.mp
  rw [Int64.toInt_toInt32, nL_toInt (by omega)]
  show _ = (Int32.ofNat a).toInt
  rw [Int32.toInt_ofNat_of_lt ha, Int.bmod_eq_of_le (by omega) (by omega)]
theorem i_L {a : Nat} (ha : a < 2147483648) : (nI a).toInt64 = nL a := by
  apply Int64.toInt_inj.mp
  rw [Int32.toInt_toInt64, nL_toInt (by omega)]
  show (Int32.ofNat a).toInt = _
  rw [Int32.toInt_ofNat_of_lt ha]
abbrev YS : Type := Nat × Nat × (Nat → Nat)
def nxt (s : Nat) : Nat := (s * 1103515245 + 12345) % 2147483648
def yrS (L : List St) (q : YS) : YS := if nxt q.1 / 65536 % 6 < L.length then (nxt q.1, q.2.1 + dg (rdX (gS L (nxt q.1 / 65536 % 6)).1 (gS L (nxt q.1 / 65536 % 6)).2.1 (nxt q.1 / 1048576 % 9) (min 9 (q.2.2 (nxt q.1 / 65536 % 6) + 1))), (fun z => if z = nxt q.1 / 65536 % 6 then min 9 (q.2.2 (nxt q.1 / 65536 % 6) + 1) else q.2.2 z)) else (nxt q.1, q.2.1, q.2.2)
def yrN (L : List St) (seed n : Nat) : Nat := (it (fun _ q => yrS L q) n 0 (seed, 0, fun i => (gS L i).2.2.2)).2.1
def aYears (v0 v1 : Int32) (u : XS) : Value × XS := if (decide (0 ≤ v0 ∧ v0 ≤ 999999) && decide (0 ≤ v1 ∧ v1 ≤ 60)) = true then (.int (nI (yrN u.1.1 v0.toNatClampNeg v1.toNatClampNeg)), u) else (.int (-2), bdU u 0)
theorem dl3 (q : Int64) : dropLL 3 [(3, q)] = [] := rfl
theorem dl5 (q : Int64) : dropL 5 [(3, q)] = [(3, q)] := rfl
theorem dl6 (q : Int64) : dropL 6 [(3, q)] = [(3, q)] := rfl
theorem dl7 (q : Int64) : dropL 7 [(3, q)] = [(3, q)] := rfl
theorem dl8 (q : Int64) : dropL 8 [(3, q)] = [(3, q)] := rfl
def yI (L : List St) (f : Nat → Int32) (w : Nat → Nat) : Prop := ∀ i, i < L.length → f i = nI (w i) ∧ w i ≤ 9
theorem q_lettersAfterYear {g : GL} {h : HP} {Φ : Value → HP → Prop} {B : Nat} {L N : List St} {P : List (List St)} {im : Nat → Option TW} {tx : List Nat} {fr : Int64 × Int64} {rf : Nat → Int32} (hX : isX h B ((L, N, P), im, tx, fr, rf)) {w : Nat → Nat} (hw : yI L (hI h (B + 22)) w) {i x : Nat} (hi : i < 6) (hx : x < 9) : J g k_X8_lettersAfterYear 0 [.ref B, .int (nI i), .int (nI x), m_D, m_D] [] [] h Φ = if i < L.length then Φ (.int (nI (dg (rdX (gS L i).1 (gS L i).2.1 x (min 9 (w i + 1)))))) (pI h (B + 22) (upd (hI h (B + 22)) i (nI (min 9 (w i + 1))))) else Φ (.int 0) h := by
  have o := hX.1
  obtain ⟨t0, t1, t2, t3, t4, t5, t6⟩ := hX.2.1
  have t4 : isS h (B + 1 + 1) L := t4
  have hl6 : L.length ≤ 6 := t4.2.1.2.2.2.1
  have o5 : hF h B 5 = .ref (B + 22) := o.2.2.2.2.2.2.1
  have sh : hS h (B + 22) = (1, 6) := hX.2.2.2.2.2.2.1
  have hi' : m_inb (nI i) 6 = true := by rw [inb_nI (by omega)]; simpa using hi
  by_cases hc : i < L.length
  · rw [if_pos hc]
    obtain ⟨w1, w2, w3, w4⟩ := t4.2.2.2 i hc
    obtain ⟨y1, y2⟩ := hw i hc
    have em : (if nI 9 < nI (w i + 1) then nI 9 else nI (w i + 1)) = nI (min 9 (w i + 1)) := by
      simp only [lt_nI (show 9 < 2147483648 by decide) (show w i + 1 < 2147483648 by omega), Nat.min_def]
      split <;> split <;> first | rfl | (exfalso; omega) | (congr 1; omega)
    have hm : min 9 (w i + 1) ≤ 9 := Nat.min_le_left _ _
    have t4' : isS (pI h (B + 22) (upd (hI h (B + 22)) i (nI (min 9 (w i + 1))))) (B + 1 + 1) L := isS_pI (by omega) t4
    have hr := rdX_lt (k := (gS L i).1) w2 hx (show min 9 (w i + 1) < 19 by omega)
    have eu : upd (hI h (B + 22)) i (nI (min 9 (w i + 1))) i = nI (min 9 (w i + 1)) := by rw [upd, if_pos rfl]
    simp only [s_X8_lettersAfterYear_0, s_X8_lettersAfterYear_1, s_X8_lettersAfterYear_4, s_X8_lettersAfterYear_7, s_X8_lettersAfterYear_8, s_X8_lettersAfterYear_11, s_X8_lettersAfterYear_14, s_X8_lettersAfterYear_15, s_X8_lettersAfterYear_16, s_X8_lettersAfterYear_17, s_X8_lettersAfterYear_20, s_X8_lettersAfterYear_21, s_X8_lettersAfterYear_22, s_X8_lettersAfterYear_25, s_X8_lettersAfterYear_26, s_X8_lettersAfterYear_27, s_X8_lettersAfterYear_28, s_X8_lettersAfterYear_29, s_X8_lettersAfterYear_31, s_X8_lettersAfterYear_34, s_X8_lettersAfterYear_35, s_X8_lettersAfterYear_36, s_X8_lettersAfterYear_39, s_X8_lettersAfterYear_42, s_X8_lettersAfterYear_43, s_X8_lettersAfterYear_44, s_X8_lettersAfterYear_47, s_X8_lettersAfterYear_48, s_X8_lettersAfterYear_49, s_X8_lettersAfterYear_52, s_X8_lettersAfterYear_55, s_X8_lettersAfterYear_56, s_X8_lettersAfterYear_57, s_X8_lettersAfterYear_60, s_X8_lettersAfterYear_62, s_X8_lettersAfterYear_63, s_X8_lettersAfterYear_65, s_X8_lettersAfterYear_66, s_X8_lettersAfterYear_67, s_X8_lettersAfterYear_70, s_X8_lettersAfterYear_71, s_X8_lettersAfterYear_72, s_X8_lettersAfterYear_75, s_X8_lettersAfterYear_78, o.1, o.2.1, t0, t1, t4.1, q_has t4.2.1, has_nI (show i < 2147483648 by omega) (show L.length < 2147483648 by omega), decide_eq_true hc, zI_0, Bool.true_eq_false, Bool.false_eq_true, not_true_eq_false, not_false_eq_true, if_true, if_false, KV_ap, KU_ap, dropL_nil, o5, sh, hi', cl_nI (show i < 2147483648 by omega), y1, a1, c9, em, hS_pI, hF_pI, q_fact0 t4'.2.1 (show i < 2147483648 by omega), q_fact1 t4'.2.1 (show i < 2147483648 by omega), fc0 t4' hc, fc1 t4' hc, hI_pIs, eu, q_byKind' w1 w2 hx (show min 9 (w i + 1) < 19 by omega), q_lettersIn (show rdX (gS L i).1 (gS L i).2.1 x (min 9 (w i + 1)) < 2147483648 by omega)]
  · rw [if_neg hc]
    simp only [s_X8_lettersAfterYear_0, s_X8_lettersAfterYear_1, s_X8_lettersAfterYear_4, s_X8_lettersAfterYear_7, s_X8_lettersAfterYear_8, s_X8_lettersAfterYear_11, s_X8_lettersAfterYear_14, s_X8_lettersAfterYear_15, s_X8_lettersAfterYear_16, s_X8_lettersAfterYear_17, s_X8_lettersAfterYear_20, s_X8_lettersAfterYear_21, s_X8_lettersAfterYear_22, s_X8_lettersAfterYear_25, s_X8_lettersAfterYear_26, s_X8_lettersAfterYear_27, s_X8_lettersAfterYear_28, s_X8_lettersAfterYear_29, s_X8_lettersAfterYear_31, s_X8_lettersAfterYear_34, s_X8_lettersAfterYear_35, s_X8_lettersAfterYear_36, s_X8_lettersAfterYear_39, s_X8_lettersAfterYear_42, s_X8_lettersAfterYear_43, s_X8_lettersAfterYear_44, s_X8_lettersAfterYear_47, s_X8_lettersAfterYear_48, s_X8_lettersAfterYear_49, s_X8_lettersAfterYear_52, s_X8_lettersAfterYear_55, s_X8_lettersAfterYear_56, s_X8_lettersAfterYear_57, s_X8_lettersAfterYear_60, s_X8_lettersAfterYear_62, s_X8_lettersAfterYear_63, s_X8_lettersAfterYear_65, s_X8_lettersAfterYear_66, s_X8_lettersAfterYear_67, s_X8_lettersAfterYear_70, s_X8_lettersAfterYear_71, s_X8_lettersAfterYear_72, s_X8_lettersAfterYear_75, s_X8_lettersAfterYear_78, o.1, o.2.1, t0, t1, t4.1, q_has t4.2.1, has_nI (show i < 2147483648 by omega) (show L.length < 2147483648 by omega), decide_eq_false hc, zI_0, Bool.true_eq_false, Bool.false_eq_true, not_true_eq_false, not_false_eq_true, if_true, if_false, KV_ap, KU_ap, dropL_nil]

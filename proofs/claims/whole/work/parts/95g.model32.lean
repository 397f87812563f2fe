/-! The model: how unlike two are; the orders, one after the other -/
theorem lo_0 (k : Nat) : loN 0 k = 0 := by rw [loN, if_neg (by have : dg 0 = 0 := rfl; omega)]
theorem lo_rd {n : Nat} (h : n = 0 ∨ isNm n = true) : loN n 4 = paN n % 10 ∧ loN n 3 = paN n / 10 % 10 ∧ loN n 2 = paN n / 10 / 10 % 10 ∧ loN n 1 = paN n / 10 / 10 / 10 % 10 ∧ loN n 0 = paN n / 10 / 10 / 10 / 10 % 10 := by
  rcases h with h | h
  · subst h
    have z : paN 0 = 0 := by decide
    simp only [lo_0, z]
    decide
  · exact (lo_nm h).2.2
theorem up_lo {a b : Nat} (ha : a = 0 ∨ isNm a = true) (hb : b = 0 ∨ isNm b = true) : it (fun k n => n + (if loN a k = loN b k then 0 else 1)) 5 0 0 = upN a b := by
  obtain ⟨a4, a3, a2, a1, a0⟩ := lo_rd ha
  obtain ⟨b4, b3, b2, b1, b0⟩ := lo_rd hb
  have e1 : it (fun k n => n + (if loN a k = loN b k then 0 else 1)) 5 0 0 = 0 + (if loN a 0 = loN b 0 then 0 else 1) + (if loN a 1 = loN b 1 then 0 else 1) + (if loN a 2 = loN b 2 then 0 else 1) + (if loN a 3 = loN b 3 then 0 else 1) + (if loN a 4 = loN b 4 then 0 else 1) := rfl
  have st : ∀ (m x y : Nat), (if x % 10 = y % 10 then m else m + 1) = m + (if x % 10 = y % 10 then 0 else 1) := by intro m x y; split <;> rfl
  have e2 : upN a b = 0 + (if paN a % 10 = paN b % 10 then 0 else 1) + (if paN a / 10 % 10 = paN b / 10 % 10 then 0 else 1) + (if paN a / 10 / 10 % 10 = paN b / 10 / 10 % 10 then 0 else 1) + (if paN a / 10 / 10 / 10 % 10 = paN b / 10 / 10 / 10 % 10 then 0 else 1) + (if paN a / 10 / 10 / 10 / 10 % 10 = paN b / 10 / 10 / 10 / 10 % 10 then 0 else 1) := by
    have one : ∀ F i m x y, it (fun _ (q : Nat × Nat × Nat) => (if q.2.1 % 10 = q.2.2 % 10 then q.1 else q.1 + 1, q.2.1 / 10, q.2.2 / 10)) (F + 1) i (m, x, y) = it (fun _ (q : Nat × Nat × Nat) => (if q.2.1 % 10 = q.2.2 % 10 then q.1 else q.1 + 1, q.2.1 / 10, q.2.2 / 10)) F (i + 1) (m + (if x % 10 = y % 10 then 0 else 1), x / 10, y / 10) := by
      intro F i m x y
      rw [it]
      dsimp only
      rw [st]
    unfold upN
    rw [one 4, one 3, one 2, one 1, one 0]
    rfl
  rw [e1, e2, a0, a1, a2, a3, a4, b0, b1, b2, b3, b4]
  omega
section M32
variable {g : GL} {h : HP} {Φ : Value → HP → Prop} {M : Nat} {u : XS}
theorem rS_rd {L : List St} (v : vL L) {j x : Nat} (hj : j < L.length) (hx : x < 9) : rS (gS L j) x = 0 ∨ isNm (rS (gS L j) x) = true := by
  obtain ⟨w1, w2, w3, w4⟩ := v j hj
  exact rdX_nm w2 hx (by omega)
theorem p_unlike (hM : isM h M u) {i j : Nat} (hi : i < u.1.1.length) (hj : j < u.1.1.length) : J g k_X9_unlike 0 [.ref M, .int (nI i), .int (nI j), m_D, m_D, m_D, m_D] [] [] h Φ = Φ (.int (nI (uN u.1.1 i j))) h := by
  have vt := hM.2.2.2.1.2.2.2.1
  have ri := rS_lt vt (x := 0) hi (by decide)
  have rj := rS_lt vt (x := 0) hj (by decide)
  have c5' : ∀ k : Nat, k < 2147483648 → ((5 : Int32) ≤ nI k) = (5 ≤ k) := fun k hk => le_nI (show 5 < 2147483648 by decide) hk
  have pi : ∀ (j : Nat) (Ψ : Value → HP → Prop), j < u.1.1.length → J g k_X9_readIn 0 [.ref M, .int (nI j), .int 0] [] [] h Ψ = Ψ (.int (nI (rS (gS u.1.1 j) 0))) h := fun j Ψ hj => p_readIn (x := 0) hM hj (by decide)
  simp only [s_X9_unlike_0, s_X9_unlike_1, s_X9_unlike_2, s_X9_unlike_3, s_X9_unlike_6, s_X9_unlike_7, s_X9_unlike_8, s_X9_unlike_9, s_X9_unlike_10, s_X9_unlike_13, s_X9_unlike_15, s_X9_unlike_16, s_X9_unlike_18, s_X9_unlike_19, s_X9_unlike_23, s_X9_unlike_24, s_X9_unlike_27, s_X9_unlike_29, s_X9_unlike_30, s_X9_unlike_32, s_X9_unlike_35, s_X9_unlike_37, s_X9_unlike_39, s_X9_unlike_42, s_X9_unlike_45, s_X9_unlike_46, s_X9_unlike_49, s_X9_unlike_50, s_X9_unlike_51, s_X9_unlike_53, s_X9_unlike_56, s_X9_unlike_59, s_X9_unlike_61, zI_0, Bool.true_eq_false, Bool.false_eq_true, not_true_eq_false, not_false_eq_true, if_true, if_false, KV_ap, KU_ap, dropL_nil, hM.1.1, pi i _ hi, pi j _ hj]
  have key := J_it0 (fun k n => J g k_X9_unlike 21 [.ref M, .int (nI i), .int (nI j), .int (nI (rS (gS u.1.1 i) 0)), .int (nI (rS (gS u.1.1 j) 0)), .int (nI n), .int (nI k)] [] [] h Φ) (fun k n => n + (if loN (rS (gS u.1.1 i) 0) k = loN (rS (gS u.1.1 j) 0) k then 0 else 1)) 5 (fun k n hk => by
    have l1 := loN_lt (rS (gS u.1.1 i) 0) k
    have l2 := loN_lt (rS (gS u.1.1 j) 0) k
    have n0 : nI n + (0 : Int32) = nI n := i_add n 0
    rw [s_X9_unlike_21]
    simp only [s_X9_unlike_0, s_X9_unlike_1, s_X9_unlike_2, s_X9_unlike_3, s_X9_unlike_6, s_X9_unlike_7, s_X9_unlike_8, s_X9_unlike_9, s_X9_unlike_10, s_X9_unlike_13, s_X9_unlike_15, s_X9_unlike_16, s_X9_unlike_18, s_X9_unlike_19, s_X9_unlike_23, s_X9_unlike_24, s_X9_unlike_27, s_X9_unlike_29, s_X9_unlike_30, s_X9_unlike_32, s_X9_unlike_35, s_X9_unlike_37, s_X9_unlike_39, s_X9_unlike_42, s_X9_unlike_45, s_X9_unlike_46, s_X9_unlike_49, s_X9_unlike_50, s_X9_unlike_51, s_X9_unlike_53, s_X9_unlike_56, s_X9_unlike_59, s_X9_unlike_61, zI_0, Bool.true_eq_false, Bool.false_eq_true, not_true_eq_false, not_false_eq_true, if_true, if_false, KV_ap, KU_ap, dropL_nil, c5' k (by omega), if_neg (Nat.not_le.mpr hk), p_letterOf (show rS (gS u.1.1 i) 0 < 2147483648 by omega) (show k < 2147483648 by omega), p_letterOf (show rS (gS u.1.1 j) 0 < 2147483648 by omega) (show k < 2147483648 by omega), eq_nI (show loN (rS (gS u.1.1 i) 0) k < 2147483648 by omega) (show loN (rS (gS u.1.1 j) 0) k < 2147483648 by omega), a1]
    by_cases e : loN (rS (gS u.1.1 i) 0) k = loN (rS (gS u.1.1 j) 0) k
    · simp only [if_pos e, if_neg (not_not_intro e), n0, Nat.add_zero]
    · simp only [if_neg e, if_pos e]) 0
  refine Eq.trans key ?_
  rw [s_X9_unlike_21]
  simp only [s_X9_unlike_0, s_X9_unlike_1, s_X9_unlike_2, s_X9_unlike_3, s_X9_unlike_6, s_X9_unlike_7, s_X9_unlike_8, s_X9_unlike_9, s_X9_unlike_10, s_X9_unlike_13, s_X9_unlike_15, s_X9_unlike_16, s_X9_unlike_18, s_X9_unlike_19, s_X9_unlike_23, s_X9_unlike_24, s_X9_unlike_27, s_X9_unlike_29, s_X9_unlike_30, s_X9_unlike_32, s_X9_unlike_35, s_X9_unlike_37, s_X9_unlike_39, s_X9_unlike_42, s_X9_unlike_45, s_X9_unlike_46, s_X9_unlike_49, s_X9_unlike_50, s_X9_unlike_51, s_X9_unlike_53, s_X9_unlike_56, s_X9_unlike_59, s_X9_unlike_61, zI_0, Bool.true_eq_false, Bool.false_eq_true, not_true_eq_false, not_false_eq_true, if_true, if_false, KV_ap, KU_ap, dropL_nil, c5' 5 (by decide), Nat.le_refl, up_lo (rS_rd (x := 0) vt hi (by decide)) (rS_rd (x := 0) vt hj (by decide))]
  rfl
end M32
def dnK (c : List Nat) : Nat → Nat
  | 0 => 0
  | k + 1 => if c.getD (k + 1) 0 < c.getD k 0 then dnK c k else k + 1
def dnJ (c : List Nat) (x : Nat) : Nat → Nat
  | 0 => 0
  | j + 1 => if c.getD (j + 1) 0 < x then dnJ c x j else j + 1
def swL (c : List Nat) (x y : Nat) : List Nat := (c.set x (c.getD y 0)).set y (c.getD x 0)
def rvL : Nat → List Nat → Nat → Nat → List Nat
  | 0, c, _, _ => c
  | F + 1, c, x, y => if x < y then rvL F (swL c x y) (x + 1) (y - 1) else c
def nxL (n : Nat) (c : List Nat) : Option (List Nat) := if dnK c (n - 1) = 0 then none else some (rvL 4 (swL c (dnK c (n - 1) - 1) (dnJ c (c.getD (dnK c (n - 1) - 1) 0) (n - 1))) (dnK c (n - 1)) (n - 1))
def chn (n : Nat) : List (List Nat) → Bool
  | [] => true
  | [c] => decide (nxL n c = none)
  | c :: c' :: r => decide (nxL n c = some c') && chn n (c' :: r)
theorem ch_chk : ∀ n, n < 7 → (decide (n = 0) || (chn n (cp n 7 0 0) && (decide ((cp n 7 0 0).head? = some (List.range n)) && (cp n 7 0 0).all (fun c => decide (c.length = n) && c.all (fun x => decide (x < n)))))) = true := by decide +kernel

/-! The model's cells (M = B + 24): what they hold of a state -/
def sM (h : HP) (M : Nat) : Prop := hS h M = (0, 7) ∧ hF h M 0 = .ref (M + 1) ∧ hF h M 3 = .ref (M + 2) ∧ hF h M 4 = .ref (M + 3) ∧ hF h M 5 = .ref (M + 4) ∧ hF h M 6 = .ref (M + 5) ∧ hF h M 7 = .ref (M + 6) ∧ hF h M 8 = .ref (M + 7) ∧ hF h M 9 = .ref (M + 8) ∧ hF h M 10 = .ref (M + 9) ∧ hF h M 11 = .ref (M + 10) ∧ hF h M 15 = .ref (M + 11) ∧ hF h M 17 = .ref (M + 12) ∧ hF h M 19 = .ref (M + 13) ∧ hF h M 20 = .ref (M + 14) ∧ hF h M 21 = .ref (M + 15) ∧ hF h M 24 = .ref (M + 16) ∧ hF h M 25 = .ref (M + 17) ∧ hF h M 26 = .ref (M + 18)
def shM (h : HP) (M : Nat) : Prop := hS h (M + 1) = (1, 3) ∧ (∀ x, 2 ≤ x → x < 10 → hS h (M + x) = (1, 6)) ∧ hS h (M + 10) = (1, 150) ∧ hS h (M + 11) = (1, 24) ∧ hS h (M + 12) = (1, 150) ∧ hS h (M + 13) = (1, 6) ∧ hS h (M + 14) = (1, 6) ∧ hS h (M + 15) = (1, 36) ∧ hS h (M + 16) = (1, 6) ∧ hS h (M + 17) = (1, 420) ∧ hS h (M + 18) = (1, 2)
/-- four columns hold rows -/
def cl4 (f0 f1 f2 f3 : Nat → Int32) (L : List St) : Prop := ∀ j, j < L.length → f0 j = nI (gS L j).1 ∧ f1 j = nI (gS L j).2.1 ∧ f2 j = nI (gS L j).2.2.1 ∧ f3 j = nI (gS L j).2.2.2
/-- 25 ints hold sticks -/
def mR (f : Nat → Int32) (L : List St) : Prop := f 0 = nI L.length ∧ cl4 (fun j => f (1 + j)) (fun j => f (7 + j)) (fun j => f (13 + j)) (fun j => f (19 + j)) L
def mP (f : Nat → Int32) (P : List (List St)) : Prop := ∀ j, j < P.length → mR (fun t => f (25 * j + t)) (gP P j) ∧ vL (gP P j) ∧ (gP P j).length ≤ 6
/-- 210 ints hold a town -/
def mI (f : Nat → Int32) (T : TW) : Prop := f 0 = nI T.2.1.length ∧ f 1 = nI T.2.2.length ∧ mR (fun t => f (2 + t)) T.1 ∧ cl4 (fun j => f (27 + j)) (fun j => f (33 + j)) (fun j => f (39 + j)) (fun j => f (45 + j)) T.2.1 ∧ mP (fun t => f (51 + t)) T.2.2
def vT (T : TW) : Prop := T.1.length ≤ 6 ∧ T.2.1.length ≤ 6 ∧ T.2.2.length ≤ 6 ∧ vL T.1 ∧ vNs T.2.1
def isM (h : HP) (M : Nat) (u : XS) : Prop := sM h M ∧ shM h M ∧ (hF h M 1 = .int (nI u.1.1.length) ∧ hF h M 2 = .int (nI u.1.2.1.length) ∧ hF h M 12 = .int (nI u.2.2.1.length) ∧ hF h M 18 = .int (nI u.1.2.2.length) ∧ hF h M 22 = .long u.2.2.2.1.1 ∧ hF h M 23 = .long u.2.2.2.1.2) ∧ vT u.1 ∧ cl4 (hI h (M + 2)) (hI h (M + 3)) (hI h (M + 4)) (hI h (M + 5)) u.1.1 ∧ cl4 (hI h (M + 6)) (hI h (M + 7)) (hI h (M + 8)) (hI h (M + 9)) u.1.2.1 ∧ mP (hI h (M + 12)) u.1.2.2 ∧ (u.2.2.1.length ≤ 150 ∧ txR (hI h (M + 10)) u.2.2.1) ∧ (∀ i, i < 3 → hI h (M + 1) i = u.2.2.2.2 i) ∧ (∀ i, i < 2 → u.2.1 i = none → hI h (M + 18) i = 0) ∧ (∀ i, i < 2 → ∀ T, u.2.1 i = some T → hI h (M + 18) i = 1 ∧ vT T ∧ mI (fun t => hI h (M + 17) (210 * i + t)) T)
/-- a call of the model: the same answers, the same states -/
def cM (k : Nat) (ar : List Value) (a : XS → Value × XS) : Prop := ∀ (g : GL) (h : HP) (M : Nat) (u : XS) (Φ : Value → HP → Prop), isM h M u → (∀ h', isM h' M (a u).2 → frm h h' M (M + 19) → Φ (a u).1 h') → J g k 0 (.ref M :: ar) [] [] h Φ
section M1
variable {g : GL} {h : HP} {Φ : Value → HP → Prop} {M : Nat} {u : XS}
theorem isM_bd (hM : isM h M u) {k : Nat} (hk : k < 3) : isM (pI h (M + 1) (upd (hI h (M + 1)) k (hI h (M + 1) k + 1))) M (bdU u k) := by
  obtain ⟨s, sh, f, v, c, d, p, t, r, i0, i1⟩ := hM
  have e : ∀ x, x ≠ 1 → hI (pI h (M + 1) (upd (hI h (M + 1)) k (hI h (M + 1) k + 1))) (M + x) = hI h (M + x) := fun x hx => by rw [hI_pI, if_neg (by omega)]
  refine ⟨s, sh, f, v, ?_, ?_, ?_, ⟨t.1, ?_⟩, ?_, ?_, ?_⟩
  · rw [e 2 (by decide), e 3 (by decide), e 4 (by decide), e 5 (by decide)]; exact c
  · rw [e 6 (by decide), e 7 (by decide), e 8 (by decide), e 9 (by decide)]; exact d
  · rw [e 12 (by decide)]; exact p
  · rw [e 10 (by decide)]; exact t.2
  · intro i hi
    rw [hI_pIs, r k hk]
    show upd (hI h (M + 1)) k _ i = upd u.2.2.2.2 k _ i
    unfold upd
    split
    · rfl
    · exact r i hi
  · intro i hi hn; rw [e 18 (by decide)]; exact i0 i hi hn
  · intro i hi T hT; rw [e 18 (by decide), e 17 (by decide)]; exact i1 i hi T hT
theorem frm_bd (k : Nat) : frm h (pI h (M + 1) (upd (hI h (M + 1)) k (hI h (M + 1) k + 1))) M (M + 19) := frm_pI (by omega) (by omega) (frm_rfl h _ _)
theorem p_bad (hM : isM h M u) (k : ∀ h', isM h' M (bdU u 0) → frm h h' M (M + 19) → Φ (.int (-2)) h') : J g k_X9_bad 0 [.ref M] [] [] h Φ := by
  simp only [s_X9_bad_0, s_X9_bad_1, s_X9_bad_4, s_X9_bad_5, s_X9_bad_6, s_X9_bad_7, s_X9_bad_8, s_X9_bad_9, s_X9_bad_10, s_X9_bad_12, hM.1.1, hM.1.2.1, hM.2.1.1, i03, z0]
  exact k _ (isM_bd hM (by decide)) (frm_bd 0)
theorem p_ten (hM : isM h M u) (k : ∀ h', isM h' M (bdU u 0) → frm h h' M (M + 19) → Φ (.int (-10)) h') : J g k_X9_ten 0 [.ref M] [] [] h Φ := by
  simp only [s_X9_ten_0, s_X9_ten_1, s_X9_ten_4, s_X9_ten_5, s_X9_ten_6, s_X9_ten_7, s_X9_ten_8, s_X9_ten_9, s_X9_ten_10, s_X9_ten_12, hM.1.1, hM.1.2.1, hM.2.1.1, i03, z0]
  exact k _ (isM_bd hM (by decide)) (frm_bd 0)
theorem p_no (hM : isM h M u) (k : ∀ h', isM h' M (bdU u 1) → frm h h' M (M + 19) → Φ (.int (-3)) h') : J g k_X9_no 0 [.ref M] [] [] h Φ := by
  simp only [s_X9_no_0, s_X9_no_1, s_X9_no_4, s_X9_no_5, s_X9_no_6, s_X9_no_7, s_X9_no_8, s_X9_no_9, s_X9_no_10, s_X9_no_12, hM.1.1, hM.1.2.1, hM.2.1.1, i13, z1]
  exact k _ (isM_bd hM (by decide)) (frm_bd 1)
theorem p_full (hM : isM h M u) (k : ∀ h', isM h' M (bdU u 2) → frm h h' M (M + 19) → Φ (.int (-4)) h') : J g k_X9_full 0 [.ref M] [] [] h Φ := by
  simp only [s_X9_full_0, s_X9_full_1, s_X9_full_4, s_X9_full_5, s_X9_full_6, s_X9_full_7, s_X9_full_8, s_X9_full_9, s_X9_full_10, s_X9_full_12, hM.1.1, hM.1.2.1, hM.2.1.1, i23, z2]
  exact k _ (isM_bd hM (by decide)) (frm_bd 2)
theorem p_in (v a b : Int32) : J g k_X9_in 0 [.int v, .int a, .int b] [] [] h Φ = Φ (.int (zI (decide (a ≤ v ∧ v ≤ b)))) h := by
  simp only [s_X9_in_0, s_X9_in_1, s_X9_in_2, s_X9_in_5, s_X9_in_6, s_X9_in_7, s_X9_in_10, s_X9_in_11, s_X9_in_14, s_X9_in_15, true_or, or_true]
  by_cases h1 : v < a
  · rw [if_pos h1, decide_eq_false (fun z => Int32.not_le.mpr h1 z.1)]; rfl
  · rw [if_neg h1]
    by_cases h2 : b < v
    · rw [if_pos h2, decide_eq_false (fun z => Int32.not_le.mpr h2 z.2)]; rfl
    · rw [if_neg h2, decide_eq_true ⟨Int32.not_lt.mp h1, Int32.not_lt.mp h2⟩]; rfl
theorem p_lesser (a b : Int32) : J g k_X9_lesser 0 [.int a, .int b] [] [] h Φ = Φ (.int (if a < b then a else b)) h := by
  simp only [s_X9_lesser_0, s_X9_lesser_1, s_X9_lesser_2, s_X9_lesser_5, s_X9_lesser_6, s_X9_lesser_9, s_X9_lesser_10]
  by_cases h1 : a < b
  · rw [if_neg (Int32.not_le.mpr h1), if_pos h1]
  · rw [if_pos (Int32.not_lt.mp h1), if_neg h1]
theorem p_greater (a b : Int32) : J g k_X9_greater 0 [.int a, .int b] [] [] h Φ = Φ (.int (if b < a then a else b)) h := by
  simp only [s_X9_greater_0, s_X9_greater_1, s_X9_greater_2, s_X9_greater_5, s_X9_greater_6, s_X9_greater_9, s_X9_greater_10]
  by_cases h1 : b < a
  · rw [if_neg (Int32.not_le.mpr h1), if_pos h1]
  · rw [if_pos (Int32.not_lt.mp h1), if_neg h1]
end M1

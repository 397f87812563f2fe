/-! The model's reading: here, skip, words, numbers -/
def mT (h : HP) (M : Nat) (tx : List Nat) : Prop := sM h M ∧ hS h (M + 10) = (1, 150) ∧ hS h (M + 11) = (1, 24) ∧ hF h M 12 = .int (nI tx.length) ∧ tx.length ≤ 150 ∧ txR (hI h (M + 10)) tx
def rdS (f : Nat → Int32) (D : List St) : Prop := ∀ j, j < D.length → f (4 * j) = nI (gS D j).1 ∧ f (4 * j + 1) = nI (gS D j).2.1 ∧ f (4 * j + 2) = nI (gS D j).2.2.1 ∧ f (4 * j + 3) = nI (gS D j).2.2.2
def mQ (h0 h : HP) (M : Nat) (tx : List Nat) (p : Nat) (D : List St) : Prop := mT h M tx ∧ (∀ x, hS h x = hS h0 x) ∧ (∀ j, j ≠ 13 → j ≠ 14 → j ≠ 16 → hF h M j = hF h0 M j) ∧ (∀ x, x ≠ 11 → hI h (M + x) = hI h0 (M + x)) ∧ hF h M 13 = .int (nI p) ∧ p ≤ tx.length ∧ hF h M 14 = .int (nI D.length) ∧ rdS (hI h (M + 11)) D ∧ D.length ≤ 6 ∧ vL D ∧ frm h0 h M (M + 19)
def hrI (tx : List Nat) (p : Nat) : Int32 := if p < tx.length then nI (tx.getD p 0) else -1
section R7
variable {g : GL} {h0 h : HP} {Φ : Value → HP → Prop} {M : Nat} {tx : List Nat} {p : Nat} {D : List St}
theorem mT_pF {j : Nat} {v : Value} (hj : j = 13 ∨ j = 14 ∨ j = 16) (m : mT h M tx) : mT (pF h M j v) M tx := by
  obtain ⟨a, b, c, d, e, f⟩ := m
  exact ⟨sM_pF (by omega) a, b, c, by rw [hF_pF, if_neg (by omega)]; exact d, e, f⟩
theorem mT_pI {f' : Nat → Int32} (m : mT h M tx) : mT (pI h (M + 11) f') M tx := by
  obtain ⟨a, b, c, d, e, f⟩ := m
  exact ⟨a, b, c, d, e, by rw [hI_pI, if_neg (by omega)]; exact f⟩
theorem mQ_13 {p' : Nat} (q : mQ h0 h M tx p D) (hp : p' ≤ tx.length) : mQ h0 (pF h M 13 (.int (nI p'))) M tx p' D := by
  obtain ⟨a, b, c, d, e, f, g1, g2, g3, g4, g5⟩ := q
  exact ⟨mT_pF (by omega) a, b, fun j h1 h2 h3 => by rw [hF_pF, if_neg (by omega)]; exact c j h1 h2 h3, d, by rw [hF_pF, if_pos ⟨rfl, rfl⟩], hp, by rw [hF_pF, if_neg (by omega)]; exact g1, g2, g3, g4, frm_pF (by omega) (by omega) g5⟩
theorem mQ_16 {v : Value} (q : mQ h0 h M tx p D) : mQ h0 (pF h M 16 v) M tx p D := by
  obtain ⟨a, b, c, d, e, f, g1, g2, g3, g4, g5⟩ := q
  exact ⟨mT_pF (by omega) a, b, fun j h1 h2 h3 => by rw [hF_pF, if_neg (by omega)]; exact c j h1 h2 h3, d, by rw [hF_pF, if_neg (by omega)]; exact e, f, by rw [hF_pF, if_neg (by omega)]; exact g1, g2, g3, g4, frm_pF (by omega) (by omega) g5⟩
theorem hr_c {c : Nat} {x : Int32} (hR : txR (hI h (M + 10)) tx) (hl : tx.length ≤ 150) (ex : x = nI c) (hc : c < 2147483648) : (hrI tx p = x) = (p < tx.length ∧ tx.getD p 0 = c) := by
  apply propext
  unfold hrI
  by_cases z : p < tx.length
  · have := (hR p z).2
    rw [if_pos z, ex, eq_nI (by omega) hc]
    exact ⟨fun y => ⟨z, y⟩, fun y => y.2⟩
  · rw [if_neg z, ex]
    exact ⟨fun y => absurd y.symm (nI_m1 hc), fun y => absurd y.1 z⟩
theorem p_here (m : mT h M tx) (f13 : hF h M 13 = .int (nI p)) (hp : p ≤ tx.length) : J g k_X9_here 0 [.ref M] [] [] h Φ = Φ (.int (hrI tx p)) h := by
  obtain ⟨s, s10, s11, f12, hl, hR⟩ := m
  have f11 : hF h M 11 = .ref (M + 10) := s.2.2.2.2.2.2.2.2.2.2.1
  unfold hrI
  by_cases z : p < tx.length
  · have b : m_inb (nI p) 150 = true := by rw [inb_nI (by omega)]; simpa using (show p < 150 by omega)
    rw [if_pos z]
    simp only [s_X9_here_0, s_X9_here_1, s_X9_here_4, s_X9_here_5, s_X9_here_8, s_X9_here_11, s_X9_here_12, s_X9_here_15, s_X9_here_16, s_X9_here_19, s_X9_here_20, s_X9_here_23, s_X9_here_24, s.1, f11, f12, f13, le_nI (show tx.length < 2147483648 by omega) (show p < 2147483648 by omega), show ¬ tx.length ≤ p by omega, if_false, s10, b, cl_nI (show p < 2147483648 by omega), (hR p z).1]
  · rw [if_neg z]
    simp only [s_X9_here_0, s_X9_here_1, s_X9_here_4, s_X9_here_5, s_X9_here_8, s_X9_here_11, s_X9_here_12, s_X9_here_15, s_X9_here_16, s_X9_here_19, s_X9_here_20, s_X9_here_23, s_X9_here_24, s.1, f12, f13, le_nI (show tx.length < 2147483648 by omega) (show p < 2147483648 by omega), show tx.length ≤ p by omega, if_true]
theorem p_skip (q : mQ h0 h M tx p D) (k : ∀ h', mQ h0 h' M tx (sk tx p) D → hF h' M 16 = hF h M 16 → hI h' (M + 11) = hI h (M + 11) → Φ .null h') : J g k_X9_skip 0 [.ref M] [] [] h Φ := by
  have key : ∀ n p h1, rn tx 0 p = n → mQ h0 h1 M tx p D → hF h1 M 16 = hF h M 16 → hI h1 (M + 11) = hI h (M + 11) → (∀ h', mQ h0 h' M tx (p + n) D → hF h' M 16 = hF h M 16 → hI h' (M + 11) = hI h (M + 11) → Φ .null h') → J g k_X9_skip 0 [.ref M] [] [] h1 Φ := by
    intro n
    induction n with
    | zero =>
      intro p h1 hn q1 e16 e11 kk
      have hr := hr_c (p := p) (x := 32) (c := 32) q1.1.2.2.2.2.2 q1.1.2.2.2.2.1 rfl (by decide)
      have hsp : sp tx p ≠ 0 := rn_end tx (by decide) 0 p hn
      have : ¬ (p < tx.length ∧ tx.getD p 0 = 32) := fun z => hsp (by rw [sp_in z.1]; exact (so_0 _).mpr z.2)
      rw [s_X9_skip_0]
      simp only [s_X9_skip_1, s_X9_skip_4, s_X9_skip_6, s_X9_skip_9, s_X9_skip_10, s_X9_skip_11, s_X9_skip_14, s_X9_skip_15, s_X9_skip_16, s_X9_skip_19, s_X9_skip_22, q1.1.1.1, p_here q1.1 q1.2.2.2.2.1 q1.2.2.2.2.2.1, KV_ap, hr, this, not_false_eq_true, if_true]
      exact kk h1 q1 e16 e11
    | succ n ih =>
      intro p h1 hn q1 e16 e11 kk
      have hr := hr_c (p := p) (x := 32) (c := 32) q1.1.2.2.2.2.2 q1.1.2.2.2.2.1 rfl (by decide)
      have hsp : sp tx p = 0 := by
        have := rn_in tx (s := 0) (by decide) 0 p (by omega)
        exact this
      have hlt : p < tx.length := sp_lt (by rw [hsp]; decide)
      have h32 : tx.getD p 0 = 32 := (so_0 _).mp (by rw [← sp_in hlt]; exact hsp)
      have hn' : rn tx 0 (p + 1) = n := by
        rw [rn_un tx (by decide), if_pos hsp] at hn; omega
      rw [s_X9_skip_0]
      simp only [s_X9_skip_1, s_X9_skip_4, s_X9_skip_6, s_X9_skip_9, s_X9_skip_10, s_X9_skip_11, s_X9_skip_14, s_X9_skip_15, s_X9_skip_16, s_X9_skip_19, s_X9_skip_22, q1.1.1.1, p_here q1.1 q1.2.2.2.2.1 q1.2.2.2.2.2.1, KV_ap, hr, hlt, h32, and_self, not_true_eq_false, if_false, q1.2.2.2.2.1, a1]
      refine ih (p + 1) _ hn' (mQ_13 q1 (by omega)) (by rw [hF_pF, if_neg (by omega)]; exact e16) e11 (fun h' q' e1 e2 => kk h' ?_ e1 e2)
      rw [show p + (n + 1) = p + 1 + n by omega]; exact q'
  exact key (rn tx 0 p) p h rfl q rfl rfl (fun h' q' e1 e2 => k h' q' e1 e2)
theorem p_isLetter {c : Nat} (hc : c < 128) : J g k_X9_isLetter 0 [.int (nI c)] [] [] h Φ = Φ (.int (zI (decide (soN c = 1)))) h := by
  have e : decide ((97 : Int32) ≤ nI c ∧ nI c ≤ 122) = decide (soN c = 1) := by
    have l1 : ((97 : Int32) ≤ nI c) = (97 ≤ c) := le_nI (show 97 < 2147483648 by decide) (show c < 2147483648 by omega)
    have l2 : (nI c ≤ (122 : Int32)) = (c ≤ 122) := le_nI (show c < 2147483648 by omega) (show 122 < 2147483648 by decide)
    simp only [l1, l2, so_1]
  simp only [s_X9_isLetter_0, s_X9_isLetter_1, s_X9_isLetter_3, s_X9_isLetter_5, p_in, KV_ap, e]
  rw [s_X9_isLetter_8 (by rw [zI_01]; trivial)]
theorem p_isFigure {c : Nat} (hc : c < 128) : J g k_X9_isFigure 0 [.int (nI c)] [] [] h Φ = Φ (.int (zI (decide (soN c = 2)))) h := by
  have e : decide ((48 : Int32) ≤ nI c ∧ nI c ≤ 57) = decide (soN c = 2) := by
    have l1 : ((48 : Int32) ≤ nI c) = (48 ≤ c) := le_nI (show 48 < 2147483648 by decide) (show c < 2147483648 by omega)
    have l2 : (nI c ≤ (57 : Int32)) = (c ≤ 57) := le_nI (show c < 2147483648 by omega) (show 57 < 2147483648 by decide)
    simp only [l1, l2, so_2]
  simp only [s_X9_isFigure_0, s_X9_isFigure_1, s_X9_isFigure_3, s_X9_isFigure_5, p_in, KV_ap, e]
  rw [s_X9_isFigure_8 (by rw [zI_01]; trivial)]
theorem p_isFigH (m : mT h M tx) : J g k_X9_isFigure 0 [.int (hrI tx p)] [] [] h Φ = Φ (.int (zI (decide (sp tx p = 2)))) h := by
  by_cases z : p < tx.length
  · rw [hrI, if_pos z, p_isFigure (m.2.2.2.2.2 p z).2, sp_in z]
  · rw [hrI, if_neg z, sp_out (by omega)]
    have e : decide ((48 : Int32) ≤ -1 ∧ (-1 : Int32) ≤ 57) = false := by decide
    simp only [s_X9_isFigure_0, s_X9_isFigure_1, s_X9_isFigure_3, s_X9_isFigure_5, p_in, KV_ap, e]
    rw [zI_f, s_X9_isFigure_8 (Or.inl rfl)]
    rfl
theorem p_wordSize (m : mT h M tx) (f13 : hF h M 13 = .int (nI p)) (hp : p ≤ tx.length) : J g k_X9_wordSize 0 [.ref M, m_D] [] [] h Φ = Φ (.int (nI (rn tx 1 p))) h := by
  obtain ⟨s, s10, s11, f12, hl, hR⟩ := m
  have f11 : hF h M 11 = .ref (M + 10) := s.2.2.2.2.2.2.2.2.2.2.1
  have key : ∀ w n, rn tx 1 (p + n) = w → p + n ≤ tx.length → J g k_X9_wordSize 2 [.ref M, .int (nI n)] [] [] h Φ = Φ (.int (nI (n + w))) h := by
    intro w
    induction w with
    | zero =>
      intro n hn hle
      have hsp := rn_end tx (s := 1) (by decide) 0 (p + n) hn
      rw [Nat.add_zero] at hsp
      rw [s_X9_wordSize_2]
      by_cases z : p + n < tx.length
      · have b : m_inb (nI (p + n)) 150 = true := by rw [inb_nI (by omega)]; simpa using (show p + n < 150 by omega)
        have hr := hR (p + n) z
        have hs : decide (soN (tx.getD (p + n) 0) = 1) = false := decide_eq_false (by rw [← sp_in z]; exact hsp)
        simp only [s_X9_wordSize_0, s_X9_wordSize_1, s_X9_wordSize_3, s_X9_wordSize_6, s_X9_wordSize_7, s_X9_wordSize_8, s_X9_wordSize_9, s_X9_wordSize_12, s_X9_wordSize_15, s_X9_wordSize_16, s_X9_wordSize_19, s_X9_wordSize_20, s_X9_wordSize_23, s_X9_wordSize_24, s_X9_wordSize_25, s_X9_wordSize_26, s_X9_wordSize_29, s_X9_wordSize_32, s_X9_wordSize_35, s_X9_wordSize_38, s_X9_wordSize_39, zI_0, Bool.true_eq_false, Bool.false_eq_true, not_true_eq_false, not_false_eq_true, if_true, if_false, KV_ap, KU_ap, dropL_nil, s.1, f11, f12, f13, i_add, le_nI (show tx.length < 2147483648 by omega) (show p + n < 2147483648 by omega), show ¬ tx.length ≤ p + n by omega, s10, b, cl_nI (show p + n < 2147483648 by omega), hr.1, p_isLetter hr.2, hs, Nat.add_zero]
      · simp only [s_X9_wordSize_0, s_X9_wordSize_1, s_X9_wordSize_3, s_X9_wordSize_6, s_X9_wordSize_7, s_X9_wordSize_8, s_X9_wordSize_9, s_X9_wordSize_12, s_X9_wordSize_15, s_X9_wordSize_16, s_X9_wordSize_19, s_X9_wordSize_20, s_X9_wordSize_23, s_X9_wordSize_24, s_X9_wordSize_25, s_X9_wordSize_26, s_X9_wordSize_29, s_X9_wordSize_32, s_X9_wordSize_35, s_X9_wordSize_38, s_X9_wordSize_39, zI_0, Bool.true_eq_false, Bool.false_eq_true, not_true_eq_false, not_false_eq_true, if_true, if_false, KV_ap, KU_ap, dropL_nil, s.1, f11, f12, f13, i_add, le_nI (show tx.length < 2147483648 by omega) (show p + n < 2147483648 by omega), show tx.length ≤ p + n by omega, Nat.add_zero]
    | succ w ih =>
      intro n hn hle
      have hsp := rn_in tx (s := 1) (by decide) 0 (p + n) (by omega)
      rw [Nat.add_zero] at hsp
      have z : p + n < tx.length := sp_lt (by rw [hsp]; decide)
      have hn' : rn tx 1 (p + (n + 1)) = w := by
        rw [rn_un tx (by decide), if_pos hsp] at hn
        rw [← Nat.add_assoc]; omega
      have b : m_inb (nI (p + n)) 150 = true := by rw [inb_nI (by omega)]; simpa using (show p + n < 150 by omega)
      have hr := hR (p + n) z
      have hs : decide (soN (tx.getD (p + n) 0) = 1) = true := decide_eq_true (by rw [← sp_in z]; exact hsp)
      rw [s_X9_wordSize_2]
      simp only [s_X9_wordSize_0, s_X9_wordSize_1, s_X9_wordSize_3, s_X9_wordSize_6, s_X9_wordSize_7, s_X9_wordSize_8, s_X9_wordSize_9, s_X9_wordSize_12, s_X9_wordSize_15, s_X9_wordSize_16, s_X9_wordSize_19, s_X9_wordSize_20, s_X9_wordSize_23, s_X9_wordSize_24, s_X9_wordSize_25, s_X9_wordSize_26, s_X9_wordSize_29, s_X9_wordSize_32, s_X9_wordSize_35, s_X9_wordSize_38, s_X9_wordSize_39, zI_0, Bool.true_eq_false, Bool.false_eq_true, not_true_eq_false, not_false_eq_true, if_true, if_false, KV_ap, KU_ap, dropL_nil, s.1, f11, f12, f13, i_add, le_nI (show tx.length < 2147483648 by omega) (show p + n < 2147483648 by omega), show ¬ tx.length ≤ p + n by omega, s10, b, cl_nI (show p + n < 2147483648 by omega), hr.1, p_isLetter hr.2, hs, a1]
      rw [ih (n + 1) hn' (by omega), show n + 1 + w = n + (w + 1) by omega]
  rw [s_X9_wordSize_0, s_X9_wordSize_1, dropL_nil]
  have := key (rn tx 1 p) 0 rfl hp
  rw [Nat.zero_add] at this
  exact this
theorem p_letter (m : mT h M tx) (f13 : hF h M 13 = .int (nI p)) {i : Nat} {v : Int32} (ev : v = nI i) (hp : p + i < tx.length) : J g k_X9_letter 0 [.ref M, .int v] [] [] h Φ = Φ (.int (nI (tx.getD (p + i) 0))) h := by
  obtain ⟨s, s10, s11, f12, hl, hR⟩ := m
  have f11 : hF h M 11 = .ref (M + 10) := s.2.2.2.2.2.2.2.2.2.2.1
  have b : m_inb (nI (p + i)) 150 = true := by rw [inb_nI (by omega)]; simpa using (show p + i < 150 by omega)
  rw [ev]
  simp only [s_X9_letter_0, s_X9_letter_1, s_X9_letter_4, s_X9_letter_5, s_X9_letter_8, s_X9_letter_9, s_X9_letter_10, s_X9_letter_11, s.1, f11, f13, i_add, s10, b, cl_nI (show p + i < 2147483648 by omega), (hR (p + i) hp).1]
/-- which word stands there -/
def wdI (tx : List Nat) (q : Nat) : Int32 := if wOk tx q wTo = true then 0 else if wOk tx q wSt = true then 1 else if wOk tx q wSu = true then 2 else -1
theorem wOk_rn {w : List Nat} (h1 : 1 ≤ w.length) (h2 : 97 ≤ w.getD 0 0 ∧ w.getD 0 0 ≤ 122) (hp : p ≤ tx.length) : (wOk tx p w = true) ↔ (rn tx 1 p = w.length ∧ ∀ i, i < w.length → tx.getD (p + i) 0 = w.getD i 0) := by
  unfold wOk
  rw [decide_eq_true_eq]
  constructor
  · rintro ⟨a, b, c⟩
    have c0 := c 0 (by omega)
    rw [Nat.add_zero] at c0
    have hs : sp tx p = 1 := by rw [sp_in a, so_1, c0]; exact h2
    rw [tl, hs, if_pos (Or.inl rfl)] at b
    exact ⟨b, c⟩
  · rintro ⟨b, c⟩
    have hs : sp tx p = 1 := by
      have := rn_in tx (s := 1) (by decide) 0 p (by omega)
      exact this
    refine ⟨sp_lt (by rw [hs]; decide), ?_, c⟩
    rw [tl, hs, if_pos (Or.inl rfl)]
    exact b
theorem p_wordHere (m : mT h M tx) (f13 : hF h M 13 = .int (nI p)) (hp : p ≤ tx.length) : J g k_X9_wordHere 0 [.ref M, m_D] [] [] h Φ = Φ (.int (wdI tx p)) h := by
  have hl := m.2.2.2.2.1
  have hr := rn_le tx (s := 1) (by decide) hp
  have rlt : rn tx 1 p < 2147483648 := by omega
  have e4 : (nI (rn tx 1 p) = (4 : Int32)) = (rn tx 1 p = 4) := eq_nI rlt (show 4 < 2147483648 by decide)
  have e5 : (nI (rn tx 1 p) = (5 : Int32)) = (rn tx 1 p = 5) := eq_nI rlt (show 5 < 2147483648 by decide)
  have ec : ∀ i c : Nat, p + i < tx.length → c < 128 → (nI (tx.getD (p + i) 0) = nI c) = (tx.getD (p + i) 0 = c) := fun i c hi hc => eq_nI (by have := (m.2.2.2.2.2 (p + i) hi).2; omega) (by omega)
  have T := wOk_rn (tx := tx) (w := wTo) (by decide) (by decide) hp
  have S := wOk_rn (tx := tx) (w := wSt) (by decide) (by decide) hp
  have U := wOk_rn (tx := tx) (w := wSu) (by decide) (by decide) hp
  have c4 : ∀ w : List Nat, w.length = 4 → ((∀ i, i < w.length → tx.getD (p + i) 0 = w.getD i 0) ↔ (tx.getD (p + 0) 0 = w.getD 0 0 ∧ tx.getD (p + 1) 0 = w.getD 1 0 ∧ tx.getD (p + 2) 0 = w.getD 2 0 ∧ tx.getD (p + 3) 0 = w.getD 3 0)) := by
    intro w hw
    rw [hw]
    constructor
    · intro z; exact ⟨z 0 (by decide), z 1 (by decide), z 2 (by decide), z 3 (by decide)⟩
    · rintro ⟨z0, z1, z2, z3⟩ i hi
      obtain e | e | e | e : i = 0 ∨ i = 1 ∨ i = 2 ∨ i = 3 := by omega
      all_goals (subst e; assumption)
  have c5 : (∀ i, i < wSt.length → tx.getD (p + i) 0 = wSt.getD i 0) ↔ (tx.getD (p + 0) 0 = 115 ∧ tx.getD (p + 1) 0 = 116 ∧ tx.getD (p + 2) 0 = 105 ∧ tx.getD (p + 3) 0 = 99 ∧ tx.getD (p + 4) 0 = 107) := by
    constructor
    · intro z; exact ⟨z 0 (by decide), z 1 (by decide), z 2 (by decide), z 3 (by decide), z 4 (by decide)⟩
    · rintro ⟨z0, z1, z2, z3, z4⟩ i hi
      have hi' : i < 5 := hi
      obtain e | e | e | e | e : i = 0 ∨ i = 1 ∨ i = 2 ∨ i = 3 ∨ i = 4 := by omega
      all_goals (subst e; assumption)
  have s := m.1
  -- the third word
  have W3 : J g k_X9_wordHere 109 [.ref M, .int (nI (rn tx 1 p))] [] [] h Φ = Φ (.int (if wOk tx p wSu = true then 2 else -1)) h := by
    by_cases n4 : rn tx 1 p = 4
    · have k0 : (nI (tx.getD (p + 0) 0) = (115 : Int32)) = (tx.getD (p + 0) 0 = 115) := ec 0 115 (by omega) (by decide)
      have k1 : (nI (tx.getD (p + 1) 0) = (117 : Int32)) = (tx.getD (p + 1) 0 = 117) := ec 1 117 (by omega) (by decide)
      have k2 : (nI (tx.getD (p + 2) 0) = (99 : Int32)) = (tx.getD (p + 2) 0 = 99) := ec 2 99 (by omega) (by decide)
      have k3 : (nI (tx.getD (p + 3) 0) = (107 : Int32)) = (tx.getD (p + 3) 0 = 107) := ec 3 107 (by omega) (by decide)
      have nn : (nI 4 = (4 : Int32)) = True := by decide
      rw [n4]
      simp only [s_X9_wordHere_0, s_X9_wordHere_1, s_X9_wordHere_4, s_X9_wordHere_5, s_X9_wordHere_6, s_X9_wordHere_7, s_X9_wordHere_10, s_X9_wordHere_11, s_X9_wordHere_12, s_X9_wordHere_15, s_X9_wordHere_17, s_X9_wordHere_20, s_X9_wordHere_21, s_X9_wordHere_22, s_X9_wordHere_25, s_X9_wordHere_27, s_X9_wordHere_30, s_X9_wordHere_31, s_X9_wordHere_32, s_X9_wordHere_35, s_X9_wordHere_37, s_X9_wordHere_40, s_X9_wordHere_41, s_X9_wordHere_42, s_X9_wordHere_45, s_X9_wordHere_47, s_X9_wordHere_50, s_X9_wordHere_51, s_X9_wordHere_52, s_X9_wordHere_53, s_X9_wordHere_54, s_X9_wordHere_57, s_X9_wordHere_58, s_X9_wordHere_59, s_X9_wordHere_62, s_X9_wordHere_64, s_X9_wordHere_67, s_X9_wordHere_68, s_X9_wordHere_69, s_X9_wordHere_72, s_X9_wordHere_74, s_X9_wordHere_77, s_X9_wordHere_78, s_X9_wordHere_79, s_X9_wordHere_82, s_X9_wordHere_84, s_X9_wordHere_87, s_X9_wordHere_88, s_X9_wordHere_89, s_X9_wordHere_92, s_X9_wordHere_94, s_X9_wordHere_97, s_X9_wordHere_98, s_X9_wordHere_99, s_X9_wordHere_102, s_X9_wordHere_104, s_X9_wordHere_107, s_X9_wordHere_108, s_X9_wordHere_109, s_X9_wordHere_110, s_X9_wordHere_111, s_X9_wordHere_114, s_X9_wordHere_115, s_X9_wordHere_116, s_X9_wordHere_119, s_X9_wordHere_121, s_X9_wordHere_124, s_X9_wordHere_125, s_X9_wordHere_126, s_X9_wordHere_129, s_X9_wordHere_131, s_X9_wordHere_134, s_X9_wordHere_135, s_X9_wordHere_136, s_X9_wordHere_139, s_X9_wordHere_141, s_X9_wordHere_144, s_X9_wordHere_145, s_X9_wordHere_146, s_X9_wordHere_149, s_X9_wordHere_151, s_X9_wordHere_154, s_X9_wordHere_155, s_X9_wordHere_158, s_X9_wordHere_159, zI_0, Bool.true_eq_false, Bool.false_eq_true, not_true_eq_false, not_false_eq_true, if_true, if_false, KV_ap, KU_ap, dropL_nil, s.1, nn, p_letter m f13 (i := 0) (v := 0) rfl (show p + 0 < tx.length by omega), p_letter m f13 (i := 1) (v := 1) rfl (show p + 1 < tx.length by omega), p_letter m f13 (i := 2) (v := 2) rfl (show p + 2 < tx.length by omega), p_letter m f13 (i := 3) (v := 3) rfl (show p + 3 < tx.length by omega), k0, k1, k2, k3]
      by_cases z0 : tx.getD (p + 0) 0 = 115
      · by_cases z1 : tx.getD (p + 1) 0 = 117
        · by_cases z2 : tx.getD (p + 2) 0 = 99
          · by_cases z3 : tx.getD (p + 3) 0 = 107
            · rw [if_pos (U.mpr ⟨n4, (c4 wSu rfl).mpr ⟨z0, z1, z2, z3⟩⟩)]
              simp only [z0, z1, z2, z3, not_true_eq_false, if_false]
            · rw [if_neg (fun y => z3 ((c4 wSu rfl).mp (U.mp y).2).2.2.2)]
              simp only [z0, z1, z2, z3, not_true_eq_false, not_false_eq_true, if_false, if_true]
          · rw [if_neg (fun y => z2 ((c4 wSu rfl).mp (U.mp y).2).2.2.1)]
            simp only [z0, z1, z2, not_true_eq_false, not_false_eq_true, if_false, if_true]
        · rw [if_neg (fun y => z1 ((c4 wSu rfl).mp (U.mp y).2).2.1)]
          simp only [z0, z1, not_true_eq_false, not_false_eq_true, if_false, if_true]
      · rw [if_neg (fun y => z0 ((c4 wSu rfl).mp (U.mp y).2).1)]
        simp only [z0, not_true_eq_false, not_false_eq_true, if_false, if_true]
    · rw [if_neg (fun y => n4 (U.mp y).1)]
      simp only [s_X9_wordHere_0, s_X9_wordHere_1, s_X9_wordHere_4, s_X9_wordHere_5, s_X9_wordHere_6, s_X9_wordHere_7, s_X9_wordHere_10, s_X9_wordHere_11, s_X9_wordHere_12, s_X9_wordHere_15, s_X9_wordHere_17, s_X9_wordHere_20, s_X9_wordHere_21, s_X9_wordHere_22, s_X9_wordHere_25, s_X9_wordHere_27, s_X9_wordHere_30, s_X9_wordHere_31, s_X9_wordHere_32, s_X9_wordHere_35, s_X9_wordHere_37, s_X9_wordHere_40, s_X9_wordHere_41, s_X9_wordHere_42, s_X9_wordHere_45, s_X9_wordHere_47, s_X9_wordHere_50, s_X9_wordHere_51, s_X9_wordHere_52, s_X9_wordHere_53, s_X9_wordHere_54, s_X9_wordHere_57, s_X9_wordHere_58, s_X9_wordHere_59, s_X9_wordHere_62, s_X9_wordHere_64, s_X9_wordHere_67, s_X9_wordHere_68, s_X9_wordHere_69, s_X9_wordHere_72, s_X9_wordHere_74, s_X9_wordHere_77, s_X9_wordHere_78, s_X9_wordHere_79, s_X9_wordHere_82, s_X9_wordHere_84, s_X9_wordHere_87, s_X9_wordHere_88, s_X9_wordHere_89, s_X9_wordHere_92, s_X9_wordHere_94, s_X9_wordHere_97, s_X9_wordHere_98, s_X9_wordHere_99, s_X9_wordHere_102, s_X9_wordHere_104, s_X9_wordHere_107, s_X9_wordHere_108, s_X9_wordHere_109, s_X9_wordHere_110, s_X9_wordHere_111, s_X9_wordHere_114, s_X9_wordHere_115, s_X9_wordHere_116, s_X9_wordHere_119, s_X9_wordHere_121, s_X9_wordHere_124, s_X9_wordHere_125, s_X9_wordHere_126, s_X9_wordHere_129, s_X9_wordHere_131, s_X9_wordHere_134, s_X9_wordHere_135, s_X9_wordHere_136, s_X9_wordHere_139, s_X9_wordHere_141, s_X9_wordHere_144, s_X9_wordHere_145, s_X9_wordHere_146, s_X9_wordHere_149, s_X9_wordHere_151, s_X9_wordHere_154, s_X9_wordHere_155, s_X9_wordHere_158, s_X9_wordHere_159, zI_0, Bool.true_eq_false, Bool.false_eq_true, not_true_eq_false, not_false_eq_true, if_true, if_false, KV_ap, KU_ap, dropL_nil, e4, n4]
  have W2 : J g k_X9_wordHere 52 [.ref M, .int (nI (rn tx 1 p))] [] [] h Φ = Φ (.int (if wOk tx p wSt = true then 1 else if wOk tx p wSu = true then 2 else -1)) h := by
    by_cases n5 : rn tx 1 p = 5
    · have k0 : (nI (tx.getD (p + 0) 0) = (115 : Int32)) = (tx.getD (p + 0) 0 = 115) := ec 0 115 (by omega) (by decide)
      have k1 : (nI (tx.getD (p + 1) 0) = (116 : Int32)) = (tx.getD (p + 1) 0 = 116) := ec 1 116 (by omega) (by decide)
      have k2 : (nI (tx.getD (p + 2) 0) = (105 : Int32)) = (tx.getD (p + 2) 0 = 105) := ec 2 105 (by omega) (by decide)
      have k3 : (nI (tx.getD (p + 3) 0) = (99 : Int32)) = (tx.getD (p + 3) 0 = 99) := ec 3 99 (by omega) (by decide)
      have k4 : (nI (tx.getD (p + 4) 0) = (107 : Int32)) = (tx.getD (p + 4) 0 = 107) := ec 4 107 (by omega) (by decide)
      have nn : (nI 5 = (5 : Int32)) = True := by decide
      have W3' := W3
      rw [n5] at W3'
      rw [n5]
      simp only [s_X9_wordHere_0, s_X9_wordHere_1, s_X9_wordHere_4, s_X9_wordHere_5, s_X9_wordHere_6, s_X9_wordHere_7, s_X9_wordHere_10, s_X9_wordHere_11, s_X9_wordHere_12, s_X9_wordHere_15, s_X9_wordHere_17, s_X9_wordHere_20, s_X9_wordHere_21, s_X9_wordHere_22, s_X9_wordHere_25, s_X9_wordHere_27, s_X9_wordHere_30, s_X9_wordHere_31, s_X9_wordHere_32, s_X9_wordHere_35, s_X9_wordHere_37, s_X9_wordHere_40, s_X9_wordHere_41, s_X9_wordHere_42, s_X9_wordHere_45, s_X9_wordHere_47, s_X9_wordHere_50, s_X9_wordHere_51, s_X9_wordHere_52, s_X9_wordHere_53, s_X9_wordHere_54, s_X9_wordHere_57, s_X9_wordHere_58, s_X9_wordHere_59, s_X9_wordHere_62, s_X9_wordHere_64, s_X9_wordHere_67, s_X9_wordHere_68, s_X9_wordHere_69, s_X9_wordHere_72, s_X9_wordHere_74, s_X9_wordHere_77, s_X9_wordHere_78, s_X9_wordHere_79, s_X9_wordHere_82, s_X9_wordHere_84, s_X9_wordHere_87, s_X9_wordHere_88, s_X9_wordHere_89, s_X9_wordHere_92, s_X9_wordHere_94, s_X9_wordHere_97, s_X9_wordHere_98, s_X9_wordHere_99, s_X9_wordHere_102, s_X9_wordHere_104, s_X9_wordHere_107, s_X9_wordHere_108, s_X9_wordHere_110, s_X9_wordHere_111, s_X9_wordHere_114, s_X9_wordHere_115, s_X9_wordHere_116, s_X9_wordHere_119, s_X9_wordHere_121, s_X9_wordHere_124, s_X9_wordHere_125, s_X9_wordHere_126, s_X9_wordHere_129, s_X9_wordHere_131, s_X9_wordHere_134, s_X9_wordHere_135, s_X9_wordHere_136, s_X9_wordHere_139, s_X9_wordHere_141, s_X9_wordHere_144, s_X9_wordHere_145, s_X9_wordHere_146, s_X9_wordHere_149, s_X9_wordHere_151, s_X9_wordHere_154, s_X9_wordHere_155, s_X9_wordHere_158, s_X9_wordHere_159, zI_0, Bool.true_eq_false, Bool.false_eq_true, not_true_eq_false, not_false_eq_true, if_true, if_false, KV_ap, KU_ap, dropL_nil, s.1, nn, p_letter m f13 (i := 0) (v := 0) rfl (show p + 0 < tx.length by omega), p_letter m f13 (i := 1) (v := 1) rfl (show p + 1 < tx.length by omega), p_letter m f13 (i := 2) (v := 2) rfl (show p + 2 < tx.length by omega), p_letter m f13 (i := 3) (v := 3) rfl (show p + 3 < tx.length by omega), p_letter m f13 (i := 4) (v := 4) rfl (show p + 4 < tx.length by omega), k0, k1, k2, k3, k4]
      by_cases z0 : tx.getD (p + 0) 0 = 115
      · by_cases z1 : tx.getD (p + 1) 0 = 116
        · by_cases z2 : tx.getD (p + 2) 0 = 105
          · by_cases z3 : tx.getD (p + 3) 0 = 99
            · by_cases z4 : tx.getD (p + 4) 0 = 107
              · rw [if_pos (S.mpr ⟨n5, c5.mpr ⟨z0, z1, z2, z3, z4⟩⟩)]
                simp only [z0, z1, z2, z3, z4, not_true_eq_false, if_false]
              · rw [if_neg (fun y => z4 (c5.mp (S.mp y).2).2.2.2.2)]
                simp only [z0, z1, z2, z3, z4, not_true_eq_false, not_false_eq_true, if_false, if_true]
                exact W3'
            · rw [if_neg (fun y => z3 (c5.mp (S.mp y).2).2.2.2.1)]
              simp only [z0, z1, z2, z3, not_true_eq_false, not_false_eq_true, if_false, if_true]
              exact W3'
          · rw [if_neg (fun y => z2 (c5.mp (S.mp y).2).2.2.1)]
            simp only [z0, z1, z2, not_true_eq_false, not_false_eq_true, if_false, if_true]
            exact W3'
        · rw [if_neg (fun y => z1 (c5.mp (S.mp y).2).2.1)]
          simp only [z0, z1, not_true_eq_false, not_false_eq_true, if_false, if_true]
          exact W3'
      · rw [if_neg (fun y => z0 (c5.mp (S.mp y).2).1)]
        simp only [z0, not_true_eq_false, not_false_eq_true, if_false, if_true]
        exact W3'
    · rw [if_neg (fun y => n5 (S.mp y).1)]
      simp only [s_X9_wordHere_0, s_X9_wordHere_1, s_X9_wordHere_4, s_X9_wordHere_5, s_X9_wordHere_6, s_X9_wordHere_7, s_X9_wordHere_10, s_X9_wordHere_11, s_X9_wordHere_12, s_X9_wordHere_15, s_X9_wordHere_17, s_X9_wordHere_20, s_X9_wordHere_21, s_X9_wordHere_22, s_X9_wordHere_25, s_X9_wordHere_27, s_X9_wordHere_30, s_X9_wordHere_31, s_X9_wordHere_32, s_X9_wordHere_35, s_X9_wordHere_37, s_X9_wordHere_40, s_X9_wordHere_41, s_X9_wordHere_42, s_X9_wordHere_45, s_X9_wordHere_47, s_X9_wordHere_50, s_X9_wordHere_51, s_X9_wordHere_52, s_X9_wordHere_53, s_X9_wordHere_54, s_X9_wordHere_57, s_X9_wordHere_58, s_X9_wordHere_59, s_X9_wordHere_62, s_X9_wordHere_64, s_X9_wordHere_67, s_X9_wordHere_68, s_X9_wordHere_69, s_X9_wordHere_72, s_X9_wordHere_74, s_X9_wordHere_77, s_X9_wordHere_78, s_X9_wordHere_79, s_X9_wordHere_82, s_X9_wordHere_84, s_X9_wordHere_87, s_X9_wordHere_88, s_X9_wordHere_89, s_X9_wordHere_92, s_X9_wordHere_94, s_X9_wordHere_97, s_X9_wordHere_98, s_X9_wordHere_99, s_X9_wordHere_102, s_X9_wordHere_104, s_X9_wordHere_107, s_X9_wordHere_108, s_X9_wordHere_110, s_X9_wordHere_111, s_X9_wordHere_114, s_X9_wordHere_115, s_X9_wordHere_116, s_X9_wordHere_119, s_X9_wordHere_121, s_X9_wordHere_124, s_X9_wordHere_125, s_X9_wordHere_126, s_X9_wordHere_129, s_X9_wordHere_131, s_X9_wordHere_134, s_X9_wordHere_135, s_X9_wordHere_136, s_X9_wordHere_139, s_X9_wordHere_141, s_X9_wordHere_144, s_X9_wordHere_145, s_X9_wordHere_146, s_X9_wordHere_149, s_X9_wordHere_151, s_X9_wordHere_154, s_X9_wordHere_155, s_X9_wordHere_158, s_X9_wordHere_159, zI_0, Bool.true_eq_false, Bool.false_eq_true, not_true_eq_false, not_false_eq_true, if_true, if_false, KV_ap, KU_ap, dropL_nil, e5, n5]
      exact W3
  unfold wdI
  simp only [s_X9_wordHere_0, s_X9_wordHere_1, s_X9_wordHere_4, s_X9_wordHere_5, s_X9_wordHere_6, s_X9_wordHere_10, s_X9_wordHere_12, s_X9_wordHere_15, s_X9_wordHere_17, s_X9_wordHere_20, s_X9_wordHere_21, s_X9_wordHere_22, s_X9_wordHere_25, s_X9_wordHere_27, s_X9_wordHere_30, s_X9_wordHere_31, s_X9_wordHere_32, s_X9_wordHere_35, s_X9_wordHere_37, s_X9_wordHere_40, s_X9_wordHere_41, s_X9_wordHere_42, s_X9_wordHere_45, s_X9_wordHere_47, s_X9_wordHere_50, s_X9_wordHere_51, s_X9_wordHere_53, s_X9_wordHere_54, s_X9_wordHere_57, s_X9_wordHere_58, s_X9_wordHere_59, s_X9_wordHere_62, s_X9_wordHere_64, s_X9_wordHere_67, s_X9_wordHere_68, s_X9_wordHere_69, s_X9_wordHere_72, s_X9_wordHere_74, s_X9_wordHere_77, s_X9_wordHere_78, s_X9_wordHere_79, s_X9_wordHere_82, s_X9_wordHere_84, s_X9_wordHere_87, s_X9_wordHere_88, s_X9_wordHere_89, s_X9_wordHere_92, s_X9_wordHere_94, s_X9_wordHere_97, s_X9_wordHere_98, s_X9_wordHere_99, s_X9_wordHere_102, s_X9_wordHere_104, s_X9_wordHere_107, s_X9_wordHere_108, s_X9_wordHere_109, s_X9_wordHere_110, s_X9_wordHere_111, s_X9_wordHere_114, s_X9_wordHere_115, s_X9_wordHere_116, s_X9_wordHere_119, s_X9_wordHere_121, s_X9_wordHere_124, s_X9_wordHere_125, s_X9_wordHere_126, s_X9_wordHere_129, s_X9_wordHere_131, s_X9_wordHere_134, s_X9_wordHere_135, s_X9_wordHere_136, s_X9_wordHere_139, s_X9_wordHere_141, s_X9_wordHere_144, s_X9_wordHere_145, s_X9_wordHere_146, s_X9_wordHere_149, s_X9_wordHere_151, s_X9_wordHere_154, s_X9_wordHere_155, s_X9_wordHere_158, s_X9_wordHere_159, zI_0, Bool.true_eq_false, Bool.false_eq_true, not_true_eq_false, not_false_eq_true, if_true, if_false, KV_ap, KU_ap, dropL_nil, s.1, p_wordSize m f13 hp, s_X9_wordHere_7, e4]
  by_cases n4 : rn tx 1 p = 4
  · have k0 : (nI (tx.getD (p + 0) 0) = (116 : Int32)) = (tx.getD (p + 0) 0 = 116) := ec 0 116 (by omega) (by decide)
    have k1 : (nI (tx.getD (p + 1) 0) = (111 : Int32)) = (tx.getD (p + 1) 0 = 111) := ec 1 111 (by omega) (by decide)
    have k2 : (nI (tx.getD (p + 2) 0) = (119 : Int32)) = (tx.getD (p + 2) 0 = 119) := ec 2 119 (by omega) (by decide)
    have k3 : (nI (tx.getD (p + 3) 0) = (110 : Int32)) = (tx.getD (p + 3) 0 = 110) := ec 3 110 (by omega) (by decide)
    have W2' := W2
    rw [n4] at W2'
    rw [if_neg (not_not_intro n4), n4]
    simp only [s_X9_wordHere_0, s_X9_wordHere_1, s_X9_wordHere_4, s_X9_wordHere_5, s_X9_wordHere_6, s_X9_wordHere_7, s_X9_wordHere_10, s_X9_wordHere_11, s_X9_wordHere_12, s_X9_wordHere_15, s_X9_wordHere_17, s_X9_wordHere_20, s_X9_wordHere_21, s_X9_wordHere_22, s_X9_wordHere_25, s_X9_wordHere_27, s_X9_wordHere_30, s_X9_wordHere_31, s_X9_wordHere_32, s_X9_wordHere_35, s_X9_wordHere_37, s_X9_wordHere_40, s_X9_wordHere_41, s_X9_wordHere_42, s_X9_wordHere_45, s_X9_wordHere_47, s_X9_wordHere_50, s_X9_wordHere_51, s_X9_wordHere_53, s_X9_wordHere_54, s_X9_wordHere_57, s_X9_wordHere_58, s_X9_wordHere_59, s_X9_wordHere_62, s_X9_wordHere_64, s_X9_wordHere_67, s_X9_wordHere_68, s_X9_wordHere_69, s_X9_wordHere_72, s_X9_wordHere_74, s_X9_wordHere_77, s_X9_wordHere_78, s_X9_wordHere_79, s_X9_wordHere_82, s_X9_wordHere_84, s_X9_wordHere_87, s_X9_wordHere_88, s_X9_wordHere_89, s_X9_wordHere_92, s_X9_wordHere_94, s_X9_wordHere_97, s_X9_wordHere_98, s_X9_wordHere_99, s_X9_wordHere_102, s_X9_wordHere_104, s_X9_wordHere_107, s_X9_wordHere_108, s_X9_wordHere_109, s_X9_wordHere_110, s_X9_wordHere_111, s_X9_wordHere_114, s_X9_wordHere_115, s_X9_wordHere_116, s_X9_wordHere_119, s_X9_wordHere_121, s_X9_wordHere_124, s_X9_wordHere_125, s_X9_wordHere_126, s_X9_wordHere_129, s_X9_wordHere_131, s_X9_wordHere_134, s_X9_wordHere_135, s_X9_wordHere_136, s_X9_wordHere_139, s_X9_wordHere_141, s_X9_wordHere_144, s_X9_wordHere_145, s_X9_wordHere_146, s_X9_wordHere_149, s_X9_wordHere_151, s_X9_wordHere_154, s_X9_wordHere_155, s_X9_wordHere_158, s_X9_wordHere_159, zI_0, Bool.true_eq_false, Bool.false_eq_true, not_true_eq_false, not_false_eq_true, if_true, if_false, KV_ap, KU_ap, dropL_nil, s.1, p_letter m f13 (i := 0) (v := 0) rfl (show p + 0 < tx.length by omega), p_letter m f13 (i := 1) (v := 1) rfl (show p + 1 < tx.length by omega), p_letter m f13 (i := 2) (v := 2) rfl (show p + 2 < tx.length by omega), p_letter m f13 (i := 3) (v := 3) rfl (show p + 3 < tx.length by omega), k0, k1, k2, k3]
    by_cases z0 : tx.getD (p + 0) 0 = 116
    · by_cases z1 : tx.getD (p + 1) 0 = 111
      · by_cases z2 : tx.getD (p + 2) 0 = 119
        · by_cases z3 : tx.getD (p + 3) 0 = 110
          · rw [if_pos (T.mpr ⟨n4, (c4 wTo rfl).mpr ⟨z0, z1, z2, z3⟩⟩)]
            simp only [z0, z1, z2, z3, not_true_eq_false, if_false]
          · rw [if_neg (fun y => z3 ((c4 wTo rfl).mp (T.mp y).2).2.2.2)]
            simp only [z0, z1, z2, z3, not_true_eq_false, not_false_eq_true, if_false, if_true]
            exact W2'
        · rw [if_neg (fun y => z2 ((c4 wTo rfl).mp (T.mp y).2).2.2.1)]
          simp only [z0, z1, z2, not_true_eq_false, not_false_eq_true, if_false, if_true]
          exact W2'
      · rw [if_neg (fun y => z1 ((c4 wTo rfl).mp (T.mp y).2).2.1)]
        simp only [z0, z1, not_true_eq_false, not_false_eq_true, if_false, if_true]
        exact W2'
    · rw [if_neg (fun y => z0 ((c4 wTo rfl).mp (T.mp y).2).1)]
      simp only [z0, not_true_eq_false, not_false_eq_true, if_false, if_true]
      exact W2'
  · rw [if_neg (fun y => n4 (T.mp y).1), if_pos n4]
    exact W2
end R7

/-! The text: sorts of letters, runs, tokens -/
def soN (c : Nat) : Nat := if 97 ≤ c ∧ c ≤ 122 then 1 else if 48 ≤ c ∧ c ≤ 57 then 2 else if c = 59 then 3 else if c = 32 then 0 else 4
def sp (tx : List Nat) (p : Nat) : Nat := if p < tx.length then soN (tx.getD p 0) else 9
theorem so_le (c : Nat) : soN c ≤ 4 := by unfold soN; repeat' split
                                          all_goals omega
theorem so_1 (c : Nat) : (soN c = 1) ↔ (97 ≤ c ∧ c ≤ 122) := by unfold soN; repeat' split
                                                                all_goals omega
theorem so_2 (c : Nat) : (soN c = 2) ↔ (48 ≤ c ∧ c ≤ 57) := by unfold soN; repeat' split
                                                               all_goals omega
theorem so_3 (c : Nat) : (soN c = 3) ↔ (c = 59) := by unfold soN; repeat' split
                                                      all_goals omega
theorem so_0 (c : Nat) : (soN c = 0) ↔ (c = 32) := by unfold soN; repeat' split
                                                      all_goals omega
theorem sp_in {tx : List Nat} {p : Nat} (h : p < tx.length) : sp tx p = soN (tx.getD p 0) := by rw [sp, if_pos h]
theorem sp_out {tx : List Nat} {p : Nat} (h : tx.length ≤ p) : sp tx p = 9 := by rw [sp, if_neg (by omega)]
theorem sp_lt {tx : List Nat} {p : Nat} (h : sp tx p ≠ 9) : p < tx.length := by
  by_cases z : p < tx.length
  · exact z
  · exact absurd (sp_out (by omega)) h
theorem sp_9 {tx : List Nat} {p : Nat} (h : sp tx p = 9) : tx.length ≤ p := by
  by_cases z : p < tx.length
  · rw [sp_in z] at h; have := so_le (tx.getD p 0); omega
  · omega
def rnF (tx : List Nat) (s : Nat) : Nat → Nat → Nat
  | 0, _ => 0
  | F + 1, p => if sp tx p = s then rnF tx s F (p + 1) + 1 else 0
/-- how far one sort goes -/
def rn (tx : List Nat) (s p : Nat) : Nat := rnF tx s (tx.length - p) p
theorem rn_un (tx : List Nat) {s : Nat} (hs : s ≠ 9) (p : Nat) : rn tx s p = if sp tx p = s then rn tx s (p + 1) + 1 else 0 := by
  by_cases z : p < tx.length
  · unfold rn
    rw [show tx.length - p = (tx.length - (p + 1)) + 1 by omega, rnF]
  · rw [if_neg (by rw [sp_out (by omega)]; exact fun y => hs y.symm)]
    unfold rn
    rw [show tx.length - p = 0 by omega, rnF]
theorem rn_in (tx : List Nat) {s : Nat} (hs : s ≠ 9) : ∀ i p, i < rn tx s p → sp tx (p + i) = s := by
  intro i
  induction i with
  | zero =>
    intro p h
    rw [rn_un tx hs] at h
    by_cases e : sp tx p = s
    · exact e
    · rw [if_neg e] at h; exact absurd h (Nat.not_lt_zero _)
  | succ i ih =>
    intro p h
    rw [rn_un tx hs] at h
    by_cases e : sp tx p = s
    · rw [if_pos e] at h
      have := ih (p + 1) (by omega)
      rw [← this]; congr 1; omega
    · rw [if_neg e] at h; exact absurd h (Nat.not_lt_zero _)
theorem rn_end (tx : List Nat) {s : Nat} (hs : s ≠ 9) : ∀ n p, rn tx s p = n → sp tx (p + n) ≠ s := by
  intro n
  induction n with
  | zero =>
    intro p h
    rw [rn_un tx hs] at h
    by_cases e : sp tx p = s
    · rw [if_pos e] at h; omega
    · exact e
  | succ n ih =>
    intro p h
    rw [rn_un tx hs] at h
    by_cases e : sp tx p = s
    · rw [if_pos e] at h
      have := ih (p + 1) (by omega)
      rw [show p + (n + 1) = p + 1 + n by omega]; exact this
    · rw [if_neg e] at h; omega
theorem rn_le (tx : List Nat) {s : Nat} (hs : s ≠ 9) {p : Nat} (hp : p ≤ tx.length) : p + rn tx s p ≤ tx.length := by
  by_cases z : rn tx s p = 0
  · omega
  · have := rn_in tx hs (rn tx s p - 1) p (by omega)
    have := sp_lt (tx := tx) (p := p + (rn tx s p - 1)) (by rw [this]; exact hs)
    omega
def sk (tx : List Nat) (p : Nat) : Nat := p + rn tx 0 p
def tl (tx : List Nat) (p : Nat) : Nat := if sp tx p = 1 ∨ sp tx p = 2 then rn tx (sp tx p) p else 1
def nx (tx : List Nat) (p : Nat) : Nat := sk tx (p + tl tx p)
theorem sk_ge (tx : List Nat) (p : Nat) : p ≤ sk tx p := Nat.le_add_right _ _
theorem sk_le (tx : List Nat) {p : Nat} (hp : p ≤ tx.length) : sk tx p ≤ tx.length := rn_le tx (by decide) hp
theorem sk_sp (tx : List Nat) (p : Nat) : sp tx (sk tx p) ≠ 0 := rn_end tx (by decide) _ p rfl
theorem sk_in (tx : List Nat) {p i : Nat} (h1 : p ≤ i) (h2 : i < sk tx p) : sp tx i = 0 := by
  have := rn_in tx (s := 0) (by decide) (i - p) p (by unfold sk at h2; omega)
  rw [← this]; congr 1; omega
theorem sk_id (tx : List Nat) {p : Nat} (h : sp tx p ≠ 0) : sk tx p = p := by
  unfold sk
  rw [rn_un tx (by decide), if_neg h]
  rfl
theorem sk_sk (tx : List Nat) (p : Nat) : sk tx (sk tx p) = sk tx p := sk_id tx (sk_sp tx p)
theorem tl_pos (tx : List Nat) (p : Nat) : 1 ≤ tl tx p := by
  unfold tl
  split
  · rename_i h
    rw [rn_un tx (by omega), if_pos rfl]; omega
  · omega
theorem tl_le (tx : List Nat) {p : Nat} (hp : p < tx.length) : p + tl tx p ≤ tx.length := by
  unfold tl
  split
  · rename_i h
    exact rn_le tx (by omega) (by omega)
  · omega
theorem tl_in (tx : List Nat) {p i : Nat} (h1 : p ≤ i) (h2 : i < p + tl tx p) : sp tx i = sp tx p := by
  unfold tl at h2
  by_cases h : sp tx p = 1 ∨ sp tx p = 2
  · rw [if_pos h] at h2
    have := rn_in tx (s := sp tx p) (by omega) (i - p) p (by omega)
    rw [← this]; congr 1; omega
  · rw [if_neg h] at h2
    have : i = p := by omega
    rw [this]
theorem tl_end (tx : List Nat) {p : Nat} (h : sp tx p = 1 ∨ sp tx p = 2) : sp tx (p + tl tx p) ≠ sp tx p := by
  unfold tl
  rw [if_pos h]
  exact rn_end tx (by omega) _ p rfl
theorem nx_gt (tx : List Nat) (p : Nat) : p < nx tx p := by
  have := tl_pos tx p
  have := sk_ge tx (p + tl tx p)
  unfold nx; omega
theorem nx_le (tx : List Nat) {p : Nat} (hp : p < tx.length) : nx tx p ≤ tx.length := sk_le tx (tl_le tx hp)
/-- where token k begins; behind the last the text's length -/
def Qn (tx : List Nat) : Nat → Nat
  | 0 => sk tx 0
  | k + 1 => if Qn tx k < tx.length then nx tx (Qn tx k) else tx.length
theorem Q_le (tx : List Nat) : ∀ k, Qn tx k ≤ tx.length := by
  intro k
  cases k with
  | zero => exact sk_le tx (Nat.zero_le _)
  | succ k =>
    rw [Qn]
    split
    · rename_i h; exact nx_le tx h
    · exact Nat.le_refl _
theorem Q_sp (tx : List Nat) : ∀ k, sp tx (Qn tx k) ≠ 0 := by
  intro k
  cases k with
  | zero => exact sk_sp tx 0
  | succ k =>
    rw [Qn]
    split
    · exact sk_sp tx _
    · rw [sp_out (Nat.le_refl _)]; decide
theorem Q_s {tx : List Nat} {k : Nat} (h : Qn tx k < tx.length) : Qn tx (k + 1) = nx tx (Qn tx k) := by rw [Qn, if_pos h]
section R1
variable {g : GL} {h : HP} {Φ : Value → HP → Prop}
theorem q_sortOf {c : Nat} (hc : c < 128) : J g k_X7_sortOf 0 [.int (nI c)] [] [] h Φ = Φ (.int (nI (soN c))) h := by
  have w : ∀ a b : Nat, a < 128 → b < 128 → decide (nI a ≤ nI c ∧ nI c ≤ nI b) = decide (a ≤ c ∧ c ≤ b) := fun a b ha hb => by
    simp only [le_nI (show a < 2147483648 by omega) (show c < 2147483648 by omega), le_nI (show c < 2147483648 by omega) (show b < 2147483648 by omega)]
  have w1 := w 97 122 (by decide) (by decide)
  have w2 := w 48 57 (by decide) (by decide)
  have w1' : decide ((97 : Int32) ≤ nI c ∧ nI c ≤ 122) = decide (97 ≤ c ∧ c ≤ 122) := w1
  have w2' : decide ((48 : Int32) ≤ nI c ∧ nI c ≤ 57) = decide (48 ≤ c ∧ c ≤ 57) := w2
  have e59 : (nI c = (59 : Int32)) = (c = 59) := eq_nI (show c < 2147483648 by omega) (show 59 < 2147483648 by decide)
  have e32 : (nI c = (32 : Int32)) = (c = 32) := eq_nI (show c < 2147483648 by omega) (show 32 < 2147483648 by decide)
  simp only [s_X7_sortOf_0, s_X7_sortOf_1, s_X7_sortOf_3, s_X7_sortOf_5, s_X7_sortOf_8, s_X7_sortOf_11, s_X7_sortOf_12, s_X7_sortOf_13, s_X7_sortOf_14, s_X7_sortOf_16, s_X7_sortOf_18, s_X7_sortOf_21, s_X7_sortOf_24, s_X7_sortOf_25, s_X7_sortOf_26, s_X7_sortOf_27, s_X7_sortOf_29, s_X7_sortOf_32, s_X7_sortOf_33, s_X7_sortOf_34, s_X7_sortOf_35, s_X7_sortOf_37, s_X7_sortOf_40, s_X7_sortOf_41, s_X7_sortOf_44, s_X7_sortOf_45, q_isWithin, zI_0, Bool.true_eq_false, Bool.false_eq_true, not_true_eq_false, not_false_eq_true, if_true, if_false, KV_ap, KU_ap, dropL_nil, w1', w2', e59, e32, decide_eq_false_iff_not]
  unfold soN
  by_cases h1 : 97 ≤ c ∧ c ≤ 122
  · rw [if_neg (not_not_intro h1), if_pos h1]; rfl
  · rw [if_pos h1, if_neg h1]
    by_cases h2 : 48 ≤ c ∧ c ≤ 57
    · rw [if_neg (not_not_intro h2), if_pos h2]; rfl
    · rw [if_pos h2, if_neg h2]
      by_cases h3 : c = 59
      · rw [if_neg (not_not_intro h3), if_pos h3]; rfl
      · rw [if_pos h3, if_neg h3]
        by_cases h4 : c = 32
        · rw [if_neg (not_not_intro h4), if_pos h4]; rfl
        · rw [if_pos h4, if_neg h4]; rfl
end R1

/-! Sticks: what they hold, as what they are read -/
abbrev St : Type := Nat × Nat × Nat × Nat
def gS (L : List St) (j : Nat) : St := L.getD j (0, 0, 0, 0)
def sR (f : Nat → Int32) (L : List St) : Prop := ∀ j, j < L.length → f (j * 4 + 0) = nI (gS L j).1 ∧ f (j * 4 + 1) = nI (gS L j).2.1 ∧ f (j * 4 + 2) = nI (gS L j).2.2.1 ∧ f (j * 4 + 3) = nI (gS L j).2.2.2
def vS (s : St) : Prop := s.1 < 6 ∧ isNm s.2.1 = true ∧ (1 ≤ s.2.2.1 ∧ s.2.2.1 ≤ 9) ∧ s.2.2.2 ≤ 9
def vL (L : List St) : Prop := ∀ j, j < L.length → vS (gS L j)
/-- the cells a, a + 1 hold these sticks -/
def isS (h : HP) (a : Nat) (L : List St) : Prop := hS h a = (0, 3) ∧ isR h a L.length ∧ sR (hI h (a + 1)) L ∧ vL L
def rS (s : St) (x : Nat) : Nat := rdX s.1 s.2.1 x s.2.2.2
theorem isS_pI {h : HP} {a b : Nat} {L : List St} {f : Nat → Int32} (hb : b ≠ a + 1) (hA : isS h a L) : isS (pI h b f) a L := by
  obtain ⟨h1, h2, h3, h4⟩ := hA
  refine ⟨h1, isR_pI h2, ?_, h4⟩
  rw [hI_pI, if_neg (Ne.symm hb)]
  exact h3
theorem isS_pF {h : HP} {a b j : Nat} {L : List St} {v : Value} (hb : b ≠ a) (hA : isS h a L) : isS (pF h b j v) a L := by
  obtain ⟨h1, h2, h3, h4⟩ := hA
  exact ⟨h1, isR_pF hb h2, h3, h4⟩
section SK
variable {g : GL} {h : HP} {Φ : Value → HP → Prop} {a : Nat} {L : List St}
theorem fc0 (hA : isS h a L) {j : Nat} (hj : j < L.length) : fcR h a L.length j 0 = nI (gS L j).1 := by rw [fcR, if_pos hj]; exact (hA.2.2.1 j hj).1
theorem fc1 (hA : isS h a L) {j : Nat} (hj : j < L.length) : fcR h a L.length j 1 = nI (gS L j).2.1 := by rw [fcR, if_pos hj]; exact (hA.2.2.1 j hj).2.1
theorem fc2 (hA : isS h a L) {j : Nat} (hj : j < L.length) : fcR h a L.length j 2 = nI (gS L j).2.2.1 := by rw [fcR, if_pos hj]; exact (hA.2.2.1 j hj).2.2.1
theorem fc3 (hA : isS h a L) {j : Nat} (hj : j < L.length) : fcR h a L.length j 3 = nI (gS L j).2.2.2 := by rw [fcR, if_pos hj]; exact (hA.2.2.1 j hj).2.2.2
theorem q_seenAt (hA : isS h a L) {j x : Nat} (hj : j < L.length) (hx : x < 9) : J g k_X5_seenAt 0 [.ref a, .int (nI j), .int (nI x)] [] [] h Φ = Φ (.int (nI (rS (gS L j) x))) h := by
  have hR := hA.2.1
  have hn := hR.2.2.2.1
  have hj' : j < 2147483648 := by omega
  obtain ⟨v1, v2, v3, v4⟩ := hA.2.2.2 j hj
  simp only [s_X5_seenAt_0, s_X5_seenAt_1, s_X5_seenAt_2, s_X5_seenAt_3, s_X5_seenAt_6, s_X5_seenAt_7, s_X5_seenAt_8, s_X5_seenAt_9, s_X5_seenAt_12, s_X5_seenAt_13, s_X5_seenAt_14, s_X5_seenAt_15, s_X5_seenAt_16, s_X5_seenAt_19, s_X5_seenAt_22, hA.1, q_fact0 hR hj', q_fact1 hR hj', q_fact3 hR hj', KV_ap, fc0 hA hj, fc1 hA hj, fc3 hA hj, q_byKind' v1 v2 hx (show (gS L j).2.2.2 < 19 by omega)]
  rfl
theorem q_seenAsKind (hA : isS h a L) {j x k : Nat} (hj : j < L.length) (hx : x < 9) (hk : k < 6) : J g k_X5_seenAsKind 0 [.ref a, .int (nI j), .int (nI k), .int (nI x)] [] [] h Φ = Φ (.int (nI (rdX k (gS L j).2.1 x (gS L j).2.2.2))) h := by
  have hR := hA.2.1
  have hn := hR.2.2.2.1
  have hj' : j < 2147483648 := by omega
  obtain ⟨v1, v2, v3, v4⟩ := hA.2.2.2 j hj
  simp only [s_X5_seenAsKind_0, s_X5_seenAsKind_1, s_X5_seenAsKind_2, s_X5_seenAsKind_3, s_X5_seenAsKind_4, s_X5_seenAsKind_7, s_X5_seenAsKind_8, s_X5_seenAsKind_9, s_X5_seenAsKind_10, s_X5_seenAsKind_11, s_X5_seenAsKind_14, s_X5_seenAsKind_17, hA.1, q_fact1 hR hj', q_fact3 hR hj', KV_ap, fc1 hA hj, fc3 hA hj, q_byKind' hk v2 hx (show (gS L j).2.2.2 < 19 by omega)]
/-- bits -/
def bN (p : Nat → Bool) (n : Nat) : Nat := it (fun j b => if p j = true then b + 2 ^ j else b) n 0 0
theorem orb : ∀ j, j < 10 → ∀ b, b < 2 ^ j → nI b ||| (1 <<< (nI j &&& 31)) = nI (b + 2 ^ j) := by decide +kernel
theorem it_last {α : Type} (f : Nat → α → α) : ∀ (m i : Nat) (a : α), it f (m + 1) i a = f (i + m) (it f m i a) := by
  intro m
  induction m with
  | zero => intro i a; rfl
  | succ m ih =>
    intro i a
    rw [it, ih, it]
    congr 1
    omega
theorem bN_succ (p : Nat → Bool) (n : Nat) : bN p (n + 1) = if p n = true then bN p n + 2 ^ n else bN p n := by
  unfold bN
  rw [it_last, Nat.zero_add]
theorem bN_lt (p : Nat → Bool) : ∀ n, bN p n < 2 ^ n := by
  intro n
  induction n with
  | zero => exact Nat.one_pos
  | succ n ih =>
    rw [bN_succ, Nat.pow_succ]
    split <;> omega
theorem q_seenAs (hA : isS h a L) {x : Nat} (hx : x < 9) (y : Int32) : J g k_X5_seenAs 0 [.ref a, .int (nI x), .int y, m_D, m_D] [] [] h Φ = Φ (.int (nI (bN (fun j => decide (nI (rS (gS L j) x) = y)) L.length))) h := by
  have hR := hA.2.1
  have hn := hR.2.2.2.1
  simp only [s_X5_seenAs_0, s_X5_seenAs_1, s_X5_seenAs_2, s_X5_seenAs_3, s_X5_seenAs_7, s_X5_seenAs_8, s_X5_seenAs_11, s_X5_seenAs_14, s_X5_seenAs_15, s_X5_seenAs_17, s_X5_seenAs_18, s_X5_seenAs_21, s_X5_seenAs_22, s_X5_seenAs_25, s_X5_seenAs_26, s_X5_seenAs_27, s_X5_seenAs_29, s_X5_seenAs_30, s_X5_seenAs_31, s_X5_seenAs_32, s_X5_seenAs_35, s_X5_seenAs_38, s_X5_seenAs_39, dropL_nil]
  have key := J_it (fun i b => J g k_X5_seenAs 5 [.ref a, .int (nI x), .int y, .int (nI b), .int (nI i)] [] [] h Φ) (fun j b => if decide (nI (rS (gS L j) x) = y) = true then b + 2 ^ j else b) L.length (fun i b => b < 2 ^ i) (fun i b _ hb => by
      rw [Nat.pow_succ]; split <;> omega) (fun i b hi hb => by
    rw [s_X5_seenAs_5]
    simp only [s_X5_seenAs_0, s_X5_seenAs_1, s_X5_seenAs_2, s_X5_seenAs_3, s_X5_seenAs_7, s_X5_seenAs_8, s_X5_seenAs_11, s_X5_seenAs_14, s_X5_seenAs_15, s_X5_seenAs_17, s_X5_seenAs_18, s_X5_seenAs_21, s_X5_seenAs_22, s_X5_seenAs_25, s_X5_seenAs_26, s_X5_seenAs_27, s_X5_seenAs_29, s_X5_seenAs_30, s_X5_seenAs_31, s_X5_seenAs_32, s_X5_seenAs_35, s_X5_seenAs_38, s_X5_seenAs_39, dropL_nil, hA.1, hR.2.2.1, le_nI (show L.length < 2147483648 by omega) (show i < 2147483648 by omega), if_neg (Nat.not_le.mpr hi), q_seenAt hA hi hx, KV_ap, orb i (by omega) b hb, a1]
    by_cases hc : nI (rS (gS L i) x) = y
    · rw [if_neg (fun z => z hc), if_pos (decide_eq_true hc)]
    · rw [if_pos hc, if_neg (by simpa using hc)]) L.length 0 0 (Nat.zero_add _) (by decide)
  rw [c0, key.1, s_X5_seenAs_5]
  simp only [s_X5_seenAs_0, s_X5_seenAs_1, s_X5_seenAs_2, s_X5_seenAs_3, s_X5_seenAs_7, s_X5_seenAs_8, s_X5_seenAs_11, s_X5_seenAs_14, s_X5_seenAs_15, s_X5_seenAs_17, s_X5_seenAs_18, s_X5_seenAs_21, s_X5_seenAs_22, s_X5_seenAs_25, s_X5_seenAs_26, s_X5_seenAs_27, s_X5_seenAs_29, s_X5_seenAs_30, s_X5_seenAs_31, s_X5_seenAs_32, s_X5_seenAs_35, s_X5_seenAs_38, s_X5_seenAs_39, dropL_nil, hA.1, hR.2.2.1, le_nI (show L.length < 2147483648 by omega) (show L.length < 2147483648 by omega), Nat.le_refl, if_true]
  rfl
theorem shl1 : ∀ j, j < 10 → (1 : Int32) <<< (nI j &&& 31) = nI (2 ^ j) := by decide +kernel
theorem bN_mod (p : Nat → Bool) : ∀ n i, i ≤ n → bN p n % 2 ^ i = bN p i := by
  intro n
  induction n with
  | zero => intro i hi; have : i = 0 := by omega
            subst this; rfl
  | succ n ih =>
    intro i hi
    by_cases h1 : i = n + 1
    · subst h1; exact Nat.mod_eq_of_lt (bN_lt p _)
    · have h2 : i ≤ n := by omega
      rw [bN_succ]
      split
      · have : (2 : Nat) ^ n = 2 ^ i * 2 ^ (n - i) := by rw [← Nat.pow_add]; congr 1; omega
        rw [this, Nat.add_mul_mod_self_left]
        exact ih i h2
      · exact ih i h2
theorem bN_zero (p : Nat → Bool) : ∀ n, bN p n = 0 ↔ ∀ j, j < n → p j = false := by
  intro n
  induction n with
  | zero => simp [bN, it]
  | succ n ih =>
    rw [bN_succ]
    have hp : 0 < 2 ^ n := Nat.pow_pos (by decide)
    constructor
    · intro h
      split at h
      · omega
      · rename_i hc
        intro j hj
        by_cases hjn : j = n
        · subst hjn; simpa using hc
        · exact ih.mp h j (by omega)
    · intro h
      rw [if_neg (by simp [h n (by omega)])]
      exact ih.mpr (fun j hj => h j (by omega))
/-- how many unlike readings there are at an inch -/
def unN (L : List St) (x : Nat) : Nat := it (fun i m => if (∀ j, j < i → ¬ rS (gS L j) x = rS (gS L i) x) then m + 1 else m) L.length 0 0
theorem rS_lt (hV : vL L) {j x : Nat} (hj : j < L.length) (hx : x < 9) : rS (gS L j) x < 100000 := by
  obtain ⟨v1, v2, v3, v4⟩ := hV j hj
  exact rdX_lt v2 hx (by omega)
theorem andm : ∀ i, i < 7 → ((nI (2 ^ i) - 1 : Int32)).toBitVec.toNat = 2 ^ i - 1 := by decide +kernel
theorem q_unlikeAt (hA : isS h a L) {x : Nat} (hx : x < 9) : J g k_X5_unlikeAt 0 [.ref a, .int (nI x), m_D, m_D, m_D] [] [] h Φ = Φ (.int (nI (unN L x))) h := by
  have hR := hA.2.1
  have hn := hR.2.2.2.1
  simp only [s_X5_unlikeAt_0, s_X5_unlikeAt_1, s_X5_unlikeAt_2, s_X5_unlikeAt_3, s_X5_unlikeAt_5, s_X5_unlikeAt_6, s_X5_unlikeAt_9, s_X5_unlikeAt_12, s_X5_unlikeAt_13, s_X5_unlikeAt_14, s_X5_unlikeAt_15, s_X5_unlikeAt_16, s_X5_unlikeAt_17, s_X5_unlikeAt_19, s_X5_unlikeAt_20, s_X5_unlikeAt_21, s_X5_unlikeAt_22, s_X5_unlikeAt_23, s_X5_unlikeAt_24, s_X5_unlikeAt_27, s_X5_unlikeAt_30, s_X5_unlikeAt_32, s_X5_unlikeAt_33, s_X5_unlikeAt_36, s_X5_unlikeAt_39, s_X5_unlikeAt_42, s_X5_unlikeAt_45, s_X5_unlikeAt_46, dropL_nil]
  have key := J_it (fun i (q : Nat × Value) => J g k_X5_unlikeAt 4 [.ref a, .int (nI x), .int (nI q.1), .int (nI i), q.2] [] [] h Φ) (fun i q => (if (∀ j, j < i → ¬ rS (gS L j) x = rS (gS L i) x) then q.1 + 1 else q.1, .int (nI (2 ^ i) - 1))) L.length (fun _ _ => True) (fun _ _ _ _ => trivial) (fun i q hi _ => by
    have hlt : bN (fun j => decide (nI (rS (gS L j) x) = nI (rS (gS L i) x))) L.length < 2 ^ 32 := by
      have h1 := bN_lt (fun j => decide (nI (rS (gS L j) x) = nI (rS (gS L i) x))) L.length
      have h2 : 2 ^ L.length ≤ 2 ^ 6 := Nat.pow_le_pow_right (by decide) hn
      have h3 : (2 : Nat) ^ 6 = 64 := by decide
      have h4 : (2 : Nat) ^ 32 = 4294967296 := by decide
      omega
    have hbz : (bN (fun j => decide (nI (rS (gS L j) x) = nI (rS (gS L i) x))) i = 0) ↔ (∀ j, j < i → ¬ rS (gS L j) x = rS (gS L i) x) := by
      rw [bN_zero]
      constructor
      · intro hh j hj he
        have := hh j hj
        simp [he] at this
      · intro hh j hj
        have h1 := rS_lt hA.2.2.2 (j := j) (x := x) (by omega) hx
        have h2 := rS_lt hA.2.2.2 (j := i) (x := x) hi hx
        have := hh j hj
        simp only [decide_eq_false_iff_not]
        rw [eq_nI (by omega) (by omega)]
        exact this
    have hb2 := bN_lt (fun j => decide (nI (rS (gS L j) x) = nI (rS (gS L i) x))) i
    have hb3 : 2 ^ i ≤ 2 ^ 6 := Nat.pow_le_pow_right (by decide) (by omega)
    have hb4 : (2 : Nat) ^ 6 = 64 := by decide
    rw [s_X5_unlikeAt_4]
    simp only [s_X5_unlikeAt_0, s_X5_unlikeAt_1, s_X5_unlikeAt_2, s_X5_unlikeAt_3, s_X5_unlikeAt_5, s_X5_unlikeAt_6, s_X5_unlikeAt_9, s_X5_unlikeAt_12, s_X5_unlikeAt_13, s_X5_unlikeAt_14, s_X5_unlikeAt_15, s_X5_unlikeAt_16, s_X5_unlikeAt_17, s_X5_unlikeAt_19, s_X5_unlikeAt_20, s_X5_unlikeAt_21, s_X5_unlikeAt_22, s_X5_unlikeAt_23, s_X5_unlikeAt_24, s_X5_unlikeAt_27, s_X5_unlikeAt_30, s_X5_unlikeAt_32, s_X5_unlikeAt_33, s_X5_unlikeAt_36, s_X5_unlikeAt_39, s_X5_unlikeAt_42, s_X5_unlikeAt_45, s_X5_unlikeAt_46, dropL_nil, hA.1, hR.2.2.1, le_nI (show L.length < 2147483648 by omega) (show i < 2147483648 by omega), if_neg (Nat.not_le.mpr hi), q_seenAt hA hi hx, q_seenAs hA hx, KV_ap, shl1 i (by omega), pk_andN hlt i (andm i (by omega)), bN_mod _ L.length i (by omega), eq0 (show bN (fun j => decide (nI (rS (gS L j) x) = nI (rS (gS L i) x))) i < 2147483648 by omega), a1]
    by_cases hc : (∀ j, j < i → ¬ rS (gS L j) x = rS (gS L i) x)
    · rw [if_pos hc, if_neg (fun z => z (hbz.mpr hc))]
    · rw [if_neg hc, if_pos (fun z => hc (hbz.mp z))]) L.length 0 (0, m_D) (Nat.zero_add _) trivial
  rw [c0, key.1, s_X5_unlikeAt_4]
  simp only [s_X5_unlikeAt_0, s_X5_unlikeAt_1, s_X5_unlikeAt_2, s_X5_unlikeAt_3, s_X5_unlikeAt_5, s_X5_unlikeAt_6, s_X5_unlikeAt_9, s_X5_unlikeAt_12, s_X5_unlikeAt_13, s_X5_unlikeAt_14, s_X5_unlikeAt_15, s_X5_unlikeAt_16, s_X5_unlikeAt_17, s_X5_unlikeAt_19, s_X5_unlikeAt_20, s_X5_unlikeAt_21, s_X5_unlikeAt_22, s_X5_unlikeAt_23, s_X5_unlikeAt_24, s_X5_unlikeAt_27, s_X5_unlikeAt_30, s_X5_unlikeAt_32, s_X5_unlikeAt_33, s_X5_unlikeAt_36, s_X5_unlikeAt_39, s_X5_unlikeAt_42, s_X5_unlikeAt_45, s_X5_unlikeAt_46, dropL_nil, hA.1, hR.2.2.1, le_nI (show L.length < 2147483648 by omega) (show L.length < 2147483648 by omega), Nat.le_refl, if_true]
  have e : ∀ m i (q : Nat × Value), (it (fun i (q : Nat × Value) => (if (∀ j, j < i → ¬ rS (gS L j) x = rS (gS L i) x) then q.1 + 1 else q.1, Value.int (nI (2 ^ i) - 1))) m i q).1 = it (fun i m => if (∀ j, j < i → ¬ rS (gS L j) x = rS (gS L i) x) then m + 1 else m) m i q.1 := by
    intro m
    induction m with
    | zero => intro i q; rfl
    | succ m ih => intro i q; rw [it, it, ih]
  rw [e]
  rfl
end SK

/-! the names: 1364 numbers -/
def nmL : Nat → List Nat
  | 0 => [0]
  | l + 1 => (nmL l).flatMap (fun m => [m * 10 + 1, m * 10 + 2, m * 10 + 3, m * 10 + 4])
def NM : List Nat := nmL 1 ++ (nmL 2 ++ (nmL 3 ++ (nmL 4 ++ nmL 5)))
theorem dg_acc : ∀ F r a, dl (fun _ a => a + 1) F r a = a + dl (fun _ a => a + 1) F r 0 := by
  intro F
  induction F with
  | zero => intro r a; rfl
  | succ F ih =>
    intro r a
    rw [dl, dl]
    split
    · rfl
    · rw [ih _ (a + 1), ih _ (0 + 1)]; omega
theorem al_acc (c : Nat → Bool) : ∀ F r b, dl (fun r a => a && c r) F r b = true → b = true ∧ dl (fun r a => a && c r) F r true = true := by
  intro F r b h
  cases b
  · rw [dl_false] at h; simp at h
  · exact ⟨rfl, h⟩
theorem nm_mem : ∀ F n, dl (fun _ a => a + 1) F n 0 < F → dl (fun r a => a && (decide (1 ≤ r % 10) && decide (r % 10 ≤ 4))) F n true = true → n ∈ nmL (dl (fun _ a => a + 1) F n 0) := by
  intro F
  induction F with
  | zero => intro n h; simp at h
  | succ F ih =>
    intro n h1 h2
    rw [dl] at h1 h2 ⊢
    by_cases h0 : n = 0
    · subst h0; simp [nmL]
    · rw [if_neg h0] at h1 h2 ⊢
      rw [dg_acc] at h1 ⊢
      obtain ⟨h3, h4⟩ := al_acc _ _ _ _ h2
      have hm := ih (n / 10) (by omega) h4
      rw [Nat.add_comm (0 + 1)]
      show n ∈ nmL (_ + 1)
      rw [nmL]
      refine List.mem_flatMap.mpr ⟨n / 10, hm, ?_⟩
      simp only [Bool.true_and, Bool.and_eq_true, decide_eq_true_eq] at h3
      simp only [List.mem_cons, List.not_mem_nil, or_false]
      omega
theorem isNm_mem {n : Nat} (h : isNm n = true) : n ∈ NM := by
  simp only [isNm, Bool.and_eq_true, decide_eq_true_eq] at h
  have := nm_mem 10 n (by have := h.2.1; unfold dg at this; omega) h.2.2
  have h1 := h.1
  have h2 := h.2.1
  change n ∈ nmL (dg n) at this
  unfold NM
  simp only [List.mem_append]
  obtain e | e | e | e | e : dg n = 1 ∨ dg n = 2 ∨ dg n = 3 ∨ dg n = 4 ∨ dg n = 5 := by omega
  all_goals rw [e] at this
  · exact Or.inl this
  · exact Or.inr (Or.inl this)
  · exact Or.inr (Or.inr (Or.inl this))
  · exact Or.inr (Or.inr (Or.inr (Or.inl this)))
  · exact Or.inr (Or.inr (Or.inr (Or.inr this)))
def okTb (n : Nat) : Bool := decide (n < 10 * poN n) && (decide (0 < poN n) && decide (poN n ≤ 10000))
theorem okT_of {n : Nat} (h : okTb n = true) : okT n := by
  simp only [okTb, Bool.and_eq_true, decide_eq_true_eq] at h
  exact ⟨h.1, h.2.1, by omega⟩
theorem nm_chk1 : NM.all (fun n => decide (n < 100000) && (decide (0 < n) && (isNm n && (okTb n && (isNm (wdN n) && decide (dg n ≤ 5)))))) = true := by decide +kernel
theorem nm_chk2 : NM.all (fun n => (List.range 9).all (fun x => isNm (tuN n x) && isNm (raN (tuN n x)))) = true := by decide +kernel
theorem nm_chk3 : NM.all (fun n => isNm (trN n) && (decide (paN n < 100000) && (List.range 7).all (fun m => decide (cutN n m = 0) || isNm (cutN n m)))) = true := by decide +kernel
theorem nm1 {n : Nat} (h : isNm n = true) : n < 100000 ∧ 0 < n ∧ okT n ∧ isNm (wdN n) = true ∧ dg n ≤ 5 := by
  have := List.all_eq_true.mp nm_chk1 n (isNm_mem h)
  simp only [Bool.and_eq_true, decide_eq_true_eq] at this
  exact ⟨this.1, this.2.1, okT_of this.2.2.2.1, this.2.2.2.2.1, this.2.2.2.2.2⟩
theorem nm2 {n x : Nat} (h : isNm n = true) (hx : x < 9) : isNm (tuN n x) = true ∧ isNm (raN (tuN n x)) = true := by
  have := List.all_eq_true.mp nm_chk2 n (isNm_mem h)
  have := List.all_eq_true.mp this x (List.mem_range.mpr hx)
  simpa using this
theorem nm3 {n : Nat} (h : isNm n = true) : isNm (trN n) = true ∧ paN n < 100000 ∧ ∀ m, m < 7 → cutN n m = 0 ∨ isNm (cutN n m) = true := by
  have := List.all_eq_true.mp nm_chk3 n (isNm_mem h)
  simp only [Bool.and_eq_true, decide_eq_true_eq, List.all_eq_true, List.mem_range, Bool.or_eq_true] at this
  exact ⟨this.1, this.2.1, this.2.2⟩
theorem plX_nm {n w : Nat} (h : isNm n = true) : isNm (plX n w) = true := by
  unfold plX
  split
  · exact h
  · exact (nm1 h).2.2.2.1
/-- a reading is nothing, or a name -/
theorem rdX_nm {k n x w : Nat} (h : isNm n = true) (hx : x < 9) (hw : w < 19) : rdX k n x w = 0 ∨ isNm (rdX k n x w) = true := by
  have hp := plX_nm (w := w) h
  have hc := (nm3 hp).2.2 (w / 3) (by omega)
  unfold rdX
  split
  · exact hc
  · split
    · exact Or.inr (nm3 hp).1
    · exact Or.inr hp
  · exact Or.inr (nm2 hp hx).1
  · split
    · exact Or.inl rfl
    · exact hc
  · split
    · exact Or.inr (nm2 hp hx).1
    · exact Or.inr (nm2 hp hx).2
  · exact Or.inr hp
theorem rdX_lt {k n x w : Nat} (h : isNm n = true) (hx : x < 9) (hw : w < 19) : rdX k n x w < 100000 := by
  rcases rdX_nm (k := k) h hx hw with z | z
  · omega
  · exact (nm1 z).1
theorem q_byKind' {g : GL} {h : HP} {Φ : Value → HP → Prop} {k n x w : Nat} (hk : k < 6) (hn : isNm n = true) (hx : x < 9) (hw : w < 19) : J g k_X2_byKind 0 [.int (nI k), .int (nI n), .int (nI x), .int (nI w), m_D] [] [] h Φ = Φ (.int (nI (rdX k n x w))) h := by
  have hp := plX_nm (w := w) hn
  have h1 := nm1 hn
  have h2 := nm1 hp
  have h3 := nm1 (nm2 hp hx).1
  exact q_byKind hk (by omega) (by omega) h2.2.2.1 (by omega) (by omega) (by omega)

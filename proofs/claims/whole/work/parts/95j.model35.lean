/-! The model's beginning (written by gen_minit2.py) -/
def ziS : List Nat := [0, 3, 6, 6, 6, 6, 6, 6, 6, 6, 150, 24, 150, 6, 6, 36, 6, 420, 2]
def ziF : List Nat := [100, 0, 3, 4, 5, 6, 7, 8, 9, 10, 11, 15, 17, 19, 20, 21, 24, 25, 26]
def iIv (h0 h : HP) (M i : Nat) (b : Bool) : Prop := hS h M = (0, 7) ∧ hN h = M + i ∧ (∀ x, x < M → agr h0 h x) ∧ (∀ a, 1 ≤ a → a < i → hS h (M + a) = (1, ziS.getD a 0) ∧ hI h (M + a) = (fun _ => 0) ∧ hF h M (ziF.getD a 0) = .ref (M + a)) ∧ hF h M 12 = .int 0 ∧ hF h M 22 = .long 0 ∧ (b = true → hF h M 23 = .long 1)
theorem zi_chk : ∀ a, a < 19 → ∀ a', a' < 19 → (decide (a = a') || (!decide (ziF.getD a 0 = ziF.getD a' 0) && (!decide (ziF.getD a 0 = 12) && (!decide (ziF.getD a 0 = 22) && !decide (ziF.getD a 0 = 23))))) = true := by decide +kernel
theorem al_iv {h0 h : HP} {M i n j : Nat} {b : Bool} (I : iIv h0 h M i b) (hi : 0 < i) (hi2 : i < 19) (en : n = ziS.getD i 0) (ej : j = ziF.getD i 0) : hS (nwA h 1 n) M = (0, 7) ∧ iIv h0 (pF (nwA h 1 n) M j (.ref (M + i))) M (i + 1) b := by
  obtain ⟨s, nn, A, C, f12, f22, f23⟩ := I
  have s' : hS (nwA h 1 n) M = (0, 7) := by rw [hS_nwA, if_neg (by omega)]; exact s
  have F : ∀ y, hF (pF (nwA h 1 n) M j (.ref (M + i))) M y = if y = j then .ref (M + i) else hF h M y := fun y => by
    rw [hF_pF, hF_nwA, if_neg (show ¬ M = hN h by omega)]; simp only [true_and]
  have ck := zi_chk i hi2 0 (by omega)
  rw [decide_eq_false (by omega), Bool.false_or] at ck
  simp only [Bool.and_eq_true, Bool.not_eq_true', decide_eq_false_iff_not] at ck
  rw [← ej] at ck
  refine ⟨s', s', ?_, fun x hx => agr_pF (by omega) (agr_nwA (by omega) (A x hx)), fun a h1 h2 => ?_, ?_, ?_, fun z => ?_⟩
  · show hN h + 1 = _; omega
  · by_cases e : a = i
    · subst e
      refine ⟨?_, ?_, ?_⟩
      · rw [hS_pF, hS_nwA, if_pos nn.symm, en]
      · rw [hI_pF, hI_nwA, if_pos nn.symm]
      · rw [F, if_pos ej.symm]
    · obtain ⟨c1, c2, c3⟩ := C a h1 (by omega)
      refine ⟨?_, ?_, ?_⟩
      · rw [hS_pF, hS_nwA, if_neg (by omega)]; exact c1
      · rw [hI_pF, hI_nwA, if_neg (by omega)]; exact c2
      · have ck2 := zi_chk a (by omega) i hi2
        rw [decide_eq_false e, Bool.false_or] at ck2
        simp only [Bool.and_eq_true, Bool.not_eq_true', decide_eq_false_iff_not] at ck2
        rw [F, if_neg (by rw [ej]; exact ck2.1)]; exact c3
  · rw [F, if_neg (fun z => ck.2.1 z.symm)]; exact f12
  · rw [F, if_neg (fun z => ck.2.2.1 z.symm)]; exact f22
  · rw [F, if_neg (fun z => ck.2.2.2 z.symm)]; exact f23 z
theorem bl_iv {h0 h : HP} {M i : Nat} {b : Bool} (I : iIv h0 h M i b) (hi2 : i < 20) : iIv h0 (pF h M 23 (.long 1)) M i true := by
  obtain ⟨s, nn, A, C, f12, f22, f23⟩ := I
  refine ⟨s, nn, fun x hx => agr_pF (by omega) (A x hx), fun a h1 h2 => ?_, ?_, ?_, fun _ => ?_⟩
  · obtain ⟨c1, c2, c3⟩ := C a h1 h2
    have ck := zi_chk a (by omega) 0 (by omega)
    rw [decide_eq_false (by omega), Bool.false_or] at ck
    simp only [Bool.and_eq_true, Bool.not_eq_true', decide_eq_false_iff_not] at ck
    refine ⟨c1, c2, ?_⟩
    rw [hF_pF, if_neg (fun z => ck.2.2.2 z.2)]; exact c3
  · rw [hF_pF, if_neg (by omega)]; exact f12
  · rw [hF_pF, if_neg (by omega)]; exact f22
  · rw [hF_pF, if_pos ⟨rfl, rfl⟩]
theorem fin_iv {h0 h : HP} {M : Nat} (I : iIv h0 h M 19 true) : isM (pF (pF (pF h M 1 (.int 0)) M 2 (.int 0)) M 18 (.int 0)) M uZ ∧ (∀ x, x < M → agr h0 (pF (pF (pF h M 1 (.int 0)) M 2 (.int 0)) M 18 (.int 0)) x) := by
  obtain ⟨s, nn, A, C, f12, f22, f23⟩ := I
  have F : ∀ a j, 1 ≤ a → a < 19 → ziF.getD a 0 = j → j ≠ 1 → j ≠ 2 → j ≠ 18 → hF (pF (pF (pF h M 1 (.int 0)) M 2 (.int 0)) M 18 (.int 0)) M j = .ref (M + a) := fun a j h1 h2 e x1 x2 x3 => by
    rw [hF_pF, if_neg (by omega), hF_pF, if_neg (by omega), hF_pF, if_neg (by omega), ← e]; exact (C a h1 h2).2.2
  have D : ∀ a n, 1 ≤ a → a < 19 → ziS.getD a 0 = n → hS (pF (pF (pF h M 1 (.int 0)) M 2 (.int 0)) M 18 (.int 0)) (M + a) = (1, n) := fun a n h1 h2 e => by
    rw [← e]; exact (C a h1 h2).1
  refine ⟨⟨⟨s, F 1 0 (by decide) (by decide) rfl (by decide) (by decide) (by decide), F 2 3 (by decide) (by decide) rfl (by decide) (by decide) (by decide), F 3 4 (by decide) (by decide) rfl (by decide) (by decide) (by decide), F 4 5 (by decide) (by decide) rfl (by decide) (by decide) (by decide), F 5 6 (by decide) (by decide) rfl (by decide) (by decide) (by decide), F 6 7 (by decide) (by decide) rfl (by decide) (by decide) (by decide), F 7 8 (by decide) (by decide) rfl (by decide) (by decide) (by decide), F 8 9 (by decide) (by decide) rfl (by decide) (by decide) (by decide), F 9 10 (by decide) (by decide) rfl (by decide) (by decide) (by decide), F 10 11 (by decide) (by decide) rfl (by decide) (by decide) (by decide), F 11 15 (by decide) (by decide) rfl (by decide) (by decide) (by decide), F 12 17 (by decide) (by decide) rfl (by decide) (by decide) (by decide), F 13 19 (by decide) (by decide) rfl (by decide) (by decide) (by decide), F 14 20 (by decide) (by decide) rfl (by decide) (by decide) (by decide), F 15 21 (by decide) (by decide) rfl (by decide) (by decide) (by decide), F 16 24 (by decide) (by decide) rfl (by decide) (by decide) (by decide), F 17 25 (by decide) (by decide) rfl (by decide) (by decide) (by decide), F 18 26 (by decide) (by decide) rfl (by decide) (by decide) (by decide)⟩, ⟨D 1 3 (by decide) (by decide) rfl, ?_, D 10 150 (by decide) (by decide) rfl, D 11 24 (by decide) (by decide) rfl, D 12 150 (by decide) (by decide) rfl, D 13 6 (by decide) (by decide) rfl, D 14 6 (by decide) (by decide) rfl, D 15 36 (by decide) (by decide) rfl, D 16 6 (by decide) (by decide) rfl, D 17 420 (by decide) (by decide) rfl, D 18 2 (by decide) (by decide) rfl⟩, ⟨?_, ?_, ?_, ?_, ?_, ?_⟩, ⟨Nat.zero_le _, Nat.zero_le _, Nat.zero_le _, fun j hj => absurd hj (Nat.not_lt_zero j), fun j hj => absurd hj (Nat.not_lt_zero j)⟩, fun j hj => absurd hj (Nat.not_lt_zero j), fun j hj => absurd hj (Nat.not_lt_zero j), fun j hj => absurd hj (Nat.not_lt_zero j), ⟨Nat.zero_le _, fun j hj => absurd hj (Nat.not_lt_zero j)⟩, fun i _ => ?_, fun i _ _ => ?_, fun i _ T hT => absurd hT (by simp [uZ])⟩, fun x hx => agr_pF (by omega) (agr_pF (by omega) (agr_pF (by omega) (A x hx)))⟩
  · intro x h1 h2
    refine D x 6 (by omega) (by omega) ?_
    obtain e | e | e | e | e | e | e | e : x = 2 ∨ x = 3 ∨ x = 4 ∨ x = 5 ∨ x = 6 ∨ x = 7 ∨ x = 8 ∨ x = 9 := by omega
    all_goals (subst e; rfl)
  · rw [hF_pF, if_neg (by omega), hF_pF, if_neg (by omega), hF_pF, if_pos ⟨rfl, rfl⟩]; rfl
  · rw [hF_pF, if_neg (by omega), hF_pF, if_pos ⟨rfl, rfl⟩]; rfl
  · rw [hF_pF, if_neg (by omega), hF_pF, if_neg (by omega), hF_pF, if_neg (by omega)]; exact f12
  · rw [hF_pF, if_pos ⟨rfl, rfl⟩]; rfl
  · rw [hF_pF, if_neg (by omega), hF_pF, if_neg (by omega), hF_pF, if_neg (by omega)]; exact f22
  · rw [hF_pF, if_neg (by omega), hF_pF, if_neg (by omega), hF_pF, if_neg (by omega)]; exact f23 rfl
  · rw [hI_pF, hI_pF, hI_pF, (C 1 (by decide) (by decide)).2.1]; rfl
  · rw [hI_pF, hI_pF, hI_pF, (C 18 (by decide) (by decide)).2.1]
section M35
variable {g : GL} {h0 h : HP} {Φ : Value → HP → Prop} {M : Nat}
theorem ib_0 (nn : hN h = M + 1) (s : hS (nwA h 1 3) M = (0, 7)) : J g k_X9_init 0 [.ref M] [] [] h Φ = J g k_X9_init 11 [.ref M] [] [] (pF (nwA h 1 3) M 0 (.ref (M + 1))) Φ := by simp only [s_X9_init_0, s_X9_init_1, s_X9_init_4, s_X9_init_5, s_X9_init_6, s_X9_init_8, nn, s]
theorem ib_1 (nn : hN h = M + 2) (s : hS (nwA h 1 6) M = (0, 7)) : J g k_X9_init 11 [.ref M] [] [] h Φ = J g k_X9_init 19 [.ref M] [] [] (pF (nwA h 1 6) M 3 (.ref (M + 2))) Φ := by simp only [s_X9_init_11, s_X9_init_12, s_X9_init_14, s_X9_init_16, nn, s]
theorem ib_2 (nn : hN h = M + 3) (s : hS (nwA h 1 6) M = (0, 7)) : J g k_X9_init 19 [.ref M] [] [] h Φ = J g k_X9_init 27 [.ref M] [] [] (pF (nwA h 1 6) M 4 (.ref (M + 3))) Φ := by simp only [s_X9_init_19, s_X9_init_20, s_X9_init_22, s_X9_init_24, nn, s]
theorem ib_3 (nn : hN h = M + 4) (s : hS (nwA h 1 6) M = (0, 7)) : J g k_X9_init 27 [.ref M] [] [] h Φ = J g k_X9_init 35 [.ref M] [] [] (pF (nwA h 1 6) M 5 (.ref (M + 4))) Φ := by simp only [s_X9_init_27, s_X9_init_28, s_X9_init_30, s_X9_init_32, nn, s]
theorem ib_4 (nn : hN h = M + 5) (s : hS (nwA h 1 6) M = (0, 7)) : J g k_X9_init 35 [.ref M] [] [] h Φ = J g k_X9_init 43 [.ref M] [] [] (pF (nwA h 1 6) M 6 (.ref (M + 5))) Φ := by simp only [s_X9_init_35, s_X9_init_36, s_X9_init_38, s_X9_init_40, nn, s]
theorem ib_5 (nn : hN h = M + 6) (s : hS (nwA h 1 6) M = (0, 7)) : J g k_X9_init 43 [.ref M] [] [] h Φ = J g k_X9_init 51 [.ref M] [] [] (pF (nwA h 1 6) M 7 (.ref (M + 6))) Φ := by simp only [s_X9_init_43, s_X9_init_44, s_X9_init_46, s_X9_init_48, nn, s]
theorem ib_6 (nn : hN h = M + 7) (s : hS (nwA h 1 6) M = (0, 7)) : J g k_X9_init 51 [.ref M] [] [] h Φ = J g k_X9_init 59 [.ref M] [] [] (pF (nwA h 1 6) M 8 (.ref (M + 7))) Φ := by simp only [s_X9_init_51, s_X9_init_52, s_X9_init_54, s_X9_init_56, nn, s]
theorem ib_7 (nn : hN h = M + 8) (s : hS (nwA h 1 6) M = (0, 7)) : J g k_X9_init 59 [.ref M] [] [] h Φ = J g k_X9_init 67 [.ref M] [] [] (pF (nwA h 1 6) M 9 (.ref (M + 8))) Φ := by simp only [s_X9_init_59, s_X9_init_60, s_X9_init_62, s_X9_init_64, nn, s]
theorem ib_8 (nn : hN h = M + 9) (s : hS (nwA h 1 6) M = (0, 7)) : J g k_X9_init 67 [.ref M] [] [] h Φ = J g k_X9_init 75 [.ref M] [] [] (pF (nwA h 1 6) M 10 (.ref (M + 9))) Φ := by simp only [s_X9_init_67, s_X9_init_68, s_X9_init_70, s_X9_init_72, nn, s]
theorem ib_9 (nn : hN h = M + 10) (s : hS (nwA h 1 150) M = (0, 7)) : J g k_X9_init 75 [.ref M] [] [] h Φ = J g k_X9_init 84 [.ref M] [] [] (pF (nwA h 1 150) M 11 (.ref (M + 10))) Φ := by simp only [s_X9_init_75, s_X9_init_76, s_X9_init_79, s_X9_init_81, nn, s]
theorem ib_10 (nn : hN h = M + 11) (s : hS (nwA h 1 24) M = (0, 7)) : J g k_X9_init 84 [.ref M] [] [] h Φ = J g k_X9_init 92 [.ref M] [] [] (pF (nwA h 1 24) M 15 (.ref (M + 11))) Φ := by simp only [s_X9_init_84, s_X9_init_85, s_X9_init_87, s_X9_init_89, nn, s]
theorem ib_11 (nn : hN h = M + 12) (s : hS (nwA h 1 150) M = (0, 7)) : J g k_X9_init 92 [.ref M] [] [] h Φ = J g k_X9_init 101 [.ref M] [] [] (pF (nwA h 1 150) M 17 (.ref (M + 12))) Φ := by simp only [s_X9_init_92, s_X9_init_93, s_X9_init_96, s_X9_init_98, nn, s]
theorem ib_12 (nn : hN h = M + 13) (s : hS (nwA h 1 6) M = (0, 7)) : J g k_X9_init 101 [.ref M] [] [] h Φ = J g k_X9_init 109 [.ref M] [] [] (pF (nwA h 1 6) M 19 (.ref (M + 13))) Φ := by simp only [s_X9_init_101, s_X9_init_102, s_X9_init_104, s_X9_init_106, nn, s]
theorem ib_13 (nn : hN h = M + 14) (s : hS (nwA h 1 6) M = (0, 7)) : J g k_X9_init 109 [.ref M] [] [] h Φ = J g k_X9_init 117 [.ref M] [] [] (pF (nwA h 1 6) M 20 (.ref (M + 14))) Φ := by simp only [s_X9_init_109, s_X9_init_110, s_X9_init_112, s_X9_init_114, nn, s]
theorem ib_14 (nn : hN h = M + 15) (s : hS (nwA h 1 36) M = (0, 7)) : J g k_X9_init 117 [.ref M] [] [] h Φ = J g k_X9_init 125 [.ref M] [] [] (pF (nwA h 1 36) M 21 (.ref (M + 15))) Φ := by simp only [s_X9_init_117, s_X9_init_118, s_X9_init_120, s_X9_init_122, nn, s]
theorem ib_15 (s : hS h M = (0, 7)) : J g k_X9_init 125 [.ref M] [] [] h Φ = J g k_X9_init 130 [.ref M] [] [] (pF h M 23 (.long 1)) Φ := by simp only [s_X9_init_125, s_X9_init_126, s_X9_init_127, s]
theorem ib_16 (nn : hN h = M + 16) (s : hS (nwA h 1 6) M = (0, 7)) : J g k_X9_init 130 [.ref M] [] [] h Φ = J g k_X9_init 138 [.ref M] [] [] (pF (nwA h 1 6) M 24 (.ref (M + 16))) Φ := by simp only [s_X9_init_130, s_X9_init_131, s_X9_init_133, s_X9_init_135, nn, s]
theorem ib_17 (nn : hN h = M + 17) (s : hS (nwA h 1 420) M = (0, 7)) : J g k_X9_init 138 [.ref M] [] [] h Φ = J g k_X9_init 147 [.ref M] [] [] (pF (nwA h 1 420) M 25 (.ref (M + 17))) Φ := by simp only [s_X9_init_138, s_X9_init_139, s_X9_init_142, s_X9_init_144, nn, s]
theorem ib_18 (nn : hN h = M + 18) (s : hS (nwA h 1 2) M = (0, 7)) : J g k_X9_init 147 [.ref M] [] [] h Φ = J g k_X9_init 154 [.ref M] [] [] (pF (nwA h 1 2) M 26 (.ref (M + 18))) Φ := by simp only [s_X9_init_147, s_X9_init_148, s_X9_init_149, s_X9_init_151, nn, s]
theorem p_ini (I : iIv h0 h M 1 false) (k : ∀ h', isM h' M uZ → (∀ x, x < M → agr h0 h' x) → hN h' = M + 19 → Φ .null h') : J g k_X9_init 0 [.ref M] [] [] h Φ := by
  obtain ⟨s', I'⟩ := al_iv (n := 3) (j := 0) I (by decide) (by decide) rfl rfl
  rw [ib_0 I.2.1 s']
  clear I s'
  generalize pF (nwA h 1 3) M 0 (.ref (M + 1)) = h at I' ⊢
  have I := I'
  clear I'
  obtain ⟨s', I'⟩ := al_iv (n := 6) (j := 3) I (by decide) (by decide) rfl rfl
  rw [ib_1 I.2.1 s']
  clear I s'
  generalize pF (nwA h 1 6) M 3 (.ref (M + 2)) = h at I' ⊢
  have I := I'
  clear I'
  obtain ⟨s', I'⟩ := al_iv (n := 6) (j := 4) I (by decide) (by decide) rfl rfl
  rw [ib_2 I.2.1 s']
  clear I s'
  generalize pF (nwA h 1 6) M 4 (.ref (M + 3)) = h at I' ⊢
  have I := I'
  clear I'
  obtain ⟨s', I'⟩ := al_iv (n := 6) (j := 5) I (by decide) (by decide) rfl rfl
  rw [ib_3 I.2.1 s']
  clear I s'
  generalize pF (nwA h 1 6) M 5 (.ref (M + 4)) = h at I' ⊢
  have I := I'
  clear I'
  obtain ⟨s', I'⟩ := al_iv (n := 6) (j := 6) I (by decide) (by decide) rfl rfl
  rw [ib_4 I.2.1 s']
  clear I s'
  generalize pF (nwA h 1 6) M 6 (.ref (M + 5)) = h at I' ⊢
  have I := I'
  clear I'
  obtain ⟨s', I'⟩ := al_iv (n := 6) (j := 7) I (by decide) (by decide) rfl rfl
  rw [ib_5 I.2.1 s']
  clear I s'
  generalize pF (nwA h 1 6) M 7 (.ref (M + 6)) = h at I' ⊢
  have I := I'
  clear I'
  obtain ⟨s', I'⟩ := al_iv (n := 6) (j := 8) I (by decide) (by decide) rfl rfl
  rw [ib_6 I.2.1 s']
  clear I s'
  generalize pF (nwA h 1 6) M 8 (.ref (M + 7)) = h at I' ⊢
  have I := I'
  clear I'
  obtain ⟨s', I'⟩ := al_iv (n := 6) (j := 9) I (by decide) (by decide) rfl rfl
  rw [ib_7 I.2.1 s']
  clear I s'
  generalize pF (nwA h 1 6) M 9 (.ref (M + 8)) = h at I' ⊢
  have I := I'
  clear I'
  obtain ⟨s', I'⟩ := al_iv (n := 6) (j := 10) I (by decide) (by decide) rfl rfl
  rw [ib_8 I.2.1 s']
  clear I s'
  generalize pF (nwA h 1 6) M 10 (.ref (M + 9)) = h at I' ⊢
  have I := I'
  clear I'
  obtain ⟨s', I'⟩ := al_iv (n := 150) (j := 11) I (by decide) (by decide) rfl rfl
  rw [ib_9 I.2.1 s']
  clear I s'
  generalize pF (nwA h 1 150) M 11 (.ref (M + 10)) = h at I' ⊢
  have I := I'
  clear I'
  obtain ⟨s', I'⟩ := al_iv (n := 24) (j := 15) I (by decide) (by decide) rfl rfl
  rw [ib_10 I.2.1 s']
  clear I s'
  generalize pF (nwA h 1 24) M 15 (.ref (M + 11)) = h at I' ⊢
  have I := I'
  clear I'
  obtain ⟨s', I'⟩ := al_iv (n := 150) (j := 17) I (by decide) (by decide) rfl rfl
  rw [ib_11 I.2.1 s']
  clear I s'
  generalize pF (nwA h 1 150) M 17 (.ref (M + 12)) = h at I' ⊢
  have I := I'
  clear I'
  obtain ⟨s', I'⟩ := al_iv (n := 6) (j := 19) I (by decide) (by decide) rfl rfl
  rw [ib_12 I.2.1 s']
  clear I s'
  generalize pF (nwA h 1 6) M 19 (.ref (M + 13)) = h at I' ⊢
  have I := I'
  clear I'
  obtain ⟨s', I'⟩ := al_iv (n := 6) (j := 20) I (by decide) (by decide) rfl rfl
  rw [ib_13 I.2.1 s']
  clear I s'
  generalize pF (nwA h 1 6) M 20 (.ref (M + 14)) = h at I' ⊢
  have I := I'
  clear I'
  obtain ⟨s', I'⟩ := al_iv (n := 36) (j := 21) I (by decide) (by decide) rfl rfl
  rw [ib_14 I.2.1 s']
  clear I s'
  generalize pF (nwA h 1 36) M 21 (.ref (M + 15)) = h at I' ⊢
  have I := I'
  clear I'
  rw [ib_15 I.1]
  replace I := bl_iv I (by decide)
  generalize pF h M 23 (.long 1) = h at I ⊢
  obtain ⟨s', I'⟩ := al_iv (n := 6) (j := 24) I (by decide) (by decide) rfl rfl
  rw [ib_16 I.2.1 s']
  clear I s'
  generalize pF (nwA h 1 6) M 24 (.ref (M + 16)) = h at I' ⊢
  have I := I'
  clear I'
  obtain ⟨s', I'⟩ := al_iv (n := 420) (j := 25) I (by decide) (by decide) rfl rfl
  rw [ib_17 I.2.1 s']
  clear I s'
  generalize pF (nwA h 1 420) M 25 (.ref (M + 17)) = h at I' ⊢
  have I := I'
  clear I'
  obtain ⟨s', I'⟩ := al_iv (n := 2) (j := 26) I (by decide) (by decide) rfl rfl
  rw [ib_18 I.2.1 s']
  clear I s'
  generalize pF (nwA h 1 2) M 26 (.ref (M + 18)) = h at I' ⊢
  have I := I'
  clear I'
  simp only [s_X9_init_154, s_X9_init_155, s_X9_init_158, s_X9_begin_0, s_X9_begin_1, s_X9_begin_2, s_X9_begin_5, s_X9_begin_6, s_X9_begin_7, s_X9_begin_10, s_X9_begin_11, s_X9_begin_12, s_X9_begin_15, zI_0, Bool.true_eq_false, Bool.false_eq_true, not_true_eq_false, not_false_eq_true, if_true, if_false, KV_ap, KU_ap, dropL_nil, hS_pF, I.1]
  exact k _ (fin_iv I).1 (fin_iv I).2 I.2.1
theorem p_X9init (s0 : hS h M = (0, 7)) (n0 : hN h = M + 1) (h12 : hF h M 12 = .int 0) (h22 : hF h M 22 = .long 0) (k : ∀ h', isM h' M uZ → (∀ x, x < M → agr h h' x) → hN h' = M + 19 → Φ .null h') : J g k_X9_init 0 [.ref M] [] [] h Φ :=
  p_ini (h0 := h) ⟨s0, n0, fun x _ => agr_rfl h x, fun a h1 h2 => absurd h1 (by omega), h12, h22, fun z => absurd z (by decide)⟩ k
end M35

/-! A new object of the class -/
def uZ : XS := (([], [], []), (fun _ => none), [], (0, 1), (fun _ => 0))
def isX0 (h : HP) (B : Nat) (u : XS) : Prop := oX h B u.2.2.2.1 ∧ isT h (B + 1) u.1 ∧ imX h B u.2.1 ∧ txX h (B + 10) u.2.2.1 ∧ rwX h (B + 17) ∧ rfX h (B + 21) u.2.2.2.2 ∧ hS h (B + 22) = (1, 6) ∧ hS h (B + 23) = (1, 6)
section I3
variable {g : GL} {h : HP} {Φ : Value → HP → Prop} {B : Nat}
theorem q_X8init (hs : hS h B = (0, 6)) (hn : hN h = B + 1) (k : ∀ h', isX0 h' B uZ → (∀ x, x < B → agr h h' x) → hN h' = B + 24 → Φ .null h') : J g k_X8_init 0 [.ref B] [] [] h Φ := by
  simp only [s_X8_init_0, s_X8_init_1, s_X8_init_4, s_X8_init_5, s_X8_init_8, s_X8_init_9, s_X8_init_15, s_X8_init_16, s_X8_init_17, s_X8_init_20, s_X8_init_23, s_X8_init_24, s_X8_init_27, s_X8_init_28, s_X8_init_31, s_X8_init_34, s_X8_init_35, s_X8_init_38, s_X8_init_39, s_X8_init_42, s_X8_init_45, s_X8_init_46, s_X8_init_47, s_X8_init_49, s_X8_init_52, s_X8_init_53, s_X8_init_55, s_X8_init_57, s_X8_init_60, s_X8_init_61, s_X8_init_63, s_X8_init_65, s_X8_init_68, s_X8_init_69, s_X8_init_70, s_X8_init_73, s_X8_init_74, s_X8_init_75, s_X8_init_78, zI_0, Bool.true_eq_false, Bool.false_eq_true, not_true_eq_false, not_false_eq_true, if_true, if_false, KV_ap, KU_ap, dropL_nil, hn]
  refine q_Tinit (by rw [hS_nwO, if_pos hn.symm]) (by rw [hN_nwO, hn]) (fun h1 w1 f1 n1 => ?_)
  have o1 : hS h1 B = (0, 6) := by rw [(f1 B (by omega)).1, hS_nwO, if_neg (by omega)]; exact hs
  have p1 : hN (pF h1 B 0 (.ref (B + 1))) = B + 9 := by rw [hN_pF]; omega
  have s1' : hS (nwA (pF h1 B 0 (.ref (B + 1))) 3 2) B = (0, 6) := by rw [hS_nwA, if_neg (by omega)]; exact o1
  have p2 : hN (pF (nwA (pF h1 B 0 (.ref (B + 1))) 3 2) B 1 (.ref (B + 9))) = B + 10 := by show hN h1 + 1 = _; omega
  simp only [s_X8_init_0, s_X8_init_1, s_X8_init_4, s_X8_init_5, s_X8_init_8, s_X8_init_9, s_X8_init_12, s_X8_init_15, s_X8_init_16, s_X8_init_17, s_X8_init_20, s_X8_init_23, s_X8_init_24, s_X8_init_27, s_X8_init_28, s_X8_init_34, s_X8_init_35, s_X8_init_38, s_X8_init_39, s_X8_init_42, s_X8_init_45, s_X8_init_46, s_X8_init_47, s_X8_init_49, s_X8_init_52, s_X8_init_53, s_X8_init_55, s_X8_init_57, s_X8_init_60, s_X8_init_61, s_X8_init_63, s_X8_init_65, s_X8_init_68, s_X8_init_69, s_X8_init_70, s_X8_init_73, s_X8_init_74, s_X8_init_75, s_X8_init_78, zI_0, Bool.true_eq_false, Bool.false_eq_true, not_true_eq_false, not_false_eq_true, if_true, if_false, KV_ap, KU_ap, dropL_nil, hS_pF, o1, p1, s1', p2]
  generalize hm1 : pF (nwA (pF h1 B 0 (.ref (B + 1))) 3 2) B 1 (.ref (B + 9)) = m1 at p2
  have F1 : hF m1 B 0 = .ref (B + 1) ∧ hF m1 B 1 = .ref (B + 9) := by
    subst hm1
    exact ⟨by rw [hF_pF, if_neg (by omega), hF_nwA, if_neg (by omega), hF_pF, if_pos ⟨rfl, rfl⟩], by rw [hF_pF, if_pos ⟨rfl, rfl⟩]⟩
  have I1 : hS m1 (B + 9) = (3, 2) ∧ ∀ i, hF m1 (B + 9) i = .null := by
    subst hm1
    exact ⟨by rw [hS_pF, hS_nwA, if_pos p1.symm], fun i => by rw [hF_pF, if_neg (by omega), hF_nwA, if_pos p1.symm]⟩
  have S1 : hS m1 B = (0, 6) := by subst hm1; exact s1'
  have A1 : ∀ x, x < B + 9 → x ≠ B → agr h1 m1 x := fun x hx hne => by subst hm1; exact agr_pF hne (agr_nwA (by omega) (agr_pF hne (agr_rfl h1 x)))
  refine q_Xinit7 (by rw [hS_nwO, if_pos p2.symm]) (by rw [hN_nwO, p2]) (fun h2 w2 f2 n2 => ?_)
  have A2 : ∀ x, x < B + 10 → agr m1 h2 x := fun x hx => agr_trans (agr_nwO (by omega) (agr_rfl m1 x)) (f2 x hx)
  have o2 : hS h2 B = (0, 6) := by rw [(A2 B (by omega)).1]; exact S1
  have p3 : hN (pF h2 B 2 (.ref (B + 10))) = B + 17 := by rw [hN_pF]; omega
  simp only [s_X8_init_0, s_X8_init_1, s_X8_init_4, s_X8_init_5, s_X8_init_8, s_X8_init_9, s_X8_init_12, s_X8_init_15, s_X8_init_16, s_X8_init_17, s_X8_init_20, s_X8_init_23, s_X8_init_24, s_X8_init_27, s_X8_init_28, s_X8_init_31, s_X8_init_34, s_X8_init_35, s_X8_init_38, s_X8_init_39, s_X8_init_45, s_X8_init_46, s_X8_init_47, s_X8_init_49, s_X8_init_52, s_X8_init_53, s_X8_init_55, s_X8_init_57, s_X8_init_60, s_X8_init_61, s_X8_init_63, s_X8_init_65, s_X8_init_68, s_X8_init_69, s_X8_init_70, s_X8_init_73, s_X8_init_74, s_X8_init_75, s_X8_init_78, zI_0, Bool.true_eq_false, Bool.false_eq_true, not_true_eq_false, not_false_eq_true, if_true, if_false, KV_ap, KU_ap, dropL_nil, o2, p3]
  refine q_Rinit (by rw [hS_nwO, if_pos p3.symm]) (by rw [hN_nwO, p3]) (fun h3 w3 f3 n3 => ?_)
  have A3 : ∀ x, x < B + 17 → x ≠ B → agr h2 h3 x := fun x hx hne => agr_trans (agr_nwO (by omega) (agr_pF hne (agr_rfl h2 x))) (f3 x hx)
  have F3 : hF h3 B 0 = .ref (B + 1) ∧ hF h3 B 1 = .ref (B + 9) ∧ hF h3 B 2 = .ref (B + 10) := by
    rw [(f3 B (by omega)).2.1]
    refine ⟨?_, ?_, ?_⟩
    · rw [hF_nwO, if_neg (by omega), hF_pF, if_neg (by omega), (A2 B (by omega)).2.1]; exact F1.1
    · rw [hF_nwO, if_neg (by omega), hF_pF, if_neg (by omega), (A2 B (by omega)).2.1]; exact F1.2
    · rw [hF_nwO, if_neg (by omega), hF_pF, if_pos ⟨rfl, rfl⟩]
  have o3 : hS h3 B = (0, 6) := by rw [(f3 B (by omega)).1, hS_nwO, if_neg (by omega)]; exact o2
  have p4 : hN (pF h3 B 3 (.ref (B + 17))) = B + 21 := by rw [hN_pF]; omega
  have s4 : hS (nwA (pF h3 B 3 (.ref (B + 17))) 1 3) B = (0, 6) := by rw [hS_nwA, if_neg (by omega)]; exact o3
  have p5 : hN (pF (nwA (pF h3 B 3 (.ref (B + 17))) 1 3) B 4 (.ref (B + 21))) = B + 22 := by show hN h3 + 1 = _; omega
  have s5 : hS (nwA (pF (nwA (pF h3 B 3 (.ref (B + 17))) 1 3) B 4 (.ref (B + 21))) 1 6) B = (0, 6) := by rw [hS_nwA, if_neg (by omega)]; exact s4
  have p6 : hN (pF (nwA (pF (nwA (pF h3 B 3 (.ref (B + 17))) 1 3) B 4 (.ref (B + 21))) 1 6) B 5 (.ref (B + 22))) = B + 23 := by show hN h3 + 1 + 1 = _; omega
  have s6 : hS (nwA (pF (nwA (pF (nwA (pF h3 B 3 (.ref (B + 17))) 1 3) B 4 (.ref (B + 21))) 1 6) B 5 (.ref (B + 22))) 1 6) B = (0, 6) := by rw [hS_nwA, if_neg (by omega)]; exact s5
  simp only [s_X8_init_0, s_X8_init_1, s_X8_init_4, s_X8_init_5, s_X8_init_8, s_X8_init_9, s_X8_init_12, s_X8_init_15, s_X8_init_16, s_X8_init_17, s_X8_init_20, s_X8_init_23, s_X8_init_24, s_X8_init_27, s_X8_init_28, s_X8_init_31, s_X8_init_34, s_X8_init_35, s_X8_init_38, s_X8_init_39, s_X8_init_42, s_X8_init_45, s_X8_init_46, s_X8_init_47, s_X8_init_49, s_X8_init_52, s_X8_init_53, s_X8_init_55, s_X8_init_57, s_X8_init_60, s_X8_init_61, s_X8_init_63, s_X8_init_65, s_X8_init_68, s_X8_init_69, s_X8_init_70, s_X8_init_73, s_X8_init_74, s_X8_init_75, s_X8_init_78, zI_0, Bool.true_eq_false, Bool.false_eq_true, not_true_eq_false, not_false_eq_true, if_true, if_false, KV_ap, KU_ap, dropL_nil, hS_pF, o3, p4, s4, p5, s5, p6, s6]
  generalize hm2 : pF (pF (pF (nwA (pF (nwA (pF (nwA (pF h3 B 3 (.ref (B + 17))) 1 3) B 4 (.ref (B + 21))) 1 6) B 5 (.ref (B + 22))) 1 6) B 6 (.ref (B + 23))) B 7 (.long 0)) B 8 (.long 1) = m2
  have A4 : ∀ x, x < B + 21 → x ≠ B → agr h3 m2 x := fun x hx hne => by
    subst hm2
    exact agr_pF hne (agr_pF hne (agr_pF hne (agr_nwA (by omega) (agr_pF hne (agr_nwA (by omega) (agr_pF hne (agr_nwA (by omega) (agr_pF hne (agr_rfl h3 x)))))))))
  have A34 : ∀ x, x < B + 17 → x ≠ B → agr h2 m2 x := fun x hx hne => agr_trans (A3 x hx hne) (A4 x (by omega) hne)
  have A24 : ∀ x, x < B + 10 → x ≠ B → agr m1 m2 x := fun x hx hne => agr_trans (A2 x hx) (A34 x (by omega) hne)
  have A14 : ∀ x, x < B + 9 → x ≠ B → agr h1 m2 x := fun x hx hne => agr_trans (A1 x hx hne) (A24 x (by omega) hne)
  apply k
  · refine ⟨⟨?_, ?_, ?_, ?_, ?_, ?_, ?_, ?_, ?_, ?_⟩, isT_agr (fun x p q => A14 x (by omega) (by omega)) w1, ⟨?_, ?_, ?_, ?_⟩, txX_agr (fun x p q => A34 x (by omega) (by omega)) w2, rwX_agr (fun x p q => A4 x (by omega) (by omega)) w3, ⟨?_, ?_⟩, ?_, ?_⟩
    · subst hm2; exact s6
    · subst hm2
      iterate 3 rw [hF_pF, if_neg (by omega)]
      rw [hF_nwA, if_neg (by omega), hF_pF, if_neg (by omega), hF_nwA, if_neg (by omega), hF_pF, if_neg (by omega), hF_nwA, if_neg (by omega), hF_pF, if_neg (by omega)]
      exact F3.1
    · subst hm2
      iterate 3 rw [hF_pF, if_neg (by omega)]
      rw [hF_nwA, if_neg (by omega), hF_pF, if_neg (by omega), hF_nwA, if_neg (by omega), hF_pF, if_neg (by omega), hF_nwA, if_neg (by omega), hF_pF, if_neg (by omega)]
      exact F3.2.1
    · subst hm2
      iterate 3 rw [hF_pF, if_neg (by omega)]
      rw [hF_nwA, if_neg (by omega), hF_pF, if_neg (by omega), hF_nwA, if_neg (by omega), hF_pF, if_neg (by omega), hF_nwA, if_neg (by omega), hF_pF, if_neg (by omega)]
      exact F3.2.2
    · subst hm2
      iterate 3 rw [hF_pF, if_neg (by omega)]
      rw [hF_nwA, if_neg (by omega), hF_pF, if_neg (by omega), hF_nwA, if_neg (by omega), hF_pF, if_neg (by omega), hF_nwA, if_neg (by omega), hF_pF, if_pos ⟨rfl, rfl⟩]
    · subst hm2
      iterate 3 rw [hF_pF, if_neg (by omega)]
      rw [hF_nwA, if_neg (by omega), hF_pF, if_neg (by omega), hF_nwA, if_neg (by omega), hF_pF, if_pos ⟨rfl, rfl⟩]
    · subst hm2
      iterate 3 rw [hF_pF, if_neg (by omega)]
      rw [hF_nwA, if_neg (by omega), hF_pF, if_pos ⟨rfl, rfl⟩]
    · subst hm2
      iterate 2 rw [hF_pF, if_neg (by omega)]
      rw [hF_pF, if_pos ⟨rfl, rfl⟩]
    · subst hm2
      rw [hF_pF, if_neg (by omega), hF_pF, if_pos ⟨rfl, rfl⟩]
      rfl
    · subst hm2
      rw [hF_pF, if_pos ⟨rfl, rfl⟩]
      rfl
    · rw [(A24 (B + 9) (by omega) (by omega)).1]; exact I1.1
    · intro i _ _; rw [(A24 (B + 9) (by omega) (by omega)).2.1]; exact I1.2 i
    · intro i _ T hT; exact absurd hT (by simp [uZ])
    · intro t t' h0; rw [(A24 (B + 9) (by omega) (by omega)).2.1, I1.2 0] at h0; exact absurd h0 (by simp)
    · subst hm2
      simp only [hS_pF]
      rw [hS_nwA, if_neg (by omega)]
      simp only [hS_pF]
      rw [hS_nwA, if_neg (by omega)]
      simp only [hS_pF]
      rw [hS_nwA, if_pos p4.symm]
    · intro i _
      subst hm2
      simp only [hI_pF]
      rw [hI_nwA, if_neg (by omega)]
      simp only [hI_pF]
      rw [hI_nwA, if_neg (by omega)]
      simp only [hI_pF]
      rw [hI_nwA, if_pos p4.symm]
      rfl
    · subst hm2
      simp only [hS_pF]
      rw [hS_nwA, if_neg (by omega)]
      simp only [hS_pF]
      rw [hS_nwA, if_pos p5.symm]
    · subst hm2
      simp only [hS_pF]
      rw [hS_nwA, if_pos p6.symm]
  · intro x hx
    exact agr_trans (agr_trans (agr_nwO (by omega) (agr_rfl h x)) (f1 x (by omega))) (A14 x (by omega) (by omega))
  · subst hm2
    show hN h3 + 1 + 1 + 1 = B + 24
    omega
end I3

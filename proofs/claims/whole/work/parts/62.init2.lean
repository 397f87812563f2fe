/-! A new text, a new search -/
section I2
variable {g : GL} {h : HP} {Φ : Value → HP → Prop} {a : Nat}
theorem q_Rinit (hs : hS h a = (0, 2)) (hn : hN h = a + 1) (k : ∀ h', rwX h' a → (∀ x, x < a → agr h h' x) → hN h' = a + 4 → Φ .null h') : J g k_X3_init 0 [.ref a] [] [] h Φ := by
  have e1 : ∀ (h : HP) j n, hN h ≠ a → hS (nwA h j n) a = hS h a := fun h j n z => by rw [hS_nwA, if_neg (Ne.symm z)]
  have n1 : hN (pF (nwA h 1 36) a 0 (.ref (a + 1))) = a + 2 := by show hN h + 1 = _; omega
  have n2 : hN (pF (nwA (pF (nwA h 1 36) a 0 (.ref (a + 1))) 1 6) a 1 (.ref (a + 2))) = a + 3 := by show hN h + 1 + 1 = _; omega
  have s1' : hS (nwA h 1 36) a = (0, 2) := by rw [e1 _ _ _ (by omega)]; exact hs
  have s2 : hS (nwA (pF (nwA h 1 36) a 0 (.ref (a + 1))) 1 6) a = (0, 2) := by rw [e1 _ _ _ (by omega)]; exact s1'
  have s3 : hS (nwA (pF (nwA (pF (nwA h 1 36) a 0 (.ref (a + 1))) 1 6) a 1 (.ref (a + 2))) 1 6) a = (0, 2) := by rw [e1 _ _ _ (by omega)]; exact s2
  simp only [s_X3_init_0, s_X3_init_1, s_X3_init_4, s_X3_init_5, s_X3_init_7, s_X3_init_9, s_X3_init_12, s_X3_init_13, s_X3_init_15, s_X3_init_17, s_X3_init_20, s_X3_init_21, s_X3_init_23, s_X3_init_25, s_X3_init_28, s_X3_init_29, s_X3_init_30, s_X3_init_33, s_X3_init_34, s_X3_init_35, s_X3_init_38, zI_0, Bool.true_eq_false, Bool.false_eq_true, not_true_eq_false, not_false_eq_true, if_true, if_false, KV_ap, KU_ap, dropL_nil, hS_pF, hn, n1, n2, s1', s2, s3]
  apply k
  · refine ⟨s3, ?_, ?_, ?_, ?_, ?_, ?_⟩
    · rw [hF_pF, if_neg (by omega), hF_pF, if_neg (by omega), hF_pF, if_neg (by omega), hF_nwA, if_neg (by omega), hF_pF, if_neg (by omega), hF_nwA, if_neg (by omega), hF_pF, if_pos ⟨rfl, rfl⟩]
    · rw [hF_pF, if_neg (by omega), hF_pF, if_neg (by omega), hF_pF, if_neg (by omega), hF_nwA, if_neg (by omega), hF_pF, if_pos ⟨rfl, rfl⟩]
    · rw [hF_pF, if_neg (by omega), hF_pF, if_neg (by omega), hF_pF, if_pos ⟨rfl, rfl⟩]
    · simp only [hS_pF]
      rw [hS_nwA, if_neg (by omega)]
      simp only [hS_pF]
      rw [hS_nwA, if_neg (by omega)]
      simp only [hS_pF]
      rw [hS_nwA, if_pos hn.symm]
    · simp only [hS_pF]
      rw [hS_nwA, if_neg (by omega)]
      simp only [hS_pF]
      rw [hS_nwA, if_pos n1.symm]
    · simp only [hS_pF]
      rw [hS_nwA, if_pos n2.symm]
  · intro x hx
    exact agr_pF (by omega) (agr_pF (by omega) (agr_pF (by omega) (agr_nwA (by omega) (agr_pF (by omega) (agr_nwA (by omega) (agr_pF (by omega) (agr_nwA (by omega) (agr_rfl h x))))))))
  · show hN h + 1 + 1 + 1 = a + 4
    omega
theorem q_Xinit7 (hs : hS h a = (0, 5)) (hn : hN h = a + 1) (k : ∀ h', txX h' a [] → (∀ x, x < a → agr h h' x) → hN h' = a + 7 → Φ .null h') : J g k_X7_init 0 [.ref a] [] [] h Φ := by
  simp only [s_X7_init_0, s_X7_init_1, s_X7_init_4, s_X7_init_5, s_X7_init_8, s_X7_init_9, s_X7_init_15, s_X7_init_16, s_X7_init_19, s_X7_init_21, s_X7_init_24, s_X7_init_25, s_X7_init_26, s_X7_init_29, s_X7_init_30, s_X7_init_33, s_X7_init_35, s_X7_init_38, s_X7_init_39, s_X7_init_42, s_X7_init_44, s_X7_init_47, s_X7_init_48, s_X7_init_51, s_X7_init_53, s_X7_init_56, s_X7_init_57, s_X7_init_58, s_X7_init_61, s_X7_init_62, s_X7_init_63, s_X7_init_66, s_X7_init_67, s_X7_init_68, s_X7_init_71, zI_0, Bool.true_eq_false, Bool.false_eq_true, not_true_eq_false, not_false_eq_true, if_true, if_false, KV_ap, KU_ap, dropL_nil, hn]
  refine q_Sinit (by rw [hS_nwO, if_pos hn.symm]) (by rw [hN_nwO, hn]) (fun h1 w1 f1 m1 => ?_)
  have o1 : hS h1 a = (0, 5) := by rw [(f1 a (by omega)).1, hS_nwO, if_neg (by omega)]; exact hs
  have e1 : ∀ (h : HP) j n, hN h ≠ a → hS (nwA h j n) a = hS h a := fun h j n z => by rw [hS_nwA, if_neg (Ne.symm z)]
  have n1 : hN (pF h1 a 0 (.ref (a + 1))) = a + 3 := by rw [hN_pF]; omega
  have s1' : hS (nwA (pF h1 a 0 (.ref (a + 1))) 2 150) a = (0, 5) := by rw [e1 _ _ _ (by omega)]; exact o1
  have n2 : hN (pF (pF (nwA (pF h1 a 0 (.ref (a + 1))) 2 150) a 1 (.ref (a + 3))) a 2 (.int 0)) = a + 4 := by show hN h1 + 1 = _; omega
  have s2 : hS (nwA (pF (pF (nwA (pF h1 a 0 (.ref (a + 1))) 2 150) a 1 (.ref (a + 3))) a 2 (.int 0)) 1 150) a = (0, 5) := by rw [e1 _ _ _ (by omega)]; exact s1'
  have n3 : hN (pF (nwA (pF (pF (nwA (pF h1 a 0 (.ref (a + 1))) 2 150) a 1 (.ref (a + 3))) a 2 (.int 0)) 1 150) a 3 (.ref (a + 4))) = a + 5 := by show hN h1 + 1 + 1 = _; omega
  have s3 : hS (nwA (pF (nwA (pF (pF (nwA (pF h1 a 0 (.ref (a + 1))) 2 150) a 1 (.ref (a + 3))) a 2 (.int 0)) 1 150) a 3 (.ref (a + 4))) 1 150) a = (0, 5) := by rw [e1 _ _ _ (by omega)]; exact s2
  have n4 : hN (pF (nwA (pF (nwA (pF (pF (nwA (pF h1 a 0 (.ref (a + 1))) 2 150) a 1 (.ref (a + 3))) a 2 (.int 0)) 1 150) a 3 (.ref (a + 4))) 1 150) a 4 (.ref (a + 5))) = a + 6 := by show hN h1 + 1 + 1 + 1 = _; omega
  have s4 : hS (nwA (pF (nwA (pF (nwA (pF (pF (nwA (pF h1 a 0 (.ref (a + 1))) 2 150) a 1 (.ref (a + 3))) a 2 (.int 0)) 1 150) a 3 (.ref (a + 4))) 1 150) a 4 (.ref (a + 5))) 1 150) a = (0, 5) := by rw [e1 _ _ _ (by omega)]; exact s3
  simp only [s_X7_init_0, s_X7_init_1, s_X7_init_4, s_X7_init_5, s_X7_init_8, s_X7_init_9, s_X7_init_12, s_X7_init_15, s_X7_init_16, s_X7_init_19, s_X7_init_21, s_X7_init_24, s_X7_init_25, s_X7_init_26, s_X7_init_29, s_X7_init_30, s_X7_init_33, s_X7_init_35, s_X7_init_38, s_X7_init_39, s_X7_init_42, s_X7_init_44, s_X7_init_47, s_X7_init_48, s_X7_init_51, s_X7_init_53, s_X7_init_56, s_X7_init_57, s_X7_init_58, s_X7_init_61, s_X7_init_62, s_X7_init_63, s_X7_init_66, s_X7_init_67, s_X7_init_68, s_X7_init_71, zI_0, Bool.true_eq_false, Bool.false_eq_true, not_true_eq_false, not_false_eq_true, if_true, if_false, KV_ap, KU_ap, dropL_nil, hS_pF, o1, n1, n2, n3, n4, s1', s2, s3, s4]
  apply k
  · refine ⟨s4, ?_, ?_, ?_, ?_, ?_, ?_, by decide, ⟨[], isS_agr (fun x p q => ?_) w1⟩, ?_, ?_, ?_, ?_, fun j hj => absurd hj (Nat.not_lt_zero j)⟩
    · iterate 4 rw [hF_pF, if_neg (by omega)]
      rw [hF_nwA, if_neg (by omega), hF_pF, if_neg (by omega), hF_nwA, if_neg (by omega), hF_pF, if_neg (by omega), hF_nwA, if_neg (by omega), hF_pF, if_neg (by omega), hF_pF, if_neg (by omega), hF_nwA, if_neg (by omega), hF_pF, if_pos ⟨rfl, rfl⟩]
    · iterate 4 rw [hF_pF, if_neg (by omega)]
      rw [hF_nwA, if_neg (by omega), hF_pF, if_neg (by omega), hF_nwA, if_neg (by omega), hF_pF, if_neg (by omega), hF_nwA, if_neg (by omega), hF_pF, if_neg (by omega), hF_pF, if_pos ⟨rfl, rfl⟩]
    · iterate 4 rw [hF_pF, if_neg (by omega)]
      rw [hF_nwA, if_neg (by omega), hF_pF, if_neg (by omega), hF_nwA, if_neg (by omega), hF_pF, if_neg (by omega), hF_nwA, if_neg (by omega), hF_pF, if_pos ⟨rfl, rfl⟩]
      rfl
    · iterate 4 rw [hF_pF, if_neg (by omega)]
      rw [hF_nwA, if_neg (by omega), hF_pF, if_neg (by omega), hF_nwA, if_neg (by omega), hF_pF, if_pos ⟨rfl, rfl⟩]
    · iterate 4 rw [hF_pF, if_neg (by omega)]
      rw [hF_nwA, if_neg (by omega), hF_pF, if_pos ⟨rfl, rfl⟩]
    · iterate 3 rw [hF_pF, if_neg (by omega)]
      rw [hF_pF, if_pos ⟨rfl, rfl⟩]
    · exact agr_pF (by omega) (agr_pF (by omega) (agr_pF (by omega) (agr_pF (by omega) (agr_nwA (by omega) (agr_pF (by omega) (agr_nwA (by omega) (agr_pF (by omega) (agr_nwA (by omega) (agr_pF (by omega) (agr_pF (by omega) (agr_nwA (by omega) (agr_pF (by omega) (agr_rfl h1 x)))))))))))))
    · simp only [hS_pF]
      rw [hS_nwA, if_neg (by omega)]
      simp only [hS_pF]
      rw [hS_nwA, if_neg (by omega)]
      simp only [hS_pF]
      rw [hS_nwA, if_neg (by omega)]
      simp only [hS_pF]
      rw [hS_nwA, if_pos n1.symm]
    · simp only [hS_pF]
      rw [hS_nwA, if_neg (by omega)]
      simp only [hS_pF]
      rw [hS_nwA, if_neg (by omega)]
      simp only [hS_pF]
      rw [hS_nwA, if_pos n2.symm]
    · simp only [hS_pF]
      rw [hS_nwA, if_neg (by omega)]
      simp only [hS_pF]
      rw [hS_nwA, if_pos n3.symm]
    · simp only [hS_pF]
      rw [hS_nwA, if_pos n4.symm]
  · intro x hx
    exact agr_trans (agr_trans (agr_nwO (by omega) (agr_rfl h x)) (f1 x (by omega))) (agr_pF (by omega) (agr_pF (by omega) (agr_pF (by omega) (agr_pF (by omega) (agr_nwA (by omega) (agr_pF (by omega) (agr_nwA (by omega) (agr_pF (by omega) (agr_nwA (by omega) (agr_pF (by omega) (agr_pF (by omega) (agr_nwA (by omega) (agr_pF (by omega) (agr_rfl h1 x))))))))))))))
  · show hN h1 + 1 + 1 + 1 + 1 = a + 7
    omega
end I2

/-! What is kept of the past -/
theorem pI_pF (h : HP) (a j b : Nat) (v : Value) (f : Nat → Int32) : pI (pF h a j v) b f = pF (pI h b f) a j v := rfl
theorem pI_comm (h : HP) {a b : Nat} (hb : a ≠ b) (f f' : Nat → Int32) : pI (pI h a f) b f' = pI (pI h b f') a f := by
  simp only [pI]
  congr 3
  funext x
  by_cases h1 : x = a <;> by_cases h2 : x = b <;> simp [h1, h2]
  · exact absurd (h1.symm.trans h2) hb
  · intro z; exact absurd z hb
  · intro z; exact absurd z.symm hb
theorem pF_pF (h : HP) (a j : Nat) (v v' : Value) : pF (pF h a j v) a j v' = pF h a j v' := by
  simp only [pF]
  congr 2
  funext x y
  by_cases hx : x = a ∧ y = j <;> simp [hx]
def isPs (h : HP) (a d : Nat) : Prop := hS h a = (0, 1) ∧ hF h a 0 = .ref (a + 1) ∧ hF h a 1 = .ref (a + 2) ∧ hF h a 2 = .int (nI d) ∧ d ≤ 6 ∧ hS h (a + 1) = (1, 144) ∧ hS h (a + 2) = (1, 6)
section PA
variable {g : GL} {h : HP} {Φ : Value → HP → Prop} {a d : Nat}
theorem q_psize (hP : isPs h a d) : J g k_X1_size 0 [.ref a] [] [] h Φ = Φ (.int (nI d)) h := by
  obtain ⟨hs, h0, h1, h2, hd, hf, hz⟩ := hP
  simp only [s_X1_size_0, s_X1_size_1, s_X1_size_4, hs, h2]
theorem q_pempty (hP : isPs h a d) : J g k_X1_empty 0 [.ref a] [] [] h Φ = Φ .null (pF h a 2 (.int (nI 0))) := by
  obtain ⟨hs, h0, h1, h2, hd, hf, hz⟩ := hP
  simp only [s_X1_empty_0, s_X1_empty_1, s_X1_empty_2, s_X1_empty_5, hs, c0]
theorem z0 : ((0 : Int32)).toNatClampNeg = 0 := rfl
theorem z1 : ((1 : Int32)).toNatClampNeg = 1 := rfl
theorem z24 : ((24 : Int32)).toNatClampNeg = 24 := rfl
theorem l0 : ((0 : Int32) < 0) = False := by decide
theorem l1 : ((1 : Int32) < 0) = False := by decide
theorem l24 : ((24 : Int32) < 0) = False := by decide
theorem z144 : (Int32.ofNat 144).toNatClampNeg = 144 := rfl
theorem z6 : (Int32.ofNat 6).toNatClampNeg = 6 := rfl
theorem l144 : (Int32.ofNat 144 < 0) = False := by decide
theorem l6 : (Int32.ofNat 6 < 0) = False := by decide
theorem z120 : (Int32.ofNat 144 - 24).toNatClampNeg = 120 := rfl
theorem z5 : (Int32.ofNat 6 - 1).toNatClampNeg = 5 := rfl
theorem l120 : (Int32.ofNat 144 - 24 < 0) = False := by decide
theorem l5 : (Int32.ofNat 6 - 1 < 0) = False := by decide
theorem q_pcopyFrom {b e : Nat} (hP : isPs h a d) (hQ : isPs h b e) : J g k_X1_copyFrom 0 [.ref a, .ref b] [] [] h Φ = Φ .null (pF (pI (pI h (a + 1) (va_cpy (hI h (b + 1)) (hI h (a + 1)) 0 0 144)) (a + 2) (va_cpy (hI (pI h (a + 1) (va_cpy (hI h (b + 1)) (hI h (a + 1)) 0 0 144)) (b + 2)) (hI h (a + 2)) 0 0 6)) a 2 (.int (nI e))) := by
  obtain ⟨hs, h0, h1, h2, hd, hf, hz⟩ := hP
  obtain ⟨gs, g0, g1, g2, gd, gf, gz⟩ := hQ
  have e2 : ∀ f, hI (pI h (a + 1) f) (a + 2) = hI h (a + 2) := fun f => by rw [hI_pI, if_neg (by omega)]
  simp only [s_X1_copyFrom_0, s_X1_copyFrom_1, s_X1_copyFrom_4, s_X1_copyFrom_5, s_X1_copyFrom_6, s_X1_copyFrom_9, s_X1_copyFrom_10, s_X1_copyFrom_11, s_X1_copyFrom_14, s_X1_copyFrom_15, s_X1_copyFrom_18, s_X1_copyFrom_19, s_X1_copyFrom_22, s_X1_copyFrom_23, s_X1_copyFrom_24, s_X1_copyFrom_27, s_X1_copyFrom_28, s_X1_copyFrom_29, s_X1_copyFrom_32, s_X1_copyFrom_33, s_X1_copyFrom_36, s_X1_copyFrom_37, s_X1_copyFrom_38, s_X1_copyFrom_41, s_X1_copyFrom_44, hs, gs, h0, h1, g0, g1, g2, hf, hz, gf, gz, true_or, z0, z144, z6, l0, l144, l6, not_false_eq_true, Nat.zero_add, Nat.le_refl, hS_pI, hF_pI, e2]
theorem q_loseFirst (hP : isPs h a d) : J g k_X1_loseFirst 0 [.ref a] [] [] h Φ = Φ .null (pF (pI (pI h (a + 1) (va_cpy (hI h (a + 1)) (hI h (a + 1)) 24 0 120)) (a + 2) (va_cpy (hI h (a + 2)) (hI h (a + 2)) 1 0 5)) a 2 (.int (nI 5))) := by
  obtain ⟨hs, h0, h1, h2, hd, hf, hz⟩ := hP
  have e2 : ∀ f, hI (pI h (a + 1) f) (a + 2) = hI h (a + 2) := fun f => by rw [hI_pI, if_neg (by omega)]
  simp only [s_X1_loseFirst_0, s_X1_loseFirst_1, s_X1_loseFirst_4, s_X1_loseFirst_6, s_X1_loseFirst_7, s_X1_loseFirst_10, s_X1_loseFirst_11, s_X1_loseFirst_12, s_X1_loseFirst_15, s_X1_loseFirst_16, s_X1_loseFirst_18, s_X1_loseFirst_19, s_X1_loseFirst_22, s_X1_loseFirst_23, s_X1_loseFirst_26, s_X1_loseFirst_27, s_X1_loseFirst_28, s_X1_loseFirst_31, s_X1_loseFirst_32, s_X1_loseFirst_33, s_X1_loseFirst_36, s_X1_loseFirst_37, s_X1_loseFirst_38, s_X1_loseFirst_39, s_X1_loseFirst_42, s_X1_loseFirst_43, s_X1_loseFirst_44, s_X1_loseFirst_47, hs, h0, h1, hf, hz, true_or, z0, z1, z24, z120, z5, l0, l1, l24, l120, l5, not_false_eq_true, Nat.zero_add, Nat.le_refl, hS_pI, hF_pI, e2, show 24 + 120 ≤ 144 by decide, show 120 ≤ 144 by decide, show 1 + 5 ≤ 6 by decide, show 5 ≤ 6 by decide, c5]
def lsF (F : Nat → Int32) (d : Nat) : Nat → Int32 := if d = 6 then va_cpy F F 24 0 120 else F
def lsZ (Z : Nat → Int32) (d : Nat) : Nat → Int32 := if d = 6 then va_cpy Z Z 1 0 5 else Z
def lsD (d : Nat) : Nat := if d = 6 then 5 else d
theorem m24 (a : Nat) : nI a * 24 = nI (a * 24) := i_mul a 24
theorem isPs_d {e : Nat} {F Z : Nat → Int32} (he : e ≤ 6) (hP : isPs h a d) : isPs (pF (pI (pI h (a + 1) F) (a + 2) Z) a 2 (.int (nI e))) a e := by
  obtain ⟨hs, h0, h1, h2, hd, hf, hz⟩ := hP
  refine ⟨hs, ?_, ?_, ?_, he, hf, hz⟩
  · rw [hF_pF, if_neg (by omega)]; exact h0
  · rw [hF_pF, if_neg (by omega)]; exact h1
  · rw [hF_pF, if_pos ⟨rfl, rfl⟩]
theorem q_keep1 {s : Nat} {n : Int32} (hP : isPs h a d) (hd : d < 6) (hs : hS h s = (0, 3)) (s0 : hF h s 0 = .ref (s + 1)) (s1' : hF h s 1 = .int n) (sf : hS h (s + 1) = (1, 24)) : J g k_X1_keep 13 [.ref a, .ref s] [] [] h Φ = Φ .null (pF (pI (pI h (a + 1) (va_cpy (hI h (s + 1)) (hI h (a + 1)) 0 (d * 24) 24)) (a + 2) (upd (hI h (a + 2)) d n)) a 2 (.int (nI (d + 1)))) := by
  obtain ⟨ps, h0, h1, h2, _, hf, hz⟩ := hP
  have e2 : ∀ f, hI (pI h (a + 1) f) (a + 2) = hI h (a + 2) := fun f => by rw [hI_pI, if_neg (by omega)]
  have hi : decide (d < 6) = true := decide_eq_true hd
  simp only [s_X1_keep_13, s_X1_keep_14, s_X1_keep_17, s_X1_keep_18, s_X1_keep_19, s_X1_keep_22, s_X1_keep_23, s_X1_keep_26, s_X1_keep_28, s_X1_keep_29, s_X1_keep_31, s_X1_keep_34, s_X1_keep_35, s_X1_keep_38, s_X1_keep_39, s_X1_keep_42, s_X1_keep_43, s_X1_keep_46, s_X1_keep_47, s_X1_keep_48, s_X1_keep_49, s_X1_keep_52, s_X1_keep_53, s_X1_keep_54, s_X1_keep_57, hs, ps, h0, h1, h2, s0, s1', sf, hf, hz, z0, z24, l0, l24, not_false_eq_true, Nat.zero_add, Nat.le_refl, hS_pI, hF_pI, e2, m24, cl_nI (show d * 24 < 2147483648 by omega), cl_nI (show d < 2147483648 by omega), lt0 (show d * 24 < 2147483648 by omega), show d * 24 + 24 ≤ 144 by omega, inb_nI (show d < 2147483648 by omega), hi, a1]
theorem q_keep {s : Nat} {n : Int32} (hP : isPs h a d) (hsa : s ≠ a) (hsb : s ≠ a + 1) (hs : hS h s = (0, 3)) (s0 : hF h s 0 = .ref (s + 1)) (s1' : hF h s 1 = .int n) (sf : hS h (s + 1) = (1, 24)) : J g k_X1_keep 0 [.ref a, .ref s] [] [] h Φ = Φ .null (pF (pI (pI h (a + 1) (va_cpy (hI h (s + 1)) (lsF (hI h (a + 1)) d) 0 (lsD d * 24) 24)) (a + 2) (upd (lsZ (hI h (a + 2)) d) (lsD d) n)) a 2 (.int (nI (lsD d + 1)))) := by
  have hP' := hP
  obtain ⟨ps, h0, h1, h2, hd6, hf, hz⟩ := hP
  by_cases hd : d < 6
  · have e : ¬ d = 6 := by omega
    rw [lsF, lsZ, lsD, if_neg e, if_neg e, if_neg e, ← q_keep1 (g := g) (Φ := Φ) hP' hd hs s0 s1' sf]
    simp only [s_X1_keep_0, s_X1_keep_1, s_X1_keep_4, s_X1_keep_6, s_X1_keep_9, s_X1_keep_10, s_X1_keep_14, s_X1_keep_17, s_X1_keep_18, s_X1_keep_19, s_X1_keep_22, s_X1_keep_23, s_X1_keep_26, s_X1_keep_28, s_X1_keep_29, s_X1_keep_31, s_X1_keep_34, s_X1_keep_35, s_X1_keep_38, s_X1_keep_39, s_X1_keep_42, s_X1_keep_43, s_X1_keep_46, s_X1_keep_47, s_X1_keep_48, s_X1_keep_49, s_X1_keep_52, s_X1_keep_53, s_X1_keep_54, s_X1_keep_57, ps, h2, c6, lt_nI (show d < 2147483648 by omega) (show 6 < 2147483648 by decide), if_pos hd]
  · have e : d = 6 := by omega
    subst e
    have hQ := isPs_d (F := va_cpy (hI h (a + 1)) (hI h (a + 1)) 24 0 120) (Z := va_cpy (hI h (a + 2)) (hI h (a + 2)) 1 0 5) (show 5 ≤ 6 by decide) hP'
    simp only [s_X1_keep_0, s_X1_keep_1, s_X1_keep_4, s_X1_keep_6, s_X1_keep_9, s_X1_keep_10, s_X1_keep_14, s_X1_keep_17, s_X1_keep_18, s_X1_keep_19, s_X1_keep_22, s_X1_keep_23, s_X1_keep_26, s_X1_keep_28, s_X1_keep_29, s_X1_keep_31, s_X1_keep_34, s_X1_keep_35, s_X1_keep_38, s_X1_keep_39, s_X1_keep_42, s_X1_keep_43, s_X1_keep_46, s_X1_keep_47, s_X1_keep_48, s_X1_keep_49, s_X1_keep_52, s_X1_keep_53, s_X1_keep_54, s_X1_keep_57, ps, h2, c6, lt_nI (show 6 < 2147483648 by decide) (show 6 < 2147483648 by decide), if_neg (Nat.lt_irrefl 6), q_loseFirst hP', KU_ap]
    rw [q_keep1 (s := s) (n := n) hQ (by decide) hs (by rw [hF_pF, if_neg (fun z => hsa z.1)]; exact s0) (by rw [hF_pF, if_neg (fun z => hsa z.1)]; exact s1') sf]
    rw [lsF, lsZ, lsD, if_pos rfl, if_pos rfl, if_pos rfl]
    simp only [pI_pF, pF_pF, hI_pF, hI_pIs]
    have e1 : hI (pI (pI h (a + 1) (va_cpy (hI h (a + 1)) (hI h (a + 1)) 24 0 120)) (a + 2) (va_cpy (hI h (a + 2)) (hI h (a + 2)) 1 0 5)) (a + 1) = va_cpy (hI h (a + 1)) (hI h (a + 1)) 24 0 120 := by rw [hI_pI, if_neg (by omega), hI_pIs]
    have e3 : hI (pI (pI h (a + 1) (va_cpy (hI h (a + 1)) (hI h (a + 1)) 24 0 120)) (a + 2) (va_cpy (hI h (a + 2)) (hI h (a + 2)) 1 0 5)) (s + 1) = hI h (s + 1) := by rw [hI_pI, if_neg (by omega), hI_pI, if_neg (by omega)]
    rw [e1, e3, pI_comm _ (show a + 2 ≠ a + 1 by omega), pI_pI, pI_pI]
theorem q_giveBack {s : Nat} (hP : isPs h a d) (hd : 0 < d) (hsa : s ≠ a) (hsb : s + 1 ≠ a + 2) (hs : hS h s = (0, 3)) (s0 : hF h s 0 = .ref (s + 1)) (sf : hS h (s + 1) = (1, 24)) : J g k_X1_giveBack 0 [.ref a, .ref s] [] [] h Φ = Φ .null (pF (pI (pF h a 2 (.int (nI (d - 1)))) (s + 1) (va_cpy (hI h (a + 1)) (hI h (s + 1)) ((d - 1) * 24) 0 24)) s 1 (.int (hI h (a + 2) (d - 1)))) := by
  obtain ⟨ps, h0, h1, h2, hd6, hf, hz⟩ := hP
  have e0 : ∀ (h : HP) v j, hF (pF h a 2 v) s j = hF h s j := fun h v j => by rw [hF_pF, if_neg (fun z => hsa z.1)]
  have e2 : ∀ f, hI (pI h (s + 1) f) (a + 2) = hI h (a + 2) := fun f => by rw [hI_pI, if_neg (by omega)]
  have hi : decide (d - 1 < 6) = true := decide_eq_true (by omega)
  have f0 : ∀ (h : HP) v, hF (pF h a 2 v) a 0 = hF h a 0 := fun h v => by rw [hF_pF, if_neg (by omega)]
  have f1 : ∀ (h : HP) v, hF (pF h a 2 v) a 1 = hF h a 1 := fun h v => by rw [hF_pF, if_neg (by omega)]
  have f2 : ∀ (h : HP) v, hF (pF h a 2 v) a 2 = v := fun h v => by rw [hF_pF, if_pos ⟨rfl, rfl⟩]
  have hl : ¬ (d = 0) := by omega
  simp only [s_X1_giveBack_0, s_X1_giveBack_1, s_X1_giveBack_4, s_X1_giveBack_7, s_X1_giveBack_8, s_X1_giveBack_9, s_X1_giveBack_12, s_X1_giveBack_13, s_X1_giveBack_14, s_X1_giveBack_17, s_X1_giveBack_18, s_X1_giveBack_21, s_X1_giveBack_22, s_X1_giveBack_25, s_X1_giveBack_27, s_X1_giveBack_28, s_X1_giveBack_29, s_X1_giveBack_32, s_X1_giveBack_33, s_X1_giveBack_35, s_X1_giveBack_38, s_X1_giveBack_39, s_X1_giveBack_40, s_X1_giveBack_43, s_X1_giveBack_44, s_X1_giveBack_47, s_X1_giveBack_48, s_X1_giveBack_51, hs, ps, h0, h1, h2, s0, sf, hf, hz, z0, z24, l0, l24, not_false_eq_true, Nat.zero_add, Nat.le_refl, hS_pI, hS_pF, hF_pI, pI_pF, hI_pF, f0, f1, f2, e0, e2, le0 (show d < 2147483648 by omega), if_neg hl, s1 hd, m24, cl_nI (show (d - 1) * 24 < 2147483648 by omega), cl_nI (show d - 1 < 2147483648 by omega), lt0 (show (d - 1) * 24 < 2147483648 by omega), show (d - 1) * 24 + 24 ≤ 144 by omega, inb_nI (show d - 1 < 2147483648 by omega), hi]
end PA

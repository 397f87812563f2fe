/-! Sticks, their changes; a copy of rows -/
section SK2
variable {g : GL} {h : HP} {Φ : Value → HP → Prop} {a : Nat} {L : List St}
theorem if_same {α : Sort _} (c : Prop) [Decidable c] (x : α) : (if c then x else x) = x := by split <;> rfl
theorem q_wearDown (hA : isS h a L) {j m : Nat} (hj : j < L.length) (hm : m < 100) : J g k_X5_wearDown 0 [.ref a, .int (nI j), .int (nI m)] [] [] h Φ = Φ .null (pI h (a + 1) (upd (hI h (a + 1)) (j * 4 + 3) (nI (min 9 ((gS L j).2.2.2 + m))))) := by
  have hR := hA.2.1
  have hn := hR.2.2.2.1
  have hj' : j < 2147483648 := by omega
  obtain ⟨v1, v2, v3, v4⟩ := hA.2.2.2 j hj
  simp only [s_X5_wearDown_0, s_X5_wearDown_1, s_X5_wearDown_2, s_X5_wearDown_3, s_X5_wearDown_4, s_X5_wearDown_5, s_X5_wearDown_6, s_X5_wearDown_9, s_X5_wearDown_10, s_X5_wearDown_11, s_X5_wearDown_13, s_X5_wearDown_16, s_X5_wearDown_19, hA.1, q_fact3 hR hj', KV_ap, fc3 hA hj, i_add, c9, lt_nI (show 9 < 2147483648 by decide) (show (gS L j).2.2.2 + m < 2147483648 by omega), if_nI, q_put3 hR hj, KU_ap]
  congr 4
  rw [Nat.min_def]
  split <;> split <;> first | rfl | (exfalso; omega) | (congr 1; omega)
theorem q_sumOf (hA : isS h a L) {w : Nat} (hw : w < 4) : J g k_X5_sumOf 0 [.ref a, .int (nI w), m_D, m_D] [] [] h Φ = Φ (.int (it (fun i s => s + hI h (a + 1) (i * 4 + w)) L.length 0 0)) h := by
  have hR := hA.2.1
  have hn := hR.2.2.2.1
  simp only [s_X5_sumOf_0, s_X5_sumOf_1, s_X5_sumOf_2, s_X5_sumOf_3, s_X5_sumOf_5, s_X5_sumOf_6, s_X5_sumOf_9, s_X5_sumOf_12, s_X5_sumOf_13, s_X5_sumOf_14, s_X5_sumOf_15, s_X5_sumOf_16, s_X5_sumOf_19, s_X5_sumOf_20, s_X5_sumOf_21, s_X5_sumOf_24, s_X5_sumOf_27, s_X5_sumOf_28, dropL_nil]
  have key := J_it0 (fun i s => J g k_X5_sumOf 4 [.ref a, .int (nI w), .int s, .int (nI i)] [] [] h Φ) (fun i s => s + hI h (a + 1) (i * 4 + w)) L.length (fun i s hi => by
    rw [s_X5_sumOf_4]
    simp only [s_X5_sumOf_0, s_X5_sumOf_1, s_X5_sumOf_2, s_X5_sumOf_3, s_X5_sumOf_5, s_X5_sumOf_6, s_X5_sumOf_9, s_X5_sumOf_12, s_X5_sumOf_13, s_X5_sumOf_14, s_X5_sumOf_15, s_X5_sumOf_16, s_X5_sumOf_19, s_X5_sumOf_20, s_X5_sumOf_21, s_X5_sumOf_24, s_X5_sumOf_27, s_X5_sumOf_28, dropL_nil, hA.1, hR.2.2.1, le_nI (show L.length < 2147483648 by omega) (show i < 2147483648 by omega), if_neg (Nat.not_le.mpr hi), q_fact hR (show i < 2147483648 by omega) hw, KV_ap, a1, fcR, if_pos hi]) 0
  have e : J g k_X5_sumOf 4 [.ref a, .int (nI w), .int 0, .int 0] [] [] h Φ = J g k_X5_sumOf 4 [.ref a, .int (nI w), .int 0, .int (nI 0)] [] [] h Φ := rfl
  rw [e, key, s_X5_sumOf_4]
  simp only [s_X5_sumOf_0, s_X5_sumOf_1, s_X5_sumOf_2, s_X5_sumOf_3, s_X5_sumOf_5, s_X5_sumOf_6, s_X5_sumOf_9, s_X5_sumOf_12, s_X5_sumOf_13, s_X5_sumOf_14, s_X5_sumOf_15, s_X5_sumOf_16, s_X5_sumOf_19, s_X5_sumOf_20, s_X5_sumOf_21, s_X5_sumOf_24, s_X5_sumOf_27, s_X5_sumOf_28, dropL_nil, hA.1, hR.2.2.1, le_nI (show L.length < 2147483648 by omega) (show L.length < 2147483648 by omega), Nat.le_refl, if_true]
/-- a row goes to the place of the one ahead -/
def shf (i : Nat) (f : Nat → Int32) : Nat → Int32 := it (fun w f => upd f (i * 4 + w) (f ((i + 1) * 4 + w))) 4 0 f
def jnF (f : Nat → Int32) (n s t : Nat) (nm wr : Int32) : Nat → Int32 := it shf (n - 1 - t) t (upd (upd f (s * 4 + 1) nm) (s * 4 + 3) wr)
theorem hI_pIs {h : HP} {a : Nat} {f : Nat → Int32} : hI (pI h a f) a = f := by rw [hI_pI, if_pos rfl]
theorem q_join (hA : isS h a L) {s t : Nat} (hs : s < t) (ht : t < L.length) : J g k_X5_join 0 [.ref a, .int (nI s), .int (nI t), m_D, m_D] [] [] h Φ = Φ .null (pF (pI h (a + 1) (jnF (hI h (a + 1)) L.length s t (nI (toN (gS L s).2.1 (gS L t).2.1)) (nI (mxN (gS L s).2.2.2 (gS L t).2.2.2)))) a 1 (.int (nI (L.length - 1)))) := by
  have hR := hA.2.1
  have hn := hR.2.2.2.1
  have hs' : s < L.length := by omega
  have hsM : s < 2147483648 := by omega
  have htM : t < 2147483648 := by omega
  obtain ⟨v1, v2, v3, v4⟩ := hA.2.2.2 s hs'
  obtain ⟨u1, u2, u3, u4⟩ := hA.2.2.2 t ht
  have hv := nm1 v2
  have hu := nm1 u2
  have hv3 := nm3 v2
  have hu3 := nm3 u2
  simp only [s_X5_join_0, s_X5_join_1, s_X5_join_2, s_X5_join_3, s_X5_join_4, s_X5_join_5, s_X5_join_6, s_X5_join_9, s_X5_join_10, s_X5_join_11, s_X5_join_12, s_X5_join_15, s_X5_join_18, s_X5_join_21, s_X5_join_22, s_X5_join_23, s_X5_join_24, s_X5_join_25, s_X5_join_26, s_X5_join_27, s_X5_join_30, s_X5_join_31, s_X5_join_32, s_X5_join_33, s_X5_join_36, s_X5_join_39, s_X5_join_42, s_X5_join_43, s_X5_join_45, s_X5_join_46, s_X5_join_49, s_X5_join_50, s_X5_join_51, s_X5_join_54, s_X5_join_55, s_X5_join_57, s_X5_join_59, s_X5_join_60, s_X5_join_63, s_X5_join_64, s_X5_join_65, s_X5_join_67, s_X5_join_68, s_X5_join_69, s_X5_join_70, s_X5_join_71, s_X5_join_73, s_X5_join_76, s_X5_join_79, s_X5_join_82, s_X5_join_85, s_X5_join_88, s_X5_join_91, s_X5_join_92, s_X5_join_93, s_X5_join_96, s_X5_join_97, s_X5_join_98, s_X5_join_99, s_X5_join_102, s_X5_join_105, hA.1, q_fact1 hR hsM, q_fact1 hR htM, KV_ap, fc1 hA hs', fc1 hA ht, q_together (show (gS L s).2.1 < 2147483648 by omega) (show (gS L t).2.1 < 2147483648 by omega) hv.2.2.2.2 hu.2.2.2.2 (show paN (gS L s).2.1 < 2147483648 by omega) (show paN (gS L t).2.1 < 2147483648 by omega), q_put1 hR hs', KU_ap, hS_pI]
  generalize hf1 : upd (hI h (a + 1)) (s * 4 + 1) (nI (toN (gS L s).2.1 (gS L t).2.1)) = f1
  have hR1 : isR (pI h (a + 1) f1) a L.length := isR_pI hR
  have e3 : fcR (pI h (a + 1) f1) a L.length s 3 = nI (gS L s).2.2.2 := by
    rw [← fc3 hA hs', fcR, fcR, if_pos hs', if_pos hs', hI_pIs, ← hf1, pk_un (by omega)]
  have e4 : fcR (pI h (a + 1) f1) a L.length t 3 = nI (gS L t).2.2.2 := by
    rw [← fc3 hA ht, fcR, fcR, if_pos ht, if_pos ht, hI_pIs, ← hf1, pk_un (by omega)]
  simp only [q_fact3 hR1 hsM, KV_ap, s_X5_join_0, s_X5_join_1, s_X5_join_2, s_X5_join_3, s_X5_join_4, s_X5_join_5, s_X5_join_6, s_X5_join_9, s_X5_join_10, s_X5_join_11, s_X5_join_12, s_X5_join_15, s_X5_join_18, s_X5_join_21, s_X5_join_22, s_X5_join_23, s_X5_join_24, s_X5_join_25, s_X5_join_26, s_X5_join_27, s_X5_join_30, s_X5_join_31, s_X5_join_32, s_X5_join_33, s_X5_join_36, s_X5_join_39, s_X5_join_42, s_X5_join_43, s_X5_join_45, s_X5_join_46, s_X5_join_49, s_X5_join_50, s_X5_join_51, s_X5_join_54, s_X5_join_55, s_X5_join_57, s_X5_join_59, s_X5_join_60, s_X5_join_63, s_X5_join_64, s_X5_join_65, s_X5_join_67, s_X5_join_68, s_X5_join_69, s_X5_join_70, s_X5_join_71, s_X5_join_73, s_X5_join_76, s_X5_join_79, s_X5_join_82, s_X5_join_85, s_X5_join_88, s_X5_join_91, s_X5_join_92, s_X5_join_93, s_X5_join_96, s_X5_join_97, s_X5_join_98, s_X5_join_99, s_X5_join_102, s_X5_join_105, hA.1, hS_pI, q_fact3 hR1 htM, e3, e4, lt_nI (show (gS L s).2.2.2 < 2147483648 by omega) (show (gS L t).2.2.2 < 2147483648 by omega), if_nI, ← mxN.eq_1, q_put3 hR1 hs', KU_ap, hI_pIs, pI_pI, dropL_nil]
  have key := J_it0 (fun i (q : (Nat → Int32) × Value) => J g k_X5_join 44 [.ref a, .int (nI s), .int (nI t), .int (nI (t + i)), q.2] [] [] (pI h (a + 1) q.1) Φ) (fun i q => (shf (t + i) q.1, .int (nI 4))) (L.length - 1 - t) (fun i q hi => by
    have hRq : ∀ f, isR (pI h (a + 1) f) a L.length := fun f => isR_pI hR
    rw [s_X5_join_44]
    simp only [s_X5_join_0, s_X5_join_1, s_X5_join_2, s_X5_join_3, s_X5_join_4, s_X5_join_5, s_X5_join_6, s_X5_join_9, s_X5_join_10, s_X5_join_11, s_X5_join_12, s_X5_join_15, s_X5_join_18, s_X5_join_21, s_X5_join_22, s_X5_join_23, s_X5_join_24, s_X5_join_25, s_X5_join_26, s_X5_join_27, s_X5_join_30, s_X5_join_31, s_X5_join_32, s_X5_join_33, s_X5_join_36, s_X5_join_39, s_X5_join_42, s_X5_join_43, s_X5_join_45, s_X5_join_46, s_X5_join_49, s_X5_join_50, s_X5_join_51, s_X5_join_54, s_X5_join_55, s_X5_join_59, s_X5_join_60, s_X5_join_63, s_X5_join_64, s_X5_join_65, s_X5_join_67, s_X5_join_68, s_X5_join_69, s_X5_join_70, s_X5_join_71, s_X5_join_73, s_X5_join_76, s_X5_join_79, s_X5_join_82, s_X5_join_85, s_X5_join_88, s_X5_join_91, s_X5_join_92, s_X5_join_93, s_X5_join_96, s_X5_join_97, s_X5_join_98, s_X5_join_99, s_X5_join_102, s_X5_join_105, dropL_nil, hA.1, hS_pI, hF_pI, hR.2.2.1, s1 (show 1 ≤ L.length by omega), le_nI (show L.length - 1 < 2147483648 by omega) (show t + i < 2147483648 by omega), if_neg (show ¬ L.length - 1 ≤ t + i by omega)]
    have key2 := J_it0 (fun w (f : Nat → Int32) => J g k_X5_join 57 [.ref a, .int (nI s), .int (nI t), .int (nI (t + i)), .int (nI w)] [] [] (pI h (a + 1) f) Φ) (fun w f => upd f ((t + i) * 4 + w) (f ((t + i + 1) * 4 + w))) 4 (fun w f hw => by
      rw [s_X5_join_57]
      simp only [s_X5_join_0, s_X5_join_1, s_X5_join_2, s_X5_join_3, s_X5_join_4, s_X5_join_5, s_X5_join_6, s_X5_join_9, s_X5_join_10, s_X5_join_11, s_X5_join_12, s_X5_join_15, s_X5_join_18, s_X5_join_21, s_X5_join_22, s_X5_join_23, s_X5_join_24, s_X5_join_25, s_X5_join_26, s_X5_join_27, s_X5_join_30, s_X5_join_31, s_X5_join_32, s_X5_join_33, s_X5_join_36, s_X5_join_39, s_X5_join_42, s_X5_join_43, s_X5_join_45, s_X5_join_46, s_X5_join_49, s_X5_join_50, s_X5_join_51, s_X5_join_54, s_X5_join_55, s_X5_join_59, s_X5_join_60, s_X5_join_63, s_X5_join_64, s_X5_join_65, s_X5_join_67, s_X5_join_68, s_X5_join_69, s_X5_join_70, s_X5_join_71, s_X5_join_73, s_X5_join_76, s_X5_join_79, s_X5_join_82, s_X5_join_85, s_X5_join_88, s_X5_join_91, s_X5_join_92, s_X5_join_93, s_X5_join_96, s_X5_join_97, s_X5_join_98, s_X5_join_99, s_X5_join_102, s_X5_join_105, dropL_nil, hA.1, hS_pI, c4, le_nI (show 4 < 2147483648 by decide) (show w < 2147483648 by omega), if_neg (Nat.not_le.mpr hw), a1, q_fact (hRq f) (show t + i + 1 < 2147483648 by omega) hw, KV_ap, fcR, if_pos (show t + i + 1 < L.length by omega), hI_pIs, q_put (hRq f) (show t + i < L.length by omega) hw, KU_ap, pI_pI]) q.1
    rw [c0, key2, s_X5_join_57]
    simp only [s_X5_join_0, s_X5_join_1, s_X5_join_2, s_X5_join_3, s_X5_join_4, s_X5_join_5, s_X5_join_6, s_X5_join_9, s_X5_join_10, s_X5_join_11, s_X5_join_12, s_X5_join_15, s_X5_join_18, s_X5_join_21, s_X5_join_22, s_X5_join_23, s_X5_join_24, s_X5_join_25, s_X5_join_26, s_X5_join_27, s_X5_join_30, s_X5_join_31, s_X5_join_32, s_X5_join_33, s_X5_join_36, s_X5_join_39, s_X5_join_42, s_X5_join_43, s_X5_join_45, s_X5_join_46, s_X5_join_49, s_X5_join_50, s_X5_join_51, s_X5_join_54, s_X5_join_55, s_X5_join_59, s_X5_join_60, s_X5_join_63, s_X5_join_64, s_X5_join_65, s_X5_join_67, s_X5_join_68, s_X5_join_69, s_X5_join_70, s_X5_join_71, s_X5_join_73, s_X5_join_76, s_X5_join_79, s_X5_join_82, s_X5_join_85, s_X5_join_88, s_X5_join_91, s_X5_join_92, s_X5_join_93, s_X5_join_96, s_X5_join_97, s_X5_join_98, s_X5_join_99, s_X5_join_102, s_X5_join_105, dropL_nil, c4, le_nI (show 4 < 2147483648 by decide) (show 4 < 2147483648 by decide), Nat.le_refl, if_true, a1]
    rfl) (upd f1 (s * 4 + 3) (nI (mxN (gS L s).2.2.2 (gS L t).2.2.2)), m_D)
  have hLt : t + (L.length - 1 - t) = L.length - 1 := by omega
  rw [Nat.add_zero] at key
  rw [key, s_X5_join_44]
  simp only [s_X5_join_0, s_X5_join_1, s_X5_join_2, s_X5_join_3, s_X5_join_4, s_X5_join_5, s_X5_join_6, s_X5_join_9, s_X5_join_10, s_X5_join_11, s_X5_join_12, s_X5_join_15, s_X5_join_18, s_X5_join_21, s_X5_join_22, s_X5_join_23, s_X5_join_24, s_X5_join_25, s_X5_join_26, s_X5_join_27, s_X5_join_30, s_X5_join_31, s_X5_join_32, s_X5_join_33, s_X5_join_36, s_X5_join_39, s_X5_join_42, s_X5_join_43, s_X5_join_45, s_X5_join_46, s_X5_join_49, s_X5_join_50, s_X5_join_51, s_X5_join_54, s_X5_join_55, s_X5_join_59, s_X5_join_60, s_X5_join_63, s_X5_join_64, s_X5_join_65, s_X5_join_67, s_X5_join_68, s_X5_join_69, s_X5_join_70, s_X5_join_71, s_X5_join_73, s_X5_join_76, s_X5_join_79, s_X5_join_82, s_X5_join_85, s_X5_join_88, s_X5_join_91, s_X5_join_92, s_X5_join_93, s_X5_join_96, s_X5_join_97, s_X5_join_98, s_X5_join_99, s_X5_join_102, s_X5_join_105, dropL_nil, hA.1, hS_pI, hF_pI, hR.2.2.1, s1 (show 1 ≤ L.length by omega), hLt, le_nI (show L.length - 1 < 2147483648 by omega) (show L.length - 1 < 2147483648 by omega), Nat.le_refl, if_true, c0, lt_nI (show L.length - 1 < 2147483648 by omega) (show 0 < 2147483648 by decide), if_neg (Nat.not_lt_zero _)]
  congr 3
  have e : ∀ m i (q : (Nat → Int32) × Value), (it (fun i (q : (Nat → Int32) × Value) => (shf (t + i) q.1, Value.int (nI 4))) m i q).1 = it shf m (t + i) q.1 := by
    intro m
    induction m with
    | zero => intro i q; rfl
    | succ m ih => intro i q; rw [it, it, ih]; rfl
  rw [e, jnF, ← hf1]
  rfl
theorem q_copyFrom {b n m : Nat} (hR : isR h a n) (hR2 : isR h b m) : J g k_X4_copyFrom 0 [.ref a, .ref b] [] [] h Φ = Φ .null (pF (pI h (a + 1) (va_cpy (hI h (b + 1)) (hI h (a + 1)) 0 0 24)) a 1 (.int (nI m))) := by
  have cz : ((0 : Int32)).toNatClampNeg = 0 := rfl
  have c24 : (Int32.ofNat 24).toNatClampNeg = 24 := rfl
  have n0 : ((0 : Int32) < 0) = False := by decide
  have n24 : (Int32.ofNat 24 < 0) = False := by decide
  obtain ⟨hs, h0, h1, hn, hf⟩ := hR
  obtain ⟨hs2, h02, h12, hn2, hf2⟩ := hR2
  rcases hs with hs | hs <;> rcases hs2 with hs2 | hs2 <;>
  simp only [s_X4_copyFrom_0, s_X4_copyFrom_1a, s_X4_copyFrom_1b, s_X4_copyFrom_4, s_X4_copyFrom_5, s_X4_copyFrom_6a, s_X4_copyFrom_6b, s_X4_copyFrom_9, s_X4_copyFrom_10, s_X4_copyFrom_11a, s_X4_copyFrom_11b, s_X4_copyFrom_14, s_X4_copyFrom_15, s_X4_copyFrom_18, s_X4_copyFrom_19, s_X4_copyFrom_20a, s_X4_copyFrom_20b, s_X4_copyFrom_23a, s_X4_copyFrom_23b, s_X4_copyFrom_26, hs, hs2, h0, h02, hf, hf2, true_or, n0, n24, not_false_eq_true, cz, c24, Nat.zero_add, Nat.le_refl, hS_pI, hF_pI, h12]
end SK2

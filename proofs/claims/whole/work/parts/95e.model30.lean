/-! The model's calls: image -/
def cyF (f s : Nat → Int32) (a i : Nat) : Nat → Int32 := fun t => if a ≤ t ∧ t < a + i then s (t - a) else f t
theorem cyF_s {f s : Nat → Int32} {a i : Nat} : upd (cyF f s a i) (a + i) (s i) = cyF f s a (i + 1) := by
  funext t
  unfold upd cyF
  by_cases e : t = a + i
  · subst e; rw [if_pos rfl, if_pos (by omega)]; congr 1; omega
  · rw [if_neg e]
    have q : (a ≤ t ∧ t < a + (i + 1)) = (a ≤ t ∧ t < a + i) := propext (by omega)
    simp only [q]
theorem cyF_0 {f s : Nat → Int32} {a : Nat} : cyF f s a 0 = f := by funext t; rw [cyF, if_neg (by omega)]
theorem mI_mk {f F1 F2 F3 F4 A K N' I W n0 n1 n2 n3 : Nat → Int32} {a : Nat} {L N : List St} {P : List (List St)} (hl : L.length ≤ 6) (hn : N.length ≤ 6) (hp : P.length ≤ 6) (c : cl4 K N' I W L) (d : cl4 n0 n1 n2 n3 N) (p : mP A P) (e1 : F1 = upd (upd f a (nI N.length)) (a + 1) (nI P.length)) (e2 : F2 = lyF F1 (a + 2) (nI L.length) K N' I W 6) (e3 : F3 = lyF F2 (a + 26) (F2 (a + 26)) n0 n1 n2 n3 6) (e4 : F4 = cyF F3 A (a + 51) 150) : mI (fun t => F4 (a + t)) (L, N, P) ∧ ∀ t, t < a ∨ a + 210 ≤ t → F4 t = f t := by
  have o4 : ∀ t, t < a + 51 ∨ a + 201 ≤ t → F4 t = F3 t := fun t ht => by rw [e4, cyF, if_neg (by omega)]
  have o3 : ∀ t, t < a + 26 ∨ a + 51 ≤ t → F3 t = F2 t := fun t ht => by rw [e3]; exact lyF_o (by omega)
  have o2 : ∀ t, t < a + 2 ∨ a + 27 ≤ t → F2 t = F1 t := fun t ht => by rw [e2]; exact lyF_o (by omega)
  have o1 : ∀ t, t < a ∨ a + 2 ≤ t → F1 t = f t := fun t ht => by rw [e1, upd, if_neg (by omega), upd, if_neg (by omega)]
  refine ⟨⟨?_, ?_, ?_, ?_, ?_⟩, fun t ht => ?_⟩
  · show F4 (a + 0) = _
    rw [o4 _ (by omega), o3 _ (by omega), o2 _ (by omega), e1, upd, if_neg (by omega), upd, if_pos (by omega)]
  · show F4 (a + 1) = _
    rw [o4 _ (by omega), o3 _ (by omega), o2 _ (by omega), e1, upd, if_pos rfl]
  · have := mR_ly (f := F1) (a := a + 2) hl c
    rw [← e2] at this
    refine mR_congr hl (fun t ht => ?_) this
    show F4 (a + (2 + t)) = F2 (a + 2 + t)
    by_cases z : t = 24
    · subst z
      rw [o4 _ (by omega), e3, lyF, if_pos (by omega)]
    · rw [o4 _ (by omega), o3 _ (by omega), Nat.add_assoc]
  · intro j hj
    have hj' : j < N.length := hj
    have z := d j hj
    show F4 (a + (27 + j)) = _ ∧ F4 (a + (33 + j)) = _ ∧ F4 (a + (39 + j)) = _ ∧ F4 (a + (45 + j)) = _
    rw [o4 _ (by omega), o4 _ (by omega), o4 _ (by omega), o4 _ (by omega), e3]
    unfold lyF
    rw [if_neg (by omega), if_pos (by omega), if_neg (by omega), if_neg (by omega), if_pos (by omega), if_neg (by omega), if_neg (by omega), if_neg (by omega), if_pos (by omega), if_neg (by omega), if_neg (by omega), if_neg (by omega), if_neg (by omega), if_pos (by omega)]
    rw [show a + (27 + j) - (a + 26 + 1) = j by omega, show a + (33 + j) - (a + 26 + 7) = j by omega, show a + (39 + j) - (a + 26 + 13) = j by omega, show a + (45 + j) - (a + 26 + 19) = j by omega]
    exact z
  · intro j hj
    have hj' : j < P.length := hj
    obtain ⟨r, v, l⟩ := p j hj
    refine ⟨mR_congr l (fun t ht => ?_) r, v, l⟩
    show F4 (a + (51 + (25 * j + t))) = A (25 * j + t)
    rw [e4, cyF, if_pos (by omega)]
    congr 1; omega
  · rw [o4 _ (by omega), o3 _ (by omega), o2 _ (by omega), o1 _ (by omega)]
theorem m_image (v : Int32) : cM k_X9_image [.int v, m_D, m_D] (aImage v) := by
  intro g h M u Φ hM k
  have hM' := hM
  obtain ⟨⟨L, N, P⟩, im, tx, fr, rf⟩ := u
  cases g1 : decide (0 ≤ v ∧ v < 2)
  · have e : aImage v ((L, N, P), im, tx, fr, rf) = (.int (-2), bdU ((L, N, P), im, tx, fr, rf) 0) := by simp only [aImage, g1, Bool.false_eq_true, if_false]
    rw [e] at k
    simp only [s_X9_image_0, s_X9_image_1, s_X9_image_2, s_X9_image_3, s_X9_image_6, s_X9_image_9, s_X9_image_10, s_X9_image_13, s_X9_image_14, s_X9_image_17, s_X9_image_18, s_X9_image_19, s_X9_image_20, s_X9_image_21, s_X9_image_24, s_X9_image_25, s_X9_image_26, s_X9_image_27, s_X9_image_28, s_X9_image_31, s_X9_image_32, s_X9_image_33, s_X9_image_36, s_X9_image_37, s_X9_image_38, s_X9_image_41, s_X9_image_42, s_X9_image_43, s_X9_image_44, s_X9_image_45, s_X9_image_48, s_X9_image_49, s_X9_image_50, s_X9_image_51, s_X9_image_54, s_X9_image_55, s_X9_image_56, s_X9_image_57, s_X9_image_60, s_X9_image_61, s_X9_image_63, s_X9_image_65, s_X9_image_68, s_X9_image_69, s_X9_image_72, s_X9_image_73, s_X9_image_75, s_X9_image_76, s_X9_image_77, s_X9_image_78, s_X9_image_79, s_X9_image_82, s_X9_image_83, s_X9_image_84, s_X9_image_85, s_X9_image_86, s_X9_image_89, s_X9_image_90, s_X9_image_92, s_X9_image_93, s_X9_image_94, s_X9_image_95, s_X9_image_96, s_X9_image_99, s_X9_image_100, s_X9_image_101, s_X9_image_102, s_X9_image_103, s_X9_image_106, s_X9_image_107, s_X9_image_109, s_X9_image_110, s_X9_image_111, s_X9_image_112, s_X9_image_113, s_X9_image_116, s_X9_image_117, s_X9_image_118, s_X9_image_119, s_X9_image_120, s_X9_image_123, s_X9_image_124, s_X9_image_126, s_X9_image_127, s_X9_image_128, s_X9_image_129, s_X9_image_130, s_X9_image_133, s_X9_image_134, s_X9_image_135, s_X9_image_136, s_X9_image_139, s_X9_image_142, s_X9_image_143, s_X9_image_145, s_X9_image_148, s_X9_image_151, s_X9_image_152, s_X9_image_155, s_X9_image_156, s_X9_image_158, s_X9_image_159, s_X9_image_160, s_X9_image_161, s_X9_image_162, s_X9_image_165, s_X9_image_166, s_X9_image_167, s_X9_image_168, s_X9_image_171, s_X9_image_174, s_X9_image_175, zI_0, Bool.true_eq_false, Bool.false_eq_true, not_true_eq_false, not_false_eq_true, if_true, if_false, KV_ap, KU_ap, dropL_nil, p_in, le_1, g1, hM.1.1]
    exact p_bad hM (fun h' hM' hf => by simp only [KV_ap, s_X9_image_0, s_X9_image_1, s_X9_image_2, s_X9_image_3, s_X9_image_6, s_X9_image_9, s_X9_image_10, s_X9_image_13, s_X9_image_14, s_X9_image_17, s_X9_image_18, s_X9_image_19, s_X9_image_20, s_X9_image_21, s_X9_image_24, s_X9_image_25, s_X9_image_26, s_X9_image_27, s_X9_image_28, s_X9_image_31, s_X9_image_32, s_X9_image_33, s_X9_image_36, s_X9_image_37, s_X9_image_38, s_X9_image_41, s_X9_image_42, s_X9_image_43, s_X9_image_44, s_X9_image_45, s_X9_image_48, s_X9_image_49, s_X9_image_50, s_X9_image_51, s_X9_image_54, s_X9_image_55, s_X9_image_56, s_X9_image_57, s_X9_image_60, s_X9_image_61, s_X9_image_63, s_X9_image_65, s_X9_image_68, s_X9_image_69, s_X9_image_72, s_X9_image_73, s_X9_image_75, s_X9_image_76, s_X9_image_77, s_X9_image_78, s_X9_image_79, s_X9_image_82, s_X9_image_83, s_X9_image_84, s_X9_image_85, s_X9_image_86, s_X9_image_89, s_X9_image_90, s_X9_image_92, s_X9_image_93, s_X9_image_94, s_X9_image_95, s_X9_image_96, s_X9_image_99, s_X9_image_100, s_X9_image_101, s_X9_image_102, s_X9_image_103, s_X9_image_106, s_X9_image_107, s_X9_image_109, s_X9_image_110, s_X9_image_111, s_X9_image_112, s_X9_image_113, s_X9_image_116, s_X9_image_117, s_X9_image_118, s_X9_image_119, s_X9_image_120, s_X9_image_123, s_X9_image_124, s_X9_image_126, s_X9_image_127, s_X9_image_128, s_X9_image_129, s_X9_image_130, s_X9_image_133, s_X9_image_134, s_X9_image_135, s_X9_image_136, s_X9_image_139, s_X9_image_142, s_X9_image_143, s_X9_image_145, s_X9_image_148, s_X9_image_151, s_X9_image_152, s_X9_image_155, s_X9_image_156, s_X9_image_158, s_X9_image_159, s_X9_image_160, s_X9_image_161, s_X9_image_162, s_X9_image_165, s_X9_image_166, s_X9_image_167, s_X9_image_168, s_X9_image_171, s_X9_image_174, s_X9_image_175]; exact k h' hM' hf)
  · obtain ⟨i, ei, hi⟩ := hs_ex (n := 2) (by decide) g1
    have e : aImage v ((L, N, P), im, tx, fr, rf) = (.int 1, ((L, N, P), (fun z => if z = i then some (L, N, P) else im z), tx, fr, rf)) := by
      simp only [aImage, g1, if_true]
      rw [ei, cl_nI (show i < 2147483648 by omega)]
    rw [e] at k
    subst ei
    obtain ⟨s, sh, ⟨f1, f2, f12, f18, f22, f23⟩, vt, c, d, p, t, rr, i0, i1⟩ := hM
    have f1' : hF h M 1 = .int (nI L.length) := f1
    have f2' : hF h M 2 = .int (nI N.length) := f2
    have f18' : hF h M 18 = .int (nI P.length) := f18
    have hl : L.length ≤ 6 := vt.1
    have hn : N.length ≤ 6 := vt.2.1
    have hp : P.length ≤ 6 := vt.2.2.1
    have s17 : hS h (M + 17) = (1, 420) := sh.2.2.2.2.2.2.2.2.2.1
    have s18 : hS h (M + 18) = (1, 2) := sh.2.2.2.2.2.2.2.2.2.2
    have s12 : hS h (M + 12) = (1, 150) := sh.2.2.2.2.1
    have r25 : hF h M 25 = .ref (M + 17) := s.2.2.2.2.2.2.2.2.2.2.2.2.2.2.2.2.2.1
    have r26 : hF h M 26 = .ref (M + 18) := s.2.2.2.2.2.2.2.2.2.2.2.2.2.2.2.2.2.2
    have q6 := sh.2.1 6 (by decide) (by decide)
    have q7 := sh.2.1 7 (by decide) (by decide)
    have q8 := sh.2.1 8 (by decide) (by decide)
    have q9 := sh.2.1 9 (by decide) (by decide)
    have bi : m_inb (nI i) 2 = true := by rw [inb_nI (by omega)]; simpa using hi
    have ib : ∀ x, x < 420 → m_inb (nI x) 420 = true := fun x hx => by rw [inb_nI (by omega)]; simpa using hx
    have m210 : ∀ x : Nat, (210 : Int32) * nI x = nI (210 * x) := fun x => i_mul 210 x
    have i2 : ∀ x : Nat, nI x + (2 : Int32) = nI (x + 2) := fun x => i_add x 2
    have i27 : ∀ x : Nat, nI x + (27 : Int32) = nI (x + 27) := fun x => i_add x 27
    have i33 : ∀ x : Nat, nI x + (33 : Int32) = nI (x + 33) := fun x => i_add x 33
    have i39 : ∀ x : Nat, nI x + (39 : Int32) = nI (x + 39) := fun x => i_add x 39
    have i45 : ∀ x : Nat, nI x + (45 : Int32) = nI (x + 45) := fun x => i_add x 45
    have i51 : ∀ x : Nat, nI x + (51 : Int32) = nI (x + 51) := fun x => i_add x 51
    have c6' : ∀ k : Nat, k < 2147483648 → ((6 : Int32) ≤ nI k) = (6 ≤ k) := fun k hk => le_nI (show 6 < 2147483648 by decide) hk
    have c150 : ∀ k : Nat, k < 2147483648 → ((150 : Int32) ≤ nI k) = (150 ≤ k) := fun k hk => le_nI (show 150 < 2147483648 by decide) hk
    have e17 : ∀ f, hI (pI h (M + 18) f) (M + 17) = hI h (M + 17) := fun f => by rw [hI_pI, if_neg (by omega)]
    simp only [s_X9_image_0, s_X9_image_1, s_X9_image_2, s_X9_image_3, s_X9_image_6, s_X9_image_9, s_X9_image_10, s_X9_image_13, s_X9_image_14, s_X9_image_17, s_X9_image_18, s_X9_image_19, s_X9_image_20, s_X9_image_21, s_X9_image_24, s_X9_image_25, s_X9_image_26, s_X9_image_27, s_X9_image_28, s_X9_image_31, s_X9_image_32, s_X9_image_33, s_X9_image_36, s_X9_image_37, s_X9_image_38, s_X9_image_41, s_X9_image_42, s_X9_image_43, s_X9_image_44, s_X9_image_45, s_X9_image_48, s_X9_image_49, s_X9_image_50, s_X9_image_51, s_X9_image_54, s_X9_image_55, s_X9_image_56, s_X9_image_57, s_X9_image_60, s_X9_image_61, s_X9_image_63, s_X9_image_65, s_X9_image_68, s_X9_image_69, s_X9_image_72, s_X9_image_73, s_X9_image_75, s_X9_image_76, s_X9_image_77, s_X9_image_78, s_X9_image_79, s_X9_image_82, s_X9_image_83, s_X9_image_84, s_X9_image_85, s_X9_image_86, s_X9_image_89, s_X9_image_90, s_X9_image_92, s_X9_image_93, s_X9_image_94, s_X9_image_95, s_X9_image_96, s_X9_image_99, s_X9_image_100, s_X9_image_101, s_X9_image_102, s_X9_image_103, s_X9_image_106, s_X9_image_107, s_X9_image_109, s_X9_image_110, s_X9_image_111, s_X9_image_112, s_X9_image_113, s_X9_image_116, s_X9_image_117, s_X9_image_118, s_X9_image_119, s_X9_image_120, s_X9_image_123, s_X9_image_124, s_X9_image_126, s_X9_image_127, s_X9_image_128, s_X9_image_129, s_X9_image_130, s_X9_image_133, s_X9_image_134, s_X9_image_135, s_X9_image_136, s_X9_image_139, s_X9_image_142, s_X9_image_143, s_X9_image_145, s_X9_image_148, s_X9_image_151, s_X9_image_152, s_X9_image_155, s_X9_image_156, s_X9_image_158, s_X9_image_159, s_X9_image_160, s_X9_image_161, s_X9_image_162, s_X9_image_165, s_X9_image_166, s_X9_image_167, s_X9_image_168, s_X9_image_171, s_X9_image_174, s_X9_image_175, zI_0, Bool.true_eq_false, Bool.false_eq_true, not_true_eq_false, not_false_eq_true, if_true, if_false, KV_ap, KU_ap, dropL_nil, p_in, le_1, g1, hS_pI, hF_pI, s.1, r25, r26, f2', f18', s17, s18, bi, m210, cl_nI (show i < 2147483648 by omega), cl_nI (show 210 * i < 2147483648 by omega), cl_nI (show 210 * i + 1 < 2147483648 by omega), ib (210 * i) (by omega), ib (210 * i + 1) (by omega), e17, hI_pIs, pI_pI, a1, i2]
    generalize hK : upd (hI h (M + 18)) i 1 = K18
    generalize hF1 : upd (upd (hI h (M + 17)) (210 * i) (nI N.length)) (210 * i + 1) (nI P.length) = F1
    have sA : sM (pI (pI h (M + 18) K18) (M + 17) F1) M := s
    rw [p_lay4 (a := 210 * i + 2) sA sh f1' (by decide) s17 (by omega) (by decide), KU_ap]
    have w2 : ∀ f f', hI (pI (pI h (M + 18) f) (M + 17) f') (M + 2) = hI h (M + 2) := fun f f' => by rw [hI_pI, if_neg (by omega), hI_pI, if_neg (by omega)]
    have w3 : ∀ f f', hI (pI (pI h (M + 18) f) (M + 17) f') (M + 3) = hI h (M + 3) := fun f f' => by rw [hI_pI, if_neg (by omega), hI_pI, if_neg (by omega)]
    have w4 : ∀ f f', hI (pI (pI h (M + 18) f) (M + 17) f') (M + 4) = hI h (M + 4) := fun f f' => by rw [hI_pI, if_neg (by omega), hI_pI, if_neg (by omega)]
    have w5 : ∀ f f', hI (pI (pI h (M + 18) f) (M + 17) f') (M + 5) = hI h (M + 5) := fun f f' => by rw [hI_pI, if_neg (by omega), hI_pI, if_neg (by omega)]
    have w6 : ∀ f f', hI (pI (pI h (M + 18) f) (M + 17) f') (M + 6) = hI h (M + 6) := fun f f' => by rw [hI_pI, if_neg (by omega), hI_pI, if_neg (by omega)]
    have w7 : ∀ f f', hI (pI (pI h (M + 18) f) (M + 17) f') (M + 7) = hI h (M + 7) := fun f f' => by rw [hI_pI, if_neg (by omega), hI_pI, if_neg (by omega)]
    have w8 : ∀ f f', hI (pI (pI h (M + 18) f) (M + 17) f') (M + 8) = hI h (M + 8) := fun f f' => by rw [hI_pI, if_neg (by omega), hI_pI, if_neg (by omega)]
    have w9 : ∀ f f', hI (pI (pI h (M + 18) f) (M + 17) f') (M + 9) = hI h (M + 9) := fun f f' => by rw [hI_pI, if_neg (by omega), hI_pI, if_neg (by omega)]
    have w12 : ∀ f f', hI (pI (pI h (M + 18) f) (M + 17) f') (M + 12) = hI h (M + 12) := fun f f' => by rw [hI_pI, if_neg (by omega), hI_pI, if_neg (by omega)]
    rw [w2, w3, w4, w5, hI_pIs, pI_pI]
    generalize hF2 : lyF F1 (210 * i + 2) (nI L.length) (hI h (M + 2)) (hI h (M + 3)) (hI h (M + 4)) (hI h (M + 5)) 6 = F2
    simp only [s_X9_image_0, s_X9_image_1, s_X9_image_2, s_X9_image_3, s_X9_image_6, s_X9_image_9, s_X9_image_10, s_X9_image_13, s_X9_image_14, s_X9_image_17, s_X9_image_18, s_X9_image_19, s_X9_image_20, s_X9_image_21, s_X9_image_24, s_X9_image_25, s_X9_image_26, s_X9_image_27, s_X9_image_28, s_X9_image_31, s_X9_image_32, s_X9_image_33, s_X9_image_36, s_X9_image_37, s_X9_image_38, s_X9_image_41, s_X9_image_42, s_X9_image_43, s_X9_image_44, s_X9_image_45, s_X9_image_48, s_X9_image_49, s_X9_image_50, s_X9_image_51, s_X9_image_54, s_X9_image_55, s_X9_image_56, s_X9_image_57, s_X9_image_60, s_X9_image_61, s_X9_image_63, s_X9_image_65, s_X9_image_68, s_X9_image_69, s_X9_image_72, s_X9_image_73, s_X9_image_75, s_X9_image_76, s_X9_image_77, s_X9_image_78, s_X9_image_79, s_X9_image_82, s_X9_image_83, s_X9_image_84, s_X9_image_85, s_X9_image_86, s_X9_image_89, s_X9_image_90, s_X9_image_92, s_X9_image_93, s_X9_image_94, s_X9_image_95, s_X9_image_96, s_X9_image_99, s_X9_image_100, s_X9_image_101, s_X9_image_102, s_X9_image_103, s_X9_image_106, s_X9_image_107, s_X9_image_109, s_X9_image_110, s_X9_image_111, s_X9_image_112, s_X9_image_113, s_X9_image_116, s_X9_image_117, s_X9_image_118, s_X9_image_119, s_X9_image_120, s_X9_image_123, s_X9_image_124, s_X9_image_126, s_X9_image_127, s_X9_image_128, s_X9_image_129, s_X9_image_130, s_X9_image_133, s_X9_image_134, s_X9_image_135, s_X9_image_136, s_X9_image_139, s_X9_image_142, s_X9_image_143, s_X9_image_145, s_X9_image_148, s_X9_image_151, s_X9_image_152, s_X9_image_155, s_X9_image_156, s_X9_image_158, s_X9_image_159, s_X9_image_160, s_X9_image_161, s_X9_image_162, s_X9_image_165, s_X9_image_166, s_X9_image_167, s_X9_image_168, s_X9_image_171, s_X9_image_174, s_X9_image_175, zI_0, Bool.true_eq_false, Bool.false_eq_true, not_true_eq_false, not_false_eq_true, if_true, if_false, KV_ap, KU_ap, dropL_nil]
    have key1 := J_it0 (fun x (_ : Unit) => J g k_X9_image 62 [.ref M, .int (nI i), .int (nI (210 * i)), .int (nI x)] [] [] (pI (pI h (M + 18) K18) (M + 17) (lyF F2 (210 * i + 26) (F2 (210 * i + 26)) (hI h (M + 6)) (hI h (M + 7)) (hI h (M + 8)) (hI h (M + 9)) x)) Φ) (fun _ q => q) 6 (fun x _ hx => by
      have b6 : m_inb (nI x) 6 = true := by rw [inb_nI (by omega)]; simpa using hx
      have ls := lyF_s (f := F2) (a := 210 * i + 26) (n := F2 (210 * i + 26)) (K := hI h (M + 6)) (N := hI h (M + 7)) (I := hI h (M + 8)) (W := hI h (M + 9)) hx
      rw [show 210 * i + 26 + 1 + x = 210 * i + 27 + x by omega, show 210 * i + 26 + 7 + x = 210 * i + 33 + x by omega, show 210 * i + 26 + 13 + x = 210 * i + 39 + x by omega, show 210 * i + 26 + 19 + x = 210 * i + 45 + x by omega] at ls
      rw [s_X9_image_62]
      simp only [s_X9_image_0, s_X9_image_1, s_X9_image_2, s_X9_image_3, s_X9_image_6, s_X9_image_9, s_X9_image_10, s_X9_image_13, s_X9_image_14, s_X9_image_17, s_X9_image_18, s_X9_image_19, s_X9_image_20, s_X9_image_21, s_X9_image_24, s_X9_image_25, s_X9_image_26, s_X9_image_27, s_X9_image_28, s_X9_image_31, s_X9_image_32, s_X9_image_33, s_X9_image_36, s_X9_image_37, s_X9_image_38, s_X9_image_41, s_X9_image_42, s_X9_image_43, s_X9_image_44, s_X9_image_45, s_X9_image_48, s_X9_image_49, s_X9_image_50, s_X9_image_51, s_X9_image_54, s_X9_image_55, s_X9_image_56, s_X9_image_57, s_X9_image_60, s_X9_image_61, s_X9_image_63, s_X9_image_65, s_X9_image_68, s_X9_image_69, s_X9_image_72, s_X9_image_73, s_X9_image_75, s_X9_image_76, s_X9_image_77, s_X9_image_78, s_X9_image_79, s_X9_image_82, s_X9_image_83, s_X9_image_84, s_X9_image_85, s_X9_image_86, s_X9_image_89, s_X9_image_90, s_X9_image_92, s_X9_image_93, s_X9_image_94, s_X9_image_95, s_X9_image_96, s_X9_image_99, s_X9_image_100, s_X9_image_101, s_X9_image_102, s_X9_image_103, s_X9_image_106, s_X9_image_107, s_X9_image_109, s_X9_image_110, s_X9_image_111, s_X9_image_112, s_X9_image_113, s_X9_image_116, s_X9_image_117, s_X9_image_118, s_X9_image_119, s_X9_image_120, s_X9_image_123, s_X9_image_124, s_X9_image_126, s_X9_image_127, s_X9_image_128, s_X9_image_129, s_X9_image_130, s_X9_image_133, s_X9_image_134, s_X9_image_135, s_X9_image_136, s_X9_image_139, s_X9_image_142, s_X9_image_143, s_X9_image_145, s_X9_image_148, s_X9_image_151, s_X9_image_152, s_X9_image_155, s_X9_image_156, s_X9_image_158, s_X9_image_159, s_X9_image_160, s_X9_image_161, s_X9_image_162, s_X9_image_165, s_X9_image_166, s_X9_image_167, s_X9_image_168, s_X9_image_171, s_X9_image_174, s_X9_image_175, zI_0, Bool.true_eq_false, Bool.false_eq_true, not_true_eq_false, not_false_eq_true, if_true, if_false, KV_ap, KU_ap, dropL_nil, hS_pI, hF_pI, s.1, r25, s.2.2.2.2.2.2.1, s.2.2.2.2.2.2.2.1, s.2.2.2.2.2.2.2.2.1, s.2.2.2.2.2.2.2.2.2.1, c6' x (by omega), if_neg (Nat.not_le.mpr hx), q6, q7, q8, q9, s17, b6, i27, i33, i39, i45, i_add, ib (210 * i + 27 + x) (by omega), ib (210 * i + 33 + x) (by omega), ib (210 * i + 39 + x) (by omega), ib (210 * i + 45 + x) (by omega), cl_nI (show x < 2147483648 by omega), cl_nI (show 210 * i + 27 + x < 2147483648 by omega), cl_nI (show 210 * i + 33 + x < 2147483648 by omega), cl_nI (show 210 * i + 39 + x < 2147483648 by omega), cl_nI (show 210 * i + 45 + x < 2147483648 by omega), w6, w7, w8, w9, hI_pIs, pI_pI, a1, ls]) ()
    rw [← lyF_0, upd_id rfl] at key1
    refine Eq.mpr key1 ?_
    generalize hF3 : lyF F2 (210 * i + 26) (F2 (210 * i + 26)) (hI h (M + 6)) (hI h (M + 7)) (hI h (M + 8)) (hI h (M + 9)) 6 = F3
    rw [s_X9_image_62]
    simp only [s_X9_image_0, s_X9_image_1, s_X9_image_2, s_X9_image_3, s_X9_image_6, s_X9_image_9, s_X9_image_10, s_X9_image_13, s_X9_image_14, s_X9_image_17, s_X9_image_18, s_X9_image_19, s_X9_image_20, s_X9_image_21, s_X9_image_24, s_X9_image_25, s_X9_image_26, s_X9_image_27, s_X9_image_28, s_X9_image_31, s_X9_image_32, s_X9_image_33, s_X9_image_36, s_X9_image_37, s_X9_image_38, s_X9_image_41, s_X9_image_42, s_X9_image_43, s_X9_image_44, s_X9_image_45, s_X9_image_48, s_X9_image_49, s_X9_image_50, s_X9_image_51, s_X9_image_54, s_X9_image_55, s_X9_image_56, s_X9_image_57, s_X9_image_60, s_X9_image_61, s_X9_image_63, s_X9_image_65, s_X9_image_68, s_X9_image_69, s_X9_image_72, s_X9_image_73, s_X9_image_75, s_X9_image_76, s_X9_image_77, s_X9_image_78, s_X9_image_79, s_X9_image_82, s_X9_image_83, s_X9_image_84, s_X9_image_85, s_X9_image_86, s_X9_image_89, s_X9_image_90, s_X9_image_92, s_X9_image_93, s_X9_image_94, s_X9_image_95, s_X9_image_96, s_X9_image_99, s_X9_image_100, s_X9_image_101, s_X9_image_102, s_X9_image_103, s_X9_image_106, s_X9_image_107, s_X9_image_109, s_X9_image_110, s_X9_image_111, s_X9_image_112, s_X9_image_113, s_X9_image_116, s_X9_image_117, s_X9_image_118, s_X9_image_119, s_X9_image_120, s_X9_image_123, s_X9_image_124, s_X9_image_126, s_X9_image_127, s_X9_image_128, s_X9_image_129, s_X9_image_130, s_X9_image_133, s_X9_image_134, s_X9_image_135, s_X9_image_136, s_X9_image_139, s_X9_image_142, s_X9_image_143, s_X9_image_145, s_X9_image_148, s_X9_image_151, s_X9_image_152, s_X9_image_155, s_X9_image_156, s_X9_image_158, s_X9_image_159, s_X9_image_160, s_X9_image_161, s_X9_image_162, s_X9_image_165, s_X9_image_166, s_X9_image_167, s_X9_image_168, s_X9_image_171, s_X9_image_174, s_X9_image_175, zI_0, Bool.true_eq_false, Bool.false_eq_true, not_true_eq_false, not_false_eq_true, if_true, if_false, KV_ap, KU_ap, dropL_nil, c6' 6 (by decide), Nat.le_refl]
    have key2 := J_it0 (fun x (_ : Unit) => J g k_X9_image 144 [.ref M, .int (nI i), .int (nI (210 * i)), .int (nI x)] [] [] (pI (pI h (M + 18) K18) (M + 17) (cyF F3 (hI h (M + 12)) (210 * i + 51) x)) Φ) (fun _ q => q) 150 (fun x _ hx => by
      have b150 : m_inb (nI x) 150 = true := by rw [inb_nI (by omega)]; simpa using hx
      rw [s_X9_image_144]
      simp only [s_X9_image_0, s_X9_image_1, s_X9_image_2, s_X9_image_3, s_X9_image_6, s_X9_image_9, s_X9_image_10, s_X9_image_13, s_X9_image_14, s_X9_image_17, s_X9_image_18, s_X9_image_19, s_X9_image_20, s_X9_image_21, s_X9_image_24, s_X9_image_25, s_X9_image_26, s_X9_image_27, s_X9_image_28, s_X9_image_31, s_X9_image_32, s_X9_image_33, s_X9_image_36, s_X9_image_37, s_X9_image_38, s_X9_image_41, s_X9_image_42, s_X9_image_43, s_X9_image_44, s_X9_image_45, s_X9_image_48, s_X9_image_49, s_X9_image_50, s_X9_image_51, s_X9_image_54, s_X9_image_55, s_X9_image_56, s_X9_image_57, s_X9_image_60, s_X9_image_61, s_X9_image_63, s_X9_image_65, s_X9_image_68, s_X9_image_69, s_X9_image_72, s_X9_image_73, s_X9_image_75, s_X9_image_76, s_X9_image_77, s_X9_image_78, s_X9_image_79, s_X9_image_82, s_X9_image_83, s_X9_image_84, s_X9_image_85, s_X9_image_86, s_X9_image_89, s_X9_image_90, s_X9_image_92, s_X9_image_93, s_X9_image_94, s_X9_image_95, s_X9_image_96, s_X9_image_99, s_X9_image_100, s_X9_image_101, s_X9_image_102, s_X9_image_103, s_X9_image_106, s_X9_image_107, s_X9_image_109, s_X9_image_110, s_X9_image_111, s_X9_image_112, s_X9_image_113, s_X9_image_116, s_X9_image_117, s_X9_image_118, s_X9_image_119, s_X9_image_120, s_X9_image_123, s_X9_image_124, s_X9_image_126, s_X9_image_127, s_X9_image_128, s_X9_image_129, s_X9_image_130, s_X9_image_133, s_X9_image_134, s_X9_image_135, s_X9_image_136, s_X9_image_139, s_X9_image_142, s_X9_image_143, s_X9_image_145, s_X9_image_148, s_X9_image_151, s_X9_image_152, s_X9_image_155, s_X9_image_156, s_X9_image_158, s_X9_image_159, s_X9_image_160, s_X9_image_161, s_X9_image_162, s_X9_image_165, s_X9_image_166, s_X9_image_167, s_X9_image_168, s_X9_image_171, s_X9_image_174, s_X9_image_175, zI_0, Bool.true_eq_false, Bool.false_eq_true, not_true_eq_false, not_false_eq_true, if_true, if_false, KV_ap, KU_ap, dropL_nil, hS_pI, hF_pI, s.1, r25, s.2.2.2.2.2.2.2.2.2.2.2.2.1, c150 x (by omega), if_neg (Nat.not_le.mpr hx), s12, s17, b150, i51, i_add, ib (210 * i + 51 + x) (by omega), cl_nI (show x < 2147483648 by omega), cl_nI (show 210 * i + 51 + x < 2147483648 by omega), w12, hI_pIs, pI_pI, a1, cyF_s]) ()
    rw [cyF_0] at key2
    refine Eq.mpr key2 ?_
    generalize hF4 : cyF F3 (hI h (M + 12)) (210 * i + 51) 150 = F4
    rw [s_X9_image_144]
    simp only [s_X9_image_0, s_X9_image_1, s_X9_image_2, s_X9_image_3, s_X9_image_6, s_X9_image_9, s_X9_image_10, s_X9_image_13, s_X9_image_14, s_X9_image_17, s_X9_image_18, s_X9_image_19, s_X9_image_20, s_X9_image_21, s_X9_image_24, s_X9_image_25, s_X9_image_26, s_X9_image_27, s_X9_image_28, s_X9_image_31, s_X9_image_32, s_X9_image_33, s_X9_image_36, s_X9_image_37, s_X9_image_38, s_X9_image_41, s_X9_image_42, s_X9_image_43, s_X9_image_44, s_X9_image_45, s_X9_image_48, s_X9_image_49, s_X9_image_50, s_X9_image_51, s_X9_image_54, s_X9_image_55, s_X9_image_56, s_X9_image_57, s_X9_image_60, s_X9_image_61, s_X9_image_63, s_X9_image_65, s_X9_image_68, s_X9_image_69, s_X9_image_72, s_X9_image_73, s_X9_image_75, s_X9_image_76, s_X9_image_77, s_X9_image_78, s_X9_image_79, s_X9_image_82, s_X9_image_83, s_X9_image_84, s_X9_image_85, s_X9_image_86, s_X9_image_89, s_X9_image_90, s_X9_image_92, s_X9_image_93, s_X9_image_94, s_X9_image_95, s_X9_image_96, s_X9_image_99, s_X9_image_100, s_X9_image_101, s_X9_image_102, s_X9_image_103, s_X9_image_106, s_X9_image_107, s_X9_image_109, s_X9_image_110, s_X9_image_111, s_X9_image_112, s_X9_image_113, s_X9_image_116, s_X9_image_117, s_X9_image_118, s_X9_image_119, s_X9_image_120, s_X9_image_123, s_X9_image_124, s_X9_image_126, s_X9_image_127, s_X9_image_128, s_X9_image_129, s_X9_image_130, s_X9_image_133, s_X9_image_134, s_X9_image_135, s_X9_image_136, s_X9_image_139, s_X9_image_142, s_X9_image_143, s_X9_image_145, s_X9_image_148, s_X9_image_151, s_X9_image_152, s_X9_image_155, s_X9_image_156, s_X9_image_158, s_X9_image_159, s_X9_image_160, s_X9_image_161, s_X9_image_162, s_X9_image_165, s_X9_image_166, s_X9_image_167, s_X9_image_168, s_X9_image_171, s_X9_image_174, s_X9_image_175, zI_0, Bool.true_eq_false, Bool.false_eq_true, not_true_eq_false, not_false_eq_true, if_true, if_false, KV_ap, KU_ap, dropL_nil, c150 150 (by decide), Nat.le_refl]
    obtain ⟨hmI, hout⟩ := mI_mk hl hn hp c d p hF1.symm hF2.symm hF3.symm hF4.symm
    have ex : ∀ x, x ≠ 17 → x ≠ 18 → hI (pI (pI h (M + 18) K18) (M + 17) F4) (M + x) = hI h (M + x) := fun x h1 h2 => by rw [hI_pI, if_neg (by omega), hI_pI, if_neg (by omega)]
    have e18 : hI (pI (pI h (M + 18) K18) (M + 17) F4) (M + 18) = K18 := by rw [hI_pI, if_neg (by omega), hI_pIs]
    refine k _ ⟨s, sh, ⟨f1, f2, f12, f18, f22, f23⟩, vt, ?_, ?_, ?_, ⟨t.1, ?_⟩, ?_, ?_, ?_⟩ (frm_pI (by omega) (by omega) (frm_pI (by omega) (by omega) (frm_rfl h _ _)))
    · rw [ex 2 (by decide) (by decide), ex 3 (by decide) (by decide), ex 4 (by decide) (by decide), ex 5 (by decide) (by decide)]; exact c
    · rw [ex 6 (by decide) (by decide), ex 7 (by decide) (by decide), ex 8 (by decide) (by decide), ex 9 (by decide) (by decide)]; exact d
    · rw [ex 12 (by decide) (by decide)]; exact p
    · rw [ex 10 (by decide) (by decide)]; exact t.2
    · rw [ex 1 (by decide) (by decide)]; exact rr
    · intro z hz hnone
      rw [e18, ← hK]
      have hnone' : (if z = i then some (L, N, P) else im z) = none := hnone
      by_cases ez : z = i
      · rw [if_pos ez] at hnone'; exact absurd hnone' (by simp)
      · rw [if_neg ez] at hnone'
        rw [upd, if_neg ez]
        exact i0 z hz hnone'
    · intro z hz T hT
      rw [e18, hI_pIs, ← hK]
      have hT' : (if z = i then some (L, N, P) else im z) = some T := hT
      by_cases ez : z = i
      · rw [if_pos ez] at hT'
        have := Option.some.inj hT'
        subst this
        subst ez
        refine ⟨by rw [upd, if_pos rfl], vt, hmI⟩
      · rw [if_neg ez] at hT'
        obtain ⟨a1', a2', a3'⟩ := i1 z hz T hT'
        refine ⟨by rw [upd, if_neg ez]; exact a1', a2', ?_⟩
        obtain ⟨b1, b2, b3, b4, b5⟩ := a3'
        have hb : ∀ y, y < 210 → F4 (210 * z + y) = hI h (M + 17) (210 * z + y) := fun y hy => hout _ (by omega)
        refine ⟨?_, ?_, ?_, ?_, ?_⟩
        · show F4 (210 * z + 0) = _; rw [hb 0 (by decide)]; exact b1
        · show F4 (210 * z + 1) = _; rw [hb 1 (by decide)]; exact b2
        · refine mR_congr a2'.1 (fun y hy => ?_) b3
          exact hb (2 + y) (by omega)
        · intro y hy
          have hy6 := a2'.2.1
          have := b4 y hy
          show F4 (210 * z + (27 + y)) = _ ∧ F4 (210 * z + (33 + y)) = _ ∧ F4 (210 * z + (39 + y)) = _ ∧ F4 (210 * z + (45 + y)) = _
          rw [hb (27 + y) (by omega), hb (33 + y) (by omega), hb (39 + y) (by omega), hb (45 + y) (by omega)]
          exact this
        · intro y hy
          have hy6 := a2'.2.2.1
          obtain ⟨r, v', l⟩ := b5 y hy
          exact ⟨mR_congr l (fun w hw => hb (51 + (25 * y + w)) (by omega)) r, v', l⟩

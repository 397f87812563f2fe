/-! The model's calls: from -/
/-- the columns of the notes changed, nothing else -/
def clN (h h' : HP) (M : Nat) (F0 F1 F2 F3 : Nat → Int32) : Prop := (∀ x, hS h' x = hS h x) ∧ (∀ x j, hF h' x j = hF h x j) ∧ (∀ x, x ≠ 6 → x ≠ 7 → x ≠ 8 → x ≠ 9 → hI h' (M + x) = hI h (M + x)) ∧ hI h' (M + 6) = F0 ∧ hI h' (M + 7) = F1 ∧ hI h' (M + 8) = F2 ∧ hI h' (M + 9) = F3 ∧ frm h h' M (M + 19)
theorem clN_up {h h' : HP} {M : Nat} {F0 F1 F2 F3 : Nat → Int32} (G0 G1 G2 G3 : Nat → Int32) (q : clN h h' M F0 F1 F2 F3) : clN h (pI (pI (pI (pI h' (M + 6) G0) (M + 7) G1) (M + 8) G2) (M + 9) G3) M G0 G1 G2 G3 := by
  obtain ⟨q1, q2, q3, q4, q5, q6, q7, q8⟩ := q
  refine ⟨q1, q2, ?_, ?_, ?_, ?_, ?_, ?_⟩
  · intro x h2 h3 h4 h5
    simp only [hI_pI, Nat.add_left_cancel_iff, h2, h3, h4, h5, if_false]
    exact q3 x h2 h3 h4 h5
  · simp only [hI_pI, Nat.add_left_cancel_iff, Nat.reduceEqDiff, if_false, if_true]
  · simp only [hI_pI, Nat.add_left_cancel_iff, Nat.reduceEqDiff, if_false, if_true]
  · simp only [hI_pI, Nat.add_left_cancel_iff, Nat.reduceEqDiff, if_false, if_true]
  · simp only [hI_pI, Nat.add_left_cancel_iff, Nat.reduceEqDiff, if_false, if_true]
  · exact frm_pI (by omega) (by omega) (frm_pI (by omega) (by omega) (frm_pI (by omega) (by omega) (frm_pI (by omega) (by omega) q8)))
theorem clN_rfl (h : HP) (M : Nat) : clN h h M (hI h (M + 6)) (hI h (M + 7)) (hI h (M + 8)) (hI h (M + 9)) := ⟨fun _ => rfl, fun _ _ => rfl, fun _ _ _ _ _ => rfl, rfl, rfl, rfl, rfl, frm_rfl h _ _⟩
theorem clN_sM {h h' : HP} {M : Nat} {F0 F1 F2 F3 : Nat → Int32} (q : clN h h' M F0 F1 F2 F3) (s : sM h M) : sM h' M := by
  unfold sM
  simp only [q.1, q.2.1]
  exact s
theorem m_from (v : Int32) : cM k_X9_from [.int v, m_D, m_D] (aFrom v) := by
  intro g h M u Φ hM k
  have hM' := hM
  obtain ⟨⟨L, N, P⟩, im, tx, fr, rf⟩ := u
  cases g1 : decide (0 ≤ v ∧ v < 2)
  · have e : aFrom v ((L, N, P), im, tx, fr, rf) = (.int (-2), bdU ((L, N, P), im, tx, fr, rf) 0) := by simp only [aFrom, g1, Bool.false_eq_true, if_false]
    rw [e] at k
    simp only [s_X9_from_0, s_X9_from_1, s_X9_from_2, s_X9_from_3, s_X9_from_6, s_X9_from_9, s_X9_from_10, s_X9_from_13, s_X9_from_14, s_X9_from_15, s_X9_from_18, s_X9_from_19, s_X9_from_20, s_X9_from_23, s_X9_from_24, s_X9_from_27, s_X9_from_28, s_X9_from_31, s_X9_from_32, s_X9_from_33, s_X9_from_34, s_X9_from_35, s_X9_from_36, s_X9_from_39, s_X9_from_40, s_X9_from_41, s_X9_from_44, s_X9_from_45, s_X9_from_46, s_X9_from_49, s_X9_from_50, s_X9_from_51, s_X9_from_52, s_X9_from_53, s_X9_from_56, s_X9_from_57, s_X9_from_58, s_X9_from_61, s_X9_from_62, s_X9_from_63, s_X9_from_64, s_X9_from_67, s_X9_from_68, s_X9_from_70, s_X9_from_72, s_X9_from_75, s_X9_from_76, s_X9_from_79, s_X9_from_80, s_X9_from_81, s_X9_from_84, s_X9_from_85, s_X9_from_87, s_X9_from_88, s_X9_from_89, s_X9_from_90, s_X9_from_91, s_X9_from_92, s_X9_from_93, s_X9_from_96, s_X9_from_97, s_X9_from_98, s_X9_from_101, s_X9_from_102, s_X9_from_104, s_X9_from_105, s_X9_from_106, s_X9_from_107, s_X9_from_108, s_X9_from_109, s_X9_from_110, s_X9_from_113, s_X9_from_114, s_X9_from_115, s_X9_from_118, s_X9_from_119, s_X9_from_121, s_X9_from_122, s_X9_from_123, s_X9_from_124, s_X9_from_125, s_X9_from_126, s_X9_from_127, s_X9_from_130, s_X9_from_131, s_X9_from_132, s_X9_from_135, s_X9_from_136, s_X9_from_138, s_X9_from_139, s_X9_from_140, s_X9_from_141, s_X9_from_142, s_X9_from_143, s_X9_from_146, s_X9_from_149, s_X9_from_150, s_X9_from_152, s_X9_from_155, s_X9_from_158, s_X9_from_159, s_X9_from_162, s_X9_from_163, s_X9_from_164, s_X9_from_167, s_X9_from_168, s_X9_from_170, s_X9_from_171, s_X9_from_172, s_X9_from_173, s_X9_from_174, s_X9_from_175, s_X9_from_178, s_X9_from_181, s_X9_from_182, zI_0, Bool.true_eq_false, Bool.false_eq_true, not_true_eq_false, not_false_eq_true, if_true, if_false, KV_ap, KU_ap, dropL_nil, p_in, le_1, g1, hM.1.1]
    exact p_bad hM (fun h' hM' hf => by simp only [KV_ap, s_X9_from_0, s_X9_from_1, s_X9_from_2, s_X9_from_3, s_X9_from_6, s_X9_from_9, s_X9_from_10, s_X9_from_13, s_X9_from_14, s_X9_from_15, s_X9_from_18, s_X9_from_19, s_X9_from_20, s_X9_from_23, s_X9_from_24, s_X9_from_27, s_X9_from_28, s_X9_from_31, s_X9_from_32, s_X9_from_33, s_X9_from_34, s_X9_from_35, s_X9_from_36, s_X9_from_39, s_X9_from_40, s_X9_from_41, s_X9_from_44, s_X9_from_45, s_X9_from_46, s_X9_from_49, s_X9_from_50, s_X9_from_51, s_X9_from_52, s_X9_from_53, s_X9_from_56, s_X9_from_57, s_X9_from_58, s_X9_from_61, s_X9_from_62, s_X9_from_63, s_X9_from_64, s_X9_from_67, s_X9_from_68, s_X9_from_70, s_X9_from_72, s_X9_from_75, s_X9_from_76, s_X9_from_79, s_X9_from_80, s_X9_from_81, s_X9_from_84, s_X9_from_85, s_X9_from_87, s_X9_from_88, s_X9_from_89, s_X9_from_90, s_X9_from_91, s_X9_from_92, s_X9_from_93, s_X9_from_96, s_X9_from_97, s_X9_from_98, s_X9_from_101, s_X9_from_102, s_X9_from_104, s_X9_from_105, s_X9_from_106, s_X9_from_107, s_X9_from_108, s_X9_from_109, s_X9_from_110, s_X9_from_113, s_X9_from_114, s_X9_from_115, s_X9_from_118, s_X9_from_119, s_X9_from_121, s_X9_from_122, s_X9_from_123, s_X9_from_124, s_X9_from_125, s_X9_from_126, s_X9_from_127, s_X9_from_130, s_X9_from_131, s_X9_from_132, s_X9_from_135, s_X9_from_136, s_X9_from_138, s_X9_from_139, s_X9_from_140, s_X9_from_141, s_X9_from_142, s_X9_from_143, s_X9_from_146, s_X9_from_149, s_X9_from_150, s_X9_from_152, s_X9_from_155, s_X9_from_158, s_X9_from_159, s_X9_from_162, s_X9_from_163, s_X9_from_164, s_X9_from_167, s_X9_from_168, s_X9_from_170, s_X9_from_171, s_X9_from_172, s_X9_from_173, s_X9_from_174, s_X9_from_175, s_X9_from_178, s_X9_from_181, s_X9_from_182]; exact k h' hM' hf)
  · obtain ⟨i, ei, hi⟩ := hs_ex (n := 2) (by decide) g1
    have cli : v.toNatClampNeg = i := by rw [ei]; exact cl_nI (by omega)
    obtain ⟨s, sh, ⟨f1, f2, f12, f18, f22, f23⟩, vt, c, d, p, t, rr, i0, i1⟩ := hM
    have s17 : hS h (M + 17) = (1, 420) := sh.2.2.2.2.2.2.2.2.2.1
    have s18 : hS h (M + 18) = (1, 2) := sh.2.2.2.2.2.2.2.2.2.2
    have s12 : hS h (M + 12) = (1, 150) := sh.2.2.2.2.1
    have r25 : hF h M 25 = .ref (M + 17) := s.2.2.2.2.2.2.2.2.2.2.2.2.2.2.2.2.2.1
    have r26 : hF h M 26 = .ref (M + 18) := s.2.2.2.2.2.2.2.2.2.2.2.2.2.2.2.2.2.2
    have bi : m_inb (nI i) 2 = true := by rw [inb_nI (by omega)]; simpa using hi
    cases him : im i with
    | none =>
      have e : aFrom v ((L, N, P), im, tx, fr, rf) = (.int (-3), bdU ((L, N, P), im, tx, fr, rf) 1) := by
        simp only [aFrom, g1, if_true, cli, him]
      rw [e] at k
      have z := i0 i hi him
      subst ei
      simp only [s_X9_from_0, s_X9_from_1, s_X9_from_2, s_X9_from_3, s_X9_from_6, s_X9_from_9, s_X9_from_10, s_X9_from_13, s_X9_from_14, s_X9_from_15, s_X9_from_18, s_X9_from_19, s_X9_from_20, s_X9_from_23, s_X9_from_24, s_X9_from_27, s_X9_from_28, s_X9_from_31, s_X9_from_32, s_X9_from_33, s_X9_from_34, s_X9_from_35, s_X9_from_36, s_X9_from_39, s_X9_from_40, s_X9_from_41, s_X9_from_44, s_X9_from_45, s_X9_from_46, s_X9_from_49, s_X9_from_50, s_X9_from_51, s_X9_from_52, s_X9_from_53, s_X9_from_56, s_X9_from_57, s_X9_from_58, s_X9_from_61, s_X9_from_62, s_X9_from_63, s_X9_from_64, s_X9_from_67, s_X9_from_68, s_X9_from_70, s_X9_from_72, s_X9_from_75, s_X9_from_76, s_X9_from_79, s_X9_from_80, s_X9_from_81, s_X9_from_84, s_X9_from_85, s_X9_from_87, s_X9_from_88, s_X9_from_89, s_X9_from_90, s_X9_from_91, s_X9_from_92, s_X9_from_93, s_X9_from_96, s_X9_from_97, s_X9_from_98, s_X9_from_101, s_X9_from_102, s_X9_from_104, s_X9_from_105, s_X9_from_106, s_X9_from_107, s_X9_from_108, s_X9_from_109, s_X9_from_110, s_X9_from_113, s_X9_from_114, s_X9_from_115, s_X9_from_118, s_X9_from_119, s_X9_from_121, s_X9_from_122, s_X9_from_123, s_X9_from_124, s_X9_from_125, s_X9_from_126, s_X9_from_127, s_X9_from_130, s_X9_from_131, s_X9_from_132, s_X9_from_135, s_X9_from_136, s_X9_from_138, s_X9_from_139, s_X9_from_140, s_X9_from_141, s_X9_from_142, s_X9_from_143, s_X9_from_146, s_X9_from_149, s_X9_from_150, s_X9_from_152, s_X9_from_155, s_X9_from_158, s_X9_from_159, s_X9_from_162, s_X9_from_163, s_X9_from_164, s_X9_from_167, s_X9_from_168, s_X9_from_170, s_X9_from_171, s_X9_from_172, s_X9_from_173, s_X9_from_174, s_X9_from_175, s_X9_from_178, s_X9_from_181, s_X9_from_182, zI_0, Bool.true_eq_false, Bool.false_eq_true, not_true_eq_false, not_false_eq_true, if_true, if_false, KV_ap, KU_ap, dropL_nil, p_in, le_1, g1, s.1, r26, s18, bi, cl_nI (show i < 2147483648 by omega), z]
      exact p_no hM' (fun h' hM' hf => by simp only [KV_ap, s_X9_from_0, s_X9_from_1, s_X9_from_2, s_X9_from_3, s_X9_from_6, s_X9_from_9, s_X9_from_10, s_X9_from_13, s_X9_from_14, s_X9_from_15, s_X9_from_18, s_X9_from_19, s_X9_from_20, s_X9_from_23, s_X9_from_24, s_X9_from_27, s_X9_from_28, s_X9_from_31, s_X9_from_32, s_X9_from_33, s_X9_from_34, s_X9_from_35, s_X9_from_36, s_X9_from_39, s_X9_from_40, s_X9_from_41, s_X9_from_44, s_X9_from_45, s_X9_from_46, s_X9_from_49, s_X9_from_50, s_X9_from_51, s_X9_from_52, s_X9_from_53, s_X9_from_56, s_X9_from_57, s_X9_from_58, s_X9_from_61, s_X9_from_62, s_X9_from_63, s_X9_from_64, s_X9_from_67, s_X9_from_68, s_X9_from_70, s_X9_from_72, s_X9_from_75, s_X9_from_76, s_X9_from_79, s_X9_from_80, s_X9_from_81, s_X9_from_84, s_X9_from_85, s_X9_from_87, s_X9_from_88, s_X9_from_89, s_X9_from_90, s_X9_from_91, s_X9_from_92, s_X9_from_93, s_X9_from_96, s_X9_from_97, s_X9_from_98, s_X9_from_101, s_X9_from_102, s_X9_from_104, s_X9_from_105, s_X9_from_106, s_X9_from_107, s_X9_from_108, s_X9_from_109, s_X9_from_110, s_X9_from_113, s_X9_from_114, s_X9_from_115, s_X9_from_118, s_X9_from_119, s_X9_from_121, s_X9_from_122, s_X9_from_123, s_X9_from_124, s_X9_from_125, s_X9_from_126, s_X9_from_127, s_X9_from_130, s_X9_from_131, s_X9_from_132, s_X9_from_135, s_X9_from_136, s_X9_from_138, s_X9_from_139, s_X9_from_140, s_X9_from_141, s_X9_from_142, s_X9_from_143, s_X9_from_146, s_X9_from_149, s_X9_from_150, s_X9_from_152, s_X9_from_155, s_X9_from_158, s_X9_from_159, s_X9_from_162, s_X9_from_163, s_X9_from_164, s_X9_from_167, s_X9_from_168, s_X9_from_170, s_X9_from_171, s_X9_from_172, s_X9_from_173, s_X9_from_174, s_X9_from_175, s_X9_from_178, s_X9_from_181, s_X9_from_182]; exact k h' hM' hf)
    | some T =>
      have e : aFrom v ((L, N, P), im, tx, fr, rf) = (.int 1, (T, im, tx, fr, rf)) := by
        simp only [aFrom, g1, if_true, cli, him]
      rw [e] at k
      obtain ⟨z, vT', ⟨b1, b2, b3, b4, b5⟩⟩ := i1 i hi T him
      have b1' : hI h (M + 17) (210 * i) = nI T.2.1.length := b1
      have b2' : hI h (M + 17) (210 * i + 1) = nI T.2.2.length := b2
      have b3' : hI h (M + 17) (210 * i + 2) = nI T.1.length := b3.1
      have hl : T.1.length ≤ 6 := vT'.1
      have hn : T.2.1.length ≤ 6 := vT'.2.1
      have hp : T.2.2.length ≤ 6 := vT'.2.2.1
      subst ei
      have ib : ∀ x, x < 420 → m_inb (nI x) 420 = true := fun x hx => by rw [inb_nI (by omega)]; simpa using hx
      have m210 : ∀ x : Nat, (210 : Int32) * nI x = nI (210 * x) := fun x => i_mul 210 x
      have i2 : ∀ x : Nat, nI x + (2 : Int32) = nI (x + 2) := fun x => i_add x 2
      have i27 : ∀ x : Nat, nI x + (27 : Int32) = nI (x + 27) := fun x => i_add x 27
      have i33 : ∀ x : Nat, nI x + (33 : Int32) = nI (x + 33) := fun x => i_add x 33
      have i39 : ∀ x : Nat, nI x + (39 : Int32) = nI (x + 39) := fun x => i_add x 39
      have i45 : ∀ x : Nat, nI x + (45 : Int32) = nI (x + 45) := fun x => i_add x 45
      have i51 : ∀ x : Nat, nI x + (51 : Int32) = nI (x + 51) := fun x => i_add x 51
      have c6' : ∀ k : Nat, k < 2147483648 → ((6 : Int32) ≤ nI k) = (6 ≤ k) := fun k hk => le_nI (show 6 < 2147483648 by decide) hk
      have c150 : ∀ k : Nat, k < 2147483648 → ((150 : Int32) ≤ nI k) = (150 ≤ k) := fun k hk => le_nI (show 150 < 2147483648 by decide) hk
      have q6 := sh.2.1 6 (by decide) (by decide)
      have q7 := sh.2.1 7 (by decide) (by decide)
      have q8 := sh.2.1 8 (by decide) (by decide)
      have q9 := sh.2.1 9 (by decide) (by decide)
      have one0 : ((1 : Int32) = 0) = False := by decide
      have go2 : ∀ (h : HP) v, hF (pF h M 2 v) M 25 = hF h M 25 := fun h v => by rw [hF_pF, if_neg (by omega)]
      have go18 : ∀ (h : HP) v, hF (pF h M 18 v) M 25 = hF h M 25 := fun h v => by rw [hF_pF, if_neg (by omega)]
      simp only [s_X9_from_0, s_X9_from_1, s_X9_from_2, s_X9_from_3, s_X9_from_6, s_X9_from_9, s_X9_from_10, s_X9_from_13, s_X9_from_14, s_X9_from_15, s_X9_from_18, s_X9_from_19, s_X9_from_20, s_X9_from_23, s_X9_from_24, s_X9_from_27, s_X9_from_28, s_X9_from_31, s_X9_from_32, s_X9_from_33, s_X9_from_34, s_X9_from_35, s_X9_from_36, s_X9_from_39, s_X9_from_40, s_X9_from_41, s_X9_from_44, s_X9_from_45, s_X9_from_46, s_X9_from_49, s_X9_from_50, s_X9_from_51, s_X9_from_52, s_X9_from_53, s_X9_from_56, s_X9_from_57, s_X9_from_58, s_X9_from_61, s_X9_from_62, s_X9_from_63, s_X9_from_64, s_X9_from_67, s_X9_from_68, s_X9_from_70, s_X9_from_72, s_X9_from_75, s_X9_from_76, s_X9_from_79, s_X9_from_80, s_X9_from_81, s_X9_from_84, s_X9_from_85, s_X9_from_87, s_X9_from_88, s_X9_from_89, s_X9_from_90, s_X9_from_91, s_X9_from_92, s_X9_from_93, s_X9_from_96, s_X9_from_97, s_X9_from_98, s_X9_from_101, s_X9_from_102, s_X9_from_104, s_X9_from_105, s_X9_from_106, s_X9_from_107, s_X9_from_108, s_X9_from_109, s_X9_from_110, s_X9_from_113, s_X9_from_114, s_X9_from_115, s_X9_from_118, s_X9_from_119, s_X9_from_121, s_X9_from_122, s_X9_from_123, s_X9_from_124, s_X9_from_125, s_X9_from_126, s_X9_from_127, s_X9_from_130, s_X9_from_131, s_X9_from_132, s_X9_from_135, s_X9_from_136, s_X9_from_138, s_X9_from_139, s_X9_from_140, s_X9_from_141, s_X9_from_142, s_X9_from_143, s_X9_from_146, s_X9_from_149, s_X9_from_150, s_X9_from_152, s_X9_from_155, s_X9_from_158, s_X9_from_159, s_X9_from_162, s_X9_from_163, s_X9_from_164, s_X9_from_167, s_X9_from_168, s_X9_from_170, s_X9_from_171, s_X9_from_172, s_X9_from_173, s_X9_from_174, s_X9_from_175, s_X9_from_178, s_X9_from_181, s_X9_from_182, zI_0, Bool.true_eq_false, Bool.false_eq_true, not_true_eq_false, not_false_eq_true, if_true, if_false, KV_ap, KU_ap, dropL_nil, p_in, le_1, g1, s.1, r25, r26, s17, s18, bi, cl_nI (show i < 2147483648 by omega), z, one0, m210, cl_nI (show 210 * i < 2147483648 by omega), cl_nI (show 210 * i + 1 < 2147483648 by omega), ib (210 * i) (by omega), ib (210 * i + 1) (by omega), b1', b2', hS_pF, hI_pF, go2, go18, a1, i2]
      refine p_take4 (a := 210 * i + 2) (sM_pF (by decide) (sM_pF (by decide) s)) sh (by decide) s17 (by omega) (by decide) (fun h1 hc => ?_)
      simp only [hI_pF, b3'] at hc
      obtain ⟨z1, z2, z3, z4, z5, z6, z7, z8⟩ := hc
      have S1 : ∀ x, hS h1 x = hS h x := z1
      have I17 : hI h1 (M + 17) = hI h (M + 17) := z3 17 (by decide) (by decide) (by decide) (by decide)
      have sh1 : sM h1 M := by
        have s0 : sM (pF (pF (pF h M 2 (.int (nI T.2.1.length))) M 18 (.int (nI T.2.2.length))) M 1 (.int (nI T.1.length))) M := sM_pF (by decide) (sM_pF (by decide) (sM_pF (by decide) s))
        unfold sM
        simp only [z1, z2]
        exact s0
      simp only [s_X9_from_0, s_X9_from_1, s_X9_from_2, s_X9_from_3, s_X9_from_6, s_X9_from_9, s_X9_from_10, s_X9_from_13, s_X9_from_14, s_X9_from_15, s_X9_from_18, s_X9_from_19, s_X9_from_20, s_X9_from_23, s_X9_from_24, s_X9_from_27, s_X9_from_28, s_X9_from_31, s_X9_from_32, s_X9_from_33, s_X9_from_34, s_X9_from_35, s_X9_from_36, s_X9_from_39, s_X9_from_40, s_X9_from_41, s_X9_from_44, s_X9_from_45, s_X9_from_46, s_X9_from_49, s_X9_from_50, s_X9_from_51, s_X9_from_52, s_X9_from_53, s_X9_from_56, s_X9_from_57, s_X9_from_58, s_X9_from_61, s_X9_from_62, s_X9_from_63, s_X9_from_64, s_X9_from_67, s_X9_from_68, s_X9_from_70, s_X9_from_72, s_X9_from_75, s_X9_from_76, s_X9_from_79, s_X9_from_80, s_X9_from_81, s_X9_from_84, s_X9_from_85, s_X9_from_87, s_X9_from_88, s_X9_from_89, s_X9_from_90, s_X9_from_91, s_X9_from_92, s_X9_from_93, s_X9_from_96, s_X9_from_97, s_X9_from_98, s_X9_from_101, s_X9_from_102, s_X9_from_104, s_X9_from_105, s_X9_from_106, s_X9_from_107, s_X9_from_108, s_X9_from_109, s_X9_from_110, s_X9_from_113, s_X9_from_114, s_X9_from_115, s_X9_from_118, s_X9_from_119, s_X9_from_121, s_X9_from_122, s_X9_from_123, s_X9_from_124, s_X9_from_125, s_X9_from_126, s_X9_from_127, s_X9_from_130, s_X9_from_131, s_X9_from_132, s_X9_from_135, s_X9_from_136, s_X9_from_138, s_X9_from_139, s_X9_from_140, s_X9_from_141, s_X9_from_142, s_X9_from_143, s_X9_from_146, s_X9_from_149, s_X9_from_150, s_X9_from_152, s_X9_from_155, s_X9_from_158, s_X9_from_159, s_X9_from_162, s_X9_from_163, s_X9_from_164, s_X9_from_167, s_X9_from_168, s_X9_from_170, s_X9_from_171, s_X9_from_172, s_X9_from_173, s_X9_from_174, s_X9_from_175, s_X9_from_178, s_X9_from_181, s_X9_from_182, zI_0, Bool.true_eq_false, Bool.false_eq_true, not_true_eq_false, not_false_eq_true, if_true, if_false, KV_ap, KU_ap, dropL_nil]
      have key : ∀ m y h', y + m = 6 → clN h1 h' M (tkF (hI h1 (M + 6)) (hI h (M + 17)) (210 * i + 27) y) (tkF (hI h1 (M + 7)) (hI h (M + 17)) (210 * i + 33) y) (tkF (hI h1 (M + 8)) (hI h (M + 17)) (210 * i + 39) y) (tkF (hI h1 (M + 9)) (hI h (M + 17)) (210 * i + 45) y) → J g k_X9_from 69 [.ref M, .int (nI i), .int (nI (210 * i)), .int (nI y)] [] [] h' Φ := by
        intro m
        induction m with
        | zero =>
          intro y h' hy hc
          have : y = 6 := by omega
          subst this
          have hc' := hc
          obtain ⟨y1, y2, y3, y4, y5, y6, y7, y8⟩ := hc
          have sh2 := clN_sM hc' sh1
          have J17 : hI h' (M + 17) = hI h (M + 17) := by rw [y3 17 (by decide) (by decide) (by decide) (by decide), I17]
          rw [s_X9_from_69]
          simp only [s_X9_from_0, s_X9_from_1, s_X9_from_2, s_X9_from_3, s_X9_from_6, s_X9_from_9, s_X9_from_10, s_X9_from_13, s_X9_from_14, s_X9_from_15, s_X9_from_18, s_X9_from_19, s_X9_from_20, s_X9_from_23, s_X9_from_24, s_X9_from_27, s_X9_from_28, s_X9_from_31, s_X9_from_32, s_X9_from_33, s_X9_from_34, s_X9_from_35, s_X9_from_36, s_X9_from_39, s_X9_from_40, s_X9_from_41, s_X9_from_44, s_X9_from_45, s_X9_from_46, s_X9_from_49, s_X9_from_50, s_X9_from_51, s_X9_from_52, s_X9_from_53, s_X9_from_56, s_X9_from_57, s_X9_from_58, s_X9_from_61, s_X9_from_62, s_X9_from_63, s_X9_from_64, s_X9_from_67, s_X9_from_68, s_X9_from_70, s_X9_from_72, s_X9_from_75, s_X9_from_76, s_X9_from_79, s_X9_from_80, s_X9_from_81, s_X9_from_84, s_X9_from_85, s_X9_from_87, s_X9_from_88, s_X9_from_89, s_X9_from_90, s_X9_from_91, s_X9_from_92, s_X9_from_93, s_X9_from_96, s_X9_from_97, s_X9_from_98, s_X9_from_101, s_X9_from_102, s_X9_from_104, s_X9_from_105, s_X9_from_106, s_X9_from_107, s_X9_from_108, s_X9_from_109, s_X9_from_110, s_X9_from_113, s_X9_from_114, s_X9_from_115, s_X9_from_118, s_X9_from_119, s_X9_from_121, s_X9_from_122, s_X9_from_123, s_X9_from_124, s_X9_from_125, s_X9_from_126, s_X9_from_127, s_X9_from_130, s_X9_from_131, s_X9_from_132, s_X9_from_135, s_X9_from_136, s_X9_from_138, s_X9_from_139, s_X9_from_140, s_X9_from_141, s_X9_from_142, s_X9_from_143, s_X9_from_146, s_X9_from_149, s_X9_from_150, s_X9_from_152, s_X9_from_155, s_X9_from_158, s_X9_from_159, s_X9_from_162, s_X9_from_163, s_X9_from_164, s_X9_from_167, s_X9_from_168, s_X9_from_170, s_X9_from_171, s_X9_from_172, s_X9_from_173, s_X9_from_174, s_X9_from_175, s_X9_from_178, s_X9_from_181, s_X9_from_182, zI_0, Bool.true_eq_false, Bool.false_eq_true, not_true_eq_false, not_false_eq_true, if_true, if_false, KV_ap, KU_ap, dropL_nil, c6' 6 (by decide), Nat.le_refl]
          have key2 := J_it0 (fun x (_ : Unit) => J g k_X9_from 151 [.ref M, .int (nI i), .int (nI (210 * i)), .int (nI x)] [] [] (pI h' (M + 12) (tkF (hI h' (M + 12)) (hI h (M + 17)) (210 * i + 51) x)) Φ) (fun _ q => q) 150 (fun x _ hx => by
            have b150 : m_inb (nI x) 150 = true := by rw [inb_nI (by omega)]; simpa using hx
            have e17 : ∀ f, hI (pI h' (M + 12) f) (M + 17) = hI h (M + 17) := fun f => by rw [hI_pI, if_neg (by omega), J17]
            have s17' : hS h' (M + 17) = (1, 420) := by rw [y1, S1]; exact s17
            have s12' : hS h' (M + 12) = (1, 150) := by rw [y1, S1]; exact s12
            rw [s_X9_from_151]
            simp only [s_X9_from_0, s_X9_from_1, s_X9_from_2, s_X9_from_3, s_X9_from_6, s_X9_from_9, s_X9_from_10, s_X9_from_13, s_X9_from_14, s_X9_from_15, s_X9_from_18, s_X9_from_19, s_X9_from_20, s_X9_from_23, s_X9_from_24, s_X9_from_27, s_X9_from_28, s_X9_from_31, s_X9_from_32, s_X9_from_33, s_X9_from_34, s_X9_from_35, s_X9_from_36, s_X9_from_39, s_X9_from_40, s_X9_from_41, s_X9_from_44, s_X9_from_45, s_X9_from_46, s_X9_from_49, s_X9_from_50, s_X9_from_51, s_X9_from_52, s_X9_from_53, s_X9_from_56, s_X9_from_57, s_X9_from_58, s_X9_from_61, s_X9_from_62, s_X9_from_63, s_X9_from_64, s_X9_from_67, s_X9_from_68, s_X9_from_70, s_X9_from_72, s_X9_from_75, s_X9_from_76, s_X9_from_79, s_X9_from_80, s_X9_from_81, s_X9_from_84, s_X9_from_85, s_X9_from_87, s_X9_from_88, s_X9_from_89, s_X9_from_90, s_X9_from_91, s_X9_from_92, s_X9_from_93, s_X9_from_96, s_X9_from_97, s_X9_from_98, s_X9_from_101, s_X9_from_102, s_X9_from_104, s_X9_from_105, s_X9_from_106, s_X9_from_107, s_X9_from_108, s_X9_from_109, s_X9_from_110, s_X9_from_113, s_X9_from_114, s_X9_from_115, s_X9_from_118, s_X9_from_119, s_X9_from_121, s_X9_from_122, s_X9_from_123, s_X9_from_124, s_X9_from_125, s_X9_from_126, s_X9_from_127, s_X9_from_130, s_X9_from_131, s_X9_from_132, s_X9_from_135, s_X9_from_136, s_X9_from_138, s_X9_from_139, s_X9_from_140, s_X9_from_141, s_X9_from_142, s_X9_from_143, s_X9_from_146, s_X9_from_149, s_X9_from_150, s_X9_from_152, s_X9_from_155, s_X9_from_158, s_X9_from_159, s_X9_from_162, s_X9_from_163, s_X9_from_164, s_X9_from_167, s_X9_from_168, s_X9_from_170, s_X9_from_171, s_X9_from_172, s_X9_from_173, s_X9_from_174, s_X9_from_175, s_X9_from_178, s_X9_from_181, s_X9_from_182, zI_0, Bool.true_eq_false, Bool.false_eq_true, not_true_eq_false, not_false_eq_true, if_true, if_false, KV_ap, KU_ap, dropL_nil, hS_pI, hF_pI, sh2.1, sh2.2.2.2.2.2.2.2.2.2.2.2.2.1, sh2.2.2.2.2.2.2.2.2.2.2.2.2.2.2.2.2.2.1, c150 x (by omega), if_neg (Nat.not_le.mpr hx), s12', s17', b150, i51, i_add, ib (210 * i + 51 + x) (by omega), cl_nI (show x < 2147483648 by omega), cl_nI (show 210 * i + 51 + x < 2147483648 by omega), e17, hI_pIs, pI_pI, a1, tkF_s]) ()
          rw [tkF_0, pI_id] at key2
          refine Eq.mpr key2 ?_
          rw [s_X9_from_151]
          simp only [s_X9_from_0, s_X9_from_1, s_X9_from_2, s_X9_from_3, s_X9_from_6, s_X9_from_9, s_X9_from_10, s_X9_from_13, s_X9_from_14, s_X9_from_15, s_X9_from_18, s_X9_from_19, s_X9_from_20, s_X9_from_23, s_X9_from_24, s_X9_from_27, s_X9_from_28, s_X9_from_31, s_X9_from_32, s_X9_from_33, s_X9_from_34, s_X9_from_35, s_X9_from_36, s_X9_from_39, s_X9_from_40, s_X9_from_41, s_X9_from_44, s_X9_from_45, s_X9_from_46, s_X9_from_49, s_X9_from_50, s_X9_from_51, s_X9_from_52, s_X9_from_53, s_X9_from_56, s_X9_from_57, s_X9_from_58, s_X9_from_61, s_X9_from_62, s_X9_from_63, s_X9_from_64, s_X9_from_67, s_X9_from_68, s_X9_from_70, s_X9_from_72, s_X9_from_75, s_X9_from_76, s_X9_from_79, s_X9_from_80, s_X9_from_81, s_X9_from_84, s_X9_from_85, s_X9_from_87, s_X9_from_88, s_X9_from_89, s_X9_from_90, s_X9_from_91, s_X9_from_92, s_X9_from_93, s_X9_from_96, s_X9_from_97, s_X9_from_98, s_X9_from_101, s_X9_from_102, s_X9_from_104, s_X9_from_105, s_X9_from_106, s_X9_from_107, s_X9_from_108, s_X9_from_109, s_X9_from_110, s_X9_from_113, s_X9_from_114, s_X9_from_115, s_X9_from_118, s_X9_from_119, s_X9_from_121, s_X9_from_122, s_X9_from_123, s_X9_from_124, s_X9_from_125, s_X9_from_126, s_X9_from_127, s_X9_from_130, s_X9_from_131, s_X9_from_132, s_X9_from_135, s_X9_from_136, s_X9_from_138, s_X9_from_139, s_X9_from_140, s_X9_from_141, s_X9_from_142, s_X9_from_143, s_X9_from_146, s_X9_from_149, s_X9_from_150, s_X9_from_152, s_X9_from_155, s_X9_from_158, s_X9_from_159, s_X9_from_162, s_X9_from_163, s_X9_from_164, s_X9_from_167, s_X9_from_168, s_X9_from_170, s_X9_from_171, s_X9_from_172, s_X9_from_173, s_X9_from_174, s_X9_from_175, s_X9_from_178, s_X9_from_181, s_X9_from_182, zI_0, Bool.true_eq_false, Bool.false_eq_true, not_true_eq_false, not_false_eq_true, if_true, if_false, KV_ap, KU_ap, dropL_nil, c150 150 (by decide), Nat.le_refl]
          have gF : ∀ j, hF (pI h' (M + 12) (tkF (hI h' (M + 12)) (hI h (M + 17)) (210 * i + 51) 150)) M j = hF (pF (pF (pF h M 2 (.int (nI T.2.1.length))) M 18 (.int (nI T.2.2.length))) M 1 (.int (nI T.1.length))) M j := fun j => by rw [hF_pI, y2, z2]
          have gI : ∀ x, x ≠ 12 → hI (pI h' (M + 12) (tkF (hI h' (M + 12)) (hI h (M + 17)) (210 * i + 51) 150)) (M + x) = hI h' (M + x) := fun x hx => by rw [hI_pI, if_neg (by omega)]
          refine k _ ?_ (frm_pI (by omega) (by omega) (frm_trans (frm_trans (frm_pF (by omega) (by omega) (frm_pF (by omega) (by omega) (frm_pF (by omega) (by omega) (frm_rfl h _ _)))) z8) y8))
          refine isM_T hM' (fun x => by rw [hS_pI, y1, S1]) ?_ ?_ ?_ ?_ ?_ vT' ?_ ?_ ?_
          · intro j h1 h2 h3
            rw [gF, hF_pF, if_neg (by omega), hF_pF, if_neg (by omega), hF_pF, if_neg (by omega)]
          · intro x hx
            rw [gI x (by omega), y3 x (by omega) (by omega) (by omega) (by omega), z3 x (by omega) (by omega) (by omega) (by omega)]
            rfl
          · rw [gF, hF_pF, if_pos ⟨rfl, rfl⟩]
          · rw [gF, hF_pF, if_neg (by omega), hF_pF, if_neg (by omega), hF_pF, if_pos ⟨rfl, rfl⟩]
          · rw [gF, hF_pF, if_neg (by omega), hF_pF, if_pos ⟨rfl, rfl⟩]
          · rw [gI 2 (by decide), gI 3 (by decide), gI 4 (by decide), gI 5 (by decide), y3 2 (by decide) (by decide) (by decide) (by decide), y3 3 (by decide) (by decide) (by decide) (by decide), y3 4 (by decide) (by decide) (by decide) (by decide), y3 5 (by decide) (by decide) (by decide) (by decide), z4, z5, z6, z7]
            intro j hj
            have := b3.2 j hj
            unfold tkF
            rw [if_pos (by omega), if_pos (by omega), if_pos (by omega), if_pos (by omega)]
            simp only [Nat.add_assoc, Nat.reduceAdd] at this ⊢
            rw [← Nat.add_assoc 2 1 j, ← Nat.add_assoc 2 7 j, ← Nat.add_assoc 2 13 j, ← Nat.add_assoc 2 19 j] at this
            exact this
          · rw [gI 6 (by decide), gI 7 (by decide), gI 8 (by decide), gI 9 (by decide), y4, y5, y6, y7]
            intro j hj
            have := b4 j hj
            unfold tkF
            rw [if_pos (by omega), if_pos (by omega), if_pos (by omega), if_pos (by omega)]
            simp only [Nat.add_assoc]
            exact this
          · rw [hI_pIs]
            intro j hj
            obtain ⟨r, v', l⟩ := b5 j hj
            refine ⟨mR_congr l (fun w hw => ?_) r, v', l⟩
            show tkF (hI h' (M + 12)) (hI h (M + 17)) (210 * i + 51) 150 (25 * j + w) = hI h (M + 17) (210 * i + (51 + (25 * j + w)))
            rw [tkF, if_pos (by omega)]
            congr 1
            omega
        | succ m ih =>
          intro y h' hy hc
          have b6 : m_inb (nI y) 6 = true := by rw [inb_nI (by omega)]; simpa using (show y < 6 by omega)
          have hc' := hc
          obtain ⟨y1, y2, y3, y4, y5, y6, y7, y8⟩ := hc
          have sh2 := clN_sM hc' sh1
          have J17 : hI h' (M + 17) = hI h (M + 17) := by rw [y3 17 (by decide) (by decide) (by decide) (by decide), I17]
          have n6 : ∀ (h : HP) f, hI (pI h (M + 6) f) (M + 17) = hI h (M + 17) := fun h f => by rw [hI_pI, if_neg (by omega)]
          have n7 : ∀ (h : HP) f, hI (pI h (M + 7) f) (M + 17) = hI h (M + 17) := fun h f => by rw [hI_pI, if_neg (by omega)]
          have n8 : ∀ (h : HP) f, hI (pI h (M + 8) f) (M + 17) = hI h (M + 17) := fun h f => by rw [hI_pI, if_neg (by omega)]
          have w7 : ∀ (h : HP) f, hI (pI h (M + 6) f) (M + 7) = hI h (M + 7) := fun h f => by rw [hI_pI, if_neg (by omega)]
          have w8 : ∀ (h : HP) f, hI (pI h (M + 6) f) (M + 8) = hI h (M + 8) := fun h f => by rw [hI_pI, if_neg (by omega)]
          have w9 : ∀ (h : HP) f, hI (pI h (M + 6) f) (M + 9) = hI h (M + 9) := fun h f => by rw [hI_pI, if_neg (by omega)]
          have x8 : ∀ (h : HP) f, hI (pI h (M + 7) f) (M + 8) = hI h (M + 8) := fun h f => by rw [hI_pI, if_neg (by omega)]
          have x9 : ∀ (h : HP) f, hI (pI h (M + 7) f) (M + 9) = hI h (M + 9) := fun h f => by rw [hI_pI, if_neg (by omega)]
          have v9 : ∀ (h : HP) f, hI (pI h (M + 8) f) (M + 9) = hI h (M + 9) := fun h f => by rw [hI_pI, if_neg (by omega)]
          rw [s_X9_from_69]
          simp only [s_X9_from_0, s_X9_from_1, s_X9_from_2, s_X9_from_3, s_X9_from_6, s_X9_from_9, s_X9_from_10, s_X9_from_13, s_X9_from_14, s_X9_from_15, s_X9_from_18, s_X9_from_19, s_X9_from_20, s_X9_from_23, s_X9_from_24, s_X9_from_27, s_X9_from_28, s_X9_from_31, s_X9_from_32, s_X9_from_33, s_X9_from_34, s_X9_from_35, s_X9_from_36, s_X9_from_39, s_X9_from_40, s_X9_from_41, s_X9_from_44, s_X9_from_45, s_X9_from_46, s_X9_from_49, s_X9_from_50, s_X9_from_51, s_X9_from_52, s_X9_from_53, s_X9_from_56, s_X9_from_57, s_X9_from_58, s_X9_from_61, s_X9_from_62, s_X9_from_63, s_X9_from_64, s_X9_from_67, s_X9_from_68, s_X9_from_70, s_X9_from_72, s_X9_from_75, s_X9_from_76, s_X9_from_79, s_X9_from_80, s_X9_from_81, s_X9_from_84, s_X9_from_85, s_X9_from_87, s_X9_from_88, s_X9_from_89, s_X9_from_90, s_X9_from_91, s_X9_from_92, s_X9_from_93, s_X9_from_96, s_X9_from_97, s_X9_from_98, s_X9_from_101, s_X9_from_102, s_X9_from_104, s_X9_from_105, s_X9_from_106, s_X9_from_107, s_X9_from_108, s_X9_from_109, s_X9_from_110, s_X9_from_113, s_X9_from_114, s_X9_from_115, s_X9_from_118, s_X9_from_119, s_X9_from_121, s_X9_from_122, s_X9_from_123, s_X9_from_124, s_X9_from_125, s_X9_from_126, s_X9_from_127, s_X9_from_130, s_X9_from_131, s_X9_from_132, s_X9_from_135, s_X9_from_136, s_X9_from_138, s_X9_from_139, s_X9_from_140, s_X9_from_141, s_X9_from_142, s_X9_from_143, s_X9_from_146, s_X9_from_149, s_X9_from_150, s_X9_from_152, s_X9_from_155, s_X9_from_158, s_X9_from_159, s_X9_from_162, s_X9_from_163, s_X9_from_164, s_X9_from_167, s_X9_from_168, s_X9_from_170, s_X9_from_171, s_X9_from_172, s_X9_from_173, s_X9_from_174, s_X9_from_175, s_X9_from_178, s_X9_from_181, s_X9_from_182, zI_0, Bool.true_eq_false, Bool.false_eq_true, not_true_eq_false, not_false_eq_true, if_true, if_false, KV_ap, KU_ap, dropL_nil, c6' y (by omega), show ¬ 6 ≤ y by omega, if_false, hS_pI, hF_pI, y1, S1, s.1, sh2.2.2.2.2.2.2.1, sh2.2.2.2.2.2.2.2.1, sh2.2.2.2.2.2.2.2.2.1, sh2.2.2.2.2.2.2.2.2.2.1, sh2.2.2.2.2.2.2.2.2.2.2.2.2.2.2.2.2.2.1, q6, q7, q8, q9, s17, b6, i27, i33, i39, i45, i_add, a1, ib (210 * i + 27 + y) (by omega), ib (210 * i + 33 + y) (by omega), ib (210 * i + 39 + y) (by omega), ib (210 * i + 45 + y) (by omega), cl_nI (show y < 2147483648 by omega), cl_nI (show 210 * i + 27 + y < 2147483648 by omega), cl_nI (show 210 * i + 33 + y < 2147483648 by omega), cl_nI (show 210 * i + 39 + y < 2147483648 by omega), cl_nI (show 210 * i + 45 + y < 2147483648 by omega), n6, n7, n8, w7, w8, w9, x8, x9, v9, J17, y4, y5, y6, y7, tkF_s]
          exact ih (y + 1) _ (by omega) (clN_up _ _ _ _ hc')
      refine key 6 0 h1 rfl ?_
      simp only [tkF_0]
      exact clN_rfl h1 M

/-! The model's calls: court -/
def gtI (w : Nat) (l : Bool) (x y : Nat) : Int32 := (if l = decide (w = 0) then 2 else 0) - (if w = 0 then nI x else nI y)
def crB (l : Nat → Nat → Bool) (p : Nat) : Bool := !decide (gtI 0 (l (p % 2) (p / 2)) (p % 2) (p / 2) < gtI 0 (l (1 - p % 2) (p / 2)) (1 - p % 2) (p / 2)) && !decide (gtI 1 (l (p % 2) (p / 2)) (p % 2) (p / 2) < gtI 1 (l (p % 2) (1 - p / 2)) (p % 2) (1 - p / 2))
def lfB (a b c d : Bool) (x y : Nat) : Bool := if x = 0 then (if y = 0 then a else c) else (if y = 0 then b else d)
theorem cr_chk : ∀ a b c d : Bool, bN (fun p => crB (lfB a b c d) p) 4 = bN (fun p => rsI (nI (bN (fun p => lfB a b c d (p % 2) (p / 2)) 4)) (nI p)) 4 := by decide +kernel
theorem bN_cg {p q : Nat → Bool} : ∀ n, (∀ j, j < n → p j = q j) → bN p n = bN q n := by
  intro n
  induction n with
  | zero => intro _; rfl
  | succ n ih =>
    intro h
    rw [bN_succ, bN_succ, ih (fun j hj => h j (by omega)), h n (by omega)]
theorem lf_eq (l : Nat → Nat → Bool) {x y : Nat} (hx : x < 2) (hy : y < 2) : l x y = lfB (l 0 0) (l 1 0) (l 0 1) (l 1 1) x y := by
  unfold lfB
  by_cases ex : x = 0
  · by_cases ey : y = 0
    · rw [if_pos ex, if_pos ey, ex, ey]
    · rw [if_pos ex, if_neg ey, ex, show y = 1 by omega]
  · by_cases ey : y = 0
    · rw [if_neg ex, if_pos ey, ey, show x = 1 by omega]
    · rw [if_neg ex, if_neg ey, show x = 1 by omega, show y = 1 by omega]
theorem cr_eq (s t : St) : bN (fun p => crB (fun x y => decide (rS s (4 * x) = rS t (4 * y))) p) 4 = cuN s t := by
  have e1 : plB s t = bN (fun p => (fun x y => decide (rS s (4 * x) = rS t (4 * y))) (p % 2) (p / 2)) 4 := by
    unfold plB
    refine bN_cg 4 (fun j _ => ?_)
    dsimp only
    rw [Nat.mul_comm (j % 2), Nat.mul_comm (j / 2)]
  unfold cuN
  rw [e1]
  generalize hl : (fun x y => decide (rS s (4 * x) = rS t (4 * y))) = l
  have e2 : bN (fun p => l (p % 2) (p / 2)) 4 = bN (fun p => lfB (l 0 0) (l 1 0) (l 0 1) (l 1 1) (p % 2) (p / 2)) 4 := bN_cg 4 (fun j hj => lf_eq l (by omega) (by omega))
  rw [e2, ← cr_chk]
  refine bN_cg 4 (fun j hj => ?_)
  unfold crB
  rw [← lf_eq l (show j % 2 < 2 by omega) (show j / 2 < 2 by omega), ← lf_eq l (show 1 - j % 2 < 2 by omega) (show j / 2 < 2 by omega), ← lf_eq l (show j % 2 < 2 by omega) (show 1 - j / 2 < 2 by omega)]
section M26
variable {g : GL} {h : HP} {Φ : Value → HP → Prop} {M : Nat} {u : XS}
theorem p_gets (hM : isM h M u) {w i j x y : Nat} (hw : w < 2) (hi : i < u.1.1.length) (hj : j < u.1.1.length) (hx : x < 2) (hy : y < 2) : J g k_X9_gets 0 [.ref M, .int (nI w), .int (nI i), .int (nI j), .int (nI x), .int (nI y), m_D, m_D] [] [] h Φ = Φ (.int (gtI w (decide (rS (gS u.1.1 i) (4 * x) = rS (gS u.1.1 j) (4 * y))) x y)) h := by
  have ri := rS_lt hM.2.2.2.1.2.2.2.1 (x := 4 * x) hi (by omega)
  have rj := rS_lt hM.2.2.2.1.2.2.2.1 (x := 4 * y) hj (by omega)
  have m4' : ∀ x : Nat, (4 : Int32) * nI x = nI (4 * x) := fun x => i_mul 4 x
  have pi : ∀ (x : Nat) (Ψ : Value → HP → Prop), J g k_X9_inchOf 0 [.ref M, .int (nI x)] [] [] h Ψ = Ψ (.int (nI (4 * x))) h := fun x Ψ => by
    simp only [s_X9_inchOf_0, s_X9_inchOf_1, s_X9_inchOf_2, s_X9_inchOf_3, m4']
  have one0 : ((1 : Int32) = 0) = False := by decide
  have zero1 : ((0 : Int32) = 1) = False := by decide
  simp only [s_X9_gets_0, s_X9_gets_1, s_X9_gets_2, s_X9_gets_3, s_X9_gets_5, s_X9_gets_8, s_X9_gets_11, s_X9_gets_12, s_X9_gets_13, s_X9_gets_14, s_X9_gets_16, s_X9_gets_19, s_X9_gets_22, s_X9_gets_25, s_X9_gets_26, s_X9_gets_29, s_X9_gets_30, s_X9_gets_32, s_X9_gets_34, s_X9_gets_35, s_X9_gets_38, s_X9_gets_39, s_X9_gets_42, s_X9_gets_43, s_X9_gets_46, s_X9_gets_47, s_X9_gets_50, s_X9_gets_51, s_X9_gets_53, s_X9_gets_55, s_X9_gets_56, s_X9_gets_59, s_X9_gets_61, s_X9_gets_64, s_X9_gets_66, s_X9_gets_67, zI_0, Bool.true_eq_false, Bool.false_eq_true, not_true_eq_false, not_false_eq_true, if_true, if_false, KV_ap, KU_ap, dropL_nil, hM.1.1, pi, p_readIn hM hi (show 4 * x < 9 by omega), p_readIn hM hj (show 4 * y < 9 by omega), eq_nI (show rS (gS u.1.1 i) (4 * x) < 2147483648 by omega) (show rS (gS u.1.1 j) (4 * y) < 2147483648 by omega), eq0 (show w < 2147483648 by omega)]
  unfold gtI
  by_cases e : rS (gS u.1.1 i) (4 * x) = rS (gS u.1.1 j) (4 * y)
  · by_cases z : w = 0
    · simp only [e, z, not_true_eq_false, if_false, decide_true, if_true]
    · simp only [e, z, not_true_eq_false, if_false, decide_true, decide_false, Bool.true_eq_false, not_false_eq_true, if_true, one0]
  · by_cases z : w = 0
    · simp only [e, z, not_true_eq_false, not_false_eq_true, if_false, decide_true, decide_false, Bool.false_eq_true, if_true, zero1]
    · simp only [e, z, not_true_eq_false, not_false_eq_true, if_false, decide_false, if_true]
end M26
theorem m_court (v0 v1 : Int32) : cM k_X9_court [.int v0, .int v1, m_D, m_D, m_D, m_D, m_D] (aCourt v0 v1) := by
  intro g h M u Φ hM k
  have hl := hM.2.2.2.1.1
  have hbad : aTw v0 v1 u.1.1.length = false → aCourt v0 v1 u = (.int (-2), bdU u 0) := fun z => by simp only [aCourt, z, Bool.false_eq_true, if_false]
  cases g1 : decide (0 ≤ v0 ∧ v0 < nI u.1.1.length)
  · rw [hbad (by simp only [aTw, g1, Bool.false_and])] at k
    simp only [s_X9_court_0, s_X9_court_1, s_X9_court_2, s_X9_court_5, s_X9_court_8, s_X9_court_9, s_X9_court_10, s_X9_court_13, s_X9_court_16, s_X9_court_17, s_X9_court_18, s_X9_court_21, s_X9_court_22, s_X9_court_25, s_X9_court_26, s_X9_court_27, s_X9_court_28, s_X9_court_29, s_X9_court_33, s_X9_court_34, s_X9_court_37, s_X9_court_39, s_X9_court_40, s_X9_court_41, s_X9_court_43, s_X9_court_45, s_X9_court_46, s_X9_court_47, s_X9_court_49, s_X9_court_50, s_X9_court_51, s_X9_court_52, s_X9_court_53, s_X9_court_55, s_X9_court_57, s_X9_court_60, s_X9_court_61, s_X9_court_62, s_X9_court_63, s_X9_court_64, s_X9_court_65, s_X9_court_67, s_X9_court_68, s_X9_court_70, s_X9_court_73, s_X9_court_76, s_X9_court_77, s_X9_court_78, s_X9_court_79, s_X9_court_80, s_X9_court_82, s_X9_court_84, s_X9_court_87, s_X9_court_88, s_X9_court_89, s_X9_court_90, s_X9_court_91, s_X9_court_93, s_X9_court_94, s_X9_court_96, s_X9_court_97, s_X9_court_100, s_X9_court_103, s_X9_court_104, s_X9_court_107, s_X9_court_108, s_X9_court_110, s_X9_court_111, s_X9_court_113, s_X9_court_116, s_X9_court_117, s_X9_court_119, s_X9_court_120, s_X9_court_123, s_X9_court_124, s_X9_court_125, s_X9_court_126, s_X9_court_129, s_X9_court_132, s_X9_court_133, zI_0, Bool.true_eq_false, Bool.false_eq_true, not_true_eq_false, not_false_eq_true, if_true, if_false, KV_ap, KU_ap, dropL_nil, hM.1.1, p_isStick hM, g1]
    exact p_bad hM (fun h' hM' hf => by simp only [KV_ap, s_X9_court_0, s_X9_court_1, s_X9_court_2, s_X9_court_5, s_X9_court_8, s_X9_court_9, s_X9_court_10, s_X9_court_13, s_X9_court_16, s_X9_court_17, s_X9_court_18, s_X9_court_21, s_X9_court_22, s_X9_court_25, s_X9_court_26, s_X9_court_27, s_X9_court_28, s_X9_court_29, s_X9_court_33, s_X9_court_34, s_X9_court_37, s_X9_court_39, s_X9_court_40, s_X9_court_41, s_X9_court_43, s_X9_court_45, s_X9_court_46, s_X9_court_47, s_X9_court_49, s_X9_court_50, s_X9_court_51, s_X9_court_52, s_X9_court_53, s_X9_court_55, s_X9_court_57, s_X9_court_60, s_X9_court_61, s_X9_court_62, s_X9_court_63, s_X9_court_64, s_X9_court_65, s_X9_court_67, s_X9_court_68, s_X9_court_70, s_X9_court_73, s_X9_court_76, s_X9_court_77, s_X9_court_78, s_X9_court_79, s_X9_court_80, s_X9_court_82, s_X9_court_84, s_X9_court_87, s_X9_court_88, s_X9_court_89, s_X9_court_90, s_X9_court_91, s_X9_court_93, s_X9_court_94, s_X9_court_96, s_X9_court_97, s_X9_court_100, s_X9_court_103, s_X9_court_104, s_X9_court_107, s_X9_court_108, s_X9_court_110, s_X9_court_111, s_X9_court_113, s_X9_court_116, s_X9_court_117, s_X9_court_119, s_X9_court_120, s_X9_court_123, s_X9_court_124, s_X9_court_125, s_X9_court_126, s_X9_court_129, s_X9_court_132, s_X9_court_133]; exact k h' hM' hf)
  · cases g2 : decide (0 ≤ v1 ∧ v1 < nI u.1.1.length)
    · rw [hbad (by simp only [aTw, g1, g2, Bool.and_false, Bool.false_and])] at k
      simp only [s_X9_court_0, s_X9_court_1, s_X9_court_2, s_X9_court_5, s_X9_court_8, s_X9_court_9, s_X9_court_10, s_X9_court_13, s_X9_court_16, s_X9_court_17, s_X9_court_18, s_X9_court_21, s_X9_court_22, s_X9_court_25, s_X9_court_26, s_X9_court_27, s_X9_court_28, s_X9_court_29, s_X9_court_33, s_X9_court_34, s_X9_court_37, s_X9_court_39, s_X9_court_40, s_X9_court_41, s_X9_court_43, s_X9_court_45, s_X9_court_46, s_X9_court_47, s_X9_court_49, s_X9_court_50, s_X9_court_51, s_X9_court_52, s_X9_court_53, s_X9_court_55, s_X9_court_57, s_X9_court_60, s_X9_court_61, s_X9_court_62, s_X9_court_63, s_X9_court_64, s_X9_court_65, s_X9_court_67, s_X9_court_68, s_X9_court_70, s_X9_court_73, s_X9_court_76, s_X9_court_77, s_X9_court_78, s_X9_court_79, s_X9_court_80, s_X9_court_82, s_X9_court_84, s_X9_court_87, s_X9_court_88, s_X9_court_89, s_X9_court_90, s_X9_court_91, s_X9_court_93, s_X9_court_94, s_X9_court_96, s_X9_court_97, s_X9_court_100, s_X9_court_103, s_X9_court_104, s_X9_court_107, s_X9_court_108, s_X9_court_110, s_X9_court_111, s_X9_court_113, s_X9_court_116, s_X9_court_117, s_X9_court_119, s_X9_court_120, s_X9_court_123, s_X9_court_124, s_X9_court_125, s_X9_court_126, s_X9_court_129, s_X9_court_132, s_X9_court_133, zI_0, Bool.true_eq_false, Bool.false_eq_true, not_true_eq_false, not_false_eq_true, if_true, if_false, KV_ap, KU_ap, dropL_nil, hM.1.1, p_isStick hM, g1, g2]
      exact p_bad hM (fun h' hM' hf => by simp only [KV_ap, s_X9_court_0, s_X9_court_1, s_X9_court_2, s_X9_court_5, s_X9_court_8, s_X9_court_9, s_X9_court_10, s_X9_court_13, s_X9_court_16, s_X9_court_17, s_X9_court_18, s_X9_court_21, s_X9_court_22, s_X9_court_25, s_X9_court_26, s_X9_court_27, s_X9_court_28, s_X9_court_29, s_X9_court_33, s_X9_court_34, s_X9_court_37, s_X9_court_39, s_X9_court_40, s_X9_court_41, s_X9_court_43, s_X9_court_45, s_X9_court_46, s_X9_court_47, s_X9_court_49, s_X9_court_50, s_X9_court_51, s_X9_court_52, s_X9_court_53, s_X9_court_55, s_X9_court_57, s_X9_court_60, s_X9_court_61, s_X9_court_62, s_X9_court_63, s_X9_court_64, s_X9_court_65, s_X9_court_67, s_X9_court_68, s_X9_court_70, s_X9_court_73, s_X9_court_76, s_X9_court_77, s_X9_court_78, s_X9_court_79, s_X9_court_80, s_X9_court_82, s_X9_court_84, s_X9_court_87, s_X9_court_88, s_X9_court_89, s_X9_court_90, s_X9_court_91, s_X9_court_93, s_X9_court_94, s_X9_court_96, s_X9_court_97, s_X9_court_100, s_X9_court_103, s_X9_court_104, s_X9_court_107, s_X9_court_108, s_X9_court_110, s_X9_court_111, s_X9_court_113, s_X9_court_116, s_X9_court_117, s_X9_court_119, s_X9_court_120, s_X9_court_123, s_X9_court_124, s_X9_court_125, s_X9_court_126, s_X9_court_129, s_X9_court_132, s_X9_court_133]; exact k h' hM' hf)
    · by_cases g3 : v0 = v1
      · rw [hbad (by simp only [aTw, g1, g2, g3, decide_true, Bool.not_true, Bool.and_false])] at k
        simp only [s_X9_court_0, s_X9_court_1, s_X9_court_2, s_X9_court_5, s_X9_court_8, s_X9_court_9, s_X9_court_10, s_X9_court_13, s_X9_court_16, s_X9_court_17, s_X9_court_18, s_X9_court_21, s_X9_court_22, s_X9_court_25, s_X9_court_26, s_X9_court_27, s_X9_court_28, s_X9_court_29, s_X9_court_33, s_X9_court_34, s_X9_court_37, s_X9_court_39, s_X9_court_40, s_X9_court_41, s_X9_court_43, s_X9_court_45, s_X9_court_46, s_X9_court_47, s_X9_court_49, s_X9_court_50, s_X9_court_51, s_X9_court_52, s_X9_court_53, s_X9_court_55, s_X9_court_57, s_X9_court_60, s_X9_court_61, s_X9_court_62, s_X9_court_63, s_X9_court_64, s_X9_court_65, s_X9_court_67, s_X9_court_68, s_X9_court_70, s_X9_court_73, s_X9_court_76, s_X9_court_77, s_X9_court_78, s_X9_court_79, s_X9_court_80, s_X9_court_82, s_X9_court_84, s_X9_court_87, s_X9_court_88, s_X9_court_89, s_X9_court_90, s_X9_court_91, s_X9_court_93, s_X9_court_94, s_X9_court_96, s_X9_court_97, s_X9_court_100, s_X9_court_103, s_X9_court_104, s_X9_court_107, s_X9_court_108, s_X9_court_110, s_X9_court_111, s_X9_court_113, s_X9_court_116, s_X9_court_117, s_X9_court_119, s_X9_court_120, s_X9_court_123, s_X9_court_124, s_X9_court_125, s_X9_court_126, s_X9_court_129, s_X9_court_132, s_X9_court_133, zI_0, Bool.true_eq_false, Bool.false_eq_true, not_true_eq_false, not_false_eq_true, if_true, if_false, KV_ap, KU_ap, dropL_nil, hM.1.1, p_isStick hM, g1, g2, g3]
        exact p_bad hM (fun h' hM' hf => by simp only [KV_ap, s_X9_court_0, s_X9_court_1, s_X9_court_2, s_X9_court_5, s_X9_court_8, s_X9_court_9, s_X9_court_10, s_X9_court_13, s_X9_court_16, s_X9_court_17, s_X9_court_18, s_X9_court_21, s_X9_court_22, s_X9_court_25, s_X9_court_26, s_X9_court_27, s_X9_court_28, s_X9_court_29, s_X9_court_33, s_X9_court_34, s_X9_court_37, s_X9_court_39, s_X9_court_40, s_X9_court_41, s_X9_court_43, s_X9_court_45, s_X9_court_46, s_X9_court_47, s_X9_court_49, s_X9_court_50, s_X9_court_51, s_X9_court_52, s_X9_court_53, s_X9_court_55, s_X9_court_57, s_X9_court_60, s_X9_court_61, s_X9_court_62, s_X9_court_63, s_X9_court_64, s_X9_court_65, s_X9_court_67, s_X9_court_68, s_X9_court_70, s_X9_court_73, s_X9_court_76, s_X9_court_77, s_X9_court_78, s_X9_court_79, s_X9_court_80, s_X9_court_82, s_X9_court_84, s_X9_court_87, s_X9_court_88, s_X9_court_89, s_X9_court_90, s_X9_court_91, s_X9_court_93, s_X9_court_94, s_X9_court_96, s_X9_court_97, s_X9_court_100, s_X9_court_103, s_X9_court_104, s_X9_court_107, s_X9_court_108, s_X9_court_110, s_X9_court_111, s_X9_court_113, s_X9_court_116, s_X9_court_117, s_X9_court_119, s_X9_court_120, s_X9_court_123, s_X9_court_124, s_X9_court_125, s_X9_court_126, s_X9_court_129, s_X9_court_132, s_X9_court_133]; exact k h' hM' hf)
      · obtain ⟨i, ei, hi⟩ := hs_ex (show u.1.1.length < 2147483648 by omega) g1
        obtain ⟨j, ej, hj⟩ := hs_ex (show u.1.1.length < 2147483648 by omega) g2
        have g4 : aTw v0 v1 u.1.1.length = true := by simp only [aTw, g1, g2, g3, decide_false, Bool.not_false, Bool.and_self]
        have e : aCourt v0 v1 u = (.int (nI (cuN (gS u.1.1 i) (gS u.1.1 j))), u) := by
          simp only [aCourt, g4, if_true]
          rw [ei, ej, cl_nI (show i < 2147483648 by omega), cl_nI (show j < 2147483648 by omega)]
        rw [e, ← cr_eq] at k
        subst ei; subst ej
        have k' := k h hM (frm_rfl h _ _)
        have c4' : ∀ k : Nat, k < 2147483648 → ((4 : Int32) ≤ nI k) = (4 ≤ k) := fun k hk => le_nI (show 4 < 2147483648 by decide) hk
        have o1 : ∀ x : Nat, x ≤ 1 → (1 : Int32) - nI x = nI (1 - x) := fun x hx => i_sub hx
        have pg0 : ∀ (x y : Nat) (Ψ : Value → HP → Prop), x < 2 → y < 2 → J g k_X9_gets 0 [.ref M, .int 0, .int (nI i), .int (nI j), .int (nI x), .int (nI y), m_D, m_D] [] [] h Ψ = Ψ (.int (gtI 0 (decide (rS (gS u.1.1 i) (4 * x) = rS (gS u.1.1 j) (4 * y))) x y)) h := fun x y Ψ hx hy => p_gets (w := 0) hM (by decide) hi hj hx hy
        have pg1 : ∀ (x y : Nat) (Ψ : Value → HP → Prop), x < 2 → y < 2 → J g k_X9_gets 0 [.ref M, .int 1, .int (nI i), .int (nI j), .int (nI x), .int (nI y), m_D, m_D] [] [] h Ψ = Ψ (.int (gtI 1 (decide (rS (gS u.1.1 i) (4 * x) = rS (gS u.1.1 j) (4 * y))) x y)) h := fun x y Ψ hx hy => p_gets (w := 1) hM (by decide) hi hj hx hy
        simp only [s_X9_court_0, s_X9_court_1, s_X9_court_2, s_X9_court_5, s_X9_court_8, s_X9_court_9, s_X9_court_10, s_X9_court_13, s_X9_court_16, s_X9_court_17, s_X9_court_18, s_X9_court_21, s_X9_court_22, s_X9_court_25, s_X9_court_26, s_X9_court_27, s_X9_court_28, s_X9_court_29, s_X9_court_33, s_X9_court_34, s_X9_court_37, s_X9_court_39, s_X9_court_40, s_X9_court_41, s_X9_court_43, s_X9_court_45, s_X9_court_46, s_X9_court_47, s_X9_court_49, s_X9_court_50, s_X9_court_51, s_X9_court_52, s_X9_court_53, s_X9_court_55, s_X9_court_57, s_X9_court_60, s_X9_court_61, s_X9_court_62, s_X9_court_63, s_X9_court_64, s_X9_court_65, s_X9_court_67, s_X9_court_68, s_X9_court_70, s_X9_court_73, s_X9_court_76, s_X9_court_77, s_X9_court_78, s_X9_court_79, s_X9_court_80, s_X9_court_82, s_X9_court_84, s_X9_court_87, s_X9_court_88, s_X9_court_89, s_X9_court_90, s_X9_court_91, s_X9_court_93, s_X9_court_94, s_X9_court_96, s_X9_court_97, s_X9_court_100, s_X9_court_103, s_X9_court_104, s_X9_court_107, s_X9_court_108, s_X9_court_110, s_X9_court_111, s_X9_court_113, s_X9_court_116, s_X9_court_117, s_X9_court_119, s_X9_court_120, s_X9_court_123, s_X9_court_124, s_X9_court_125, s_X9_court_126, s_X9_court_129, s_X9_court_132, s_X9_court_133, zI_0, Bool.true_eq_false, Bool.false_eq_true, not_true_eq_false, not_false_eq_true, if_true, if_false, KV_ap, KU_ap, dropL_nil, hM.1.1, p_isStick hM, g1, g2, g3]
        have key := J_it (fun p (q : Nat × Value × Value × Value) => J g k_X9_court 31 [.ref M, .int (nI i), .int (nI j), .int (nI q.1), .int (nI p), q.2.1, q.2.2.1, q.2.2.2] [] [] h Φ) (fun p q => ((if crB (fun x y => decide (rS (gS u.1.1 i) (4 * x) = rS (gS u.1.1 j) (4 * y))) p = true then q.1 + 2 ^ p else q.1), .int (nI (p % 2)), .int (nI (p / 2)), .int (zI (crB (fun x y => decide (rS (gS u.1.1 i) (4 * x) = rS (gS u.1.1 j) (4 * y))) p)))) 4 (fun p q => q.1 < 2 ^ p) (fun p q _ hq => by
            have hq' : q.1 < 2 ^ p := hq
            have e2 : (2 : Nat) ^ (p + 1) = 2 ^ p * 2 := Nat.pow_succ 2 p
            dsimp only
            split
            · show q.1 + 2 ^ p < 2 ^ (p + 1)
              omega
            · show q.1 < 2 ^ (p + 1)
              omega) (fun p q hp hq => by
          rw [s_X9_court_31]
          simp only [s_X9_court_0, s_X9_court_1, s_X9_court_2, s_X9_court_5, s_X9_court_8, s_X9_court_9, s_X9_court_10, s_X9_court_13, s_X9_court_16, s_X9_court_17, s_X9_court_18, s_X9_court_21, s_X9_court_22, s_X9_court_25, s_X9_court_26, s_X9_court_27, s_X9_court_28, s_X9_court_29, s_X9_court_33, s_X9_court_34, s_X9_court_37, s_X9_court_39, s_X9_court_40, s_X9_court_41, s_X9_court_43, s_X9_court_45, s_X9_court_46, s_X9_court_47, s_X9_court_49, s_X9_court_50, s_X9_court_51, s_X9_court_52, s_X9_court_53, s_X9_court_55, s_X9_court_57, s_X9_court_60, s_X9_court_61, s_X9_court_62, s_X9_court_63, s_X9_court_64, s_X9_court_65, s_X9_court_67, s_X9_court_68, s_X9_court_70, s_X9_court_73, s_X9_court_76, s_X9_court_77, s_X9_court_78, s_X9_court_79, s_X9_court_80, s_X9_court_82, s_X9_court_84, s_X9_court_87, s_X9_court_88, s_X9_court_89, s_X9_court_90, s_X9_court_91, s_X9_court_93, s_X9_court_94, s_X9_court_96, s_X9_court_97, s_X9_court_100, s_X9_court_103, s_X9_court_104, s_X9_court_107, s_X9_court_110, s_X9_court_111, s_X9_court_113, s_X9_court_116, s_X9_court_117, s_X9_court_119, s_X9_court_120, s_X9_court_123, s_X9_court_124, s_X9_court_125, s_X9_court_126, s_X9_court_129, s_X9_court_132, s_X9_court_133, zI_0, Bool.true_eq_false, Bool.false_eq_true, not_true_eq_false, not_false_eq_true, if_true, if_false, KV_ap, KU_ap, dropL_nil, c4' p (by omega), if_neg (Nat.not_le.mpr hp), n2, d2 (show p < 2147483648 by omega), m2, r2, hM.1.1, pg0 (p % 2) (p / 2) _ (by omega) (by omega), o1 (p % 2) (by omega), o1 (p / 2) (by omega), pg0 (1 - p % 2) (p / 2) _ (by omega) (by omega), pg1 (p % 2) (p / 2) _ (by omega) (by omega), pg1 (p % 2) (1 - p / 2) _ (by omega) (by omega)]
          have two : ∀ z : Bool, J g k_X9_court 108 [.ref M, .int (nI i), .int (nI j), .int (nI q.1), .int (nI p), .int (nI (p % 2)), .int (nI (p / 2)), q.2.2.2] [] [.int (zI z)] h Φ = J g k_X9_court 31 [.ref M, .int (nI i), .int (nI j), .int (nI (if z = true then q.1 + 2 ^ p else q.1)), .int (nI (p + 1)), .int (nI (p % 2)), .int (nI (p / 2)), .int (zI z)] [] [] h Φ := fun z => by
            simp only [s_X9_court_0, s_X9_court_1, s_X9_court_2, s_X9_court_5, s_X9_court_8, s_X9_court_9, s_X9_court_10, s_X9_court_13, s_X9_court_16, s_X9_court_17, s_X9_court_18, s_X9_court_21, s_X9_court_22, s_X9_court_25, s_X9_court_26, s_X9_court_27, s_X9_court_28, s_X9_court_29, s_X9_court_33, s_X9_court_34, s_X9_court_37, s_X9_court_39, s_X9_court_40, s_X9_court_41, s_X9_court_43, s_X9_court_45, s_X9_court_46, s_X9_court_47, s_X9_court_49, s_X9_court_50, s_X9_court_51, s_X9_court_52, s_X9_court_53, s_X9_court_55, s_X9_court_57, s_X9_court_60, s_X9_court_61, s_X9_court_62, s_X9_court_63, s_X9_court_64, s_X9_court_65, s_X9_court_67, s_X9_court_68, s_X9_court_70, s_X9_court_73, s_X9_court_76, s_X9_court_77, s_X9_court_78, s_X9_court_79, s_X9_court_80, s_X9_court_82, s_X9_court_84, s_X9_court_87, s_X9_court_88, s_X9_court_89, s_X9_court_90, s_X9_court_91, s_X9_court_93, s_X9_court_94, s_X9_court_96, s_X9_court_97, s_X9_court_100, s_X9_court_103, s_X9_court_104, s_X9_court_107, s_X9_court_108, s_X9_court_110, s_X9_court_111, s_X9_court_113, s_X9_court_116, s_X9_court_117, s_X9_court_119, s_X9_court_120, s_X9_court_123, s_X9_court_124, s_X9_court_125, s_X9_court_126, s_X9_court_129, s_X9_court_132, s_X9_court_133, zI_0, Bool.true_eq_false, Bool.false_eq_true, not_true_eq_false, not_false_eq_true, if_true, if_false, KV_ap, KU_ap, dropL_nil, a1]
            cases z
            · simp only [if_true, Bool.false_eq_true, if_false, Int32.or_zero]
            · simp only [if_true, Bool.true_eq_false, if_false, orb p (by omega) q.1 hq]
          unfold crB
          by_cases x1 : gtI 0 (decide (rS (gS u.1.1 i) (4 * (p % 2)) = rS (gS u.1.1 j) (4 * (p / 2)))) (p % 2) (p / 2) < gtI 0 (decide (rS (gS u.1.1 i) (4 * (1 - p % 2)) = rS (gS u.1.1 j) (4 * (p / 2)))) (1 - p % 2) (p / 2)
          · rw [if_pos x1, decide_eq_true x1]
            exact two false
          · rw [if_neg x1, decide_eq_false x1]
            by_cases x2 : gtI 1 (decide (rS (gS u.1.1 i) (4 * (p % 2)) = rS (gS u.1.1 j) (4 * (p / 2)))) (p % 2) (p / 2) < gtI 1 (decide (rS (gS u.1.1 i) (4 * (p % 2)) = rS (gS u.1.1 j) (4 * (1 - p / 2)))) (p % 2) (1 - p / 2)
            · rw [if_pos x2, decide_eq_true x2]
              exact two false
            · rw [if_neg x2, decide_eq_false x2]
              exact two true) 4 0 (0, m_D, m_D, m_D) rfl (by decide)
        refine Eq.mpr key.1 ?_
        have e2 : ∀ m p (q : Nat × Value × Value × Value), (it (fun p (q : Nat × Value × Value × Value) => ((if crB (fun x y => decide (rS (gS u.1.1 i) (4 * x) = rS (gS u.1.1 j) (4 * y))) p = true then q.1 + 2 ^ p else q.1), Value.int (nI (p % 2)), Value.int (nI (p / 2)), Value.int (zI (crB (fun x y => decide (rS (gS u.1.1 i) (4 * x) = rS (gS u.1.1 j) (4 * y))) p)))) m p q).1 = it (fun p b => if crB (fun x y => decide (rS (gS u.1.1 i) (4 * x) = rS (gS u.1.1 j) (4 * y))) p = true then b + 2 ^ p else b) m p q.1 := by
          intro m
          induction m with
          | zero => intro i q; rfl
          | succ m ih => intro i q; rw [it, it, ih]
        rw [s_X9_court_31]
        simp only [s_X9_court_0, s_X9_court_1, s_X9_court_2, s_X9_court_5, s_X9_court_8, s_X9_court_9, s_X9_court_10, s_X9_court_13, s_X9_court_16, s_X9_court_17, s_X9_court_18, s_X9_court_21, s_X9_court_22, s_X9_court_25, s_X9_court_26, s_X9_court_27, s_X9_court_28, s_X9_court_29, s_X9_court_33, s_X9_court_34, s_X9_court_37, s_X9_court_39, s_X9_court_40, s_X9_court_41, s_X9_court_43, s_X9_court_45, s_X9_court_46, s_X9_court_47, s_X9_court_49, s_X9_court_50, s_X9_court_51, s_X9_court_52, s_X9_court_53, s_X9_court_55, s_X9_court_57, s_X9_court_60, s_X9_court_61, s_X9_court_62, s_X9_court_63, s_X9_court_64, s_X9_court_65, s_X9_court_67, s_X9_court_68, s_X9_court_70, s_X9_court_73, s_X9_court_76, s_X9_court_77, s_X9_court_78, s_X9_court_79, s_X9_court_80, s_X9_court_82, s_X9_court_84, s_X9_court_87, s_X9_court_88, s_X9_court_89, s_X9_court_90, s_X9_court_91, s_X9_court_93, s_X9_court_94, s_X9_court_96, s_X9_court_97, s_X9_court_100, s_X9_court_103, s_X9_court_104, s_X9_court_107, s_X9_court_108, s_X9_court_110, s_X9_court_111, s_X9_court_113, s_X9_court_116, s_X9_court_117, s_X9_court_119, s_X9_court_120, s_X9_court_123, s_X9_court_124, s_X9_court_125, s_X9_court_126, s_X9_court_129, s_X9_court_132, s_X9_court_133, zI_0, Bool.true_eq_false, Bool.false_eq_true, not_true_eq_false, not_false_eq_true, if_true, if_false, KV_ap, KU_ap, dropL_nil, c4' 4 (by decide), Nat.le_refl, e2]
        exact k'

/-! The model's calls: row -/
theorem isM_O {h h' : HP} {M : Nat} {T : TW} {r : (Nat → Option TW) × List Nat × (Int64 × Int64) × (Nat → Int32)} (hM : isM h M (T, r)) (eS : ∀ x, hS h' x = hS h x) (eF : ∀ x j, hF h' x j = hF h x j) (eI : ∀ x, x ≠ 13 → x ≠ 14 → x ≠ 15 → hI h' (M + x) = hI h (M + x)) : isM h' M (T, r) := by
  obtain ⟨s, sh, ⟨g1, g2, g12, g18, g22, g23⟩, v, c, d, p, t, rr, i0, i1⟩ := id hM
  refine isM_T hM eS (fun j _ _ _ => eF M j) (fun x hx => eI x (by omega) (by omega) (by omega)) (by rw [eF]; exact g1) (by rw [eF]; exact g2) (by rw [eF]; exact g18) v ?_ ?_ ?_
  · rw [eI 2 (by decide) (by decide) (by decide), eI 3 (by decide) (by decide) (by decide), eI 4 (by decide) (by decide) (by decide), eI 5 (by decide) (by decide) (by decide)]; exact c
  · rw [eI 6 (by decide) (by decide) (by decide), eI 7 (by decide) (by decide) (by decide), eI 8 (by decide) (by decide) (by decide), eI 9 (by decide) (by decide) (by decide)]; exact d
  · rw [eI 12 (by decide) (by decide) (by decide)]; exact p
theorem sm_it (U : Nat → Nat → Nat) (c : List Nat) : ∀ m k s, k + m = c.length → 1 ≤ k → it (fun k s => s + U (c.getD (k - 1) 0) (c.getD k 0)) m k s = s + smU U k (c.getD (k - 1) 0) (c.drop k) := by
  intro m
  induction m with
  | zero =>
    intro k s hk _
    have : c.drop k = [] := by rw [List.drop_eq_nil_iff]; omega
    rw [this, smU]; rfl
  | succ m ih =>
    intro k s hk h1
    have hlt : k < c.length := by omega
    have e : c.drop k = c.getD k 0 :: c.drop (k + 1) := by
      rw [List.drop_eq_getElem_cons hlt, List.getD_eq_getElem?_getD, List.getElem?_eq_getElem hlt]; rfl
    rw [it, ih (k + 1) _ (by omega) (by omega), e, smU, if_neg (by omega), Nat.add_sub_cancel]
    omega
theorem sm_0 (U : Nat → Nat → Nat) (c : List Nat) (h : 1 ≤ c.length) : it (fun k s => s + U (c.getD (k - 1) 0) (c.getD k 0)) (c.length - 1) 1 0 = smU U 0 0 c := by
  rw [sm_it U c (c.length - 1) 1 0 (by omega) (by omega)]
  cases c with
  | nil => exact absurd h (by simp)
  | cons x r => rw [smU]; rfl
def rQ (h h' : HP) (M : Nat) (n a b ln : Nat) (U : Nat → Nat → Nat) : Prop := (∀ x, hS h' x = hS h x) ∧ (∀ x j, hF h' x j = hF h x j) ∧ (∀ x, x ≠ 13 → x ≠ 14 → x ≠ 15 → hI h' (M + x) = hI h (M + x)) ∧ (∀ j, j < ln → hI h' (M + 13) j = nI j) ∧ (∀ a' b', a' < n → b' < n → (a' < a ∨ (a' = a ∧ b' < b)) → hI h' (M + 15) (6 * a' + b') = nI (U a' b')) ∧ frm h h' M (M + 19)
def rL (h h' : HP) (M : Nat) (n : Nat) (c : List Nat) (U : Nat → Nat → Nat) : Prop := (∀ x, hS h' x = hS h x) ∧ (∀ x j, hF h' x j = hF h x j) ∧ (∀ x, x ≠ 13 → x ≠ 14 → x ≠ 15 → hI h' (M + x) = hI h (M + x)) ∧ lnR (hI h' (M + 13)) c ∧ (∀ a' b', a' < n → b' < n → hI h' (M + 15) (6 * a' + b') = nI (U a' b')) ∧ frm h h' M (M + 19)
def rB (n least : Nat) (best : Nat → Int32) (z : ZP) : Prop := least = z.1 ∧ z.1 ≤ 30 ∧ ∀ j, j < n → best j = nI (z.2.getD j 0)
section M34
variable {g : GL} {h : HP} {Φ : Value → HP → Prop} {M : Nat}
theorem p_rows {u : XS} (hM : isM h M u) (h1 : 1 ≤ u.1.1.length) (v : Int32) (k : ∀ h', rQ h h' M u.1.1.length u.1.1.length 0 u.1.1.length (uN u.1.1) → J g k_X9_row 75 [.ref M, .int v, .int (nI u.1.1.length), .int (nI u.1.1.length), m_D, m_D] [] [] h' Φ) : J g k_X9_row 19 [.ref M, .int v, m_D, m_D, m_D, m_D] [] [] h Φ := by
  obtain ⟨T, r⟩ := u
  have h1' : 1 ≤ T.1.length := h1
  have hl : T.1.length ≤ 6 := hM.2.2.2.1.1
  have s := hM.1
  have sh := hM.2.1
  have f1 : hF h M 1 = .int (nI T.1.length) := hM.2.2.1.1
  have r19 : hF h M 19 = .ref (M + 13) := s.2.2.2.2.2.2.2.2.2.2.2.2.2.1
  have r21 : hF h M 21 = .ref (M + 15) := s.2.2.2.2.2.2.2.2.2.2.2.2.2.2.2.1
  have s13 : hS h (M + 13) = (1, 6) := sh.2.2.2.2.2.1
  have s15 : hS h (M + 15) = (1, 36) := sh.2.2.2.2.2.2.2.1
  have ib6 : ∀ x, x < 6 → m_inb (nI x) 6 = true := fun x hx => by rw [inb_nI (by omega)]; simpa using hx
  have ib36 : ∀ x, x < 36 → m_inb (nI x) 36 = true := fun x hx => by rw [inb_nI (by omega)]; simpa using hx
  have m6 : ∀ x : Nat, (6 : Int32) * nI x = nI (6 * x) := fun x => i_mul 6 x
  have inner : ∀ a, a < T.1.length → ∀ m b h', b + m = T.1.length → rQ h h' M T.1.length a b (a + 1) (uN T.1) → (∀ h'', rQ h h'' M T.1.length a T.1.length (a + 1) (uN T.1) → J g k_X9_row 69 [.ref M, .int v, .int (nI a), .int (nI T.1.length), m_D, m_D] [] [] h'' Φ) → J g k_X9_row 38 [.ref M, .int v, .int (nI a), .int (nI b), m_D, m_D] [] [] h' Φ := by
    intro a ha m
    induction m with
    | zero =>
      intro b h' hb hq kk
      have : b = T.1.length := by omega
      subst this
      obtain ⟨q1, q2, q3, q4, q5, q6⟩ := id hq
      rw [s_X9_row_38]
      simp only [s_X9_row_39, s_X9_row_40, s_X9_row_43, q1, q2, s.1, f1, le_nI (show T.1.length < 2147483648 by omega) (show T.1.length < 2147483648 by omega), Nat.le_refl, if_true]
      exact kk h' hq
    | succ m ih =>
      intro b h' hb hq kk
      obtain ⟨q1, q2, q3, q4, q5, q6⟩ := id hq
      have hM2 : isM h' M (T, r) := isM_O hM q1 q2 q3
      rw [s_X9_row_38]
      simp only [s_X9_row_0, s_X9_row_1, s_X9_row_2, s_X9_row_5, s_X9_row_6, s_X9_row_9, s_X9_row_10, s_X9_row_11, s_X9_row_14, s_X9_row_17, s_X9_row_18, s_X9_row_19, s_X9_row_20, s_X9_row_21, s_X9_row_22, s_X9_row_23, s_X9_row_26, s_X9_row_29, s_X9_row_30, s_X9_row_33, s_X9_row_34, s_X9_row_35, s_X9_row_36, s_X9_row_37, s_X9_row_39, s_X9_row_40, s_X9_row_43, s_X9_row_46, s_X9_row_47, s_X9_row_50, s_X9_row_52, s_X9_row_53, s_X9_row_54, s_X9_row_55, s_X9_row_56, s_X9_row_57, s_X9_row_58, s_X9_row_59, s_X9_row_62, s_X9_row_63, s_X9_row_66, s_X9_row_72, s_X9_row_75, s_X9_row_77, s_X9_row_78, s_X9_row_79, s_X9_row_80, s_X9_row_81, s_X9_row_84, s_X9_row_85, s_X9_row_87, s_X9_row_88, s_X9_row_90, s_X9_row_92, s_X9_row_93, s_X9_row_96, s_X9_row_99, s_X9_row_101, s_X9_row_102, s_X9_row_105, s_X9_row_107, s_X9_row_108, s_X9_row_111, s_X9_row_113, s_X9_row_114, s_X9_row_115, s_X9_row_116, s_X9_row_117, s_X9_row_118, s_X9_row_121, s_X9_row_123, s_X9_row_124, s_X9_row_125, s_X9_row_126, s_X9_row_127, s_X9_row_129, s_X9_row_132, s_X9_row_135, s_X9_row_136, s_X9_row_138, s_X9_row_140, s_X9_row_141, s_X9_row_144, s_X9_row_147, s_X9_row_149, s_X9_row_150, s_X9_row_153, s_X9_row_154, s_X9_row_157, s_X9_row_159, s_X9_row_160, s_X9_row_163, s_X9_row_165, s_X9_row_166, s_X9_row_167, s_X9_row_170, s_X9_row_173, s_X9_row_174, s_X9_row_176, s_X9_row_179, s_X9_row_180, s_X9_row_181, s_X9_row_184, s_X9_row_185, s_X9_row_188, s_X9_row_189, s_X9_row_190, s_X9_row_193, s_X9_row_194, s_X9_row_197, s_X9_row_198, s_X9_row_199, s_X9_row_202, s_X9_row_205, s_X9_row_206, s_X9_row_209, s_X9_row_210, s_X9_row_211, s_X9_row_214, s_X9_row_216, zI_0, Bool.true_eq_false, Bool.false_eq_true, not_true_eq_false, not_false_eq_true, if_true, if_false, KV_ap, KU_ap, dropL_nil, q1, q2, s.1, f1, r21, s15, le_nI (show T.1.length < 2147483648 by omega) (show b < 2147483648 by omega), show ¬ T.1.length ≤ b by omega, m6, i_add, p_unlike hM2 ha (show b < T.1.length by omega), ib36 (6 * a + b) (by omega), cl_nI (show 6 * a + b < 2147483648 by omega), a1]
      refine ih (b + 1) _ (by omega) ⟨q1, q2, ?_, ?_, ?_, frm_pI (by omega) (by omega) q6⟩ kk
      · intro x x1 x2 x3
        rw [hI_pI, if_neg (by omega)]; exact q3 x x1 x2 x3
      · intro j hj
        rw [hI_pI, if_neg (by omega)]; exact q4 j hj
      · intro a' b' ha' hb' hh
        rw [hI_pIs]
        by_cases e : 6 * a' + b' = 6 * a + b
        · have e1 : a' = a := by omega
          have e2 : b' = b := by omega
          subst e1; subst e2
          rw [upd, if_pos rfl]
        · rw [upd, if_neg e]
          exact q5 a' b' ha' hb' (by omega)
  have outer : ∀ m a h' (vb : Value), a + m = T.1.length → rQ h h' M T.1.length a 0 a (uN T.1) → (∃ vb' : Nat, vb = .int (nI vb')) ∨ vb = m_D → (a = T.1.length → vb = .int (nI T.1.length)) → J g k_X9_row 21 [.ref M, .int v, .int (nI a), vb, m_D, m_D] [] [] h' Φ := by
    intro m
    induction m with
    | zero =>
      intro a h' vb ha hq _ hvb
      have : a = T.1.length := by omega
      subst this
      obtain ⟨q1, q2, q3, q4, q5, q6⟩ := id hq
      rw [hvb rfl, s_X9_row_21]
      simp only [s_X9_row_22, s_X9_row_23, s_X9_row_26, q1, q2, s.1, f1, le_nI (show T.1.length < 2147483648 by omega) (show T.1.length < 2147483648 by omega), Nat.le_refl, if_true]
      exact k h' hq
    | succ m ih =>
      intro a h' vb ha hq _ hvb
      obtain ⟨q1, q2, q3, q4, q5, q6⟩ := id hq
      rw [s_X9_row_21]
      simp only [s_X9_row_0, s_X9_row_1, s_X9_row_2, s_X9_row_5, s_X9_row_6, s_X9_row_9, s_X9_row_10, s_X9_row_11, s_X9_row_14, s_X9_row_17, s_X9_row_18, s_X9_row_19, s_X9_row_20, s_X9_row_22, s_X9_row_23, s_X9_row_26, s_X9_row_29, s_X9_row_30, s_X9_row_33, s_X9_row_34, s_X9_row_35, s_X9_row_36, s_X9_row_37, s_X9_row_39, s_X9_row_40, s_X9_row_43, s_X9_row_46, s_X9_row_47, s_X9_row_50, s_X9_row_52, s_X9_row_53, s_X9_row_54, s_X9_row_55, s_X9_row_56, s_X9_row_57, s_X9_row_58, s_X9_row_59, s_X9_row_62, s_X9_row_63, s_X9_row_66, s_X9_row_69, s_X9_row_72, s_X9_row_75, s_X9_row_77, s_X9_row_78, s_X9_row_79, s_X9_row_80, s_X9_row_81, s_X9_row_84, s_X9_row_85, s_X9_row_87, s_X9_row_88, s_X9_row_90, s_X9_row_92, s_X9_row_93, s_X9_row_96, s_X9_row_99, s_X9_row_101, s_X9_row_102, s_X9_row_105, s_X9_row_107, s_X9_row_108, s_X9_row_111, s_X9_row_113, s_X9_row_114, s_X9_row_115, s_X9_row_116, s_X9_row_117, s_X9_row_118, s_X9_row_121, s_X9_row_123, s_X9_row_124, s_X9_row_125, s_X9_row_126, s_X9_row_127, s_X9_row_129, s_X9_row_132, s_X9_row_135, s_X9_row_136, s_X9_row_138, s_X9_row_140, s_X9_row_141, s_X9_row_144, s_X9_row_147, s_X9_row_149, s_X9_row_150, s_X9_row_153, s_X9_row_154, s_X9_row_157, s_X9_row_159, s_X9_row_160, s_X9_row_163, s_X9_row_165, s_X9_row_166, s_X9_row_167, s_X9_row_170, s_X9_row_173, s_X9_row_174, s_X9_row_176, s_X9_row_179, s_X9_row_180, s_X9_row_181, s_X9_row_184, s_X9_row_185, s_X9_row_188, s_X9_row_189, s_X9_row_190, s_X9_row_193, s_X9_row_194, s_X9_row_197, s_X9_row_198, s_X9_row_199, s_X9_row_202, s_X9_row_205, s_X9_row_206, s_X9_row_209, s_X9_row_210, s_X9_row_211, s_X9_row_214, s_X9_row_216, zI_0, Bool.true_eq_false, Bool.false_eq_true, not_true_eq_false, not_false_eq_true, if_true, if_false, KV_ap, KU_ap, dropL_nil, q1, q2, s.1, f1, r19, s13, le_nI (show T.1.length < 2147483648 by omega) (show a < 2147483648 by omega), show ¬ T.1.length ≤ a by omega, ib6 a (by omega), cl_nI (show a < 2147483648 by omega)]
      refine inner a (by omega) T.1.length 0 _ (Nat.zero_add _) ⟨q1, q2, ?_, ?_, ?_, frm_pI (by omega) (by omega) q6⟩ (fun h'' hq2 => ?_)
      · intro x x1 x2 x3
        rw [hI_pI, if_neg (by omega)]; exact q3 x x1 x2 x3
      · intro j hj
        rw [hI_pIs]
        by_cases e : j = a
        · rw [upd, if_pos e, e]
        · rw [upd, if_neg e]; exact q4 j (by omega)
      · intro a' b' ha' hb' hh
        rw [hI_pI, if_neg (by omega)]
        exact q5 a' b' ha' hb' hh
      · rw [s_X9_row_69]
        simp only [s_X9_row_72, dropL_nil, a1]
        obtain ⟨p1, p2, p3, p4, p5, p6⟩ := hq2
        exact ih (a + 1) h'' _ (by omega) ⟨p1, p2, p3, p4, fun a' b' ha' hb' hh => p5 a' b' ha' hb' (by omega), p6⟩ (Or.inl ⟨_, rfl⟩) (fun _ => rfl)
  rw [s_X9_row_19, s_X9_row_20, dropL_nil]
  exact outer T.1.length 0 h m_D (Nat.zero_add _) ⟨fun _ => rfl, fun _ _ => rfl, fun _ _ _ _ => rfl, fun j hj => absurd hj (Nat.not_lt_zero j), fun a' b' _ _ hh => by omega, frm_rfl h _ _⟩ (Or.inr rfl) (fun z => by omega)
theorem sM_cg {h' : HP} (q1 : ∀ x, hS h' x = hS h x) (q2 : ∀ x j, hF h' x j = hF h x j) (s : sM h M) : sM h' M := by
  unfold sM
  simp only [q1, q2]
  exact s
theorem p_row1 {n : Nat} {U : Nat → Nat → Nat} (s : sM h M) (sh : shM h M) (f1 : hF h M 1 = .int (nI n)) (hn1 : 1 ≤ n) (hn : n ≤ 6) (hU : ∀ i j, U i j ≤ 5) (v : Int32) (c : List Nat) (least : Nat) (z : ZP) (h' : HP) (v4 v5 : Value) (hc : c.length = n) (hcb : ∀ i, c.getD i 0 < n) (hr : rL h h' M n c U) (hle : least < 2147483648) (hz : (z = (1000, []) ∧ least = 1048576) ∨ rB n least (hI h' (M + 14)) z) (kk : ∀ h2 (v4 v5 : Value), rL h h2 M n c U → rB n (stR U 0 0 [] 0 z c).1 (hI h2 (M + 14)) (stR U 0 0 [] 0 z c) → J g k_X9_row 180 [.ref M, .int v, .int (nI (stR U 0 0 [] 0 z c).1), .int 1, v4, v5] [] [] h2 Φ) : J g k_X9_row 80 [.ref M, .int v, .int (nI least), .int 1, v4, v5] [] [] h' Φ := by
  have r19 : hF h M 19 = .ref (M + 13) := s.2.2.2.2.2.2.2.2.2.2.2.2.2.1
  have r20 : hF h M 20 = .ref (M + 14) := s.2.2.2.2.2.2.2.2.2.2.2.2.2.2.1
  have r21 : hF h M 21 = .ref (M + 15) := s.2.2.2.2.2.2.2.2.2.2.2.2.2.2.2.1
  have s13 : hS h (M + 13) = (1, 6) := sh.2.2.2.2.2.1
  have s14 : hS h (M + 14) = (1, 6) := sh.2.2.2.2.2.2.1
  have s15 : hS h (M + 15) = (1, 36) := sh.2.2.2.2.2.2.2.1
  have ib6 : ∀ x, x < 6 → m_inb (nI x) 6 = true := fun x hx => by rw [inb_nI (by omega)]; simpa using hx
  have ib36 : ∀ x, x < 36 → m_inb (nI x) 36 = true := fun x hx => by rw [inb_nI (by omega)]; simpa using hx
  have m6 : ∀ x : Nat, (6 : Int32) * nI x = nI (6 * x) := fun x => i_mul 6 x
  have one0 : ((1 : Int32) = 0) = False := by decide
  obtain ⟨q1, q2, q3, q4, q5, q6⟩ := id hr
  have hS30 : smU U 0 0 c ≤ 30 := Nat.le_trans (smU_le U hU c 0 0) (by omega)
  have key := J_it (fun k (sm : Nat) => J g k_X9_row 90 [.ref M, .int v, .int (nI least), .int 1, .int (nI sm), .int (nI k)] [] [] h' Φ) (fun k sm => sm + U (c.getD (k - 1) 0) (c.getD k 0)) n (fun k _ => 1 ≤ k) (fun k _ _ _ => by omega) (fun k sm hk h1k => by
    have b1 := hcb (k - 1)
    have b2 := hcb k
    rw [s_X9_row_90]
    simp only [s_X9_row_0, s_X9_row_1, s_X9_row_2, s_X9_row_5, s_X9_row_6, s_X9_row_9, s_X9_row_10, s_X9_row_11, s_X9_row_14, s_X9_row_17, s_X9_row_18, s_X9_row_19, s_X9_row_20, s_X9_row_21, s_X9_row_22, s_X9_row_23, s_X9_row_26, s_X9_row_29, s_X9_row_30, s_X9_row_33, s_X9_row_34, s_X9_row_35, s_X9_row_36, s_X9_row_37, s_X9_row_38, s_X9_row_39, s_X9_row_40, s_X9_row_43, s_X9_row_46, s_X9_row_47, s_X9_row_50, s_X9_row_52, s_X9_row_53, s_X9_row_54, s_X9_row_55, s_X9_row_56, s_X9_row_57, s_X9_row_58, s_X9_row_59, s_X9_row_62, s_X9_row_63, s_X9_row_66, s_X9_row_69, s_X9_row_72, s_X9_row_75, s_X9_row_77, s_X9_row_78, s_X9_row_79, s_X9_row_80, s_X9_row_81, s_X9_row_84, s_X9_row_85, s_X9_row_87, s_X9_row_88, s_X9_row_92, s_X9_row_93, s_X9_row_96, s_X9_row_99, s_X9_row_101, s_X9_row_102, s_X9_row_105, s_X9_row_107, s_X9_row_108, s_X9_row_111, s_X9_row_113, s_X9_row_114, s_X9_row_115, s_X9_row_116, s_X9_row_117, s_X9_row_118, s_X9_row_121, s_X9_row_123, s_X9_row_124, s_X9_row_125, s_X9_row_126, s_X9_row_127, s_X9_row_129, s_X9_row_132, s_X9_row_135, s_X9_row_136, s_X9_row_138, s_X9_row_140, s_X9_row_141, s_X9_row_144, s_X9_row_147, s_X9_row_149, s_X9_row_150, s_X9_row_153, s_X9_row_154, s_X9_row_157, s_X9_row_159, s_X9_row_160, s_X9_row_163, s_X9_row_165, s_X9_row_166, s_X9_row_167, s_X9_row_170, s_X9_row_173, s_X9_row_174, s_X9_row_176, s_X9_row_179, s_X9_row_180, s_X9_row_181, s_X9_row_184, s_X9_row_185, s_X9_row_188, s_X9_row_189, s_X9_row_190, s_X9_row_193, s_X9_row_194, s_X9_row_197, s_X9_row_198, s_X9_row_199, s_X9_row_202, s_X9_row_205, s_X9_row_206, s_X9_row_209, s_X9_row_210, s_X9_row_211, s_X9_row_214, s_X9_row_216, zI_0, Bool.true_eq_false, Bool.false_eq_true, not_true_eq_false, not_false_eq_true, if_true, if_false, KV_ap, KU_ap, dropL_nil, q1, q2, s.1, f1, r19, r21, s13, s15, le_nI (show n < 2147483648 by omega) (show k < 2147483648 by omega), if_neg (Nat.not_le.mpr hk), s1 h1k, ib6 (k - 1) (by omega), ib6 k (by omega), cl_nI (show k - 1 < 2147483648 by omega), cl_nI (show k < 2147483648 by omega), q4 (k - 1) (by omega), q4 k (by omega), m6, i_add, ib36 (6 * c.getD (k - 1) 0 + c.getD k 0) (by omega), cl_nI (show 6 * c.getD (k - 1) 0 + c.getD k 0 < 2147483648 by omega), q5 (c.getD (k - 1) 0) (c.getD k 0) b1 b2, a1]) (n - 1) 1 0 (by omega) (Nat.le_refl 1)
  rw [s_X9_row_80]
  simp only [s_X9_row_0, s_X9_row_1, s_X9_row_2, s_X9_row_5, s_X9_row_6, s_X9_row_9, s_X9_row_10, s_X9_row_11, s_X9_row_14, s_X9_row_17, s_X9_row_18, s_X9_row_19, s_X9_row_20, s_X9_row_21, s_X9_row_22, s_X9_row_23, s_X9_row_26, s_X9_row_29, s_X9_row_30, s_X9_row_33, s_X9_row_34, s_X9_row_35, s_X9_row_36, s_X9_row_37, s_X9_row_38, s_X9_row_39, s_X9_row_40, s_X9_row_43, s_X9_row_46, s_X9_row_47, s_X9_row_50, s_X9_row_52, s_X9_row_53, s_X9_row_54, s_X9_row_55, s_X9_row_56, s_X9_row_57, s_X9_row_58, s_X9_row_59, s_X9_row_62, s_X9_row_63, s_X9_row_66, s_X9_row_69, s_X9_row_72, s_X9_row_75, s_X9_row_77, s_X9_row_78, s_X9_row_79, s_X9_row_81, s_X9_row_84, s_X9_row_85, s_X9_row_87, s_X9_row_88, s_X9_row_92, s_X9_row_93, s_X9_row_96, s_X9_row_99, s_X9_row_101, s_X9_row_102, s_X9_row_105, s_X9_row_107, s_X9_row_108, s_X9_row_111, s_X9_row_113, s_X9_row_114, s_X9_row_115, s_X9_row_116, s_X9_row_117, s_X9_row_118, s_X9_row_121, s_X9_row_123, s_X9_row_124, s_X9_row_125, s_X9_row_126, s_X9_row_127, s_X9_row_129, s_X9_row_132, s_X9_row_135, s_X9_row_136, s_X9_row_138, s_X9_row_140, s_X9_row_141, s_X9_row_144, s_X9_row_147, s_X9_row_149, s_X9_row_150, s_X9_row_153, s_X9_row_154, s_X9_row_157, s_X9_row_159, s_X9_row_160, s_X9_row_163, s_X9_row_165, s_X9_row_166, s_X9_row_167, s_X9_row_170, s_X9_row_173, s_X9_row_174, s_X9_row_176, s_X9_row_179, s_X9_row_180, s_X9_row_181, s_X9_row_184, s_X9_row_185, s_X9_row_188, s_X9_row_189, s_X9_row_190, s_X9_row_193, s_X9_row_194, s_X9_row_197, s_X9_row_198, s_X9_row_199, s_X9_row_202, s_X9_row_205, s_X9_row_206, s_X9_row_209, s_X9_row_210, s_X9_row_211, s_X9_row_214, s_X9_row_216, zI_0, Bool.true_eq_false, Bool.false_eq_true, not_true_eq_false, not_false_eq_true, if_true, if_false, KV_ap, KU_ap, dropL_nil, one0]
  refine Eq.mpr key.1 ?_
  have es : it (fun k sm => sm + U (c.getD (k - 1) 0) (c.getD k 0)) (n - 1) 1 0 = smU U 0 0 c := by rw [← hc]; exact sm_0 U c (by omega)
  rw [es, s_X9_row_90]
  simp only [s_X9_row_0, s_X9_row_1, s_X9_row_2, s_X9_row_5, s_X9_row_6, s_X9_row_9, s_X9_row_10, s_X9_row_11, s_X9_row_14, s_X9_row_17, s_X9_row_18, s_X9_row_19, s_X9_row_20, s_X9_row_21, s_X9_row_22, s_X9_row_23, s_X9_row_26, s_X9_row_29, s_X9_row_30, s_X9_row_33, s_X9_row_34, s_X9_row_35, s_X9_row_36, s_X9_row_37, s_X9_row_38, s_X9_row_39, s_X9_row_40, s_X9_row_43, s_X9_row_46, s_X9_row_47, s_X9_row_50, s_X9_row_52, s_X9_row_53, s_X9_row_54, s_X9_row_55, s_X9_row_56, s_X9_row_57, s_X9_row_58, s_X9_row_59, s_X9_row_62, s_X9_row_63, s_X9_row_66, s_X9_row_69, s_X9_row_72, s_X9_row_75, s_X9_row_77, s_X9_row_78, s_X9_row_79, s_X9_row_81, s_X9_row_84, s_X9_row_85, s_X9_row_87, s_X9_row_88, s_X9_row_92, s_X9_row_93, s_X9_row_96, s_X9_row_99, s_X9_row_101, s_X9_row_102, s_X9_row_105, s_X9_row_107, s_X9_row_108, s_X9_row_111, s_X9_row_113, s_X9_row_114, s_X9_row_115, s_X9_row_116, s_X9_row_117, s_X9_row_118, s_X9_row_121, s_X9_row_123, s_X9_row_124, s_X9_row_125, s_X9_row_126, s_X9_row_127, s_X9_row_129, s_X9_row_132, s_X9_row_135, s_X9_row_136, s_X9_row_140, s_X9_row_141, s_X9_row_144, s_X9_row_147, s_X9_row_149, s_X9_row_150, s_X9_row_153, s_X9_row_154, s_X9_row_157, s_X9_row_159, s_X9_row_160, s_X9_row_163, s_X9_row_165, s_X9_row_166, s_X9_row_167, s_X9_row_170, s_X9_row_173, s_X9_row_174, s_X9_row_176, s_X9_row_179, s_X9_row_180, s_X9_row_181, s_X9_row_184, s_X9_row_185, s_X9_row_188, s_X9_row_189, s_X9_row_190, s_X9_row_193, s_X9_row_194, s_X9_row_197, s_X9_row_198, s_X9_row_199, s_X9_row_202, s_X9_row_205, s_X9_row_206, s_X9_row_209, s_X9_row_210, s_X9_row_211, s_X9_row_214, s_X9_row_216, zI_0, Bool.true_eq_false, Bool.false_eq_true, not_true_eq_false, not_false_eq_true, if_true, if_false, KV_ap, KU_ap, dropL_nil, q1, q2, s.1, f1, le_nI (show n < 2147483648 by omega) (show n < 2147483648 by omega), Nat.le_refl]
  by_cases hlt : smU U 0 0 c < least
  · have ez : stR U 0 0 [] 0 z c = (smU U 0 0 c, c) := by
      unfold stR
      rw [Nat.zero_add, List.nil_append]
      apply if_pos
      rcases hz with ⟨z1, z2⟩ | ⟨z1, z2, z3⟩
      · rw [z1]; show smU U 0 0 c < 1000; omega
      · omega
    rw [ez] at kk
    have cp := J_it0 (fun k (_ : Unit) => J g k_X9_row 138 [.ref M, .int v, .int (nI least), .int 1, .int (nI (smU U 0 0 c)), .int (nI k)] [] [] (pI h' (M + 14) (tkF (hI h' (M + 14)) (hI h' (M + 13)) 0 k)) Φ) (fun _ q => q) n (fun k _ hk => by
      have e13 : ∀ f, hI (pI h' (M + 14) f) (M + 13) = hI h' (M + 13) := fun f => by rw [hI_pI, if_neg (by omega)]
      have ts := tkF_s (f := hI h' (M + 14)) (s := hI h' (M + 13)) (a := 0) (i := k)
      rw [Nat.zero_add] at ts
      rw [s_X9_row_138]
      simp only [s_X9_row_0, s_X9_row_1, s_X9_row_2, s_X9_row_5, s_X9_row_6, s_X9_row_9, s_X9_row_10, s_X9_row_11, s_X9_row_14, s_X9_row_17, s_X9_row_18, s_X9_row_19, s_X9_row_20, s_X9_row_21, s_X9_row_22, s_X9_row_23, s_X9_row_26, s_X9_row_29, s_X9_row_30, s_X9_row_33, s_X9_row_34, s_X9_row_35, s_X9_row_36, s_X9_row_37, s_X9_row_38, s_X9_row_39, s_X9_row_40, s_X9_row_43, s_X9_row_46, s_X9_row_47, s_X9_row_50, s_X9_row_52, s_X9_row_53, s_X9_row_54, s_X9_row_55, s_X9_row_56, s_X9_row_57, s_X9_row_58, s_X9_row_59, s_X9_row_62, s_X9_row_63, s_X9_row_66, s_X9_row_69, s_X9_row_72, s_X9_row_75, s_X9_row_77, s_X9_row_78, s_X9_row_79, s_X9_row_81, s_X9_row_84, s_X9_row_85, s_X9_row_87, s_X9_row_88, s_X9_row_92, s_X9_row_93, s_X9_row_96, s_X9_row_99, s_X9_row_101, s_X9_row_102, s_X9_row_105, s_X9_row_107, s_X9_row_108, s_X9_row_111, s_X9_row_113, s_X9_row_114, s_X9_row_115, s_X9_row_116, s_X9_row_117, s_X9_row_118, s_X9_row_121, s_X9_row_123, s_X9_row_124, s_X9_row_125, s_X9_row_126, s_X9_row_127, s_X9_row_129, s_X9_row_132, s_X9_row_135, s_X9_row_136, s_X9_row_140, s_X9_row_141, s_X9_row_144, s_X9_row_147, s_X9_row_149, s_X9_row_150, s_X9_row_153, s_X9_row_154, s_X9_row_157, s_X9_row_159, s_X9_row_160, s_X9_row_163, s_X9_row_165, s_X9_row_166, s_X9_row_167, s_X9_row_170, s_X9_row_173, s_X9_row_174, s_X9_row_176, s_X9_row_179, s_X9_row_180, s_X9_row_181, s_X9_row_184, s_X9_row_185, s_X9_row_188, s_X9_row_189, s_X9_row_190, s_X9_row_193, s_X9_row_194, s_X9_row_197, s_X9_row_198, s_X9_row_199, s_X9_row_202, s_X9_row_205, s_X9_row_206, s_X9_row_209, s_X9_row_210, s_X9_row_211, s_X9_row_214, s_X9_row_216, zI_0, Bool.true_eq_false, Bool.false_eq_true, not_true_eq_false, not_false_eq_true, if_true, if_false, KV_ap, KU_ap, dropL_nil, hS_pI, hF_pI, q1, q2, s.1, f1, r19, r20, s13, s14, le_nI (show n < 2147483648 by omega) (show k < 2147483648 by omega), if_neg (Nat.not_le.mpr hk), le_nI hle (show smU U 0 0 c < 2147483648 by omega), show ¬ least ≤ smU U 0 0 c by omega, ib6 k (by omega), cl_nI (show k < 2147483648 by omega), e13, hI_pIs, pI_pI, ts, a1]) ()
    rw [tkF_0, pI_id] at cp
    refine Eq.mpr cp ?_
    rw [s_X9_row_138]
    simp only [s_X9_row_0, s_X9_row_1, s_X9_row_2, s_X9_row_5, s_X9_row_6, s_X9_row_9, s_X9_row_10, s_X9_row_11, s_X9_row_14, s_X9_row_17, s_X9_row_18, s_X9_row_19, s_X9_row_20, s_X9_row_21, s_X9_row_22, s_X9_row_23, s_X9_row_26, s_X9_row_29, s_X9_row_30, s_X9_row_33, s_X9_row_34, s_X9_row_35, s_X9_row_36, s_X9_row_37, s_X9_row_38, s_X9_row_39, s_X9_row_40, s_X9_row_43, s_X9_row_46, s_X9_row_47, s_X9_row_50, s_X9_row_52, s_X9_row_53, s_X9_row_54, s_X9_row_55, s_X9_row_56, s_X9_row_57, s_X9_row_58, s_X9_row_59, s_X9_row_62, s_X9_row_63, s_X9_row_66, s_X9_row_69, s_X9_row_72, s_X9_row_75, s_X9_row_77, s_X9_row_78, s_X9_row_79, s_X9_row_81, s_X9_row_84, s_X9_row_85, s_X9_row_87, s_X9_row_88, s_X9_row_92, s_X9_row_93, s_X9_row_96, s_X9_row_99, s_X9_row_101, s_X9_row_102, s_X9_row_105, s_X9_row_107, s_X9_row_108, s_X9_row_111, s_X9_row_113, s_X9_row_114, s_X9_row_115, s_X9_row_116, s_X9_row_117, s_X9_row_118, s_X9_row_121, s_X9_row_123, s_X9_row_124, s_X9_row_125, s_X9_row_126, s_X9_row_127, s_X9_row_129, s_X9_row_132, s_X9_row_135, s_X9_row_136, s_X9_row_140, s_X9_row_141, s_X9_row_144, s_X9_row_147, s_X9_row_149, s_X9_row_150, s_X9_row_153, s_X9_row_154, s_X9_row_157, s_X9_row_159, s_X9_row_160, s_X9_row_163, s_X9_row_165, s_X9_row_166, s_X9_row_167, s_X9_row_170, s_X9_row_173, s_X9_row_174, s_X9_row_176, s_X9_row_179, s_X9_row_181, s_X9_row_184, s_X9_row_185, s_X9_row_188, s_X9_row_189, s_X9_row_190, s_X9_row_193, s_X9_row_194, s_X9_row_197, s_X9_row_198, s_X9_row_199, s_X9_row_202, s_X9_row_205, s_X9_row_206, s_X9_row_209, s_X9_row_210, s_X9_row_211, s_X9_row_214, s_X9_row_216, zI_0, Bool.true_eq_false, Bool.false_eq_true, not_true_eq_false, not_false_eq_true, if_true, if_false, KV_ap, KU_ap, dropL_nil, hS_pI, hF_pI, q1, q2, s.1, f1, le_nI (show n < 2147483648 by omega) (show n < 2147483648 by omega), Nat.le_refl, p_lesser, mn_nI hle (show smU U 0 0 c < 2147483648 by omega), Nat.min_eq_right (show smU U 0 0 c ≤ least by omega)]
    refine kk _ _ _ ⟨q1, q2, ?_, ?_, ?_, frm_pI (by omega) (by omega) q6⟩ ⟨rfl, hS30, fun j hj => ?_⟩
    · intro x x1 x2 x3
      rw [hI_pI, if_neg (by omega)]; exact q3 x x1 x2 x3
    · rw [hI_pI, if_neg (by omega)]; exact q4
    · rw [hI_pI, if_neg (by omega)]; exact q5
    · rw [hI_pIs, tkF, if_pos hj, Nat.zero_add]
      exact q4 j (by omega)
  · have hz2 : rB n least (hI h' (M + 14)) z := by
      rcases hz with ⟨z1, z2⟩ | hz
      · exact absurd hlt (by omega)
      · exact hz
    have ez : stR U 0 0 [] 0 z c = z := by
      unfold stR
      rw [Nat.zero_add]
      exact if_neg (by have := hz2.1; omega)
    rw [ez] at kk
    have e0 : (0 : Int32) = nI 0 := rfl
    rw [s_X9_row_138]
    simp only [s_X9_row_0, s_X9_row_1, s_X9_row_2, s_X9_row_5, s_X9_row_6, s_X9_row_9, s_X9_row_10, s_X9_row_11, s_X9_row_14, s_X9_row_17, s_X9_row_18, s_X9_row_19, s_X9_row_20, s_X9_row_21, s_X9_row_22, s_X9_row_23, s_X9_row_26, s_X9_row_29, s_X9_row_30, s_X9_row_33, s_X9_row_34, s_X9_row_35, s_X9_row_36, s_X9_row_37, s_X9_row_38, s_X9_row_39, s_X9_row_40, s_X9_row_43, s_X9_row_46, s_X9_row_47, s_X9_row_50, s_X9_row_52, s_X9_row_53, s_X9_row_54, s_X9_row_55, s_X9_row_56, s_X9_row_57, s_X9_row_58, s_X9_row_59, s_X9_row_62, s_X9_row_63, s_X9_row_66, s_X9_row_69, s_X9_row_72, s_X9_row_75, s_X9_row_77, s_X9_row_78, s_X9_row_79, s_X9_row_81, s_X9_row_84, s_X9_row_85, s_X9_row_87, s_X9_row_88, s_X9_row_92, s_X9_row_93, s_X9_row_96, s_X9_row_99, s_X9_row_101, s_X9_row_102, s_X9_row_105, s_X9_row_107, s_X9_row_108, s_X9_row_111, s_X9_row_113, s_X9_row_114, s_X9_row_115, s_X9_row_116, s_X9_row_117, s_X9_row_118, s_X9_row_121, s_X9_row_123, s_X9_row_124, s_X9_row_125, s_X9_row_126, s_X9_row_127, s_X9_row_129, s_X9_row_132, s_X9_row_135, s_X9_row_136, s_X9_row_140, s_X9_row_141, s_X9_row_144, s_X9_row_147, s_X9_row_149, s_X9_row_150, s_X9_row_153, s_X9_row_154, s_X9_row_157, s_X9_row_159, s_X9_row_160, s_X9_row_163, s_X9_row_165, s_X9_row_166, s_X9_row_167, s_X9_row_170, s_X9_row_173, s_X9_row_174, s_X9_row_176, s_X9_row_179, s_X9_row_181, s_X9_row_184, s_X9_row_185, s_X9_row_188, s_X9_row_189, s_X9_row_190, s_X9_row_193, s_X9_row_194, s_X9_row_197, s_X9_row_198, s_X9_row_199, s_X9_row_202, s_X9_row_205, s_X9_row_206, s_X9_row_209, s_X9_row_210, s_X9_row_211, s_X9_row_214, s_X9_row_216, zI_0, Bool.true_eq_false, Bool.false_eq_true, not_true_eq_false, not_false_eq_true, if_true, if_false, KV_ap, KU_ap, dropL_nil, q1, q2, s.1, f1]
    rw [if_neg (by rw [e0, le_nI (by omega) (by decide)]; omega)]
    simp only [s_X9_row_0, s_X9_row_1, s_X9_row_2, s_X9_row_5, s_X9_row_6, s_X9_row_9, s_X9_row_10, s_X9_row_11, s_X9_row_14, s_X9_row_17, s_X9_row_18, s_X9_row_19, s_X9_row_20, s_X9_row_21, s_X9_row_22, s_X9_row_23, s_X9_row_26, s_X9_row_29, s_X9_row_30, s_X9_row_33, s_X9_row_34, s_X9_row_35, s_X9_row_36, s_X9_row_37, s_X9_row_38, s_X9_row_39, s_X9_row_40, s_X9_row_43, s_X9_row_46, s_X9_row_47, s_X9_row_50, s_X9_row_52, s_X9_row_53, s_X9_row_54, s_X9_row_55, s_X9_row_56, s_X9_row_57, s_X9_row_58, s_X9_row_59, s_X9_row_62, s_X9_row_63, s_X9_row_66, s_X9_row_69, s_X9_row_72, s_X9_row_75, s_X9_row_77, s_X9_row_78, s_X9_row_79, s_X9_row_81, s_X9_row_84, s_X9_row_85, s_X9_row_87, s_X9_row_88, s_X9_row_92, s_X9_row_93, s_X9_row_96, s_X9_row_99, s_X9_row_101, s_X9_row_102, s_X9_row_105, s_X9_row_107, s_X9_row_108, s_X9_row_111, s_X9_row_113, s_X9_row_114, s_X9_row_115, s_X9_row_116, s_X9_row_117, s_X9_row_118, s_X9_row_121, s_X9_row_123, s_X9_row_124, s_X9_row_125, s_X9_row_126, s_X9_row_127, s_X9_row_129, s_X9_row_132, s_X9_row_135, s_X9_row_136, s_X9_row_140, s_X9_row_141, s_X9_row_144, s_X9_row_147, s_X9_row_149, s_X9_row_150, s_X9_row_153, s_X9_row_154, s_X9_row_157, s_X9_row_159, s_X9_row_160, s_X9_row_163, s_X9_row_165, s_X9_row_166, s_X9_row_167, s_X9_row_170, s_X9_row_173, s_X9_row_174, s_X9_row_176, s_X9_row_179, s_X9_row_181, s_X9_row_184, s_X9_row_185, s_X9_row_188, s_X9_row_189, s_X9_row_190, s_X9_row_193, s_X9_row_194, s_X9_row_197, s_X9_row_198, s_X9_row_199, s_X9_row_202, s_X9_row_205, s_X9_row_206, s_X9_row_209, s_X9_row_210, s_X9_row_211, s_X9_row_214, s_X9_row_216, zI_0, Bool.true_eq_false, Bool.false_eq_true, not_true_eq_false, not_false_eq_true, if_true, if_false, KV_ap, KU_ap, dropL_nil, le_nI hle (show smU U 0 0 c < 2147483648 by omega), show least ≤ smU U 0 0 c by omega, p_lesser, mn_nI hle (show smU U 0 0 c < 2147483648 by omega), Nat.min_eq_left (show least ≤ smU U 0 0 c by omega)]
    have := kk h' (.int (nI (smU U 0 0 c))) (.int 0) hr (by rw [← hz2.1]; exact hz2)
    rw [← hz2.1] at this
    exact this
theorem p_search {n : Nat} {U : Nat → Nat → Nat} (s : sM h M) (sh : shM h M) (f1 : hF h M 1 = .int (nI n)) (hn1 : 1 ≤ n) (hn : n ≤ 6) (hU : ∀ i j, U i j ≤ 5) (v : Int32) : ∀ (l : List (List Nat)) (c : List Nat) (least : Nat) (z : ZP) (h' : HP) (v4 v5 : Value), chn n (c :: l) = true → (∀ c', c' ∈ c :: l → c'.length = n ∧ ∀ i, c'.getD i 0 < n) → rL h h' M n c U → least < 2147483648 → ((z = (1000, []) ∧ least = 1048576) ∨ rB n least (hI h' (M + 14)) z) → (∀ h'' (v4 v5 : Value), (∀ x, hS h'' x = hS h x) → (∀ x j, hF h'' x j = hF h x j) → (∀ x, x ≠ 13 → x ≠ 14 → x ≠ 15 → hI h'' (M + x) = hI h (M + x)) → frm h h'' M (M + 19) → rB n ((c :: l).foldl (stR U 0 0 [] 0) z).1 (hI h'' (M + 14)) ((c :: l).foldl (stR U 0 0 [] 0) z) → J g k_X9_row 188 [.ref M, .int v, .int (nI ((c :: l).foldl (stR U 0 0 [] 0) z).1), .int 0, v4, v5] [] [] h'' Φ) → J g k_X9_row 80 [.ref M, .int v, .int (nI least), .int 1, v4, v5] [] [] h' Φ := by
  have s13 : hS h (M + 13) = (1, 6) := sh.2.2.2.2.2.1
  have one0 : ((1 : Int32) = 0) = False := by decide
  intro l
  induction l with
  | nil =>
    intro c least z h' v4 v5 hch hall hr hle hz kk
    obtain ⟨a1', a2'⟩ := hall c (List.mem_cons_self ..)
    refine p_row1 s sh f1 hn1 hn hU v c least z h' v4 v5 a1' a2' hr hle hz (fun h2 w4 w5 r2 b2 => ?_)
    obtain ⟨q1, q2, q3, q4, q5, q6⟩ := id r2
    have hnx : nxL n c = none := by simpa [chn] using hch
    rw [s_X9_row_180, s_X9_row_181 (by rw [q1]; exact s.1)]
    refine p_nextLine (c := c) (sM_cg q1 q2 s) (by rw [q1]; exact s13) (by rw [q2]; exact f1) hn1 hn a1' (fun i => by have := a2' i; omega) q4 (fun _ => ?_) (fun c' f' e _ => by rw [hnx] at e; exact absurd e (by simp))
    rw [KV_ap, s_X9_row_184, s_X9_row_185, dropL_nil, s_X9_row_80, s_X9_row_81, if_pos rfl]
    exact kk h2 w4 w5 q1 q2 q3 q6 b2
  | cons c' l ih =>
    intro c least z h' v4 v5 hch hall hr hle hz kk
    obtain ⟨a1', a2'⟩ := hall c (List.mem_cons_self ..)
    refine p_row1 s sh f1 hn1 hn hU v c least z h' v4 v5 a1' a2' hr hle hz (fun h2 w4 w5 r2 b2 => ?_)
    obtain ⟨q1, q2, q3, q4, q5, q6⟩ := id r2
    rw [chn, Bool.and_eq_true, decide_eq_true_eq] at hch
    rw [s_X9_row_180, s_X9_row_181 (by rw [q1]; exact s.1)]
    refine p_nextLine (c := c) (sM_cg q1 q2 s) (by rw [q1]; exact s13) (by rw [q2]; exact f1) hn1 hn a1' (fun i => by have := a2' i; omega) q4 (fun e => by rw [hch.1] at e; exact absurd e (by simp)) (fun c'' f' e hf => ?_)
    rw [hch.1] at e
    have ec := Option.some.inj e
    subst ec
    rw [KV_ap, s_X9_row_184, s_X9_row_185, dropL_nil]
    have hb := b2.2.1
    refine ih c' (stR U 0 0 [] 0 z c).1 (stR U 0 0 [] 0 z c) _ w4 w5 hch.2 (fun d hd => hall d (List.mem_cons_of_mem _ hd)) ⟨q1, q2, ?_, ?_, ?_, frm_pI (by omega) (by omega) q6⟩ (by omega) (Or.inr ?_) kk
    · intro x x1 x2 x3
      rw [hI_pI, if_neg (by omega)]; exact q3 x x1 x2 x3
    · rw [hI_pIs]; exact hf
    · rw [hI_pI, if_neg (by omega)]; exact q5
    · rw [hI_pI, if_neg (by omega)]; exact b2
end M34
theorem m_row (v : Int32) : cM k_X9_row [.int v, m_D, m_D, m_D, m_D] (aRow v) := by
  intro g h M u Φ hM k
  obtain ⟨T, r⟩ := u
  have hl : T.1.length ≤ 6 := hM.2.2.2.1.1
  have s := hM.1
  have sh := hM.2.1
  have f1 : hF h M 1 = .int (nI T.1.length) := hM.2.2.1.1
  by_cases g1 : -1 ≤ v
  · by_cases g2 : T.1.length = 0
    · have e : aRow v (T, r) = (.int (-1), (T, r)) := by
        simp only [aRow, if_pos g1, g2, if_true]
      rw [e] at k
      simp only [s_X9_row_0, s_X9_row_1, s_X9_row_2, s_X9_row_5, s_X9_row_6, s_X9_row_9, s_X9_row_10, s_X9_row_11, s_X9_row_14, s_X9_row_17, s_X9_row_18, s_X9_row_20, s_X9_row_21, s_X9_row_22, s_X9_row_23, s_X9_row_26, s_X9_row_29, s_X9_row_30, s_X9_row_33, s_X9_row_34, s_X9_row_35, s_X9_row_36, s_X9_row_37, s_X9_row_38, s_X9_row_39, s_X9_row_40, s_X9_row_43, s_X9_row_46, s_X9_row_47, s_X9_row_50, s_X9_row_52, s_X9_row_53, s_X9_row_54, s_X9_row_55, s_X9_row_56, s_X9_row_57, s_X9_row_58, s_X9_row_59, s_X9_row_62, s_X9_row_63, s_X9_row_66, s_X9_row_69, s_X9_row_72, s_X9_row_75, s_X9_row_77, s_X9_row_78, s_X9_row_79, s_X9_row_80, s_X9_row_81, s_X9_row_84, s_X9_row_85, s_X9_row_87, s_X9_row_88, s_X9_row_90, s_X9_row_92, s_X9_row_93, s_X9_row_96, s_X9_row_99, s_X9_row_101, s_X9_row_102, s_X9_row_105, s_X9_row_107, s_X9_row_108, s_X9_row_111, s_X9_row_113, s_X9_row_114, s_X9_row_115, s_X9_row_116, s_X9_row_117, s_X9_row_118, s_X9_row_121, s_X9_row_123, s_X9_row_124, s_X9_row_125, s_X9_row_126, s_X9_row_127, s_X9_row_129, s_X9_row_132, s_X9_row_135, s_X9_row_136, s_X9_row_138, s_X9_row_140, s_X9_row_141, s_X9_row_144, s_X9_row_147, s_X9_row_149, s_X9_row_150, s_X9_row_153, s_X9_row_154, s_X9_row_157, s_X9_row_159, s_X9_row_160, s_X9_row_163, s_X9_row_165, s_X9_row_166, s_X9_row_167, s_X9_row_170, s_X9_row_173, s_X9_row_174, s_X9_row_176, s_X9_row_179, s_X9_row_180, s_X9_row_181, s_X9_row_184, s_X9_row_185, s_X9_row_188, s_X9_row_189, s_X9_row_190, s_X9_row_193, s_X9_row_194, s_X9_row_197, s_X9_row_198, s_X9_row_199, s_X9_row_202, s_X9_row_205, s_X9_row_206, s_X9_row_209, s_X9_row_210, s_X9_row_211, s_X9_row_214, s_X9_row_216, zI_0, Bool.true_eq_false, Bool.false_eq_true, not_true_eq_false, not_false_eq_true, if_true, if_false, KV_ap, KU_ap, dropL_nil, s.1, f1, g1, eq0 (show T.1.length < 2147483648 by omega), g2]
      exact k h hM (frm_rfl h _ _)
    · have ck := ch_chk T.1.length (by omega)
      rw [decide_eq_false g2, Bool.false_or] at ck
      simp only [Bool.and_eq_true, decide_eq_true_eq, List.all_eq_true] at ck
      obtain ⟨k1, k2, k3⟩ := ck
      simp only [s_X9_row_0, s_X9_row_1, s_X9_row_2, s_X9_row_5, s_X9_row_6, s_X9_row_9, s_X9_row_10, s_X9_row_11, s_X9_row_14, s_X9_row_17, s_X9_row_18, s_X9_row_20, s_X9_row_21, s_X9_row_22, s_X9_row_23, s_X9_row_26, s_X9_row_29, s_X9_row_30, s_X9_row_33, s_X9_row_34, s_X9_row_35, s_X9_row_36, s_X9_row_37, s_X9_row_38, s_X9_row_39, s_X9_row_40, s_X9_row_43, s_X9_row_46, s_X9_row_47, s_X9_row_50, s_X9_row_52, s_X9_row_53, s_X9_row_54, s_X9_row_55, s_X9_row_56, s_X9_row_57, s_X9_row_58, s_X9_row_59, s_X9_row_62, s_X9_row_63, s_X9_row_66, s_X9_row_69, s_X9_row_72, s_X9_row_75, s_X9_row_77, s_X9_row_78, s_X9_row_79, s_X9_row_80, s_X9_row_81, s_X9_row_84, s_X9_row_85, s_X9_row_87, s_X9_row_88, s_X9_row_90, s_X9_row_92, s_X9_row_93, s_X9_row_96, s_X9_row_99, s_X9_row_101, s_X9_row_102, s_X9_row_105, s_X9_row_107, s_X9_row_108, s_X9_row_111, s_X9_row_113, s_X9_row_114, s_X9_row_115, s_X9_row_116, s_X9_row_117, s_X9_row_118, s_X9_row_121, s_X9_row_123, s_X9_row_124, s_X9_row_125, s_X9_row_126, s_X9_row_127, s_X9_row_129, s_X9_row_132, s_X9_row_135, s_X9_row_136, s_X9_row_138, s_X9_row_140, s_X9_row_141, s_X9_row_144, s_X9_row_147, s_X9_row_149, s_X9_row_150, s_X9_row_153, s_X9_row_154, s_X9_row_157, s_X9_row_159, s_X9_row_160, s_X9_row_163, s_X9_row_165, s_X9_row_166, s_X9_row_167, s_X9_row_170, s_X9_row_173, s_X9_row_174, s_X9_row_176, s_X9_row_179, s_X9_row_180, s_X9_row_181, s_X9_row_184, s_X9_row_185, s_X9_row_188, s_X9_row_189, s_X9_row_190, s_X9_row_193, s_X9_row_194, s_X9_row_197, s_X9_row_198, s_X9_row_199, s_X9_row_202, s_X9_row_205, s_X9_row_206, s_X9_row_209, s_X9_row_210, s_X9_row_211, s_X9_row_214, s_X9_row_216, zI_0, Bool.true_eq_false, Bool.false_eq_true, not_true_eq_false, not_false_eq_true, if_true, if_false, KV_ap, KU_ap, dropL_nil, s.1, f1, g1, eq0 (show T.1.length < 2147483648 by omega), g2]
      refine p_rows hM (show 1 ≤ T.1.length by omega) v (fun h' hq => ?_)
      obtain ⟨q1, q2, q3, q4, q5, q6⟩ := hq
      simp only [s_X9_row_75, s_X9_row_77, s_X9_row_78, s_X9_row_79, dropL_nil]
      have hcp : rwN T.1.length (uN T.1) = (cp T.1.length 7 0 0).foldl (stR (uN T.1) 0 0 [] 0) (1000, []) := rfl
      have ge : ∀ i, (List.range T.1.length).getD i 0 = if i < T.1.length then i else 0 := by
        intro i
        rw [List.getD_eq_getElem?_getD]
        by_cases z : i < T.1.length
        · rw [if_pos z, List.getElem?_range z]; rfl
        · rw [if_neg z, List.getElem?_eq_none (by rw [List.length_range]; omega)]; rfl
      have hgo : ∀ c', c' ∈ cp T.1.length 7 0 0 → c'.length = T.1.length ∧ ∀ i, c'.getD i 0 < T.1.length := by
        intro c' hc'
        obtain ⟨a1', a2'⟩ := k3 c' hc'
        refine ⟨a1', fun i => ?_⟩
        rw [List.getD_eq_getElem?_getD]
        by_cases z : i < c'.length
        · rw [List.getElem?_eq_getElem z]
          exact a2' _ (List.getElem_mem z)
        · rw [List.getElem?_eq_none (by omega)]
          show 0 < T.1.length
          omega
      cases hl' : cp T.1.length 7 0 0 with
      | nil => rw [hl'] at k2; exact absurd k2 (by simp)
      | cons c l =>
        rw [hl'] at k1 k2 hgo hcp
        have ec : c = List.range T.1.length := by simpa using k2
        refine p_search (h := h) (U := uN T.1) s sh f1 (show 1 ≤ T.1.length by omega) hl (fun i j => upN_le _ _) v l c 1048576 (1000, []) h' _ _ k1 hgo ⟨q1, q2, q3, ?_, fun a' b' ha hb => q5 a' b' ha hb (Or.inl ha), q6⟩ (by decide) (Or.inl ⟨rfl, rfl⟩) (fun h'' v4 v5 p1 p2 p3 p6 pb => ?_)
        · intro i hi
          rw [ec, List.length_range] at hi
          rw [ec, ge, if_pos hi]
          exact q4 i hi
        · rw [← hcp] at pb ⊢
          obtain ⟨b1, b2, b3⟩ := pb
          have r20 : hF h M 20 = .ref (M + 14) := s.2.2.2.2.2.2.2.2.2.2.2.2.2.2.1
          have s14 : hS h (M + 14) = (1, 6) := sh.2.2.2.2.2.2.1
          have hM2 : isM h'' M (T, r) := isM_O hM p1 p2 p3
          by_cases g3 : v < nI T.1.length
          · have e : aRow v (T, r) = (.int (if v = -1 then nI (rwN T.1.length (uN T.1)).1 else nI ((rwN T.1.length (uN T.1)).2.getD v.toNatClampNeg 0)), (T, r)) := by
              simp only [aRow, if_pos g1, g2, if_false, if_pos g3]
            rw [e] at k
            have k' := k h'' hM2 p6
            by_cases g4 : v = -1
            · simp only [g4, if_true] at k'
              simp only [s_X9_row_0, s_X9_row_1, s_X9_row_2, s_X9_row_5, s_X9_row_6, s_X9_row_9, s_X9_row_10, s_X9_row_11, s_X9_row_14, s_X9_row_17, s_X9_row_18, s_X9_row_19, s_X9_row_20, s_X9_row_21, s_X9_row_22, s_X9_row_23, s_X9_row_26, s_X9_row_29, s_X9_row_30, s_X9_row_33, s_X9_row_34, s_X9_row_35, s_X9_row_36, s_X9_row_37, s_X9_row_38, s_X9_row_39, s_X9_row_40, s_X9_row_43, s_X9_row_46, s_X9_row_47, s_X9_row_50, s_X9_row_52, s_X9_row_53, s_X9_row_54, s_X9_row_55, s_X9_row_56, s_X9_row_57, s_X9_row_58, s_X9_row_59, s_X9_row_62, s_X9_row_63, s_X9_row_66, s_X9_row_69, s_X9_row_72, s_X9_row_75, s_X9_row_77, s_X9_row_78, s_X9_row_79, s_X9_row_81, s_X9_row_84, s_X9_row_85, s_X9_row_87, s_X9_row_88, s_X9_row_90, s_X9_row_92, s_X9_row_93, s_X9_row_96, s_X9_row_99, s_X9_row_101, s_X9_row_102, s_X9_row_105, s_X9_row_107, s_X9_row_108, s_X9_row_111, s_X9_row_113, s_X9_row_114, s_X9_row_115, s_X9_row_116, s_X9_row_117, s_X9_row_118, s_X9_row_121, s_X9_row_123, s_X9_row_124, s_X9_row_125, s_X9_row_126, s_X9_row_127, s_X9_row_129, s_X9_row_132, s_X9_row_135, s_X9_row_136, s_X9_row_138, s_X9_row_140, s_X9_row_141, s_X9_row_144, s_X9_row_147, s_X9_row_149, s_X9_row_150, s_X9_row_153, s_X9_row_154, s_X9_row_157, s_X9_row_159, s_X9_row_160, s_X9_row_163, s_X9_row_165, s_X9_row_166, s_X9_row_167, s_X9_row_170, s_X9_row_173, s_X9_row_174, s_X9_row_176, s_X9_row_179, s_X9_row_180, s_X9_row_181, s_X9_row_184, s_X9_row_185, s_X9_row_188, s_X9_row_189, s_X9_row_190, s_X9_row_193, s_X9_row_194, s_X9_row_197, s_X9_row_198, s_X9_row_199, s_X9_row_202, s_X9_row_205, s_X9_row_206, s_X9_row_209, s_X9_row_210, s_X9_row_211, s_X9_row_214, s_X9_row_216, zI_0, Bool.true_eq_false, Bool.false_eq_true, not_true_eq_false, not_false_eq_true, if_true, if_false, KV_ap, KU_ap, dropL_nil, g4]
              exact k'
            · have g0 := ge_m1 g1 g4
              obtain ⟨j, ej, hj⟩ := hs_ex (show T.1.length < 2147483648 by omega) (decide_eq_true ⟨g0, g3⟩)
              simp only [g4, if_false] at k'
              subst ej
              rw [cl_nI (show j < 2147483648 by omega)] at k'
              have hin : m_inb (nI j) 6 = true := by rw [inb_nI (by omega)]; simpa using (show j < 6 by omega)
              simp only [s_X9_row_0, s_X9_row_1, s_X9_row_2, s_X9_row_5, s_X9_row_6, s_X9_row_9, s_X9_row_10, s_X9_row_11, s_X9_row_14, s_X9_row_17, s_X9_row_18, s_X9_row_19, s_X9_row_20, s_X9_row_21, s_X9_row_22, s_X9_row_23, s_X9_row_26, s_X9_row_29, s_X9_row_30, s_X9_row_33, s_X9_row_34, s_X9_row_35, s_X9_row_36, s_X9_row_37, s_X9_row_38, s_X9_row_39, s_X9_row_40, s_X9_row_43, s_X9_row_46, s_X9_row_47, s_X9_row_50, s_X9_row_52, s_X9_row_53, s_X9_row_54, s_X9_row_55, s_X9_row_56, s_X9_row_57, s_X9_row_58, s_X9_row_59, s_X9_row_62, s_X9_row_63, s_X9_row_66, s_X9_row_69, s_X9_row_72, s_X9_row_75, s_X9_row_77, s_X9_row_78, s_X9_row_79, s_X9_row_81, s_X9_row_84, s_X9_row_85, s_X9_row_87, s_X9_row_88, s_X9_row_90, s_X9_row_92, s_X9_row_93, s_X9_row_96, s_X9_row_99, s_X9_row_101, s_X9_row_102, s_X9_row_105, s_X9_row_107, s_X9_row_108, s_X9_row_111, s_X9_row_113, s_X9_row_114, s_X9_row_115, s_X9_row_116, s_X9_row_117, s_X9_row_118, s_X9_row_121, s_X9_row_123, s_X9_row_124, s_X9_row_125, s_X9_row_126, s_X9_row_127, s_X9_row_129, s_X9_row_132, s_X9_row_135, s_X9_row_136, s_X9_row_138, s_X9_row_140, s_X9_row_141, s_X9_row_144, s_X9_row_147, s_X9_row_149, s_X9_row_150, s_X9_row_153, s_X9_row_154, s_X9_row_157, s_X9_row_159, s_X9_row_160, s_X9_row_163, s_X9_row_165, s_X9_row_166, s_X9_row_167, s_X9_row_170, s_X9_row_173, s_X9_row_174, s_X9_row_176, s_X9_row_179, s_X9_row_180, s_X9_row_181, s_X9_row_184, s_X9_row_185, s_X9_row_188, s_X9_row_189, s_X9_row_190, s_X9_row_193, s_X9_row_194, s_X9_row_197, s_X9_row_198, s_X9_row_199, s_X9_row_202, s_X9_row_205, s_X9_row_206, s_X9_row_209, s_X9_row_210, s_X9_row_211, s_X9_row_214, s_X9_row_216, zI_0, Bool.true_eq_false, Bool.false_eq_true, not_true_eq_false, not_false_eq_true, if_true, if_false, KV_ap, KU_ap, dropL_nil, g4, p1, p2, s.1, f1, r20, s14, le_nI (show T.1.length < 2147483648 by omega) (show j < 2147483648 by omega), show ¬ T.1.length ≤ j by omega, hin, cl_nI (show j < 2147483648 by omega), b3 j hj]
              exact k'
          · have e : aRow v (T, r) = (.int (-5), (T, r)) := by
              simp only [aRow, if_pos g1, g2, if_false, if_neg g3]
            rw [e] at k
            have k' := k h'' hM2 p6
            have g4 : ¬ v = -1 := fun z => g3 (by
              rw [z, Int32.lt_iff_toInt_lt]
              show (-1 : Int) < (Int32.ofNat T.1.length).toInt
              rw [Int32.toInt_ofNat_of_lt (by omega)]
              omega)
            simp only [s_X9_row_0, s_X9_row_1, s_X9_row_2, s_X9_row_5, s_X9_row_6, s_X9_row_9, s_X9_row_10, s_X9_row_11, s_X9_row_14, s_X9_row_17, s_X9_row_18, s_X9_row_19, s_X9_row_20, s_X9_row_21, s_X9_row_22, s_X9_row_23, s_X9_row_26, s_X9_row_29, s_X9_row_30, s_X9_row_33, s_X9_row_34, s_X9_row_35, s_X9_row_36, s_X9_row_37, s_X9_row_38, s_X9_row_39, s_X9_row_40, s_X9_row_43, s_X9_row_46, s_X9_row_47, s_X9_row_50, s_X9_row_52, s_X9_row_53, s_X9_row_54, s_X9_row_55, s_X9_row_56, s_X9_row_57, s_X9_row_58, s_X9_row_59, s_X9_row_62, s_X9_row_63, s_X9_row_66, s_X9_row_69, s_X9_row_72, s_X9_row_75, s_X9_row_77, s_X9_row_78, s_X9_row_79, s_X9_row_81, s_X9_row_84, s_X9_row_85, s_X9_row_87, s_X9_row_88, s_X9_row_90, s_X9_row_92, s_X9_row_93, s_X9_row_96, s_X9_row_99, s_X9_row_101, s_X9_row_102, s_X9_row_105, s_X9_row_107, s_X9_row_108, s_X9_row_111, s_X9_row_113, s_X9_row_114, s_X9_row_115, s_X9_row_116, s_X9_row_117, s_X9_row_118, s_X9_row_121, s_X9_row_123, s_X9_row_124, s_X9_row_125, s_X9_row_126, s_X9_row_127, s_X9_row_129, s_X9_row_132, s_X9_row_135, s_X9_row_136, s_X9_row_138, s_X9_row_140, s_X9_row_141, s_X9_row_144, s_X9_row_147, s_X9_row_149, s_X9_row_150, s_X9_row_153, s_X9_row_154, s_X9_row_157, s_X9_row_159, s_X9_row_160, s_X9_row_163, s_X9_row_165, s_X9_row_166, s_X9_row_167, s_X9_row_170, s_X9_row_173, s_X9_row_174, s_X9_row_176, s_X9_row_179, s_X9_row_180, s_X9_row_181, s_X9_row_184, s_X9_row_185, s_X9_row_188, s_X9_row_189, s_X9_row_190, s_X9_row_193, s_X9_row_194, s_X9_row_197, s_X9_row_198, s_X9_row_199, s_X9_row_202, s_X9_row_205, s_X9_row_206, s_X9_row_209, s_X9_row_210, s_X9_row_211, s_X9_row_214, s_X9_row_216, zI_0, Bool.true_eq_false, Bool.false_eq_true, not_true_eq_false, not_false_eq_true, if_true, if_false, KV_ap, KU_ap, dropL_nil, g4, p1, p2, s.1, f1, Int32.not_lt.mp g3]
            exact k'
  · have e : aRow v (T, r) = (.int (-10), bdU (T, r) 0) := by
      simp only [aRow, if_neg g1]
    rw [e] at k
    simp only [s_X9_row_0, s_X9_row_1, s_X9_row_2, s_X9_row_5, s_X9_row_6, s_X9_row_9, s_X9_row_10, s_X9_row_11, s_X9_row_14, s_X9_row_17, s_X9_row_18, s_X9_row_20, s_X9_row_21, s_X9_row_22, s_X9_row_23, s_X9_row_26, s_X9_row_29, s_X9_row_30, s_X9_row_33, s_X9_row_34, s_X9_row_35, s_X9_row_36, s_X9_row_37, s_X9_row_38, s_X9_row_39, s_X9_row_40, s_X9_row_43, s_X9_row_46, s_X9_row_47, s_X9_row_50, s_X9_row_52, s_X9_row_53, s_X9_row_54, s_X9_row_55, s_X9_row_56, s_X9_row_57, s_X9_row_58, s_X9_row_59, s_X9_row_62, s_X9_row_63, s_X9_row_66, s_X9_row_69, s_X9_row_72, s_X9_row_75, s_X9_row_77, s_X9_row_78, s_X9_row_79, s_X9_row_80, s_X9_row_81, s_X9_row_84, s_X9_row_85, s_X9_row_87, s_X9_row_88, s_X9_row_90, s_X9_row_92, s_X9_row_93, s_X9_row_96, s_X9_row_99, s_X9_row_101, s_X9_row_102, s_X9_row_105, s_X9_row_107, s_X9_row_108, s_X9_row_111, s_X9_row_113, s_X9_row_114, s_X9_row_115, s_X9_row_116, s_X9_row_117, s_X9_row_118, s_X9_row_121, s_X9_row_123, s_X9_row_124, s_X9_row_125, s_X9_row_126, s_X9_row_127, s_X9_row_129, s_X9_row_132, s_X9_row_135, s_X9_row_136, s_X9_row_138, s_X9_row_140, s_X9_row_141, s_X9_row_144, s_X9_row_147, s_X9_row_149, s_X9_row_150, s_X9_row_153, s_X9_row_154, s_X9_row_157, s_X9_row_159, s_X9_row_160, s_X9_row_163, s_X9_row_165, s_X9_row_166, s_X9_row_167, s_X9_row_170, s_X9_row_173, s_X9_row_174, s_X9_row_176, s_X9_row_179, s_X9_row_180, s_X9_row_181, s_X9_row_184, s_X9_row_185, s_X9_row_188, s_X9_row_189, s_X9_row_190, s_X9_row_193, s_X9_row_194, s_X9_row_197, s_X9_row_198, s_X9_row_199, s_X9_row_202, s_X9_row_205, s_X9_row_206, s_X9_row_209, s_X9_row_210, s_X9_row_211, s_X9_row_214, s_X9_row_216, zI_0, Bool.true_eq_false, Bool.false_eq_true, not_true_eq_false, not_false_eq_true, if_true, if_false, KV_ap, KU_ap, dropL_nil, s.1, g1]
    exact p_ten hM (fun h' hM' hf => by simp only [KV_ap, s_X9_row_0, s_X9_row_1, s_X9_row_2, s_X9_row_5, s_X9_row_6, s_X9_row_9, s_X9_row_10, s_X9_row_11, s_X9_row_14, s_X9_row_17, s_X9_row_18, s_X9_row_19, s_X9_row_20, s_X9_row_21, s_X9_row_22, s_X9_row_23, s_X9_row_26, s_X9_row_29, s_X9_row_30, s_X9_row_33, s_X9_row_34, s_X9_row_35, s_X9_row_36, s_X9_row_37, s_X9_row_38, s_X9_row_39, s_X9_row_40, s_X9_row_43, s_X9_row_46, s_X9_row_47, s_X9_row_50, s_X9_row_52, s_X9_row_53, s_X9_row_54, s_X9_row_55, s_X9_row_56, s_X9_row_57, s_X9_row_58, s_X9_row_59, s_X9_row_62, s_X9_row_63, s_X9_row_66, s_X9_row_69, s_X9_row_72, s_X9_row_75, s_X9_row_77, s_X9_row_78, s_X9_row_79, s_X9_row_80, s_X9_row_81, s_X9_row_84, s_X9_row_85, s_X9_row_87, s_X9_row_88, s_X9_row_90, s_X9_row_92, s_X9_row_93, s_X9_row_96, s_X9_row_99, s_X9_row_101, s_X9_row_102, s_X9_row_105, s_X9_row_107, s_X9_row_108, s_X9_row_111, s_X9_row_113, s_X9_row_114, s_X9_row_115, s_X9_row_116, s_X9_row_117, s_X9_row_118, s_X9_row_121, s_X9_row_123, s_X9_row_124, s_X9_row_125, s_X9_row_126, s_X9_row_127, s_X9_row_129, s_X9_row_132, s_X9_row_135, s_X9_row_136, s_X9_row_138, s_X9_row_140, s_X9_row_141, s_X9_row_144, s_X9_row_147, s_X9_row_149, s_X9_row_150, s_X9_row_153, s_X9_row_154, s_X9_row_157, s_X9_row_159, s_X9_row_160, s_X9_row_163, s_X9_row_165, s_X9_row_166, s_X9_row_167, s_X9_row_170, s_X9_row_173, s_X9_row_174, s_X9_row_176, s_X9_row_179, s_X9_row_180, s_X9_row_181, s_X9_row_184, s_X9_row_185, s_X9_row_188, s_X9_row_189, s_X9_row_190, s_X9_row_193, s_X9_row_194, s_X9_row_197, s_X9_row_198, s_X9_row_199, s_X9_row_202, s_X9_row_205, s_X9_row_206, s_X9_row_209, s_X9_row_210, s_X9_row_211, s_X9_row_214, s_X9_row_216]; exact k h' hM' hf)

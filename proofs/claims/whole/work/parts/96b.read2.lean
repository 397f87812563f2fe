/-! The class's text: split into tokens -/
def tkI (h h' : HP) (a : Nat) (tx : List Nat) (p t : Nat) : Prop := (∀ x, hS h' x = hS h x) ∧ (∀ x j, ¬ (x = a ∧ j = 6) → hF h' x j = hF h x j) ∧ hF h' a 6 = .int (nI t) ∧ (∀ x, x ≠ a + 4 → x ≠ a + 5 → x ≠ a + 6 → hI h' x = hI h x) ∧ frm h h' a (a + 7) ∧ t ≤ p ∧ (t ≠ 0 → Qn tx (t - 1) < p) ∧ p ≤ Qn tx t ∧ (∀ j, j < t → hI h' (a + 4) j = nI (sp tx (Qn tx j)) ∧ hI h' (a + 5) j = nI (Qn tx j) ∧ Qn tx j < tx.length) ∧ (∀ j, j + 1 < t → hI h' (a + 6) j = nI (tl tx (Qn tx j))) ∧ (t ≠ 0 → hI h' (a + 6) (t - 1) = nI (min (tl tx (Qn tx (t - 1))) (p - Qn tx (t - 1))))
def ahN (tx : List Nat) (p : Nat) : Nat := if p = 0 then 0 else sp tx (p - 1)
section R2
variable {g : GL} {h : HP} {Φ : Value → HP → Prop} {a : Nat}
theorem q_begin {s p t : Nat} (hs : hS h a = (0, 5)) (f3 : hF h a 3 = .ref (a + 4)) (f4 : hF h a 4 = .ref (a + 5)) (f5 : hF h a 5 = .ref (a + 6)) (f6 : hF h a 6 = .int (nI t)) (s4 : hS h (a + 4) = (1, 150)) (s5 : hS h (a + 5) = (1, 150)) (s6 : hS h (a + 6) = (1, 150)) (ht : t < 150) : J g k_X7_begin 0 [.ref a, .int (nI s), .int (nI p)] [] [] h Φ = Φ .null (pF (pI (pI (pI h (a + 4) (upd (hI h (a + 4)) t (nI s))) (a + 5) (upd (hI h (a + 5)) t (nI p))) (a + 6) (upd (hI h (a + 6)) t 1)) a 6 (.int (nI (t + 1)))) := by
  have b : m_inb (nI t) 150 = true := by rw [inb_nI (by omega)]; simpa using ht
  have c150 : ((150 : Int32) ≤ nI t) = (150 ≤ t) := le_nI (show 150 < 2147483648 by decide) (show t < 2147483648 by omega)
  have e5 : ∀ f, hI (pI h (a + 4) f) (a + 5) = hI h (a + 5) := fun f => by rw [hI_pI, if_neg (by omega)]
  have e6 : ∀ f f', hI (pI (pI h (a + 4) f) (a + 5) f') (a + 6) = hI h (a + 6) := fun f f' => by rw [hI_pI, if_neg (by omega), hI_pI, if_neg (by omega)]
  simp only [s_X7_begin_0, s_X7_begin_1, s_X7_begin_4, s_X7_begin_7, s_X7_begin_10, s_X7_begin_11, s_X7_begin_14, s_X7_begin_15, s_X7_begin_18, s_X7_begin_19, s_X7_begin_20, s_X7_begin_21, s_X7_begin_24, s_X7_begin_25, s_X7_begin_28, s_X7_begin_29, s_X7_begin_30, s_X7_begin_31, s_X7_begin_34, s_X7_begin_35, s_X7_begin_38, s_X7_begin_39, s_X7_begin_40, s_X7_begin_41, s_X7_begin_42, s_X7_begin_45, s_X7_begin_46, s_X7_begin_47, s_X7_begin_50, zI_0, Bool.true_eq_false, Bool.false_eq_true, not_true_eq_false, not_false_eq_true, if_true, if_false, KV_ap, KU_ap, dropL_nil, hS_pI, hF_pI, hs, f3, f4, f5, f6, s4, s5, s6, c150, show ¬ 150 ≤ t by omega, b, cl_nI (show t < 2147483648 by omega), e5, e6, a1]
theorem in_tok {tx : List Nat} {q p : Nat} (hq : q < p) (hp : p ≤ nx tx q) (hlt : p < tx.length) (e : sp tx p = sp tx (p - 1)) (hs : sp tx p = 1 ∨ sp tx p = 2) : p < q + tl tx q := by
  by_cases z : p < q + tl tx q
  · exact z
  · exfalso
    by_cases y : p = q + tl tx q
    · have h1 := tl_in tx (p := q) (i := p - 1) (by omega) (by omega)
      rw [← e] at h1
      have h2 := tl_end tx (p := q) (by rw [← h1]; exact hs)
      rw [← y] at h2
      exact h2 h1
    · have h1 := sk_in tx (p := q + tl tx q) (i := p - 1) (by omega) (by unfold nx at hp; omega)
      rw [← e] at h1
      omega
theorem q_split {tx : List Nat} (hs : hS h a = (0, 5)) (f1 : hF h a 1 = .ref (a + 3)) (f2 : hF h a 2 = .int (nI tx.length)) (f3 : hF h a 3 = .ref (a + 4)) (f4 : hF h a 4 = .ref (a + 5)) (f5 : hF h a 5 = .ref (a + 6)) (hl : tx.length ≤ 150) (s3 : hS h (a + 3) = (2, 150)) (s4 : hS h (a + 4) = (1, 150)) (s5 : hS h (a + 5) = (1, 150)) (s6 : hS h (a + 6) = (1, 150)) (hR : txR (hI h (a + 3)) tx) (k : ∀ h' t, tkI h h' a tx tx.length t → Φ .null h') : J g k_X7_split 0 [.ref a, m_D, m_D, m_D, m_D] [] [] h Φ := by
  have key : ∀ m p t h' (v3 v4 : Value), p + m = tx.length → tkI h h' a tx p t → J g k_X7_split 9 [.ref a, .int (nI (ahN tx p)), .int (nI p), v3, v4] [] [] h' Φ := by
    intro m
    induction m with
    | zero =>
      intro p t h' v3 v4 hp hII
      have : p = tx.length := by omega
      subst this
      obtain ⟨i1, i2, i3, i4, i5, i6⟩ := id hII
      have f2' : hF h' a 2 = .int (nI tx.length) := by rw [i2 a 2 (by omega)]; exact f2
      rw [s_X7_split_9]
      simp only [s_X7_split_0, s_X7_split_1, s_X7_split_2, s_X7_split_5, s_X7_split_6, s_X7_split_7, s_X7_split_8, s_X7_split_10, s_X7_split_11, s_X7_split_14, s_X7_split_17, s_X7_split_18, s_X7_split_21, s_X7_split_22, s_X7_split_23, s_X7_split_26, s_X7_split_27, s_X7_split_28, s_X7_split_29, s_X7_split_32, s_X7_split_33, s_X7_split_34, s_X7_split_37, s_X7_split_38, s_X7_split_39, s_X7_split_42, s_X7_split_43, s_X7_split_46, s_X7_split_47, s_X7_split_49, s_X7_split_51, s_X7_split_54, s_X7_split_55, s_X7_split_58, s_X7_split_61, s_X7_split_62, s_X7_split_65, s_X7_split_66, s_X7_split_69, s_X7_split_70, s_X7_split_71, s_X7_split_72, s_X7_split_73, s_X7_split_74, s_X7_split_75, s_X7_split_76, s_X7_split_79, s_X7_split_80, s_X7_split_83, s_X7_split_84, s_X7_split_85, s_X7_split_86, s_X7_split_89, s_X7_split_90, s_X7_split_91, s_X7_split_94, s_X7_split_97, i1, hs, f2', le_nI (show tx.length < 2147483648 by omega) (show tx.length < 2147483648 by omega), Nat.le_refl, if_true]
      exact k h' t hII
    | succ m ih =>
      intro p t h' v3 v4 hp hII
      have hlt : p < tx.length := by omega
      obtain ⟨i1, i2, i3, i4, i5, i6, i7, i8, i9, i10, i11⟩ := id hII
      have g1 : hF h' a 1 = .ref (a + 3) := by rw [i2 a 1 (by omega)]; exact f1
      have g2 : hF h' a 2 = .int (nI tx.length) := by rw [i2 a 2 (by omega)]; exact f2
      have g3 : hF h' a 3 = .ref (a + 4) := by rw [i2 a 3 (by omega)]; exact f3
      have g4 : hF h' a 4 = .ref (a + 5) := by rw [i2 a 4 (by omega)]; exact f4
      have g5 : hF h' a 5 = .ref (a + 6) := by rw [i2 a 5 (by omega)]; exact f5
      have e3 : hI h' (a + 3) = hI h (a + 3) := i4 _ (by omega) (by omega) (by omega)
      obtain ⟨r1, r2⟩ := hR p hlt
      have bp : m_inb (nI p) 150 = true := by rw [inb_nI (by omega)]; simpa using (show p < 150 by omega)
      have hsp : soN (tx.getD p 0) = sp tx p := (sp_in hlt).symm
      have hs4 := so_le (tx.getD p 0)
      have hsl : sp tx p ≤ 4 := by rw [← hsp]; exact hs4
      have hah : ahN tx p < 2147483648 := by
        unfold ahN
        split
        · decide
        · have : sp tx (p - 1) ≤ 9 := by
            unfold sp
            split
            · have := so_le (tx.getD (p - 1) 0); omega
            · decide
          omega
      have ahs : ahN tx (p + 1) = sp tx p := by rw [ahN, if_neg (by omega), Nat.add_sub_cancel]
      have q1 : (nI (sp tx p) = (1 : Int32)) = (sp tx p = 1) := eq_nI (show sp tx p < 2147483648 by omega) (show 1 < 2147483648 by decide)
      have q2 : (nI (sp tx p) = (2 : Int32)) = (sp tx p = 2) := eq_nI (show sp tx p < 2147483648 by omega) (show 2 < 2147483648 by decide)
      -- what stands at place p
      have noGo : ∀ v4, ¬ (t ≠ 0 ∧ sp tx p = ahN tx p ∧ (sp tx p = 1 ∨ sp tx p = 2)) → J g k_X7_split 79 [.ref a, .int (nI (ahN tx p)), .int (nI p), .int (nI (sp tx p)), v4] [] [] h' Φ := by
        intro v4 hno
        rw [s_X7_split_79, s_X7_split_80]
        by_cases z0 : sp tx p = 0
        · rw [if_pos (by rw [z0]; rfl)]
          simp only [s_X7_split_0, s_X7_split_1, s_X7_split_2, s_X7_split_5, s_X7_split_6, s_X7_split_7, s_X7_split_8, s_X7_split_10, s_X7_split_11, s_X7_split_14, s_X7_split_17, s_X7_split_18, s_X7_split_21, s_X7_split_22, s_X7_split_23, s_X7_split_26, s_X7_split_27, s_X7_split_28, s_X7_split_29, s_X7_split_32, s_X7_split_33, s_X7_split_34, s_X7_split_37, s_X7_split_38, s_X7_split_39, s_X7_split_42, s_X7_split_43, s_X7_split_46, s_X7_split_47, s_X7_split_49, s_X7_split_51, s_X7_split_54, s_X7_split_55, s_X7_split_58, s_X7_split_61, s_X7_split_62, s_X7_split_65, s_X7_split_66, s_X7_split_69, s_X7_split_70, s_X7_split_71, s_X7_split_72, s_X7_split_73, s_X7_split_74, s_X7_split_75, s_X7_split_76, s_X7_split_80, s_X7_split_83, s_X7_split_84, s_X7_split_85, s_X7_split_86, s_X7_split_89, s_X7_split_90, s_X7_split_91, s_X7_split_94, s_X7_split_97, zI_0, Bool.true_eq_false, Bool.false_eq_true, not_true_eq_false, not_false_eq_true, if_true, if_false, KV_ap, KU_ap, dropL_nil, a1]
          rw [← ahs]
          have hne : p ≠ Qn tx t := fun e => Q_sp tx t (by rw [← e]; exact z0)
          refine ih (p + 1) t h' _ _ (by omega) ⟨i1, i2, i3, i4, i5, by omega, fun z => by have := i7 z; omega, by omega, i9, i10, fun z => ?_⟩
          rw [i11 z]
          have h7 := i7 z
          have : ¬ p < Qn tx (t - 1) + tl tx (Qn tx (t - 1)) := fun y => by
            have h1 := tl_in tx (p := Qn tx (t - 1)) (i := p) (by omega) y
            exact Q_sp tx (t - 1) (by rw [← h1]; exact z0)
          rw [Nat.min_eq_left (by omega), Nat.min_eq_left (by omega)]
        · rw [if_neg (by rw [eq0 (show sp tx p < 2147483648 by omega)]; exact z0)]
          -- p is where token t begins
          have hpq : p = Qn tx t := by
            by_cases y : p = Qn tx t
            · exact y
            · exfalso
              by_cases t0 : t = 0
              · subst t0
                have := sk_in tx (p := 0) (i := p) (Nat.zero_le _) (by have : Qn tx 0 = sk tx 0 := rfl; omega)
                exact z0 this
              · have h7 := i7 t0
                obtain ⟨t', et⟩ : ∃ t', t = t' + 1 := ⟨t - 1, by omega⟩
                subst et
                rw [Nat.add_sub_cancel] at h7
                have hq := (i9 t' (by omega)).2.2
                have h8 := i8
                rw [Q_s hq] at h8 y
                by_cases w : p < Qn tx t' + tl tx (Qn tx t')
                · have h1 := tl_in tx (p := Qn tx t') (i := p) (by omega) w
                  have h2 := tl_in tx (p := Qn tx t') (i := p - 1) (by omega) (by omega)
                  have h3 : sp tx (Qn tx t') = 1 ∨ sp tx (Qn tx t') = 2 := by
                    by_cases v : sp tx (Qn tx t') = 1 ∨ sp tx (Qn tx t') = 2
                    · exact v
                    · rw [tl, if_neg v] at w; omega
                  exact hno ⟨by omega, by rw [ahN, if_neg (by omega), h1, h2], by rw [h1]; exact h3⟩
                · have := sk_in tx (p := Qn tx t' + tl tx (Qn tx t')) (i := p) (by omega) (by unfold nx at h8 y; omega)
                  exact z0 this
          rw [s_X7_split_83, s_X7_split_84, s_X7_split_85, s_X7_split_86 (by rw [i1]; exact hs)]
          rw [q_begin (by rw [i1]; exact hs) g3 g4 g5 i3 (by rw [i1]; exact s4) (by rw [i1]; exact s5) (by rw [i1]; exact s6) (by omega), KU_ap]
          simp only [s_X7_split_89, s_X7_split_90, s_X7_split_91, s_X7_split_94, dropL_nil, a1]
          rw [← ahs]
          have hq : Qn tx t < tx.length := by omega
          refine ih (p + 1) (t + 1) _ _ _ (by omega) ⟨i1, ?_, ?_, ?_, ?_, by omega, fun _ => by rw [Nat.add_sub_cancel]; omega, ?_, ?_, ?_, ?_⟩
          · intro x j hx
            rw [hF_pF, if_neg hx]; exact i2 x j hx
          · rw [hF_pF, if_pos ⟨rfl, rfl⟩]
          · intro x x4 x5 x6
            rw [hI_pF, hI_pI, if_neg x6, hI_pI, if_neg x5, hI_pI, if_neg x4]
            exact i4 x x4 x5 x6
          · exact frm_pF (by omega) (by omega) (frm_pI (by omega) (by omega) (frm_pI (by omega) (by omega) (frm_pI (by omega) (by omega) i5)))
          · rw [Q_s hq]
            have := nx_gt tx (Qn tx t)
            omega
          · intro j hj
            rw [hI_pF, hI_pF, hI_pI, if_neg (by omega), hI_pI, if_neg (by omega), hI_pIs, hI_pI, if_neg (by omega), hI_pIs]
            unfold upd
            by_cases e : j = t
            · subst e
              rw [if_pos rfl, if_pos rfl, ← hpq]
              exact ⟨rfl, rfl, hlt⟩
            · rw [if_neg e, if_neg e]
              exact i9 j (by omega)
          · intro j hj
            rw [hI_pF, hI_pIs, upd, if_neg (by omega)]
            by_cases e : j + 1 = t
            · have t0 : t ≠ 0 := by omega
              have h11 := i11 t0
              have h7 := i7 t0
              obtain rfl : j = t - 1 := by omega
              rw [h11]
              have hq' := (i9 (t - 1) (by omega)).2.2
              have : Qn tx t = nx tx (Qn tx (t - 1)) := by
                have := Q_s hq'
                rw [show t - 1 + 1 = t by omega] at this
                exact this
              have h2 := sk_ge tx (Qn tx (t - 1) + tl tx (Qn tx (t - 1)))
              unfold nx at this
              rw [Nat.min_eq_left (by omega)]
            · exact i10 j (by omega)
          · intro _
            rw [hI_pF, hI_pIs, Nat.add_sub_cancel, upd, if_pos rfl, ← hpq]
            have := tl_pos tx p
            rw [Nat.min_eq_right (by omega), show p + 1 - p = 1 by omega]
            rfl
      rw [s_X7_split_9]
      simp only [s_X7_split_0, s_X7_split_1, s_X7_split_2, s_X7_split_5, s_X7_split_6, s_X7_split_7, s_X7_split_8, s_X7_split_10, s_X7_split_11, s_X7_split_14, s_X7_split_17, s_X7_split_18, s_X7_split_21, s_X7_split_22, s_X7_split_23, s_X7_split_26, s_X7_split_27, s_X7_split_28, s_X7_split_29, s_X7_split_32, s_X7_split_33, s_X7_split_34, s_X7_split_37, s_X7_split_38, s_X7_split_39, s_X7_split_42, s_X7_split_43, s_X7_split_46, s_X7_split_47, s_X7_split_49, s_X7_split_51, s_X7_split_54, s_X7_split_55, s_X7_split_58, s_X7_split_61, s_X7_split_62, s_X7_split_65, s_X7_split_66, s_X7_split_69, s_X7_split_70, s_X7_split_71, s_X7_split_72, s_X7_split_73, s_X7_split_74, s_X7_split_75, s_X7_split_76, s_X7_split_80, s_X7_split_83, s_X7_split_84, s_X7_split_85, s_X7_split_86, s_X7_split_89, s_X7_split_90, s_X7_split_91, s_X7_split_94, s_X7_split_97, zI_0, Bool.true_eq_false, Bool.false_eq_true, not_true_eq_false, not_false_eq_true, if_true, if_false, KV_ap, KU_ap, dropL_nil, i1, hs, g1, g2, s3, le_nI (show tx.length < 2147483648 by omega) (show p < 2147483648 by omega), show ¬ tx.length ≤ p by omega, bp, cl_nI (show p < 2147483648 by omega), e3, r1, q_sortOf r2, hsp, eq_nI (show sp tx p < 2147483648 by omega) hah, q1, q2, i3, le0 (show t < 2147483648 by omega), g5, s6]
      by_cases c1 : sp tx p = ahN tx p
      · by_cases c2 : sp tx p = 1 ∨ sp tx p = 2
        · by_cases c3 : t = 0
          · have z := noGo (.int 1) (fun y => y.1 c3)
            rw [if_neg (not_not_intro c1)]
            rcases c2 with c2 | c2
            · rw [if_pos c2, if_neg (by decide), if_pos c3]; exact z
            · rw [if_neg (by omega), if_neg (not_not_intro c2), if_neg (by decide), if_pos c3]; exact z
          · -- the token goes on
            obtain ⟨t', et⟩ : ∃ t', t = t' + 1 := ⟨t - 1, by omega⟩
            subst et
            have h7 := i7 c3
            have h11 := i11 c3
            rw [Nat.add_sub_cancel] at h7 h11
            have hq := (i9 t' (by omega)).2.2
            have h8 := i8
            rw [Q_s hq] at h8
            have hin := in_tok h7 h8 hlt (by rw [c1, ahN, if_neg (by omega)]) c2
            have bt : m_inb (nI t') 150 = true := by rw [inb_nI (by omega)]; simpa using (show t' < 150 by omega)
            have sN : nI (t' + 1) - 1 = nI t' := s1 (by omega)
            have go : J g k_X7_split 61 [.ref a, .int (nI (ahN tx p)), .int (nI p), .int (nI (sp tx p)), .int 1] [] [] h' Φ := by
              simp only [s_X7_split_0, s_X7_split_1, s_X7_split_2, s_X7_split_5, s_X7_split_6, s_X7_split_7, s_X7_split_8, s_X7_split_10, s_X7_split_11, s_X7_split_14, s_X7_split_17, s_X7_split_18, s_X7_split_21, s_X7_split_22, s_X7_split_23, s_X7_split_26, s_X7_split_27, s_X7_split_28, s_X7_split_29, s_X7_split_32, s_X7_split_33, s_X7_split_34, s_X7_split_37, s_X7_split_38, s_X7_split_39, s_X7_split_42, s_X7_split_43, s_X7_split_46, s_X7_split_47, s_X7_split_49, s_X7_split_51, s_X7_split_54, s_X7_split_55, s_X7_split_58, s_X7_split_61, s_X7_split_62, s_X7_split_65, s_X7_split_66, s_X7_split_69, s_X7_split_70, s_X7_split_71, s_X7_split_72, s_X7_split_73, s_X7_split_74, s_X7_split_75, s_X7_split_76, s_X7_split_80, s_X7_split_83, s_X7_split_84, s_X7_split_85, s_X7_split_86, s_X7_split_89, s_X7_split_90, s_X7_split_91, s_X7_split_94, s_X7_split_97, zI_0, Bool.true_eq_false, Bool.false_eq_true, not_true_eq_false, not_false_eq_true, if_true, if_false, KV_ap, KU_ap, dropL_nil, i1, hs, g5, i3, s6, sN, bt, cl_nI (show t' < 2147483648 by omega), h11, a1]
              rw [← ahs]
              refine ih (p + 1) (t' + 1) _ _ _ (by omega) ⟨i1, i2, i3, ?_, ?_, by omega, fun _ => by rw [Nat.add_sub_cancel]; omega, ?_, ?_, ?_, ?_⟩
              · intro x x4 x5 x6
                rw [hI_pI, if_neg x6]
                exact i4 x x4 x5 x6
              · exact frm_pI (by omega) (by omega) i5
              · rw [Q_s hq]
                have := sk_ge tx (Qn tx t' + tl tx (Qn tx t'))
                unfold nx
                omega
              · intro j hj
                rw [hI_pI, if_neg (by omega), hI_pI, if_neg (by omega)]
                exact i9 j hj
              · intro j hj
                rw [hI_pIs, upd, if_neg (by omega)]
                exact i10 j hj
              · intro _
                rw [hI_pIs, Nat.add_sub_cancel, upd, if_pos rfl, Nat.min_eq_right (by omega), Nat.min_eq_right (by omega)]
                congr 1
                omega
            rw [if_neg (not_not_intro c1)]
            rcases c2 with c2 | c2
            · rw [if_pos c2, if_neg (by decide), if_neg c3]
              simp only [s_X7_split_0, s_X7_split_1, s_X7_split_2, s_X7_split_5, s_X7_split_6, s_X7_split_7, s_X7_split_8, s_X7_split_10, s_X7_split_11, s_X7_split_14, s_X7_split_17, s_X7_split_18, s_X7_split_21, s_X7_split_22, s_X7_split_23, s_X7_split_26, s_X7_split_27, s_X7_split_28, s_X7_split_29, s_X7_split_32, s_X7_split_33, s_X7_split_34, s_X7_split_37, s_X7_split_38, s_X7_split_39, s_X7_split_42, s_X7_split_43, s_X7_split_46, s_X7_split_47, s_X7_split_49, s_X7_split_51, s_X7_split_54, s_X7_split_55, s_X7_split_58, s_X7_split_61, s_X7_split_62, s_X7_split_65, s_X7_split_66, s_X7_split_69, s_X7_split_70, s_X7_split_71, s_X7_split_72, s_X7_split_73, s_X7_split_74, s_X7_split_75, s_X7_split_76, s_X7_split_80, s_X7_split_83, s_X7_split_84, s_X7_split_85, s_X7_split_86, s_X7_split_89, s_X7_split_90, s_X7_split_91, s_X7_split_94, s_X7_split_97, zI_0, Bool.true_eq_false, Bool.false_eq_true, not_true_eq_false, not_false_eq_true, if_true, if_false, KV_ap, KU_ap, dropL_nil, i1, hs, g5, i3, s6] at go
              exact go
            · rw [if_neg (by omega), if_neg (not_not_intro c2), if_neg (by decide), if_neg c3]
              simp only [s_X7_split_0, s_X7_split_1, s_X7_split_2, s_X7_split_5, s_X7_split_6, s_X7_split_7, s_X7_split_8, s_X7_split_10, s_X7_split_11, s_X7_split_14, s_X7_split_17, s_X7_split_18, s_X7_split_21, s_X7_split_22, s_X7_split_23, s_X7_split_26, s_X7_split_27, s_X7_split_28, s_X7_split_29, s_X7_split_32, s_X7_split_33, s_X7_split_34, s_X7_split_37, s_X7_split_38, s_X7_split_39, s_X7_split_42, s_X7_split_43, s_X7_split_46, s_X7_split_47, s_X7_split_49, s_X7_split_51, s_X7_split_54, s_X7_split_55, s_X7_split_58, s_X7_split_61, s_X7_split_62, s_X7_split_65, s_X7_split_66, s_X7_split_69, s_X7_split_70, s_X7_split_71, s_X7_split_72, s_X7_split_73, s_X7_split_74, s_X7_split_75, s_X7_split_76, s_X7_split_80, s_X7_split_83, s_X7_split_84, s_X7_split_85, s_X7_split_86, s_X7_split_89, s_X7_split_90, s_X7_split_91, s_X7_split_94, s_X7_split_97, zI_0, Bool.true_eq_false, Bool.false_eq_true, not_true_eq_false, not_false_eq_true, if_true, if_false, KV_ap, KU_ap, dropL_nil, i1, hs, g5, i3, s6] at go
              exact go
        · have z := noGo (.int 0) (fun y => c2 y.2.2)
          rw [if_neg (not_not_intro c1), if_neg (fun y => c2 (Or.inl y)), if_pos (fun y => c2 (Or.inr y))]
          exact z
      · have z := noGo (.int 0) (fun y => c1 y.2.1)
        rw [if_pos c1]
        exact z
  rw [s_X7_split_0, s_X7_split_1, s_X7_split_2 hs]
  simp only [s_X7_split_5, s_X7_split_6, s_X7_split_7, s_X7_split_8, dropL_nil]
  refine key tx.length 0 0 _ m_D m_D (Nat.zero_add _) ⟨fun _ => rfl, fun x j hx => by rw [hF_pF, if_neg hx], by rw [hF_pF, if_pos ⟨rfl, rfl⟩]; rfl, fun _ _ _ _ => rfl, frm_pF (by omega) (by omega) (frm_rfl h _ _), Nat.le_refl _, fun z => absurd rfl z, Nat.zero_le _, fun j hj => absurd hj (Nat.not_lt_zero j), fun j hj => absurd hj (Nat.not_lt_zero _), fun z => absurd rfl z⟩
end R2

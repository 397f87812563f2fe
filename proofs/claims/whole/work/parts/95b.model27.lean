/-! The model's calls: rain -/
theorem lk_drop {i j : Nat} (h1 : j ≠ i) (h2 : j ≠ i + 1) (h3 : j + 1 ≠ i) : ∀ ll : List (Nat × Int64), (dropLL i ll).lookup j = ll.lookup j := by
  intro ll
  induction ll with
  | nil => rfl
  | cons q ll ih =>
    obtain ⟨a, x⟩ := q
    unfold dropLL at ih ⊢
    rw [List.filter_cons]
    by_cases e : j = a
    · subst e
      have : (!(j == i) && (!(j == i + 1) && !(j + 1 == i))) = true := by simp [h1, h2, h3]
      dsimp only
      rw [if_pos this, List.lookup_cons_self, List.lookup_cons_self]
    · have e' : (j == a) = false := by simpa using e
      split
      · rw [List.lookup_cons, e', List.lookup_cons, e']; exact ih
      · rw [ih, List.lookup_cons, e']
def gL : Nat → Int64 → Int64 → Int64
  | 0, a, _ => a
  | F + 1, a, b => if lg_cmp b 0 = 0 then a else gL F b (a - a / b * b)
def gT : Nat → Int64 → Int64 → Bool
  | 0, _, _ => false
  | F + 1, a, b => if lg_cmp b 0 = 0 then true else gT F b (a - a / b * b)
theorem rn_chk : ∀ s, s < 10 → ∀ c, c < 11 → (decide (s = 0) || (gT 8 (nI s * (10 - nI c)).toInt64 10 && (!decide (gL 8 (nI s * (10 - nI c)).toInt64 10 = 0) && decide (((nI s * (10 - nI c)).toInt64 / gL 8 (nI s * (10 - nI c)).toInt64 10, (10 : Int64) / gL 8 (nI s * (10 - nI c)).toInt64 10) = rn5 (rn2 (nI s * (10 - nI c)).toInt64))))) = true := by decide +kernel
section M27
variable {g : GL} {h : HP} {Φ : Value → HP → Prop} {M : Nat}
theorem p_lay (hs : hS h M = (0, 7)) {a : Int64} (b : Int64) (hT : gT 8 a b = true) (h0 : ¬ gL 8 a b = 0) : J g k_X9_lay 0 [.ref M, m_D, m_D, m_D, m_D, m_D, m_D, m_D, m_D, m_D, m_D] [(1, a), (3, b)] [] h Φ = Φ .null (pF (pF h M 22 (.long (a / gL 8 a b))) M 23 (.long (b / gL 8 a b))) := by
  have key : ∀ F x y (ll : List (Nat × Int64)), gT F x y = true → ¬ gL F x y = 0 → ll.lookup 1 = some a → ll.lookup 3 = some b → ll.lookup 5 = some x → ll.lookup 7 = some y → J g k_X9_lay 6 [.ref M, m_D, m_D, m_D, m_D, m_D, m_D, m_D, m_D, m_D, m_D] ll [] h Φ = Φ .null (pF (pF h M 22 (.long (a / gL F x y))) M 23 (.long (b / gL F x y))) := by
    intro F
    induction F with
    | zero => intro x y ll h1; exact absurd h1 (by simp [gT])
    | succ F ih =>
      intro x y ll h1 h2 l1 l3 l5 l7
      rw [gT] at h1
      rw [gL] at h2 ⊢
      rw [s_X9_lay_6 l7]
      simp only [s_X9_lay_8, s_X9_lay_9, s_X9_lay_10]
      by_cases e : lg_cmp y 0 = 0
      · rw [if_pos e] at h1 h2 ⊢
        rw [if_pos e, s_X9_lay_31, s_X9_lay_32 l1, s_X9_lay_33 l5, s_X9_lay_35 h2, s_X9_lay_36 hs, s_X9_lay_39, s_X9_lay_40 l3, s_X9_lay_41 l5, s_X9_lay_43 h2, s_X9_lay_44 (by rw [hS_pF]; exact hs), s_X9_lay_47]
      · rw [if_neg e] at h1 h2 ⊢
        have hy : ¬ y = 0 := fun z => e (by rw [z]; rfl)
        rw [if_neg e, s_X9_lay_13 l5, s_X9_lay_15 l7, s_X9_lay_17 hy, s_X9_lay_18]
        rw [s_X9_lay_20 (x := y) (by rw [List.lookup_cons, show ((7 : Nat) == 9) = false from rfl]; exact (lk_drop (by decide) (by decide) (by decide) ll).trans l7)]
        rw [s_X9_lay_22]
        rw [s_X9_lay_24 (x := x - x / y * y) (by
          rw [List.lookup_cons, show ((9 : Nat) == 5) = false from rfl]
          refine (lk_drop (by decide) (by decide) (by decide) _).trans ?_
          rw [List.lookup_cons_self])]
        rw [s_X9_lay_26, s_X9_lay_28]
        refine ih y (x - x / y * y) _ h1 h2 ?_ ?_ ?_ ?_
        · rw [List.lookup_cons, show ((1 : Nat) == 7) = false from rfl]
          refine (lk_drop (by decide) (by decide) (by decide) _).trans ?_
          rw [List.lookup_cons, show ((1 : Nat) == 5) = false from rfl]
          refine (lk_drop (by decide) (by decide) (by decide) _).trans ?_
          rw [List.lookup_cons, show ((1 : Nat) == 9) = false from rfl]
          exact (lk_drop (by decide) (by decide) (by decide) _).trans l1
        · rw [List.lookup_cons, show ((3 : Nat) == 7) = false from rfl]
          refine (lk_drop (by decide) (by decide) (by decide) _).trans ?_
          rw [List.lookup_cons, show ((3 : Nat) == 5) = false from rfl]
          refine (lk_drop (by decide) (by decide) (by decide) _).trans ?_
          rw [List.lookup_cons, show ((3 : Nat) == 9) = false from rfl]
          exact (lk_drop (by decide) (by decide) (by decide) _).trans l3
        · rw [List.lookup_cons, show ((5 : Nat) == 7) = false from rfl]
          refine (lk_drop (by decide) (by decide) (by decide) _).trans ?_
          rw [List.lookup_cons_self]
        · rw [List.lookup_cons_self]
  rw [s_X9_lay_0 (x := a) rfl, s_X9_lay_1, s_X9_lay_3 (x := b) rfl, s_X9_lay_4]
  exact key 8 a b _ hT h0 rfl rfl rfl rfl
end M27
theorem m_rain (v0 v1 : Int32) : cM k_X9_rain [.int v0, .int v1] (aRain v0 v1) := by
  intro g h M u Φ hM k
  have hM' := hM
  obtain ⟨⟨L, N, P⟩, im, tx, fr, rf⟩ := u
  have hl : L.length ≤ 6 := hM.2.2.2.1.1
  have hbad : (decide (0 ≤ v0 ∧ v0 < nI L.length) && decide (0 ≤ v1 ∧ v1 ≤ 10)) = false → aRain v0 v1 ((L, N, P), im, tx, fr, rf) = (.int (-2), bdU ((L, N, P), im, tx, fr, rf) 0) := fun z => by rw [aRain, z]; rfl
  cases g1 : decide (0 ≤ v0 ∧ v0 < nI L.length)
  · rw [hbad (by simp only [g1, Bool.false_and])] at k
    simp only [s_X9_rain_0, s_X9_rain_1, s_X9_rain_2, s_X9_rain_5, s_X9_rain_8, s_X9_rain_9, s_X9_rain_10, s_X9_rain_12, s_X9_rain_15, s_X9_rain_18, s_X9_rain_19, s_X9_rain_22, s_X9_rain_23, s_X9_rain_24, s_X9_rain_25, s_X9_rain_28, s_X9_rain_29, s_X9_rain_30, s_X9_rain_32, s_X9_rain_33, s_X9_rain_34, s_X9_rain_35, s_X9_rain_36, s_X9_rain_39, s_X9_rain_42, s_X9_rain_43, zI_0, Bool.true_eq_false, Bool.false_eq_true, not_true_eq_false, not_false_eq_true, if_true, if_false, KV_ap, KU_ap, dropL_nil, hM.1.1, p_isStick hM, g1]
    exact p_bad hM (fun h' hM' hf => by simp only [KV_ap, s_X9_rain_0, s_X9_rain_1, s_X9_rain_2, s_X9_rain_5, s_X9_rain_8, s_X9_rain_9, s_X9_rain_10, s_X9_rain_12, s_X9_rain_15, s_X9_rain_18, s_X9_rain_19, s_X9_rain_22, s_X9_rain_23, s_X9_rain_24, s_X9_rain_25, s_X9_rain_28, s_X9_rain_29, s_X9_rain_30, s_X9_rain_32, s_X9_rain_33, s_X9_rain_34, s_X9_rain_35, s_X9_rain_36, s_X9_rain_39, s_X9_rain_42, s_X9_rain_43]; exact k h' hM' hf)
  · cases g2 : decide (0 ≤ v1 ∧ v1 ≤ 10)
    · rw [hbad (by simp only [g1, g2, Bool.and_false])] at k
      simp only [s_X9_rain_0, s_X9_rain_1, s_X9_rain_2, s_X9_rain_5, s_X9_rain_8, s_X9_rain_9, s_X9_rain_10, s_X9_rain_12, s_X9_rain_15, s_X9_rain_18, s_X9_rain_19, s_X9_rain_22, s_X9_rain_23, s_X9_rain_24, s_X9_rain_25, s_X9_rain_28, s_X9_rain_29, s_X9_rain_30, s_X9_rain_32, s_X9_rain_33, s_X9_rain_34, s_X9_rain_35, s_X9_rain_36, s_X9_rain_39, s_X9_rain_42, s_X9_rain_43, zI_0, Bool.true_eq_false, Bool.false_eq_true, not_true_eq_false, not_false_eq_true, if_true, if_false, KV_ap, KU_ap, dropL_nil, hM.1.1, p_isStick hM, p_in, g1, g2]
      exact p_bad hM (fun h' hM' hf => by simp only [KV_ap, s_X9_rain_0, s_X9_rain_1, s_X9_rain_2, s_X9_rain_5, s_X9_rain_8, s_X9_rain_9, s_X9_rain_10, s_X9_rain_12, s_X9_rain_15, s_X9_rain_18, s_X9_rain_19, s_X9_rain_22, s_X9_rain_23, s_X9_rain_24, s_X9_rain_25, s_X9_rain_28, s_X9_rain_29, s_X9_rain_30, s_X9_rain_32, s_X9_rain_33, s_X9_rain_34, s_X9_rain_35, s_X9_rain_36, s_X9_rain_39, s_X9_rain_42, s_X9_rain_43]; exact k h' hM' hf)
    · obtain ⟨j, ej, hj⟩ := hs_ex (show L.length < 2147483648 by omega) g1
      obtain ⟨c, ec, _, hc⟩ := wi_ex (a := 0) (b := 10) (by decide) (by decide) g2
      have e : aRain v0 v1 ((L, N, P), im, tx, fr, rf) = (.int 1, ((L, N, P), im, tx, rn5 (rn2 (nI (gS L j).2.2.1 * (10 - v1)).toInt64), rf)) := by
        simp only [aRain, g1, g2, Bool.and_self, if_true]
        rw [ej, cl_nI (show j < 2147483648 by omega)]
      rw [e] at k
      subst ej; subst ec
      have hi : m_inb (nI j) 6 = true := by rw [inb_nI (by omega)]; simpa using (show j < 6 by omega)
      obtain ⟨s, sh, ⟨f1, f2, f12, f18, f22, f23⟩, vt, cc, d, p, t, r, i0, i1⟩ := hM
      have z2 : hI h (M + 4) j = nI (gS L j).2.2.1 := (cc j hj).2.2.1
      obtain ⟨w1, w2, w3, w4⟩ := vt.2.2.2.1 j hj
      have w3' : 1 ≤ (gS L j).2.2.1 ∧ (gS L j).2.2.1 ≤ 9 := w3
      have q4 := sh.2.1 4 (by decide) (by decide)
      have ck := rn_chk (gS L j).2.2.1 (by omega) c (by omega)
      rw [decide_eq_false (show ¬ (gS L j).2.2.1 = 0 by omega), Bool.false_or] at ck
      simp only [Bool.and_eq_true, Bool.not_eq_true', decide_eq_false_iff_not, decide_eq_true_eq] at ck
      obtain ⟨c1', c2', c3'⟩ := ck
      simp only [s_X9_rain_0, s_X9_rain_1, s_X9_rain_2, s_X9_rain_5, s_X9_rain_8, s_X9_rain_9, s_X9_rain_10, s_X9_rain_12, s_X9_rain_15, s_X9_rain_18, s_X9_rain_19, s_X9_rain_22, s_X9_rain_23, s_X9_rain_24, s_X9_rain_25, s_X9_rain_28, s_X9_rain_29, s_X9_rain_30, s_X9_rain_32, s_X9_rain_33, s_X9_rain_34, s_X9_rain_35, s_X9_rain_36, s_X9_rain_39, s_X9_rain_42, s_X9_rain_43, zI_0, Bool.true_eq_false, Bool.false_eq_true, not_true_eq_false, not_false_eq_true, if_true, if_false, KV_ap, KU_ap, dropL_nil, s.1, s.2.2.2.2.1, p_isStick hM', p_in, g1, g2, q4, hi, cl_nI (show j < 2147483648 by omega), z2]
      rw [p_lay s.1 10 c1' c2', KU_ap]
      simp only [s_X9_rain_0, s_X9_rain_1, s_X9_rain_2, s_X9_rain_5, s_X9_rain_8, s_X9_rain_9, s_X9_rain_10, s_X9_rain_12, s_X9_rain_15, s_X9_rain_18, s_X9_rain_19, s_X9_rain_22, s_X9_rain_23, s_X9_rain_24, s_X9_rain_25, s_X9_rain_28, s_X9_rain_29, s_X9_rain_30, s_X9_rain_32, s_X9_rain_33, s_X9_rain_34, s_X9_rain_35, s_X9_rain_36, s_X9_rain_39, s_X9_rain_42, s_X9_rain_43, zI_0, Bool.true_eq_false, Bool.false_eq_true, not_true_eq_false, not_false_eq_true, if_true, if_false, KV_ap, KU_ap, dropL_nil]
      rw [← c3'] at k
      refine k _ ⟨sM_pF (by decide) (sM_pF (by decide) s), sh, ⟨?_, ?_, ?_, ?_, ?_, ?_⟩, vt, cc, d, p, t, r, i0, i1⟩ (frm_pF (by omega) (by omega) (frm_pF (by omega) (by omega) (frm_rfl h _ _)))
      · rw [hF_pF, if_neg (by omega), hF_pF, if_neg (by omega)]; exact f1
      · rw [hF_pF, if_neg (by omega), hF_pF, if_neg (by omega)]; exact f2
      · rw [hF_pF, if_neg (by omega), hF_pF, if_neg (by omega)]; exact f12
      · rw [hF_pF, if_neg (by omega), hF_pF, if_neg (by omega)]; exact f18
      · rw [hF_pF, if_neg (by omega), hF_pF, if_pos ⟨rfl, rfl⟩]
      · rw [hF_pF, if_pos ⟨rfl, rfl⟩]

/-! The class's calls: image -/
def aImage (v : Int32) (u : XS) : Value × XS := if decide (0 ≤ v ∧ v < 2) = true then (.int 1, (u.1, (fun z => if z = v.toNatClampNeg then some u.1 else u.2.1 z), u.2.2)) else (.int (-2), bdU u 0)
theorem isX_im {h h' : HP} {B : Nat} {T : TW} {im im' : Nat → Option TW} {tx : List Nat} {fr : Int64 × Int64} {rf : Nat → Int32} (hX : isX h B (T, im, tx, fr, rf)) (p : ∀ x, x < B + 24 → x ≠ B + 9 → agr h h' x) (hn : hN h ≤ hN h') (hi : imX h' B im') : isX h' B (T, im', tx, fr, rf) := by
  obtain ⟨h1, h2, h3, h4, h5, h6, h7⟩ := hX
  exact ⟨oX_agr (p _ (by omega) (by omega)) h1, isT_agr (fun x a b => p x (by omega) (by omega)) h2, hi, txX_agr (fun x a b => p x (by omega) (by omega)) h4, rwX_agr (fun x a b => p x (by omega) (by omega)) h5, rfX_agr (p _ (by omega) (by omega)) h6, scX_agr (p _ (by omega) (by omega)).1 (p _ (by omega) (by omega)).1 hn h7⟩
theorem x_image (v : Int32) : cX k_X8_image [.int v, m_D] (aImage v) := by
  intro g h B u Φ hX k
  obtain ⟨⟨L, N, P⟩, im, tx, fr, rf⟩ := u
  have o := hX.1
  have t := hX.2.1
  obtain ⟨t0, t1, t2, t3, t4, t5, t6⟩ := id t
  have t4 : isS h (B + 1 + 1) L := t4
  have t5 : isN h (B + 1 + 3) N := t5
  have t6 : isP h (B + 1 + 5) P := t6
  have hl6 : L.length ≤ 6 := t4.2.1.2.2.2.1
  cases g1 : decide (0 ≤ v ∧ v < 2)
  · have e : aImage v ((L, N, P), im, tx, fr, rf) = (.int (-2), bdU ((L, N, P), im, tx, fr, rf) 0) := by simp only [aImage, g1, Bool.false_eq_true, if_false]
    rw [e] at k
    simp only [s_X8_image_0, s_X8_image_1, s_X8_image_2, s_X8_image_5, s_X8_image_8, s_X8_image_8n, s_X8_image_9, s_X8_image_12, s_X8_image_13, s_X8_image_13n, s_X8_image_14, s_X8_image_17, s_X8_image_18, s_X8_image_19, s_X8_image_19n, s_X8_image_20, s_X8_image_20n, s_X8_image_21, s_X8_image_21n, s_X8_image_24, s_X8_image_27, s_X8_image_28, s_X8_image_31, s_X8_image_31n, s_X8_image_32, s_X8_image_32n, s_X8_image_33, s_X8_image_36, s_X8_image_37, s_X8_image_37n, s_X8_image_38, s_X8_image_39, s_X8_image_39n, s_X8_image_40, s_X8_image_40n, s_X8_image_41, s_X8_image_44, s_X8_image_47, s_X8_image_48, o.1, q_isBelow, zI_0, Bool.true_eq_false, Bool.false_eq_true, not_true_eq_false, not_false_eq_true, if_true, if_false, KV_ap, KU_ap, dropL_nil, g1]
    exact q_bad hX (fun h' hX' hf => by simp only [KV_ap, s_X8_image_0, s_X8_image_1, s_X8_image_2, s_X8_image_5, s_X8_image_8, s_X8_image_8n, s_X8_image_9, s_X8_image_12, s_X8_image_13, s_X8_image_13n, s_X8_image_14, s_X8_image_17, s_X8_image_18, s_X8_image_19, s_X8_image_19n, s_X8_image_20, s_X8_image_20n, s_X8_image_21, s_X8_image_21n, s_X8_image_24, s_X8_image_27, s_X8_image_28, s_X8_image_31, s_X8_image_31n, s_X8_image_32, s_X8_image_32n, s_X8_image_33, s_X8_image_36, s_X8_image_37, s_X8_image_37n, s_X8_image_38, s_X8_image_39, s_X8_image_39n, s_X8_image_40, s_X8_image_40n, s_X8_image_41, s_X8_image_44, s_X8_image_47, s_X8_image_48]; exact k h' hX' hf)
  · obtain ⟨j, ej, hj⟩ := hs_ex (n := 2) (by decide) g1
    obtain ⟨m1, m2, m3, m4⟩ := id hX.2.2.1
    have hNB : B + 43 ≤ hN h := hX.2.2.2.2.2.2.2.2
    have hi' : m_inb (nI j) 2 = true := by rw [inb_nI (by omega)]; simpa using hj
    have e : aImage v ((L, N, P), im, tx, fr, rf) = (.int 1, ((L, N, P), (fun z => if z = j then some (L, N, P) else im z), tx, fr, rf)) := by
      simp only [aImage, g1, if_true]
      rw [ej, cl_nI (show j < 2147483648 by omega)]
    rw [e] at k
    subst ej
    cases hm : im j with
    | none =>
      have hnul := m2 j hj hm
      simp only [s_X8_image_0, s_X8_image_1, s_X8_image_2, s_X8_image_5, s_X8_image_8, s_X8_image_8n, s_X8_image_9, s_X8_image_12, s_X8_image_13, s_X8_image_13n, s_X8_image_14, s_X8_image_17, s_X8_image_18, s_X8_image_19, s_X8_image_19n, s_X8_image_20, s_X8_image_20n, s_X8_image_21, s_X8_image_21n, s_X8_image_24, s_X8_image_27, s_X8_image_28, s_X8_image_31, s_X8_image_31n, s_X8_image_47, s_X8_image_48, o.1, o.2.2.1, q_isBelow, zI_0, Bool.true_eq_false, Bool.false_eq_true, not_true_eq_false, not_false_eq_true, if_true, if_false, KV_ap, KU_ap, dropL_nil, g1, m1, hi', cl_nI (show j < 2147483648 by omega), hnul, rfO, va_rf]
      generalize ha : hN h = a at *
      refine q_Tinit (t := a) (by rw [hS_nwO, if_pos ha.symm]) (by rw [hN_nwO, ha]) (fun h1 w1 f1 n1 => ?_)
      have A : ∀ x, x < a → agr h h1 x := fun x hx => agr_trans (agr_nwO (by omega) (agr_rfl h x)) (f1 x hx)
      have o1 := A B (by omega)
      have o9 := A (B + 9) (by omega)
      simp only [s_X8_image_0, s_X8_image_1, s_X8_image_2, s_X8_image_5, s_X8_image_8, s_X8_image_8n, s_X8_image_9, s_X8_image_12, s_X8_image_13, s_X8_image_13n, s_X8_image_14, s_X8_image_17, s_X8_image_18, s_X8_image_19, s_X8_image_19n, s_X8_image_20, s_X8_image_20n, s_X8_image_21, s_X8_image_21n, s_X8_image_24, s_X8_image_27, s_X8_image_28, s_X8_image_31, s_X8_image_31n, s_X8_image_32, s_X8_image_32n, s_X8_image_33, s_X8_image_36, s_X8_image_37, s_X8_image_37n, s_X8_image_38, s_X8_image_47, s_X8_image_48, zI_0, Bool.true_eq_false, Bool.false_eq_true, not_true_eq_false, not_false_eq_true, if_true, if_false, KV_ap, KU_ap, dropL_nil, o1.1, o1.2.1, o.1, o.2.2.1, o9.1, m1, hi', cl_nI (show j < 2147483648 by omega), w1.1]
      have w2 : isT (pF h1 (B + 9) j (.ref a)) a ([], [], []) := isT_agr (fun x p q => agr_pF (by omega) (agr_rfl h1 x)) w1
      have A2 : ∀ x, x < a → x ≠ B + 9 → agr h (pF h1 (B + 9) j (.ref a)) x := fun x hx hne => agr_pF hne (A x hx)
      have tn : isT (pF h1 (B + 9) j (.ref a)) (B + 1) (L, N, P) := isT_agr (fun x p q => A2 x (by omega) (by omega)) t
      have p1 := A2 B (by omega) (by omega)
      simp only [s_X8_image_0, s_X8_image_1, s_X8_image_2, s_X8_image_5, s_X8_image_8, s_X8_image_8n, s_X8_image_9, s_X8_image_12, s_X8_image_13, s_X8_image_13n, s_X8_image_14, s_X8_image_17, s_X8_image_18, s_X8_image_19, s_X8_image_19n, s_X8_image_20, s_X8_image_20n, s_X8_image_21, s_X8_image_21n, s_X8_image_24, s_X8_image_27, s_X8_image_28, s_X8_image_31, s_X8_image_31n, s_X8_image_32, s_X8_image_32n, s_X8_image_33, s_X8_image_36, s_X8_image_37, s_X8_image_37n, s_X8_image_38, s_X8_image_39, s_X8_image_39n, s_X8_image_40, s_X8_image_40n, s_X8_image_41, s_X8_image_44, s_X8_image_47, s_X8_image_48, zI_0, Bool.true_eq_false, Bool.false_eq_true, not_true_eq_false, not_false_eq_true, if_true, if_false, KV_ap, KU_ap, dropL_nil, p1.1, p1.2.1, hS_pF, o1.1, o.1, o.2.1, w1.1]
      refine q_Tcopy w2 tn (Or.inl (by omega)) (fun h2 w3 f2 => ?_)
      simp only [KU_ap, s_X8_image_0, s_X8_image_1, s_X8_image_2, s_X8_image_5, s_X8_image_8, s_X8_image_8n, s_X8_image_9, s_X8_image_12, s_X8_image_13, s_X8_image_13n, s_X8_image_14, s_X8_image_17, s_X8_image_18, s_X8_image_19, s_X8_image_19n, s_X8_image_20, s_X8_image_20n, s_X8_image_21, s_X8_image_21n, s_X8_image_24, s_X8_image_27, s_X8_image_28, s_X8_image_31, s_X8_image_31n, s_X8_image_32, s_X8_image_32n, s_X8_image_33, s_X8_image_36, s_X8_image_37, s_X8_image_37n, s_X8_image_38, s_X8_image_39, s_X8_image_39n, s_X8_image_40, s_X8_image_40n, s_X8_image_41, s_X8_image_44, s_X8_image_47, s_X8_image_48]
      have n2 : hN h2 = a + 8 := by rw [f2.2, hN_pF]; exact n1
      have A3 : ∀ x, x < a → x ≠ B + 9 → agr h h2 x := fun x hx hne => agr_trans (A2 x hx hne) (f2.1 x (by omega))
      have F9 : ∀ y, hF h2 (B + 9) y = if y = j then .ref a else hF h (B + 9) y := fun y => by
        rw [(f2.1 (B + 9) (by omega)).2.1, hF_pF]
        by_cases hy : y = j
        · rw [if_pos ⟨rfl, hy⟩, if_pos hy]
        · rw [if_neg (fun z => hy z.2), if_neg hy, (A (B + 9) (by omega)).2.1]
      have S9 : hS h2 (B + 9) = (3, 2) := by rw [(f2.1 (B + 9) (by omega)).1, hS_pF, o9.1]; exact m1
      refine k h2 (isX_im hX (fun x p q => A3 x (by omega) q) (by omega) ⟨S9, ?_, ?_, ?_⟩) ⟨fun x hx => ?_, by omega, by omega⟩
      · intro i hi hn
        by_cases e : i = j
        · subst e; simp at hn
        · rw [F9, if_neg e]
          simp only [if_neg e] at hn
          exact m2 i hi hn
      · intro i hi T hT
        by_cases e : i = j
        · subst e
          simp only [if_true, Option.some.injEq] at hT
          subst hT
          exact ⟨a, by rw [F9, if_pos rfl], hNB, Nat.le_of_eq n2.symm, w3⟩
        · simp only [if_neg e] at hT
          obtain ⟨b, r1, r2, r3, r4⟩ := m3 i hi T hT
          exact ⟨b, by rw [F9, if_neg e]; exact r1, r2, by omega, isT_agr (fun x p q => A3 x (by omega) (by omega)) r4⟩
      · intro b b' h0 h1'
        rw [F9] at h0 h1'
        have other : ∀ (i c : Nat), i < 2 → i ≠ j → hF h (B + 9) i = .ref c → c + 8 ≤ a := fun i c hi hne hc => by
          cases hmi : im i with
          | none => rw [m2 i hi hmi] at hc; exact absurd hc (by simp)
          | some T =>
            obtain ⟨b, r1, r2, r3, r4⟩ := m3 i hi T hmi
            rw [r1] at hc
            have hc : b = c := by injection hc
            omega
        by_cases e0 : (0 : Nat) = j
        · subst e0
          rw [if_pos rfl] at h0
          rw [if_neg (by decide)] at h1'
          have h0 : a = b := by injection h0
          have := other 1 b' (by decide) (by decide) h1'
          omega
        · by_cases e1 : (1 : Nat) = j
          · subst e1
            rw [if_neg (by decide)] at h0
            rw [if_pos rfl] at h1'
            have h1' : a = b' := by injection h1'
            have := other 0 b (by decide) (by decide) h0
            omega
          · omega
      · exact A3 x (by omega) (by omega)
    | some T0 =>
      obtain ⟨a, r1, r2, r3, r4⟩ := m3 j hj T0 hm
      simp only [s_X8_image_0, s_X8_image_1, s_X8_image_2, s_X8_image_5, s_X8_image_8, s_X8_image_8n, s_X8_image_9, s_X8_image_12, s_X8_image_13, s_X8_image_13n, s_X8_image_14, s_X8_image_17, s_X8_image_18, s_X8_image_19, s_X8_image_19n, s_X8_image_20, s_X8_image_20n, s_X8_image_21, s_X8_image_21n, s_X8_image_24, s_X8_image_27, s_X8_image_28, s_X8_image_31, s_X8_image_31n, s_X8_image_32, s_X8_image_32n, s_X8_image_33, s_X8_image_36, s_X8_image_37, s_X8_image_37n, s_X8_image_38, s_X8_image_39, s_X8_image_39n, s_X8_image_40, s_X8_image_40n, s_X8_image_41, s_X8_image_44, s_X8_image_47, s_X8_image_48, o.1, o.2.1, o.2.2.1, q_isBelow, zI_0, Bool.true_eq_false, Bool.false_eq_true, not_true_eq_false, not_false_eq_true, if_true, if_false, KV_ap, KU_ap, dropL_nil, g1, m1, hi', cl_nI (show j < 2147483648 by omega), r1, rfO, va_rf, r4.1]
      refine q_Tcopy r4 t (Or.inl (by omega)) (fun h2 w3 f2 => ?_)
      simp only [KU_ap, s_X8_image_0, s_X8_image_1, s_X8_image_2, s_X8_image_5, s_X8_image_8, s_X8_image_8n, s_X8_image_9, s_X8_image_12, s_X8_image_13, s_X8_image_13n, s_X8_image_14, s_X8_image_17, s_X8_image_18, s_X8_image_19, s_X8_image_19n, s_X8_image_20, s_X8_image_20n, s_X8_image_21, s_X8_image_21n, s_X8_image_24, s_X8_image_27, s_X8_image_28, s_X8_image_31, s_X8_image_31n, s_X8_image_32, s_X8_image_32n, s_X8_image_33, s_X8_image_36, s_X8_image_37, s_X8_image_37n, s_X8_image_38, s_X8_image_39, s_X8_image_39n, s_X8_image_40, s_X8_image_40n, s_X8_image_41, s_X8_image_44, s_X8_image_47, s_X8_image_48]
      have r3' : a + 8 ≤ hN h := r3
      have F9 : hF h2 (B + 9) = hF h (B + 9) := (f2.1 (B + 9) (by omega)).2.1
      refine k h2 (isX_im hX (fun x p q => f2.1 x (by omega)) (Nat.le_of_eq f2.2.symm) ⟨by rw [(f2.1 (B + 9) (by omega)).1]; exact m1, ?_, ?_, ?_⟩) ⟨fun x hx => f2.1 x (by omega), Nat.le_of_eq f2.2.symm, by rw [f2.2]; omega⟩
      · intro i hi hn
        by_cases e : i = j
        · subst e; simp at hn
        · rw [F9]
          simp only [if_neg e] at hn
          exact m2 i hi hn
      · intro i hi T hT
        by_cases e : i = j
        · subst e
          simp only [if_true, Option.some.injEq] at hT
          subst hT
          exact ⟨a, by rw [F9]; exact r1, r2, by rw [f2.2]; exact r3', w3⟩
        · simp only [if_neg e] at hT
          obtain ⟨b, s1', s2, s3, s4⟩ := m3 i hi T hT
          have s3' : b + 8 ≤ hN h := s3
          have hd : b + 8 ≤ a ∨ a + 8 ≤ b := by
            obtain e0 | e0 : j = 0 ∨ j = 1 := by omega
            · have : i = 1 := by omega
              subst this; subst e0
              exact (m4 a b r1 s1').symm
            · have : i = 0 := by omega
              subst this; subst e0
              exact m4 b a s1' r1
          exact ⟨b, by rw [F9]; exact s1', s2, by rw [f2.2]; exact s3', isT_agr (fun x p q => f2.1 x (by omega)) s4⟩
      · rw [F9]; exact m4

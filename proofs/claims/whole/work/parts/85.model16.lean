/-! The model's calls: what is kept ahead of a change; suck, snap -/
def lyF (f : Nat → Int32) (at' : Nat) (n : Int32) (K N I W : Nat → Int32) (i : Nat) : Nat → Int32 := fun t => if t = at' then n else if at' + 1 ≤ t ∧ t < at' + 1 + i then K (t - (at' + 1)) else if at' + 7 ≤ t ∧ t < at' + 7 + i then N (t - (at' + 7)) else if at' + 13 ≤ t ∧ t < at' + 13 + i then I (t - (at' + 13)) else if at' + 19 ≤ t ∧ t < at' + 19 + i then W (t - (at' + 19)) else f t
theorem lyF_s {f : Nat → Int32} {a : Nat} {n : Int32} {K N I W : Nat → Int32} {i : Nat} (hi : i < 6) : upd (upd (upd (upd (lyF f a n K N I W i) (a + 1 + i) (K i)) (a + 7 + i) (N i)) (a + 13 + i) (I i)) (a + 19 + i) (W i) = lyF f a n K N I W (i + 1) := by
  funext t
  unfold upd lyF
  by_cases e1 : t = a + 19 + i
  · subst e1
    rw [if_pos rfl, if_neg (by omega), if_neg (by omega), if_neg (by omega), if_neg (by omega), if_pos (by omega)]
    congr 1; omega
  · rw [if_neg e1]
    by_cases e2 : t = a + 13 + i
    · subst e2
      rw [if_pos rfl, if_neg (by omega), if_neg (by omega), if_neg (by omega), if_pos (by omega)]
      congr 1; omega
    · rw [if_neg e2]
      by_cases e3 : t = a + 7 + i
      · subst e3
        rw [if_pos rfl, if_neg (by omega), if_neg (by omega), if_pos (by omega)]
        congr 1; omega
      · rw [if_neg e3]
        by_cases e4 : t = a + 1 + i
        · subst e4
          rw [if_pos rfl, if_neg (by omega), if_pos (by omega)]
          congr 1; omega
        · rw [if_neg e4]
          have q1 : (a + 1 ≤ t ∧ t < a + 1 + (i + 1)) = (a + 1 ≤ t ∧ t < a + 1 + i) := propext (by omega)
          have q2 : (a + 7 ≤ t ∧ t < a + 7 + (i + 1)) = (a + 7 ≤ t ∧ t < a + 7 + i) := propext (by omega)
          have q3 : (a + 13 ≤ t ∧ t < a + 13 + (i + 1)) = (a + 13 ≤ t ∧ t < a + 13 + i) := propext (by omega)
          have q4 : (a + 19 ≤ t ∧ t < a + 19 + (i + 1)) = (a + 19 ≤ t ∧ t < a + 19 + i) := propext (by omega)
          simp only [q1, q2, q3, q4]
theorem lyF_0 {f : Nat → Int32} {a : Nat} {n : Int32} {K N I W : Nat → Int32} : upd f a n = lyF f a n K N I W 0 := by
  funext t
  unfold upd lyF
  by_cases e : t = a
  · rw [if_pos e, if_pos e]
  · rw [if_neg e, if_neg e, if_neg (by omega), if_neg (by omega), if_neg (by omega), if_neg (by omega)]
theorem mR_congr {f f' : Nat → Int32} {L : List St} (hl : L.length ≤ 6) (e : ∀ t, t < 25 → f' t = f t) (r : mR f L) : mR f' L := by
  refine ⟨by rw [e 0 (by decide)]; exact r.1, fun j hj => ?_⟩
  have := r.2 j hj
  show f' (1 + j) = _ ∧ f' (7 + j) = _ ∧ f' (13 + j) = _ ∧ f' (19 + j) = _
  rw [e (1 + j) (by omega), e (7 + j) (by omega), e (13 + j) (by omega), e (19 + j) (by omega)]
  exact this
theorem mR_ly {f : Nat → Int32} {a : Nat} {K N I W : Nat → Int32} {L : List St} (hl : L.length ≤ 6) (c : cl4 K N I W L) : mR (fun t => lyF f a (nI L.length) K N I W 6 (a + t)) L := by
  refine ⟨by show lyF _ _ _ _ _ _ _ _ (a + 0) = _; rw [lyF, if_pos (Nat.add_zero a)], fun j hj => ?_⟩
  have := c j hj
  show lyF f a (nI L.length) K N I W 6 (a + (1 + j)) = _ ∧ lyF f a (nI L.length) K N I W 6 (a + (7 + j)) = _ ∧ lyF f a (nI L.length) K N I W 6 (a + (13 + j)) = _ ∧ lyF f a (nI L.length) K N I W 6 (a + (19 + j)) = _
  unfold lyF
  rw [if_neg (by omega), if_pos (by omega), if_neg (by omega), if_neg (by omega), if_pos (by omega), if_neg (by omega), if_neg (by omega), if_neg (by omega), if_pos (by omega), if_neg (by omega), if_neg (by omega), if_neg (by omega), if_neg (by omega), if_pos (by omega)]
  rw [show a + (1 + j) - (a + 1) = j by omega, show a + (7 + j) - (a + 7) = j by omega, show a + (13 + j) - (a + 13) = j by omega, show a + (19 + j) - (a + 19) = j by omega]
  exact this
theorem lyF_o {f : Nat → Int32} {a : Nat} {n : Int32} {K N I W : Nat → Int32} {t : Nat} (ht : t < a ∨ a + 25 ≤ t) : lyF f a n K N I W 6 t = f t := by
  unfold lyF
  rw [if_neg (by omega), if_neg (by omega), if_neg (by omega), if_neg (by omega), if_neg (by omega)]
theorem mP_kp {f K N I W : Nat → Int32} {P : List (List St)} {L : List St} (p : mP f P) (hl : L.length ≤ 6) (v : vL L) (c : cl4 K N I W L) : mP (lyF f (25 * P.length) (nI L.length) K N I W 6) (P ++ [L]) := by
  intro j hj
  rw [List.length_append, List.length_singleton] at hj
  rw [gP_app P L j hj]
  by_cases e : j = P.length
  · subst e
    rw [if_pos rfl]
    exact ⟨mR_ly hl c, v, hl⟩
  · rw [if_neg e]
    obtain ⟨r, v', l⟩ := p j (by omega)
    exact ⟨mR_congr l (fun t ht => lyF_o (by omega)) r, v', l⟩
def shF (f : Nat → Int32) (i : Nat) : Nat → Int32 := fun t => if t < i then f (t + 25) else f t
theorem shF_s (f : Nat → Int32) (i : Nat) : upd (shF f i) i (shF f i (i + 25)) = shF f (i + 1) := by
  funext t
  unfold upd shF
  by_cases e : t = i
  · subst e; rw [if_pos rfl, if_neg (by omega), if_pos (by omega)]
  · rw [if_neg e]
    have q : (t < i + 1) = (t < i) := propext (by omega)
    simp only [q]
theorem mP_sh {f : Nat → Int32} {P : List (List St)} (p : mP f P) (h6 : P.length = 6) : mP (shF f 125) (P.drop 1) := by
  intro j hj
  rw [List.length_drop, h6] at hj
  rw [gP_drop]
  obtain ⟨r, v, l⟩ := p (j + 1) (by omega)
  refine ⟨mR_congr l (fun t ht => ?_) r, v, l⟩
  show shF f 125 (25 * j + t) = _
  unfold shF
  rw [if_pos (by omega)]
  congr 1; omega
section M16
variable {g : GL} {h : HP} {Φ : Value → HP → Prop} {M : Nat}
theorem p_lay4 {n a q sz : Nat} (s : sM h M) (sh : shM h M) (f1 : hF h M 1 = .int (nI n)) (hq : 5 < q) (ht : hS h (M + q) = (1, sz)) (hsz : a + 25 ≤ sz) (hsm : sz < 2147483648) : J g k_X9_lay4 0 [.ref M, .ref (M + q), .int (nI a), m_D] [] [] h Φ = Φ .null (pI h (M + q) (lyF (hI h (M + q)) a (nI n) (hI h (M + 2)) (hI h (M + 3)) (hI h (M + 4)) (hI h (M + 5)) 6)) := by
  have q2 := sh.2.1 2 (by decide) (by decide)
  have q3 := sh.2.1 3 (by decide) (by decide)
  have q4 := sh.2.1 4 (by decide) (by decide)
  have q5 := sh.2.1 5 (by decide) (by decide)
  have e2 : ∀ f, hI (pI h (M + q) f) (M + 2) = hI h (M + 2) := fun f => by rw [hI_pI, if_neg (by omega)]
  have e3 : ∀ f, hI (pI h (M + q) f) (M + 3) = hI h (M + 3) := fun f => by rw [hI_pI, if_neg (by omega)]
  have e4 : ∀ f, hI (pI h (M + q) f) (M + 4) = hI h (M + 4) := fun f => by rw [hI_pI, if_neg (by omega)]
  have e5 : ∀ f, hI (pI h (M + q) f) (M + 5) = hI h (M + 5) := fun f => by rw [hI_pI, if_neg (by omega)]
  have ib : ∀ x, x < sz → m_inb (nI x) sz = true := fun x hx => by rw [inb_nI (by omega)]; simpa using hx
  have i7 : ∀ x : Nat, nI x + (7 : Int32) = nI (x + 7) := fun x => i_add x 7
  have i13 : ∀ x : Nat, nI x + (13 : Int32) = nI (x + 13) := fun x => i_add x 13
  have i19 : ∀ x : Nat, nI x + (19 : Int32) = nI (x + 19) := fun x => i_add x 19
  have key : ∀ m i, i + m = 6 → J g k_X9_lay4 9 [.ref M, .ref (M + q), .int (nI a), .int (nI i)] [] [] (pI h (M + q) (lyF (hI h (M + q)) a (nI n) (hI h (M + 2)) (hI h (M + 3)) (hI h (M + 4)) (hI h (M + 5)) i)) Φ = Φ .null (pI h (M + q) (lyF (hI h (M + q)) a (nI n) (hI h (M + 2)) (hI h (M + 3)) (hI h (M + 4)) (hI h (M + 5)) 6)) := by
    intro m
    induction m with
    | zero =>
      intro i hi
      have : i = 6 := by omega
      subst this
      rw [s_X9_lay4_9]
      simp only [s_X9_lay4_0, s_X9_lay4_1, s_X9_lay4_2, s_X9_lay4_3, s_X9_lay4_6, s_X9_lay4_7, s_X9_lay4_8, s_X9_lay4_10, s_X9_lay4_12, s_X9_lay4_15, s_X9_lay4_16, s_X9_lay4_17, s_X9_lay4_18, s_X9_lay4_19, s_X9_lay4_20, s_X9_lay4_21, s_X9_lay4_22, s_X9_lay4_25, s_X9_lay4_26, s_X9_lay4_27, s_X9_lay4_28, s_X9_lay4_29, s_X9_lay4_30, s_X9_lay4_32, s_X9_lay4_33, s_X9_lay4_34, s_X9_lay4_35, s_X9_lay4_36, s_X9_lay4_39, s_X9_lay4_40, s_X9_lay4_41, s_X9_lay4_42, s_X9_lay4_43, s_X9_lay4_44, s_X9_lay4_46, s_X9_lay4_47, s_X9_lay4_48, s_X9_lay4_49, s_X9_lay4_50, s_X9_lay4_53, s_X9_lay4_54, s_X9_lay4_55, s_X9_lay4_56, s_X9_lay4_57, s_X9_lay4_58, s_X9_lay4_60, s_X9_lay4_61, s_X9_lay4_62, s_X9_lay4_63, s_X9_lay4_64, s_X9_lay4_67, s_X9_lay4_68, s_X9_lay4_69, s_X9_lay4_70, s_X9_lay4_73, s_X9_lay4_76, c6, le_nI (show 6 < 2147483648 by decide) (show 6 < 2147483648 by decide), Nat.le_refl, if_true]
    | succ m ih =>
      intro i hi
      have b6 : m_inb (nI i) 6 = true := by rw [inb_nI (by omega)]; simpa using (show i < 6 by omega)
      rw [s_X9_lay4_9]
      simp only [s_X9_lay4_0, s_X9_lay4_1, s_X9_lay4_2, s_X9_lay4_3, s_X9_lay4_6, s_X9_lay4_7, s_X9_lay4_8, s_X9_lay4_10, s_X9_lay4_12, s_X9_lay4_15, s_X9_lay4_16, s_X9_lay4_17, s_X9_lay4_18, s_X9_lay4_19, s_X9_lay4_20, s_X9_lay4_21, s_X9_lay4_22, s_X9_lay4_25, s_X9_lay4_26, s_X9_lay4_27, s_X9_lay4_28, s_X9_lay4_29, s_X9_lay4_30, s_X9_lay4_32, s_X9_lay4_33, s_X9_lay4_34, s_X9_lay4_35, s_X9_lay4_36, s_X9_lay4_39, s_X9_lay4_40, s_X9_lay4_41, s_X9_lay4_42, s_X9_lay4_43, s_X9_lay4_44, s_X9_lay4_46, s_X9_lay4_47, s_X9_lay4_48, s_X9_lay4_49, s_X9_lay4_50, s_X9_lay4_53, s_X9_lay4_54, s_X9_lay4_55, s_X9_lay4_56, s_X9_lay4_57, s_X9_lay4_58, s_X9_lay4_60, s_X9_lay4_61, s_X9_lay4_62, s_X9_lay4_63, s_X9_lay4_64, s_X9_lay4_67, s_X9_lay4_68, s_X9_lay4_69, s_X9_lay4_70, s_X9_lay4_73, s_X9_lay4_76, dropL_nil, c6, le_nI (show 6 < 2147483648 by decide) (show i < 2147483648 by omega), show ¬ 6 ≤ i by omega, if_false, hS_pI, hF_pI, s.1, s.2.2.1, s.2.2.2.1, s.2.2.2.2.1, s.2.2.2.2.2.1, q2, q3, q4, q5, ht, e2, e3, e4, e5, a1, i7, i13, i19, i_add, b6, ib (a + 1 + i) (by omega), ib (a + 7 + i) (by omega), ib (a + 13 + i) (by omega), ib (a + 19 + i) (by omega), cl_nI (show i < 2147483648 by omega), cl_nI (show a + 1 + i < 2147483648 by omega), cl_nI (show a + 7 + i < 2147483648 by omega), cl_nI (show a + 13 + i < 2147483648 by omega), cl_nI (show a + 19 + i < 2147483648 by omega), pI_pI, hI_pIs]
      rw [lyF_s (by omega)]
      exact ih (i + 1) (by omega)
  simp only [s_X9_lay4_0, s_X9_lay4_1, s_X9_lay4_2, s_X9_lay4_3, s_X9_lay4_6, s_X9_lay4_7, s_X9_lay4_8, s_X9_lay4_10, s_X9_lay4_12, s_X9_lay4_15, s_X9_lay4_16, s_X9_lay4_17, s_X9_lay4_18, s_X9_lay4_19, s_X9_lay4_20, s_X9_lay4_21, s_X9_lay4_22, s_X9_lay4_25, s_X9_lay4_26, s_X9_lay4_27, s_X9_lay4_28, s_X9_lay4_29, s_X9_lay4_30, s_X9_lay4_32, s_X9_lay4_33, s_X9_lay4_34, s_X9_lay4_35, s_X9_lay4_36, s_X9_lay4_39, s_X9_lay4_40, s_X9_lay4_41, s_X9_lay4_42, s_X9_lay4_43, s_X9_lay4_44, s_X9_lay4_46, s_X9_lay4_47, s_X9_lay4_48, s_X9_lay4_49, s_X9_lay4_50, s_X9_lay4_53, s_X9_lay4_54, s_X9_lay4_55, s_X9_lay4_56, s_X9_lay4_57, s_X9_lay4_58, s_X9_lay4_60, s_X9_lay4_61, s_X9_lay4_62, s_X9_lay4_63, s_X9_lay4_64, s_X9_lay4_67, s_X9_lay4_68, s_X9_lay4_69, s_X9_lay4_70, s_X9_lay4_73, s_X9_lay4_76, dropL_nil, s.1, f1, ht, ib a (by omega), cl_nI (show a < 2147483648 by omega)]
  rw [lyF_0 (K := hI h (M + 2)) (N := hI h (M + 3)) (I := hI h (M + 4)) (W := hI h (M + 5))]
  exact key 6 0 rfl
theorem p_notes {L N P r} (hM : isM h M ((L, N, P), r)) (k : ∀ h', isM h' M ((L, N, kpP P L), r) → frm h h' M (M + 19) → (∀ x, x ≠ 12 → hI h' (M + x) = hI h (M + x)) → Φ .null h') : J g k_X9_notes 0 [.ref M, m_D] [] [] h Φ := by
  have hM' := hM
  obtain ⟨s, sh, ⟨f1, f2, f12, f18, f22, f23⟩, vt, c, d, p, t, rr, i0, i1⟩ := hM
  have f1' : hF h M 1 = .int (nI L.length) := f1
  have f2' : hF h M 2 = .int (nI N.length) := f2
  have f18' : hF h M 18 = .int (nI P.length) := f18
  have hl : L.length ≤ 6 := vt.1
  have hp : P.length ≤ 6 := vt.2.2.1
  have s12 := sh.2.2.2.2.1
  have q6 : (nI P.length = 6) = (P.length = 6) := eq_nI (show P.length < 2147483648 by omega) (show 6 < 2147483648 by decide)
  have g18 : ∀ (h : HP) v, hF (pF h M 18 v) M 18 = v := fun h v => by rw [hF_pF, if_pos ⟨rfl, rfl⟩]
  have g17 : ∀ (h : HP) v, hF (pF h M 18 v) M 17 = hF h M 17 := fun h v => by rw [hF_pF, if_neg (by omega)]
  have m25 : ∀ x : Nat, (25 : Int32) * nI x = nI (25 * x) := fun x => i_mul 25 x
  have vk : vT (L, N, kpP P L) := by
    refine ⟨vt.1, vt.2.1, ?_, vt.2.2.2⟩
    show (lsP P ++ [L]).length ≤ 6
    rw [List.length_append, List.length_singleton, lsP_len]
    have := lsD_le P.length hp
    omega
  have lk : (kpP P L).length = lsD P.length + 1 := by
    rw [kpP, List.length_append, List.length_singleton, lsP_len]
  by_cases h6 : P.length = 6
  · have key : ∀ m i, i + m = 125 → J g k_X9_notes 11 [.ref M, .int (nI i)] [] [] (pI h (M + 12) (shF (hI h (M + 12)) i)) Φ = J g k_X9_notes 38 [.ref M, .int (nI 125)] [] [] (pI h (M + 12) (shF (hI h (M + 12)) 125)) Φ := by
      intro m
      induction m with
      | zero =>
        intro i hi
        have : i = 125 := by omega
        subst this
        rw [s_X9_notes_11]
        simp only [s_X9_notes_12, s_X9_notes_14]
        rw [if_pos (by decide)]
      | succ m ih =>
        intro i hi
        have b1 : m_inb (nI i) 150 = true := by rw [inb_nI (by omega)]; simpa using (show i < 150 by omega)
        have b2 : m_inb (nI (i + 25)) 150 = true := by rw [inb_nI (by omega)]; simpa using (show i + 25 < 150 by omega)
        have i25 : ∀ x : Nat, nI x + (25 : Int32) = nI (x + 25) := fun x => i_add x 25
        rw [s_X9_notes_11]
        simp only [s_X9_notes_12, s_X9_notes_14]
        rw [if_neg (show ¬ (125 : Int32) ≤ nI i by rw [show (125 : Int32) = nI 125 from rfl, le_nI (by decide) (by omega)]; omega)]
        simp only [s_X9_notes_0, s_X9_notes_1, s_X9_notes_4, s_X9_notes_6, s_X9_notes_9, s_X9_notes_10, s_X9_notes_12, s_X9_notes_14, s_X9_notes_17, s_X9_notes_18, s_X9_notes_21, s_X9_notes_22, s_X9_notes_23, s_X9_notes_26, s_X9_notes_27, s_X9_notes_29, s_X9_notes_30, s_X9_notes_31, s_X9_notes_32, s_X9_notes_35, s_X9_notes_39, s_X9_notes_40, s_X9_notes_43, s_X9_notes_44, s_X9_notes_45, s_X9_notes_48, s_X9_notes_49, s_X9_notes_50, s_X9_notes_53, s_X9_notes_55, s_X9_notes_56, s_X9_notes_59, s_X9_notes_60, s_X9_notes_63, s_X9_notes_64, s_X9_notes_65, s_X9_notes_68, s_X9_notes_69, s_X9_notes_70, s_X9_notes_73, dropL_nil, hS_pI, hF_pI, s.1, s.2.2.2.2.2.2.2.2.2.2.2.2.1, s12, i25, a1, b1, b2, cl_nI (show i < 2147483648 by omega), cl_nI (show i + 25 < 2147483648 by omega), pI_pI, hI_pIs]
        rw [shF_s]
        exact ih (i + 1) (by omega)
    have sh0 : shF (hI h (M + 12)) 0 = hI h (M + 12) := by funext t; rw [shF, if_neg (by omega)]
    have key0 := key 125 0 rfl
    rw [sh0, pI_id] at key0
    have s' : sM (pF (pI h (M + 12) (shF (hI h (M + 12)) 125)) M 18 (.int (nI 5))) M := sM_pF (by decide) s
    simp only [s_X9_notes_0, s_X9_notes_1, s_X9_notes_4, s_X9_notes_6, s_X9_notes_9, s_X9_notes_10, s_X9_notes_12, s_X9_notes_14, s_X9_notes_17, s_X9_notes_18, s_X9_notes_21, s_X9_notes_22, s_X9_notes_23, s_X9_notes_26, s_X9_notes_27, s_X9_notes_29, s_X9_notes_30, s_X9_notes_31, s_X9_notes_32, s_X9_notes_35, s_X9_notes_38, s_X9_notes_39, s_X9_notes_40, s_X9_notes_43, s_X9_notes_44, s_X9_notes_45, s_X9_notes_48, s_X9_notes_49, s_X9_notes_50, s_X9_notes_53, s_X9_notes_55, s_X9_notes_56, s_X9_notes_59, s_X9_notes_60, s_X9_notes_63, s_X9_notes_64, s_X9_notes_65, s_X9_notes_68, s_X9_notes_69, s_X9_notes_70, s_X9_notes_73, dropL_nil, s.1, f18', q6, h6, not_true_eq_false, if_false]
    refine Eq.mpr key0 ?_
    have r5 : nI 6 - (1 : Int32) = nI 5 := s1 (by decide)
    have f1'' : hF (pF (pI h (M + 12) (shF (hI h (M + 12)) 125)) M 18 (.int (nI 5))) M 1 = .int (nI L.length) := by rw [hF_pF, if_neg (by omega)]; exact f1'
    simp only [s_X9_notes_0, s_X9_notes_1, s_X9_notes_4, s_X9_notes_6, s_X9_notes_9, s_X9_notes_10, s_X9_notes_12, s_X9_notes_14, s_X9_notes_17, s_X9_notes_18, s_X9_notes_21, s_X9_notes_22, s_X9_notes_23, s_X9_notes_26, s_X9_notes_27, s_X9_notes_29, s_X9_notes_30, s_X9_notes_31, s_X9_notes_32, s_X9_notes_35, s_X9_notes_38, s_X9_notes_39, s_X9_notes_40, s_X9_notes_43, s_X9_notes_44, s_X9_notes_45, s_X9_notes_48, s_X9_notes_49, s_X9_notes_50, s_X9_notes_53, s_X9_notes_55, s_X9_notes_56, s_X9_notes_59, s_X9_notes_60, s_X9_notes_63, s_X9_notes_64, s_X9_notes_65, s_X9_notes_68, s_X9_notes_69, s_X9_notes_70, s_X9_notes_73, dropL_nil, hS_pI, hS_pF, hF_pI, g18, g17, s.1, f18', h6, r5, s.2.2.2.2.2.2.2.2.2.2.2.2.1, m25]
    rw [p_lay4 s' sh f1'' (by decide) s12 (by decide) (by decide), KU_ap]
    simp only [s_X9_notes_0, s_X9_notes_1, s_X9_notes_4, s_X9_notes_6, s_X9_notes_9, s_X9_notes_10, s_X9_notes_12, s_X9_notes_14, s_X9_notes_17, s_X9_notes_18, s_X9_notes_21, s_X9_notes_22, s_X9_notes_23, s_X9_notes_26, s_X9_notes_27, s_X9_notes_29, s_X9_notes_30, s_X9_notes_31, s_X9_notes_32, s_X9_notes_35, s_X9_notes_38, s_X9_notes_39, s_X9_notes_40, s_X9_notes_43, s_X9_notes_44, s_X9_notes_45, s_X9_notes_48, s_X9_notes_49, s_X9_notes_50, s_X9_notes_53, s_X9_notes_55, s_X9_notes_56, s_X9_notes_59, s_X9_notes_60, s_X9_notes_63, s_X9_notes_64, s_X9_notes_65, s_X9_notes_68, s_X9_notes_69, s_X9_notes_70, s_X9_notes_73, dropL_nil, hS_pI, hS_pF, hF_pI, g18, g17, s.1, a1]
    refine k _ ?_ ?_ ?_
    · refine isM_T hM' (fun x => rfl) ?_ ?_ ?_ ?_ ?_ vk ?_ ?_ ?_
      · intro j h1 h2 h3
        rw [hF_pF, if_neg (by omega), hF_pI, hF_pF, if_neg (by omega)]
        rfl
      · intro x hx
        simp only [hI_pF, hI_pI, Nat.add_left_cancel_iff]
        rw [if_neg (by omega), if_neg (by omega)]
      · rw [hF_pF, if_neg (by omega)]; exact f1''
      · rw [hF_pF, if_neg (by omega), hF_pI, hF_pF, if_neg (by omega)]; exact f2'
      · rw [hF_pF, if_pos ⟨rfl, rfl⟩, lk, h6]; rfl
      · simp only [hI_pF, hI_pI, Nat.add_left_cancel_iff, Nat.reduceEqDiff, if_false, if_true]
        exact c
      · simp only [hI_pF, hI_pI, Nat.add_left_cancel_iff, Nat.reduceEqDiff, if_false, if_true]
        exact d
      · simp only [hI_pF, hI_pI, Nat.add_left_cancel_iff, Nat.reduceEqDiff, if_false, if_true]
        have := mP_kp (L := L) (mP_sh p h6) hl vt.2.2.2.1 c
        rw [List.length_drop, h6] at this
        show mP _ (lsP P ++ [L])
        rw [lsP, if_pos h6]
        exact this
    · exact frm_pF (by omega) (by omega) (frm_pI (by omega) (by omega) (frm_pF (by omega) (by omega) (frm_pI (by omega) (by omega) (frm_rfl h _ _))))
    · intro x hx
      simp only [hI_pF, hI_pI, Nat.add_left_cancel_iff, hx, if_false]
  · have hd : lsD P.length = P.length := by rw [lsD, if_neg h6]
    simp only [s_X9_notes_0, s_X9_notes_1, s_X9_notes_4, s_X9_notes_6, s_X9_notes_9, s_X9_notes_10, s_X9_notes_12, s_X9_notes_14, s_X9_notes_17, s_X9_notes_18, s_X9_notes_21, s_X9_notes_22, s_X9_notes_23, s_X9_notes_26, s_X9_notes_27, s_X9_notes_29, s_X9_notes_30, s_X9_notes_31, s_X9_notes_32, s_X9_notes_35, s_X9_notes_38, s_X9_notes_39, s_X9_notes_40, s_X9_notes_43, s_X9_notes_44, s_X9_notes_45, s_X9_notes_48, s_X9_notes_49, s_X9_notes_50, s_X9_notes_53, s_X9_notes_55, s_X9_notes_56, s_X9_notes_59, s_X9_notes_60, s_X9_notes_63, s_X9_notes_64, s_X9_notes_65, s_X9_notes_68, s_X9_notes_69, s_X9_notes_70, s_X9_notes_73, dropL_nil, s.1, f18', q6, h6, not_false_eq_true, if_true, s.2.2.2.2.2.2.2.2.2.2.2.2.1, m25]
    rw [p_lay4 s sh f1' (by decide) s12 (show 25 * P.length + 25 ≤ 150 by omega) (by decide), KU_ap]
    simp only [s_X9_notes_0, s_X9_notes_1, s_X9_notes_4, s_X9_notes_6, s_X9_notes_9, s_X9_notes_10, s_X9_notes_12, s_X9_notes_14, s_X9_notes_17, s_X9_notes_18, s_X9_notes_21, s_X9_notes_22, s_X9_notes_23, s_X9_notes_26, s_X9_notes_27, s_X9_notes_29, s_X9_notes_30, s_X9_notes_31, s_X9_notes_32, s_X9_notes_35, s_X9_notes_38, s_X9_notes_39, s_X9_notes_40, s_X9_notes_43, s_X9_notes_44, s_X9_notes_45, s_X9_notes_48, s_X9_notes_49, s_X9_notes_50, s_X9_notes_53, s_X9_notes_55, s_X9_notes_56, s_X9_notes_59, s_X9_notes_60, s_X9_notes_63, s_X9_notes_64, s_X9_notes_65, s_X9_notes_68, s_X9_notes_69, s_X9_notes_70, s_X9_notes_73, dropL_nil, hS_pI, hS_pF, hF_pI, s.1, f18', a1]
    refine k _ ?_ ?_ ?_
    · refine isM_T hM' (fun x => rfl) ?_ ?_ ?_ ?_ ?_ vk ?_ ?_ ?_
      · intro j h1 h2 h3
        rw [hF_pF, if_neg (by omega)]
        rfl
      · intro x hx
        simp only [hI_pF, hI_pI, Nat.add_left_cancel_iff]
        rw [if_neg (by omega)]
      · rw [hF_pF, if_neg (by omega)]; exact f1'
      · rw [hF_pF, if_neg (by omega)]; exact f2'
      · rw [hF_pF, if_pos ⟨rfl, rfl⟩, lk, hd]
      · simp only [hI_pF, hI_pI, Nat.add_left_cancel_iff, Nat.reduceEqDiff, if_false, if_true]
        exact c
      · simp only [hI_pF, hI_pI, Nat.add_left_cancel_iff, Nat.reduceEqDiff, if_false, if_true]
        exact d
      · simp only [hI_pF, hI_pI, Nat.add_left_cancel_iff, Nat.reduceEqDiff, if_false, if_true]
        have := mP_kp (L := L) p hl vt.2.2.2.1 c
        show mP _ (lsP P ++ [L])
        rw [lsP, if_neg h6]
        exact this
    · exact frm_pF (by omega) (by omega) (frm_pI (by omega) (by omega) (frm_rfl h _ _))
    · intro x hx
      simp only [hI_pF, hI_pI, Nat.add_left_cancel_iff, hx, if_false]
end M16

/-! The search of rows: the table of unlike places, search -/
def uN (L : List St) (i j : Nat) : Nat := upN (rS (gS L i) 0) (rS (gS L j) 0)
theorem upN_le (a b : Nat) : upN a b ≤ 5 := by
  unfold upN
  have : ∀ m i (q : Nat × Nat × Nat), q.1 ≤ i → (it (fun _ (q : Nat × Nat × Nat) => (if q.2.1 % 10 = q.2.2 % 10 then q.1 else q.1 + 1, q.2.1 / 10, q.2.2 / 10)) m i q).1 ≤ i + m := by
    intro m
    induction m with
    | zero => intro i q h; exact h
    | succ m ih =>
      intro i q h
      rw [it]
      refine Nat.le_trans (ih (i + 1) _ ?_) (by omega)
      show (if q.2.1 % 10 = q.2.2 % 10 then q.1 else q.1 + 1) ≤ i + 1
      split <;> omega
  exact this 5 0 (0, paN a, paN b) (Nat.le_refl 0)
theorem rd_ok {r : Nat} (h : r = 0 ∨ isNm r = true) : r < 2147483648 ∧ dg r ≤ 5 ∧ paN r < 2147483648 := by
  rcases h with h | h
  · subst h; decide
  · have h1 := nm1 h
    have h3 := nm3 h
    exact ⟨by omega, h1.2.2.2.2, by omega⟩
section SE
variable {g : GL} {h : HP} {Φ : Value → HP → Prop} {a s : Nat} {L : List St}
theorem tH_self (h : HP) (a v : Nat) : pF h a 4 (.int (nI v)) = tH h a (v, hI h (a + 3), hI h (a + 2)) := by
  unfold tH
  show _ = pF (pI (pI h (a + 2) (hI h (a + 2))) (a + 3) (hI h (a + 3))) a 4 (.int (nI v))
  rw [pI_id]
  have : hI h (a + 3) = hI h (a + 3) := rfl
  rw [pI_id]
theorem q_search (hA : isS h s L) (hR : rwX h a) (hsa : s + 2 ≤ a) (hl : 0 < L.length) (k : ∀ h0 F, tR h0 a L.length (uN L) → h0 = pI (pF h a 3 (.int (nI L.length))) (a + 1) F → Φ .null (tH h0 a (tf L.length (uN L) 7 0 0 0 0 (1000, hI h (a + 3), hI h (a + 2))))) : J g k_X3_search 0 [.ref a, .ref s, m_D, m_D, m_D] [] [] h Φ := by
  obtain ⟨r0, r1, r2, r3, r4, r5, r6⟩ := id hR
  have hn6 : L.length ≤ 6 := hA.2.1.2.2.2.1
  simp only [s_X3_search_0, s_X3_search_1, s_X3_search_2, s_X3_search_5, s_X3_search_8, s_X3_search_9, s_X3_search_11, s_X3_search_12, s_X3_search_15, s_X3_search_18, s_X3_search_19, s_X3_search_21, s_X3_search_22, s_X3_search_25, s_X3_search_28, s_X3_search_29, s_X3_search_30, s_X3_search_31, s_X3_search_34, s_X3_search_35, s_X3_search_36, s_X3_search_37, s_X3_search_40, s_X3_search_43, s_X3_search_45, s_X3_search_46, s_X3_search_49, s_X3_search_50, s_X3_search_52, s_X3_search_53, s_X3_search_54, s_X3_search_55, s_X3_search_57, s_X3_search_58, s_X3_search_61, s_X3_search_64, s_X3_search_67, s_X3_search_70, s_X3_search_71, s_X3_search_74, s_X3_search_77, s_X3_search_78, s_X3_search_79, s_X3_search_80, s_X3_search_81, s_X3_search_84, zI_0, Bool.true_eq_false, Bool.false_eq_true, not_true_eq_false, not_false_eq_true, if_true, if_false, KV_ap, KU_ap, dropL_nil, hA.1, q_size hA.2.1, r0]
  generalize hm : pF h a 3 (.int (nI L.length)) = m
  have mS : ∀ x, hS m x = hS h x := fun x => by subst hm; rfl
  have mF : hF m a 0 = .ref (a + 1) ∧ hF m a 3 = .int (nI L.length) := by
    subst hm
    exact ⟨by rw [hF_pF, if_neg (by omega)]; exact r1, by rw [hF_pF, if_pos ⟨rfl, rfl⟩]⟩
  have mA : isS m s L := by subst hm; exact isS_pF (by omega) hA
  have mq : ∀ f, isS (pI m (a + 1) f) s L := fun f => isS_pI (by omega) mA
  have m6 : ∀ a : Nat, nI a * 6 = nI (a * 6) := fun a => i_mul a 6
  have key1 := J_it (fun i (q : (Nat → Int32) × Value × Value) => J g k_X3_search 10 [.ref a, .ref s, .int (nI i), q.2.1, q.2.2] [] [] (pI m (a + 1) q.1) Φ) (fun i q => (it (fun j f => upd f (i * 6 + j) (nI (uN L i j))) L.length 0 q.1, .int (nI L.length), (it (fun j (_ : Value) => Value.int (nI (uN L i j))) L.length 0 q.2.2))) L.length (fun _ _ => True) (fun _ _ _ _ => trivial) (fun i q hi _ => by
    rw [s_X3_search_10]
    simp only [s_X3_search_0, s_X3_search_1, s_X3_search_2, s_X3_search_5, s_X3_search_8, s_X3_search_9, s_X3_search_11, s_X3_search_12, s_X3_search_15, s_X3_search_18, s_X3_search_19, s_X3_search_21, s_X3_search_22, s_X3_search_25, s_X3_search_28, s_X3_search_29, s_X3_search_30, s_X3_search_31, s_X3_search_34, s_X3_search_35, s_X3_search_36, s_X3_search_37, s_X3_search_40, s_X3_search_43, s_X3_search_45, s_X3_search_46, s_X3_search_49, s_X3_search_50, s_X3_search_52, s_X3_search_53, s_X3_search_54, s_X3_search_55, s_X3_search_57, s_X3_search_58, s_X3_search_61, s_X3_search_64, s_X3_search_67, s_X3_search_70, s_X3_search_71, s_X3_search_74, s_X3_search_77, s_X3_search_78, s_X3_search_79, s_X3_search_80, s_X3_search_81, s_X3_search_84, zI_0, Bool.true_eq_false, Bool.false_eq_true, not_true_eq_false, not_false_eq_true, if_true, if_false, KV_ap, KU_ap, dropL_nil, hS_pI, hF_pI, mS, r0, mF.2, le_nI (show L.length < 2147483648 by omega) (show i < 2147483648 by omega), if_neg (Nat.not_le.mpr hi)]
    have key2 := J_it0 (fun j (z : (Nat → Int32) × Value) => J g k_X3_search 20 [.ref a, .ref s, .int (nI i), .int (nI j), z.2] [] [] (pI m (a + 1) z.1) Φ) (fun j z => (upd z.1 (i * 6 + j) (nI (uN L i j)), .int (nI (uN L i j)))) L.length (fun j z hj => by
      obtain ⟨v1, v2, v3, v4⟩ := hA.2.2.2 i hi
      obtain ⟨w1, w2, w3, w4⟩ := hA.2.2.2 j hj
      obtain ⟨x1, x2, x3⟩ := rd_ok (rdX_nm (k := (gS L i).1) v2 (show 0 < 9 by decide) (show (gS L i).2.2.2 < 19 by omega))
      obtain ⟨y1, y2, y3⟩ := rd_ok (rdX_nm (k := (gS L j).1) w2 (show 0 < 9 by decide) (show (gS L j).2.2.2 < 19 by omega))
      have hin : m_inb (nI (i * 6 + j)) 36 = true := by rw [inb_nI (by omega)]; simpa using (show i * 6 + j < 36 by omega)
      have qi := q_seenAt (g := g) (Φ := KV g k_X3_search 34 [.ref a, .ref s, .int (nI i), .int (nI j), z.2] [] [] Φ) (mq z.1) hi (show 0 < 9 by decide)
      rw [s_X3_search_20]
      simp only [s_X3_search_0, s_X3_search_1, s_X3_search_2, s_X3_search_5, s_X3_search_8, s_X3_search_9, s_X3_search_11, s_X3_search_12, s_X3_search_15, s_X3_search_18, s_X3_search_19, s_X3_search_21, s_X3_search_22, s_X3_search_25, s_X3_search_28, s_X3_search_29, s_X3_search_30, s_X3_search_31, s_X3_search_34, s_X3_search_35, s_X3_search_36, s_X3_search_37, s_X3_search_40, s_X3_search_43, s_X3_search_45, s_X3_search_46, s_X3_search_49, s_X3_search_50, s_X3_search_52, s_X3_search_53, s_X3_search_54, s_X3_search_55, s_X3_search_57, s_X3_search_58, s_X3_search_61, s_X3_search_64, s_X3_search_67, s_X3_search_70, s_X3_search_71, s_X3_search_74, s_X3_search_77, s_X3_search_78, s_X3_search_79, s_X3_search_80, s_X3_search_81, s_X3_search_84, zI_0, Bool.true_eq_false, Bool.false_eq_true, not_true_eq_false, not_false_eq_true, if_true, if_false, KV_ap, KU_ap, dropL_nil, hS_pI, hF_pI, mS, r0, mF.2, le_nI (show L.length < 2147483648 by omega) (show j < 2147483648 by omega), if_neg (Nat.not_le.mpr hj), hA.1]
      rw [show (Value.int 0) = Value.int (nI 0) from rfl]
      rw [q_seenAt (mq z.1) hi (show 0 < 9 by decide)]
      simp only [s_X3_search_0, s_X3_search_1, s_X3_search_2, s_X3_search_5, s_X3_search_8, s_X3_search_9, s_X3_search_11, s_X3_search_12, s_X3_search_15, s_X3_search_18, s_X3_search_19, s_X3_search_21, s_X3_search_22, s_X3_search_25, s_X3_search_28, s_X3_search_29, s_X3_search_30, s_X3_search_31, s_X3_search_34, s_X3_search_35, s_X3_search_36, s_X3_search_37, s_X3_search_40, s_X3_search_43, s_X3_search_45, s_X3_search_46, s_X3_search_49, s_X3_search_50, s_X3_search_52, s_X3_search_53, s_X3_search_54, s_X3_search_55, s_X3_search_57, s_X3_search_58, s_X3_search_61, s_X3_search_64, s_X3_search_67, s_X3_search_70, s_X3_search_71, s_X3_search_74, s_X3_search_77, s_X3_search_78, s_X3_search_79, s_X3_search_80, s_X3_search_81, s_X3_search_84, zI_0, Bool.true_eq_false, Bool.false_eq_true, not_true_eq_false, not_false_eq_true, if_true, if_false, KV_ap, KU_ap, dropL_nil, hS_pI, mS, hA.1]
      rw [show (Value.int 0) = Value.int (nI 0) from rfl]
      rw [q_seenAt (mq z.1) hj (show 0 < 9 by decide)]
      simp only [s_X3_search_0, s_X3_search_1, s_X3_search_2, s_X3_search_5, s_X3_search_8, s_X3_search_9, s_X3_search_11, s_X3_search_12, s_X3_search_15, s_X3_search_18, s_X3_search_19, s_X3_search_21, s_X3_search_22, s_X3_search_25, s_X3_search_28, s_X3_search_29, s_X3_search_30, s_X3_search_31, s_X3_search_34, s_X3_search_35, s_X3_search_36, s_X3_search_37, s_X3_search_40, s_X3_search_43, s_X3_search_45, s_X3_search_46, s_X3_search_49, s_X3_search_50, s_X3_search_52, s_X3_search_53, s_X3_search_54, s_X3_search_55, s_X3_search_57, s_X3_search_58, s_X3_search_61, s_X3_search_64, s_X3_search_67, s_X3_search_70, s_X3_search_71, s_X3_search_74, s_X3_search_77, s_X3_search_78, s_X3_search_79, s_X3_search_80, s_X3_search_81, s_X3_search_84, zI_0, Bool.true_eq_false, Bool.false_eq_true, not_true_eq_false, not_false_eq_true, if_true, if_false, KV_ap, KU_ap, dropL_nil, q_unlikePlaces (a := rS (gS L i) 0) (b := rS (gS L j) 0) x1 y1 x2 y2 x3 y3, hS_pI, hF_pI, mS, r0, mF.1, r4, m6, i_add, hin, cl_nI (show i * 6 + j < 2147483648 by omega), hI_pIs, pI_pI, a1]
      rfl) (q.1, q.2.2)
    refine Eq.trans key2 ?_
    rw [s_X3_search_20]
    have e2 : ∀ n j (z : (Nat → Int32) × Value), it (fun j (z : (Nat → Int32) × Value) => (upd z.1 (i * 6 + j) (nI (uN L i j)), Value.int (nI (uN L i j)))) n j z = (it (fun j f => upd f (i * 6 + j) (nI (uN L i j))) n j z.1, it (fun j (_ : Value) => Value.int (nI (uN L i j))) n j z.2) := by
      intro n
      induction n with
      | zero => intro j z; rfl
      | succ n ih => intro j z; exact ih (j + 1) _
    simp only [s_X3_search_0, s_X3_search_1, s_X3_search_2, s_X3_search_5, s_X3_search_8, s_X3_search_9, s_X3_search_11, s_X3_search_12, s_X3_search_15, s_X3_search_18, s_X3_search_19, s_X3_search_21, s_X3_search_22, s_X3_search_25, s_X3_search_28, s_X3_search_29, s_X3_search_30, s_X3_search_31, s_X3_search_34, s_X3_search_35, s_X3_search_36, s_X3_search_37, s_X3_search_40, s_X3_search_43, s_X3_search_45, s_X3_search_46, s_X3_search_49, s_X3_search_50, s_X3_search_52, s_X3_search_53, s_X3_search_54, s_X3_search_55, s_X3_search_57, s_X3_search_58, s_X3_search_61, s_X3_search_64, s_X3_search_67, s_X3_search_70, s_X3_search_71, s_X3_search_74, s_X3_search_77, s_X3_search_78, s_X3_search_79, s_X3_search_80, s_X3_search_81, s_X3_search_84, zI_0, Bool.true_eq_false, Bool.false_eq_true, not_true_eq_false, not_false_eq_true, if_true, if_false, KV_ap, KU_ap, dropL_nil, hS_pI, hF_pI, mS, r0, mF.2, le_nI (show L.length < 2147483648 by omega) (show L.length < 2147483648 by omega), Nat.le_refl, a1, e2]) L.length 0 (hI m (a + 1), m_D, m_D) (Nat.zero_add _) trivial
  have key1' := key1.1
  simp only [pI_id] at key1'
  refine Eq.mpr key1' ?_
  have e1 : ∀ n i (q : (Nat → Int32) × Value × Value), (it (fun i (q : (Nat → Int32) × Value × Value) => (it (fun j f => upd f (i * 6 + j) (nI (uN L i j))) L.length 0 q.1, Value.int (nI L.length), (it (fun j (_ : Value) => Value.int (nI (uN L i j))) L.length 0 q.2.2))) n i q).1 = it (fun i f => it (fun j f => upd f (i * 6 + j) (nI (uN L i j))) L.length 0 f) n i q.1 := by
    intro n
    induction n with
    | zero => intro i q; rfl
    | succ n ih => intro i q; exact ih (i + 1) _
  rw [s_X3_search_10]
  simp only [s_X3_search_0, s_X3_search_1, s_X3_search_2, s_X3_search_5, s_X3_search_8, s_X3_search_9, s_X3_search_11, s_X3_search_12, s_X3_search_15, s_X3_search_18, s_X3_search_19, s_X3_search_21, s_X3_search_22, s_X3_search_25, s_X3_search_28, s_X3_search_29, s_X3_search_30, s_X3_search_31, s_X3_search_34, s_X3_search_35, s_X3_search_36, s_X3_search_37, s_X3_search_40, s_X3_search_43, s_X3_search_45, s_X3_search_46, s_X3_search_49, s_X3_search_50, s_X3_search_52, s_X3_search_53, s_X3_search_54, s_X3_search_55, s_X3_search_57, s_X3_search_58, s_X3_search_61, s_X3_search_64, s_X3_search_67, s_X3_search_70, s_X3_search_71, s_X3_search_74, s_X3_search_77, s_X3_search_78, s_X3_search_79, s_X3_search_80, s_X3_search_81, s_X3_search_84, zI_0, Bool.true_eq_false, Bool.false_eq_true, not_true_eq_false, not_false_eq_true, if_true, if_false, KV_ap, KU_ap, dropL_nil, hS_pI, hF_pI, mS, r0, mF.2, le_nI (show L.length < 2147483648 by omega) (show L.length < 2147483648 by omega), Nat.le_refl, e1, hS_pF]
  generalize hF : it (fun i f => it (fun j f => upd f (i * 6 + j) (nI (uN L i j))) L.length 0 f) L.length 0 (hI m (a + 1)) = F
  have row1 : ∀ i n j f x, (x < i * 6 + j ∨ i * 6 + j + n ≤ x) → it (fun j f => upd f (i * 6 + j) (nI (uN L i j))) n j f x = f x := by
    intro i n
    induction n with
    | zero => intro j f x _; rfl
    | succ n ih => intro j f x hx; rw [it, ih (j + 1) _ x (by omega), pk_un (by omega)]
  have row2 : ∀ i n j f c, j ≤ c → c < j + n → it (fun j f => upd f (i * 6 + j) (nI (uN L i j))) n j f (i * 6 + c) = nI (uN L i c) := by
    intro i n
    induction n with
    | zero => intro j f c h1 h2; omega
    | succ n ih =>
      intro j f c h1 h2
      rw [it]
      by_cases e : c = j
      · subst e; rw [row1 i n (c + 1) _ _ (by omega), upd, if_pos rfl]
      · exact ih (j + 1) _ c (by omega) (by omega)
  have row3 : ∀ n i f r c, i + n ≤ L.length → (r < i ∨ i + n ≤ r) → c < L.length → it (fun i f => it (fun j f => upd f (i * 6 + j) (nI (uN L i j))) L.length 0 f) n i f (r * 6 + c) = f (r * 6 + c) := by
    intro n
    induction n with
    | zero => intro i f r c _ _ _; rfl
    | succ n ih => intro i f r c h1 h2 h3; rw [it, ih (i + 1) _ r c (by omega) (by omega) h3, row1 i L.length 0 f _ (by omega)]
  have row4 : ∀ n i f r c, i + n ≤ L.length → i ≤ r → r < i + n → c < L.length → it (fun i f => it (fun j f => upd f (i * 6 + j) (nI (uN L i j))) L.length 0 f) n i f (r * 6 + c) = nI (uN L r c) := by
    intro n
    induction n with
    | zero => intro i f r c _ h1 h2 _; omega
    | succ n ih =>
      intro i f r c h0 h1 h2 h3
      rw [it]
      by_cases e : r = i
      · subst e; rw [row3 n (r + 1) _ r c (by omega) (by omega) h3, row2 r L.length 0 f c (by omega) (by omega)]
      · exact ih (i + 1) _ r c (by omega) (by omega) (by omega) h3
  have hT : tR (pI m (a + 1) F) a L.length (uN L) := by
    refine ⟨⟨?_, ?_, ?_, ?_, ?_, ?_, ?_⟩, mF.2, hn6, fun i hi j hj => ⟨?_, upN_le _ _⟩⟩
    · rw [hS_pI, mS]; exact r0
    · exact mF.1
    · rw [hF_pI]; subst hm; rw [hF_pF, if_neg (by omega)]; exact r2
    · rw [hF_pI]; subst hm; rw [hF_pF, if_neg (by omega)]; exact r3
    · rw [hS_pI, mS]; exact r4
    · rw [hS_pI, mS]; exact r5
    · rw [hS_pI, mS]; exact r6
    · rw [hI_pIs, ← hF]; exact row4 L.length 0 _ i j (by omega) (by omega) (by omega) hj
  have kk := k (pI m (a + 1) F) F hT (by rw [hm])
  have c1000 : (1000 : Int32) = nI 1000 := rfl
  rw [c1000, tH_self]
  have e3 : hI (pI m (a + 1) F) (a + 3) = hI h (a + 3) := by rw [hI_pI, if_neg (by omega)]; subst hm; rfl
  have e4 : hI (pI m (a + 1) F) (a + 2) = hI h (a + 2) := by rw [hI_pI, if_neg (by omega)]; subst hm; rfl
  rw [e3, e4]
  refine Eq.mpr (q_try0 (t := 0) (used := 0) (sum := 0) (q := (1000, hI h (a + 3), hI h (a + 2))) hT (by decide) (by decide) (Nat.le_refl 1000)) ?_
  simp only [KU_ap, s_X3_search_0, s_X3_search_1, s_X3_search_2, s_X3_search_5, s_X3_search_8, s_X3_search_9, s_X3_search_11, s_X3_search_12, s_X3_search_15, s_X3_search_18, s_X3_search_19, s_X3_search_21, s_X3_search_22, s_X3_search_25, s_X3_search_28, s_X3_search_29, s_X3_search_30, s_X3_search_31, s_X3_search_34, s_X3_search_35, s_X3_search_36, s_X3_search_37, s_X3_search_40, s_X3_search_43, s_X3_search_45, s_X3_search_46, s_X3_search_49, s_X3_search_50, s_X3_search_52, s_X3_search_53, s_X3_search_54, s_X3_search_55, s_X3_search_57, s_X3_search_58, s_X3_search_61, s_X3_search_64, s_X3_search_67, s_X3_search_70, s_X3_search_71, s_X3_search_74, s_X3_search_77, s_X3_search_78, s_X3_search_79, s_X3_search_80, s_X3_search_81, s_X3_search_84]
  exact kk
end SE

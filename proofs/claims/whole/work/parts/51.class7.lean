/-! The class's calls, seventh part: next, names, court -/
theorem bit_and : ∀ K, K < 64 → ∀ k, k < 6 → ((nI K &&& ((1 : Int32) <<< (nI k &&& 31))) = 0 ↔ K.testBit k = false) := by decide +kernel
def ksN (K : Nat) (r : Nat → Nat) (y : Nat) : Nat := it (fun k m => if (K.testBit k && decide (r k = y)) = true then m + 1 else m) 6 0 0
def maN (K : Nat) (r : Nat → Nat) : Nat := it (fun k m => mxN m (ksN K r (r k))) 6 0 0
theorem ksN_le (K : Nat) (r : Nat → Nat) (y : Nat) : ksN K r y ≤ 6 := by
  unfold ksN
  have : ∀ m i a, a ≤ i → it (fun k m => if (K.testBit k && decide (r k = y)) = true then m + 1 else m) m i a ≤ i + m := by
    intro m
    induction m with
    | zero => intro i a h; exact h
    | succ m ih =>
      intro i a h
      rw [it]
      refine Nat.le_trans (ih (i + 1) _ ?_) (by omega)
      split <;> omega
  exact this 6 0 0 (Nat.le_refl 0)
theorem kfN_lt (N : List St) (i n : Nat) : kfN N i n < 64 := bN_lt _ 6
def bkF (r : Nat → Nat) (f : Nat → Int32) : Nat → Int32 := it (fun k f => upd f k (nI (r k))) 6 0 f
theorem bkF_at (r : Nat → Nat) (f : Nat → Int32) : ∀ k, k < 6 → bkF r f k = nI (r k) := by
  have : ∀ m i f k, k < i → it (fun k f => upd f k (nI (r k))) m i f k = f k := by
    intro m
    induction m with
    | zero => intro i f k _; rfl
    | succ m ih => intro i f k hk; rw [it, ih (i + 1) _ k (by omega), pk_un (by omega)]
  have h2 : ∀ m i f k, i ≤ k → k < i + m → it (fun k f => upd f k (nI (r k))) m i f k = nI (r k) := by
    intro m
    induction m with
    | zero => intro i f k h1 h2; omega
    | succ m ih =>
      intro i f k h1 h2
      rw [it]
      by_cases e : k = i
      · subst e; rw [this m (k + 1) _ k (by omega), upd, if_pos rfl]
      · exact ih (i + 1) _ k (by omega) (by omega)
  exact fun k hk => h2 6 0 f k (by omega) (by omega)
section C7
variable {g : GL} {h : HP} {Φ : Value → HP → Prop} {B : Nat}
theorem q_kindsSeenAs (ho : hS h B = (0, 6)) (h6 : hF h B 6 = .ref (B + 23)) (hs : hS h (B + 23) = (1, 6)) {r : Nat → Nat} (hr : ∀ k, r k < 100000) (hb : ∀ k, k < 6 → hI h (B + 23) k = nI (r k)) {K y : Nat} (hK : K < 64) (hy : y < 100000) : J g k_X8_kindsSeenAs 0 [.ref B, .int (nI y), .int (nI K), m_D, m_D] [] [] h Φ = Φ (.int (nI (ksN K r y))) h := by
  simp only [s_X8_kindsSeenAs_0, s_X8_kindsSeenAs_1, s_X8_kindsSeenAs_2, s_X8_kindsSeenAs_3, s_X8_kindsSeenAs_7, s_X8_kindsSeenAs_9, s_X8_kindsSeenAs_12, s_X8_kindsSeenAs_13, s_X8_kindsSeenAs_14, s_X8_kindsSeenAs_16, s_X8_kindsSeenAs_17, s_X8_kindsSeenAs_18, s_X8_kindsSeenAs_21, s_X8_kindsSeenAs_22, s_X8_kindsSeenAs_25, s_X8_kindsSeenAs_27, s_X8_kindsSeenAs_28, s_X8_kindsSeenAs_29, s_X8_kindsSeenAs_32, s_X8_kindsSeenAs_35, s_X8_kindsSeenAs_38, s_X8_kindsSeenAs_41, s_X8_kindsSeenAs_42, dropL_nil]
  have key := J_it0 (fun k m => J g k_X8_kindsSeenAs 5 [.ref B, .int (nI y), .int (nI K), .int (nI m), .int (nI k)] [] [] h Φ) (fun k m => if (K.testBit k && decide (r k = y)) = true then m + 1 else m) 6 (fun k m hk => by
    have hi : m_inb (nI k) 6 = true := by rw [inb_nI (by omega)]; simpa using hk
    have hrk := hr k
    rw [s_X8_kindsSeenAs_5]
    simp only [s_X8_kindsSeenAs_0, s_X8_kindsSeenAs_1, s_X8_kindsSeenAs_2, s_X8_kindsSeenAs_3, s_X8_kindsSeenAs_7, s_X8_kindsSeenAs_9, s_X8_kindsSeenAs_12, s_X8_kindsSeenAs_13, s_X8_kindsSeenAs_14, s_X8_kindsSeenAs_16, s_X8_kindsSeenAs_17, s_X8_kindsSeenAs_18, s_X8_kindsSeenAs_21, s_X8_kindsSeenAs_22, s_X8_kindsSeenAs_25, s_X8_kindsSeenAs_27, s_X8_kindsSeenAs_28, s_X8_kindsSeenAs_29, s_X8_kindsSeenAs_32, s_X8_kindsSeenAs_35, s_X8_kindsSeenAs_38, s_X8_kindsSeenAs_41, s_X8_kindsSeenAs_42, dropL_nil, c6, le_nI (show 6 < 2147483648 by decide) (show k < 2147483648 by omega), if_neg (Nat.not_le.mpr hk), bit_and K hK k hk, ho, h6, hs, hi, cl_nI (show k < 2147483648 by omega), hb k hk, eq_nI (show r k < 2147483648 by omega) (show y < 2147483648 by omega), a1]
    cases hc : K.testBit k
    · simp only [if_true, Bool.false_and, Bool.false_eq_true, if_false]
    · by_cases hd : r k = y
      · simp only [hd, if_true, Bool.true_eq_false, if_false, not_true_eq_false, decide_true, Bool.and_self]
      · simp only [hd, if_true, Bool.true_eq_false, if_false, not_false_eq_true, decide_false, Bool.and_false, Bool.false_eq_true]) 0
  rw [c0, key, s_X8_kindsSeenAs_5]
  simp only [s_X8_kindsSeenAs_0, s_X8_kindsSeenAs_1, s_X8_kindsSeenAs_2, s_X8_kindsSeenAs_3, s_X8_kindsSeenAs_7, s_X8_kindsSeenAs_9, s_X8_kindsSeenAs_12, s_X8_kindsSeenAs_13, s_X8_kindsSeenAs_14, s_X8_kindsSeenAs_16, s_X8_kindsSeenAs_17, s_X8_kindsSeenAs_18, s_X8_kindsSeenAs_21, s_X8_kindsSeenAs_22, s_X8_kindsSeenAs_25, s_X8_kindsSeenAs_27, s_X8_kindsSeenAs_28, s_X8_kindsSeenAs_29, s_X8_kindsSeenAs_32, s_X8_kindsSeenAs_35, s_X8_kindsSeenAs_38, s_X8_kindsSeenAs_41, s_X8_kindsSeenAs_42, c6, le_nI (show 6 < 2147483648 by decide) (show 6 < 2147483648 by decide), Nat.le_refl, if_true]
  rfl
theorem q_mostAlike {u : XS} (hX : isX h B u) {j x K : Nat} (hj : j < u.1.1.length) (hx : x < 9) (hK : K < 64) : J g k_X8_mostAlike 0 [.ref B, .int (nI j), .int (nI K), .int (nI x), m_D, m_D] [] [] h Φ = Φ (.int (nI (maN K (fun k => rdX k (gS u.1.1 j).2.1 x (gS u.1.1 j).2.2.2)))) (pI h (B + 23) (bkF (fun k => rdX k (gS u.1.1 j).2.1 x (gS u.1.1 j).2.2.2) (hI h (B + 23)))) := by
  obtain ⟨⟨L, N, P⟩, im, tx, fr, rf⟩ := u
  have hX' := hX
  have o := hX.1
  obtain ⟨t0, t1, t2, t3, t4, t5, t6⟩ := hX.2.1
  have t4 : isS h (B + 1 + 1) L := t4
  have hj : j < L.length := hj
  have hl6 : L.length ≤ 6 := t4.2.1.2.2.2.1
  have o6 : hF h B 6 = .ref (B + 23) := o.2.2.2.2.2.2.2.1
  have sh : hS h (B + 23) = (1, 6) := hX.2.2.2.2.2.2.2.1
  obtain ⟨w1, w2, w3, w4⟩ := t4.2.2.2 j hj
  have hrr : ∀ k, rdX k (gS L j).2.1 x (gS L j).2.2.2 < 100000 := fun k => rdX_lt w2 hx (by omega)
  show _ = Φ (.int (nI (maN K (fun k => rdX k (gS L j).2.1 x (gS L j).2.2.2)))) (pI h (B + 23) (bkF (fun k => rdX k (gS L j).2.1 x (gS L j).2.2.2) (hI h (B + 23))))
  simp only [s_X8_mostAlike_0, s_X8_mostAlike_1, s_X8_mostAlike_5, s_X8_mostAlike_7, s_X8_mostAlike_10, s_X8_mostAlike_11, s_X8_mostAlike_14, s_X8_mostAlike_16, s_X8_mostAlike_17, s_X8_mostAlike_20, s_X8_mostAlike_23, s_X8_mostAlike_24, s_X8_mostAlike_26, s_X8_mostAlike_27, s_X8_mostAlike_30, s_X8_mostAlike_31, s_X8_mostAlike_34, s_X8_mostAlike_37, s_X8_mostAlike_38, s_X8_mostAlike_40, s_X8_mostAlike_41, s_X8_mostAlike_45, s_X8_mostAlike_47, s_X8_mostAlike_50, s_X8_mostAlike_52, s_X8_mostAlike_53, s_X8_mostAlike_54, s_X8_mostAlike_57, s_X8_mostAlike_59, s_X8_mostAlike_60, s_X8_mostAlike_61, s_X8_mostAlike_64, s_X8_mostAlike_67, s_X8_mostAlike_69, s_X8_mostAlike_72, s_X8_mostAlike_75, s_X8_mostAlike_77, dropL_nil]
  have e0 : h = pI h (B + 23) (hI h (B + 23)) := by
    simp only [pI, hI]
    have : (fun x => if x = B + 23 then h.2.2.1 (B + 23) else h.2.2.1 x) = h.2.2.1 := by
      funext z
      by_cases hz : z = B + 23 <;> simp [hz]
    rw [this]
  have key1 := J_it0 (fun k f => J g k_X8_mostAlike 3 [.ref B, .int (nI j), .int (nI K), .int (nI x), .int (nI k), m_D] [] [] (pI h (B + 23) f) Φ) (fun k f => upd f k (nI (rdX k (gS L j).2.1 x (gS L j).2.2.2))) 6 (fun k f hk => by
    have hi : m_inb (nI k) 6 = true := by rw [inb_nI (by omega)]; simpa using hk
    have t4' : isS (pI h (B + 23) f) (B + 1 + 1) L := isS_pI (by omega) t4
    rw [s_X8_mostAlike_3]
    simp only [s_X8_mostAlike_0, s_X8_mostAlike_1, s_X8_mostAlike_5, s_X8_mostAlike_7, s_X8_mostAlike_10, s_X8_mostAlike_11, s_X8_mostAlike_14, s_X8_mostAlike_16, s_X8_mostAlike_17, s_X8_mostAlike_20, s_X8_mostAlike_23, s_X8_mostAlike_24, s_X8_mostAlike_26, s_X8_mostAlike_27, s_X8_mostAlike_30, s_X8_mostAlike_31, s_X8_mostAlike_34, s_X8_mostAlike_37, s_X8_mostAlike_38, s_X8_mostAlike_40, s_X8_mostAlike_41, s_X8_mostAlike_45, s_X8_mostAlike_47, s_X8_mostAlike_50, s_X8_mostAlike_52, s_X8_mostAlike_53, s_X8_mostAlike_54, s_X8_mostAlike_57, s_X8_mostAlike_59, s_X8_mostAlike_60, s_X8_mostAlike_61, s_X8_mostAlike_64, s_X8_mostAlike_67, s_X8_mostAlike_69, s_X8_mostAlike_72, s_X8_mostAlike_75, s_X8_mostAlike_77, zI_0, Bool.true_eq_false, Bool.false_eq_true, not_true_eq_false, not_false_eq_true, if_true, if_false, KV_ap, KU_ap, dropL_nil, c6, le_nI (show 6 < 2147483648 by decide) (show k < 2147483648 by omega), if_neg (Nat.not_le.mpr hk), hS_pI, hF_pI, o.1, o.2.1, t0, t1, t4.1, o6, sh, q_seenAsKind t4' hj hx hk, hi, cl_nI (show k < 2147483648 by omega), hI_pIs, pI_pI, a1]) (hI h (B + 23))
  rw [c0]
  conv => lhs; rw [e0]
  rw [key1, s_X8_mostAlike_3]
  generalize hF0 : it (fun k f => upd f k (nI (rdX k (gS L j).2.1 x (gS L j).2.2.2))) 6 0 (hI h (B + 23)) = F
  have hF1 : F = bkF (fun k => rdX k (gS L j).2.1 x (gS L j).2.2.2) (hI h (B + 23)) := hF0.symm
  have hFk : ∀ k, k < 6 → hI (pI h (B + 23) F) (B + 23) k = nI (rdX k (gS L j).2.1 x (gS L j).2.2.2) := fun k hk => by rw [hI_pIs, hF1]; exact bkF_at _ _ k hk
  simp only [s_X8_mostAlike_0, s_X8_mostAlike_1, s_X8_mostAlike_5, s_X8_mostAlike_7, s_X8_mostAlike_10, s_X8_mostAlike_11, s_X8_mostAlike_14, s_X8_mostAlike_16, s_X8_mostAlike_17, s_X8_mostAlike_20, s_X8_mostAlike_23, s_X8_mostAlike_24, s_X8_mostAlike_26, s_X8_mostAlike_27, s_X8_mostAlike_30, s_X8_mostAlike_31, s_X8_mostAlike_34, s_X8_mostAlike_37, s_X8_mostAlike_38, s_X8_mostAlike_40, s_X8_mostAlike_41, s_X8_mostAlike_45, s_X8_mostAlike_47, s_X8_mostAlike_50, s_X8_mostAlike_52, s_X8_mostAlike_53, s_X8_mostAlike_54, s_X8_mostAlike_57, s_X8_mostAlike_59, s_X8_mostAlike_60, s_X8_mostAlike_61, s_X8_mostAlike_64, s_X8_mostAlike_67, s_X8_mostAlike_69, s_X8_mostAlike_72, s_X8_mostAlike_75, s_X8_mostAlike_77, zI_0, Bool.true_eq_false, Bool.false_eq_true, not_true_eq_false, not_false_eq_true, if_true, if_false, KV_ap, KU_ap, dropL_nil, c6, le_nI (show 6 < 2147483648 by decide) (show 6 < 2147483648 by decide), Nat.le_refl]
  have key2 := J_it (fun k m => J g k_X8_mostAlike 43 [.ref B, .int (nI j), .int (nI K), .int (nI x), .int (nI m), .int (nI k)] [] [] (pI h (B + 23) F) Φ) (fun k m => mxN m (ksN K (fun k => rdX k (gS L j).2.1 x (gS L j).2.2.2) (rdX k (gS L j).2.1 x (gS L j).2.2.2))) 6 (fun _ m => m ≤ 6) (fun k m _ hm => by
      have := ksN_le K (fun k => rdX k (gS L j).2.1 x (gS L j).2.2.2) (rdX k (gS L j).2.1 x (gS L j).2.2.2)
      exact Nat.le_of_lt_succ (mx_lt (Nat.lt_succ_of_le hm) (Nat.lt_succ_of_le this))) (fun k m hk hm => by
    have hle := ksN_le K (fun k => rdX k (gS L j).2.1 x (gS L j).2.2.2) (rdX k (gS L j).2.1 x (gS L j).2.2.2)
    have hi : m_inb (nI k) 6 = true := by rw [inb_nI (by omega)]; simpa using hk
    rw [s_X8_mostAlike_43]
    simp only [s_X8_mostAlike_0, s_X8_mostAlike_1, s_X8_mostAlike_5, s_X8_mostAlike_7, s_X8_mostAlike_10, s_X8_mostAlike_11, s_X8_mostAlike_14, s_X8_mostAlike_16, s_X8_mostAlike_17, s_X8_mostAlike_20, s_X8_mostAlike_23, s_X8_mostAlike_24, s_X8_mostAlike_26, s_X8_mostAlike_27, s_X8_mostAlike_30, s_X8_mostAlike_31, s_X8_mostAlike_34, s_X8_mostAlike_37, s_X8_mostAlike_38, s_X8_mostAlike_40, s_X8_mostAlike_41, s_X8_mostAlike_45, s_X8_mostAlike_47, s_X8_mostAlike_50, s_X8_mostAlike_52, s_X8_mostAlike_53, s_X8_mostAlike_54, s_X8_mostAlike_57, s_X8_mostAlike_59, s_X8_mostAlike_60, s_X8_mostAlike_61, s_X8_mostAlike_64, s_X8_mostAlike_67, s_X8_mostAlike_69, s_X8_mostAlike_72, s_X8_mostAlike_75, s_X8_mostAlike_77, zI_0, Bool.true_eq_false, Bool.false_eq_true, not_true_eq_false, not_false_eq_true, if_true, if_false, KV_ap, KU_ap, dropL_nil, c6, le_nI (show 6 < 2147483648 by decide) (show k < 2147483648 by omega), if_neg (Nat.not_le.mpr hk), hS_pI, hF_pI, o.1, o6, sh, hi, cl_nI (show k < 2147483648 by omega), hFk k hk, q_kindsSeenAs (h := pI h (B + 23) F) o.1 o6 sh hrr hFk hK (hrr k), lt_nI (show m < 2147483648 by omega) (show ksN K (fun k => rdX k (gS L j).2.1 x (gS L j).2.2.2) (rdX k (gS L j).2.1 x (gS L j).2.2.2) < 2147483648 by omega), if_nI, ← mxN.eq_1, a1]) 6 0 0 rfl (Nat.zero_le 6)
  rw [c0, key2.1, s_X8_mostAlike_43]
  simp only [s_X8_mostAlike_0, s_X8_mostAlike_1, s_X8_mostAlike_5, s_X8_mostAlike_7, s_X8_mostAlike_10, s_X8_mostAlike_11, s_X8_mostAlike_14, s_X8_mostAlike_16, s_X8_mostAlike_17, s_X8_mostAlike_20, s_X8_mostAlike_23, s_X8_mostAlike_24, s_X8_mostAlike_26, s_X8_mostAlike_27, s_X8_mostAlike_30, s_X8_mostAlike_31, s_X8_mostAlike_34, s_X8_mostAlike_37, s_X8_mostAlike_38, s_X8_mostAlike_40, s_X8_mostAlike_41, s_X8_mostAlike_45, s_X8_mostAlike_47, s_X8_mostAlike_50, s_X8_mostAlike_52, s_X8_mostAlike_53, s_X8_mostAlike_54, s_X8_mostAlike_57, s_X8_mostAlike_59, s_X8_mostAlike_60, s_X8_mostAlike_61, s_X8_mostAlike_64, s_X8_mostAlike_67, s_X8_mostAlike_69, s_X8_mostAlike_72, s_X8_mostAlike_75, s_X8_mostAlike_77, zI_0, Bool.true_eq_false, Bool.false_eq_true, not_true_eq_false, not_false_eq_true, if_true, if_false, KV_ap, KU_ap, dropL_nil, c6, le_nI (show 6 < 2147483648 by decide) (show 6 < 2147483648 by decide), Nat.le_refl]
  rw [hF1]
  rfl
end C7

/-! The class's calls, first part -/
theorem Int32_nI (v : Int32) (h : 0 ≤ v) : v = nI v.toNatClampNeg ∧ v.toNatClampNeg < 2147483648 := by
  have h1 : (0 : Int) ≤ v.toInt := by
    have := Int32.le_iff_toInt_le.mp h
    simpa using this
  have h2 := v.toInt_lt
  have h3 : v.toNatClampNeg = v.toInt.toNat := rfl
  refine ⟨?_, by omega⟩
  apply Int32.toInt_inj.mp
  rw [h3]
  show v.toInt = (Int32.ofNat v.toInt.toNat).toInt
  rw [Int32.toInt_ofNat_of_lt (by omega)]
  omega
theorem hs_ex {v : Int32} {n : Nat} (hn : n < 2147483648) (h : decide (0 ≤ v ∧ v < nI n) = true) : ∃ j, v = nI j ∧ j < n := by
  have h' := of_decide_eq_true h
  obtain ⟨e, l⟩ := Int32_nI v h'.1
  refine ⟨v.toNatClampNeg, e, ?_⟩
  have := h'.2
  rw [e, lt_nI l hn] at this
  exact this
theorem wi_ex {v : Int32} {a b : Nat} (ha : a < 2147483648) (hb : b < 2147483648) (h : decide (nI a ≤ v ∧ v ≤ nI b) = true) : ∃ j, v = nI j ∧ a ≤ j ∧ j ≤ b := by
  have h' := of_decide_eq_true h
  have h0 : (0 : Int32) ≤ v := Int32.le_trans (by rw [ge0 ha]; trivial) h'.1
  obtain ⟨e, l⟩ := Int32_nI v h0
  refine ⟨v.toNatClampNeg, e, ?_, ?_⟩
  · have := h'.1
    rw [e, le_nI ha l] at this
    exact this
  · have := h'.2
    rw [e, le_nI l hb] at this
    exact this
theorem nm_ex {v : Int32} (h : nmI v = true) : ∃ n, v = nI n ∧ isNm n = true := by
  unfold nmI at h
  rw [Bool.and_eq_true] at h
  have h0 : (0 : Int32) ≤ v := Int32.not_lt.mp (by simpa using h.1)
  exact ⟨v.toNatClampNeg, (Int32_nI v h0).1, h.2⟩
theorem rd_ex {v : Int32} (h : rdI v = true) : ∃ n, v = nI n ∧ n < 100000 := by
  unfold rdI at h
  rw [Bool.or_eq_true] at h
  rcases h with h | h
  · exact ⟨0, by rw [← c0]; simpa using h, by decide⟩
  · obtain ⟨n, e, q⟩ := nm_ex h
    have := nm1 q
    exact ⟨n, e, by have := nm3 q; omega⟩
/-- one more refusal -/
def bdU (u : XS) (k : Nat) : XS := (u.1, u.2.1, u.2.2.1, u.2.2.2.1, upd u.2.2.2.2 k (u.2.2.2.2 k + 1))
theorem rfX_up {h : HP} {a k : Nat} {rf : Nat → Int32} (hk : k < 3) (hR : rfX h a rf) : rfX (pI h a (upd (hI h a) k (hI h a k + 1))) a (upd rf k (rf k + 1)) := by
  refine ⟨hR.1, fun i hi => ?_⟩
  rw [hI_pIs, hR.2 k hk]
  unfold upd
  split
  · rfl
  · exact hR.2 i hi
section C1
variable {g : GL} {h : HP} {Φ : Value → HP → Prop} {B : Nat} {u : XS}
theorem isX_bd (hX : isX h B u) {k : Nat} (hk : k < 3) : isX (pI h (B + 21) (upd (hI h (B + 21)) k (hI h (B + 21) k + 1))) B (bdU u k) := by
  obtain ⟨T, im, tx, fr, rf⟩ := u
  exact isX_rf hX (frm_pI (by omega) (by omega) (frm_rfl h _ _)) (rfX_up hk hX.2.2.2.2.2.1)
theorem frX_bd (k : Nat) : frX h (pI h (B + 21) (upd (hI h (B + 21)) k (hI h (B + 21) k + 1))) B := frX_of (lo := B + 21) (hi := B + 22) (by omega) (by omega) (frm_pI (by omega) (by omega) (frm_rfl h _ _))
theorem z2 : ((2 : Int32)).toNatClampNeg = 2 := rfl
theorem i03 : m_inb 0 3 = true := rfl
theorem i13 : m_inb 1 3 = true := rfl
theorem i23 : m_inb 2 3 = true := rfl
theorem q_bad (hX : isX h B u) (k : ∀ h', isX h' B (bdU u 0) → frX h h' B → Φ (.int (-2)) h') : J g k_X8_refuseBad 0 [.ref B] [] [] h Φ := by
  have o := hX.1
  have r := hX.2.2.2.2.2.1
  simp only [s_X8_refuseBad_0, s_X8_refuseBad_1, s_X8_refuseBad_4, s_X8_refuseBad_5, s_X8_refuseBad_6, s_X8_refuseBad_7, s_X8_refuseBad_8, s_X8_refuseBad_9, s_X8_refuseBad_10, s_X8_refuseBad_12, o.1, o.2.2.2.2.2.1, r.1, i03, z0]
  exact k _ (isX_bd hX (by decide)) (frX_bd 0)
theorem q_no (hX : isX h B u) (k : ∀ h', isX h' B (bdU u 1) → frX h h' B → Φ (.int (-3)) h') : J g k_X8_refuseNo 0 [.ref B] [] [] h Φ := by
  have o := hX.1
  have r := hX.2.2.2.2.2.1
  simp only [s_X8_refuseNo_0, s_X8_refuseNo_1, s_X8_refuseNo_4, s_X8_refuseNo_5, s_X8_refuseNo_6, s_X8_refuseNo_7, s_X8_refuseNo_8, s_X8_refuseNo_9, s_X8_refuseNo_10, s_X8_refuseNo_12, o.1, o.2.2.2.2.2.1, r.1, i13, z1]
  exact k _ (isX_bd hX (by decide)) (frX_bd 1)
theorem q_full (hX : isX h B u) (k : ∀ h', isX h' B (bdU u 2) → frX h h' B → Φ (.int (-4)) h') : J g k_X8_refuseFull 0 [.ref B] [] [] h Φ := by
  have o := hX.1
  have r := hX.2.2.2.2.2.1
  simp only [s_X8_refuseFull_0, s_X8_refuseFull_1, s_X8_refuseFull_4, s_X8_refuseFull_5, s_X8_refuseFull_6, s_X8_refuseFull_7, s_X8_refuseFull_8, s_X8_refuseFull_9, s_X8_refuseFull_10, s_X8_refuseFull_12, o.1, o.2.2.2.2.2.1, r.1, i23, z2]
  exact k _ (isX_bd hX (by decide)) (frX_bd 2)
/-- a call of the class: its answer, the state behind it -/
def cX (k : Nat) (ar : List Value) (a : XS → Value × XS) : Prop := ∀ (g : GL) (h : HP) (B : Nat) (u : XS) (Φ : Value → HP → Prop), isX h B u → (∀ h', isX h' B (a u).2 → frX h h' B → Φ (a u).1 h') → J g k 0 (.ref B :: ar) [] [] h Φ
def aTown (u : XS) : Value × XS := (.int (nI u.1.1.length), (([], [], []), u.2))
theorem x_town : cX k_X8_town [m_D] aTown := by
  intro g h B u Φ hX k
  obtain ⟨T, im, tx, fr, rf⟩ := u
  have o := hX.1
  have t := hX.2.1
  simp only [s_X8_town_0, s_X8_town_1, s_X8_town_4, s_X8_town_7, s_X8_town_10, s_X8_town_11, s_X8_town_12, s_X8_town_15, s_X8_town_18, s_X8_town_19, o.1, o.2.1, t.1, t.2.1, t.2.2.2.2.1.1, q_size t.2.2.2.2.1.2.1, KV_ap, dropL_nil]
  refine q_Tempty t (fun h' hT hf => ?_)
  simp only [KU_ap, s_X8_town_0, s_X8_town_1, s_X8_town_4, s_X8_town_7, s_X8_town_10, s_X8_town_11, s_X8_town_12, s_X8_town_15, s_X8_town_18, s_X8_town_19]
  exact k h' (isX_T hX hf hT) (frX_of (by omega) (by omega) hf)
def aForget (u : XS) : Value × XS := (.int (nI u.1.2.1.length), ((u.1.1, [], u.1.2.2), u.2))
theorem x_forget : cX k_X8_forget [m_D] aForget := by
  intro g h B u Φ hX k
  obtain ⟨⟨L, N, P⟩, im, tx, fr, rf⟩ := u
  have o := hX.1
  have t := hX.2.1
  obtain ⟨t0, t1, t2, t3, t4, t5, t6⟩ := id t
  simp only [s_X8_forget_0, s_X8_forget_1, s_X8_forget_4, s_X8_forget_7, s_X8_forget_10, s_X8_forget_11, s_X8_forget_12, s_X8_forget_15, s_X8_forget_18, s_X8_forget_21, s_X8_forget_22, o.1, o.2.1, t0, t2, t5.1, q_size t5.2.1, q_empty t5.2.1, KV_ap, KU_ap, dropL_nil]
  have f : frm h (pF h (B + 1 + 3) 1 (.int (nI 0))) (B + 4) (B + 6) := frm_pF (by omega) (by omega) (frm_rfl h _ _)
  exact k _ (isX_T hX (frm_mono (by omega) (by omega) f) (isT_mk t (f.1 _ (by omega)) (isS_agr (fun x a b => f.1 x (by omega)) t4) (isN_nil t5) (isP_agr (fun x a b => f.1 x (by omega)) t6))) (frX_of (by omega) (by omega) f)
end C1

/-! The law over the small machine (the dispatch is written by gen_law3) -/
theorem v_nI (v : Int32) : v = nI v.toBitVec.toNat := by
  apply Int32.toBitVec_inj.mp
  show v.toBitVec = BitVec.ofNat 32 v.toBitVec.toNat
  rw [BitVec.ofNat_toNat, BitVec.setWidth_eq]
theorem and31 (v : Int32) : ∃ n, n < 32 ∧ v &&& 31 = nI n := by
  refine ⟨v.toBitVec.toNat &&& 31, Nat.lt_succ_of_le Nat.and_le_right, ?_⟩
  have h1 := v_nI v
  have h2 : v &&& 31 = nI v.toBitVec.toNat &&& nI 31 := by rw [← h1]; rfl
  rw [h2, i_and]
theorem lw_l5 {L c : Nat} (hL : L ≤ 320) (hc : c ≤ 100) : (nI L - 5 < nI (5 * c)) = (L < 5 * c + 5) := by
  by_cases z : 5 ≤ L
  · have : nI L - 5 = nI (L - 5) := i_sub z
    rw [this, lt_nI (by omega) (by omega)]
    apply propext; omega
  · have neg : ∀ L, L < 5 → nI L - 5 < (0 : Int32) := by decide
    have h1 := neg L (by omega)
    have h2 : (0 : Int32) ≤ nI (5 * c) := by rw [ge0 (by omega)]; trivial
    apply propext
    exact ⟨fun _ => by omega, fun _ => Int32.lt_of_lt_of_le h1 h2⟩
section LJ
variable {g : GL} {h : HP} {Φ : Value → HP → Prop} {B : Nat} {u : XS}
theorem lw_step {i : Nat} (hB : bth h B u) (hi : i + 4 < g.2.1) (hL : g.2.1 ≤ 320) (K : ∀ h2 u2, bth h2 B u2 → hN h2 ≤ hN h + 8 → J g 211 1007 [.ref g.1, .ref B, .ref (B + 24), .int (nI i)] [] [] h2 Φ) : J g 211 26 [.ref g.1, .ref B, .ref (B + 24), .int (nI i)] [] [] h Φ := by
  have ib : m_inb (nI i) g.2.1 = true := by rw [inb_nI (by omega)]; simpa using (show i < g.2.1 by omega)
  simp only [s_L_law_26, s_L_law_27, s_L_law_28, s_L_law_29, s_L_law_31, ib, cl_nI (show i < 2147483648 by omega)]
  obtain ⟨n, hn, e⟩ := and31 (g.2.2.1 i)
  rw [e]
  obtain e | e | e | e | e | e | e | e | e | e | e | e | e | e | e | e | e | e | e | e | e | e | e | e | e | e | e | e | e | e | e | e : n = 0 ∨ n = 1 ∨ n = 2 ∨ n = 3 ∨ n = 4 ∨ n = 5 ∨ n = 6 ∨ n = 7 ∨ n = 8 ∨ n = 9 ∨ n = 10 ∨ n = 11 ∨ n = 12 ∨ n = 13 ∨ n = 14 ∨ n = 15 ∨ n = 16 ∨ n = 17 ∨ n = 18 ∨ n = 19 ∨ n = 20 ∨ n = 21 ∨ n = 22 ∨ n = 23 ∨ n = 24 ∨ n = 25 ∨ n = 26 ∨ n = 27 ∨ n = 28 ∨ n = 29 ∨ n = 30 ∨ n = 31 := by omega
  · subst e; exact Eq.mpr s_L_law_32_0 (lw_town hB hi hL K)
  · subst e; exact Eq.mpr s_L_law_32_1 (lw_stick hB hi hL K)
  · subst e; exact Eq.mpr s_L_law_32_2 (lw_type hB hi hL K)
  · subst e; exact Eq.mpr s_L_law_32_3 (lw_clear hB hi hL K)
  · subst e; exact Eq.mpr s_L_law_32_4 (lw_read hB hi hL K)
  · subst e; exact Eq.mpr s_L_law_32_5 (lw_suck hB hi hL K)
  · subst e; exact Eq.mpr s_L_law_32_6 (lw_snap hB hi hL K)
  · subst e; exact Eq.mpr s_L_law_32_7 (lw_lays hB hi hL K)
  · subst e; exact Eq.mpr s_L_law_32_8 (lw_undo hB hi hL K)
  · subst e; exact Eq.mpr s_L_law_32_9 (lw_of hB hi hL K)
  · subst e; exact Eq.mpr s_L_law_32_10 (lw_at hB hi hL K)
  · subst e; exact Eq.mpr s_L_law_32_11 (lw_told hB hi hL K)
  · subst e; exact Eq.mpr s_L_law_32_12 (lw_sucks hB hi hL K)
  · subst e; exact Eq.mpr s_L_law_32_13 (lw_breaks hB hi hL K)
  · subst e; exact Eq.mpr s_L_law_32_14 (lw_letters hB hi hL K)
  · subst e; exact Eq.mpr s_L_law_32_15 (lw_row hB hi hL K)
  · subst e; exact Eq.mpr s_L_law_32_16 (lw_note hB hi hL K)
  · subst e; exact Eq.mpr s_L_law_32_17 (lw_forget hB hi hL K)
  · subst e; exact Eq.mpr s_L_law_32_18 (lw_is hB hi hL K)
  · subst e; exact Eq.mpr s_L_law_32_19 (lw_next hB hi hL K)
  · subst e; exact Eq.mpr s_L_law_32_20 (lw_names hB hi hL K)
  · subst e; exact Eq.mpr s_L_law_32_21 (lw_whose hB hi hL K)
  · subst e; exact Eq.mpr s_L_law_32_22 (lw_court hB hi hL K)
  · subst e; exact Eq.mpr s_L_law_32_23 (lw_rain hB hi hL K)
  · subst e; exact Eq.mpr s_L_law_32_24 (lw_years hB hi hL K)
  · subst e; exact Eq.mpr s_L_law_32_25 (lw_part hB hi hL K)
  · subst e; exact Eq.mpr s_L_law_32_26 (lw_image hB hi hL K)
  · subst e; exact Eq.mpr s_L_law_32_27 (lw_from hB hi hL K)
  · subst e; exact Eq.mpr s_L_law_32_28 (lw_status hB hi hL K)
  · subst e; exact Eq.mpr s_L_law_32_29 (lw_count hB hi hL K)
  · subst e; exact Eq.mpr s_L_law_32_30 (lw_digest hB hi hL K)
  · subst e; exact Eq.mpr (s_L_law_32_d (by decide)) (K h u hB (by omega))
theorem law_loop (hL : g.2.1 ≤ 320) (hΦ : ∀ h, hN h ≤ B + 14000 → Φ (.int 1) h) : ∀ m c h u, g.2.1 < 5 * (c + m) + 5 → c + m ≤ 64 → bth h B u → hN h ≤ B + 43 + 8 * c → J g 211 18 [.ref g.1, .ref B, .ref (B + 24), .int (nI (5 * c))] [] [] h Φ := by
  have e5 : ∀ x : Nat, nI x + (5 : Int32) = nI (x + 5) := fun x => i_add x 5
  have eL : Int32.ofNat g.2.1 = nI g.2.1 := rfl
  intro m
  induction m with
  | zero =>
    intro c h u h1 h2 hB hn
    rw [s_L_law_18, s_L_law_19, s_L_law_20, s_L_law_21, s_L_law_22, s_L_law_23, eL]
    rw [if_pos (by rw [lw_l5 hL (by omega)]; omega), s_L_law_1013, s_L_law_1014 (Or.inr rfl)]
    exact hΦ h (by omega)
  | succ m ih =>
    intro c h u h1 h2 hB hn
    rw [s_L_law_18, s_L_law_19, s_L_law_20, s_L_law_21, s_L_law_22, s_L_law_23, eL]
    by_cases z : g.2.1 < 5 * c + 5
    · rw [if_pos (by rw [lw_l5 hL (by omega)]; exact z), s_L_law_1013, s_L_law_1014 (Or.inr rfl)]
      exact hΦ h (by omega)
    · rw [if_neg (by rw [lw_l5 hL (by omega)]; exact z)]
      refine lw_step hB (by omega) hL (fun h2 u2 hB2 hn2 => ?_)
      rw [s_L_law_1007, s_L_law_1010, dropL_nil, e5, show 5 * c + 5 = 5 * (c + 1) by omega]
      exact ih (c + 1) h2 u2 (by omega) (by omega) hB2 (by omega)
end LJ
/-- THE LAW OVER THE SMALL MACHINE: it comes to its end with 1, and makes few cells -/
theorem law_J (b L : Nat) (xs : Nat → Int32) (sa : Nat → Nat) (B : Nat) (hL : L ≤ 320) : J (b, L, xs, sa) m_law 0 [.ref b, m_D, m_D, m_D] [] [] (hp0 B) (fun v h => v = .int 1 ∧ hN h ≤ B + 14000) := by
  have n0 : hN (hp0 B) = B := rfl
  show J (b, L, xs, sa) 211 0 [.ref b, m_D, m_D, m_D] [] [] (hp0 B) _
  simp only [s_L_law_0, s_L_law_3, s_L_law_4, n0]
  refine q_X8init (B := B) (by rw [hS_nwO, if_pos n0.symm]) (by rw [hN_nwO, n0]) (fun h1 X1 A1 N1 => ?_)
  simp only [KU_ap, s_L_law_7, s_L_law_8, s_L_law_11, s_L_law_12, dropL_nil, N1]
  refine p_X9init (M := B + 24) (by rw [hS_nwO, if_pos N1.symm]) (by rw [hN_nwO, N1]) (by rw [hF_nwO, if_pos N1.symm]; rfl) (by rw [hF_nwO, if_pos N1.symm]; rfl) (fun h2 M2 A2 N2 => ?_)
  have A : ∀ x, x < B + 24 → agr h1 h2 x := fun x hx => agr_trans (agr_nwO (by omega) (agr_rfl h1 x)) (A2 x hx)
  have X2 : isX h2 B uZ := by
    obtain ⟨o, t, im, tx, rw', rf, s22, s23⟩ := X1
    refine ⟨oX_agr (A B (by omega)) o, isT_agr (fun x a b => A x (by omega)) t, imX_agr (A (B + 9) (by omega)) (fun x a b => absurd b (by omega)) (by omega) im, txX_agr (fun x a b => A x (by omega)) tx, rwX_agr (fun x a b => A x (by omega)) rw', rfX_agr (A (B + 21) (by omega)) rf, ?_⟩
    unfold scX
    rw [(A (B + 22) (by omega)).1, (A (B + 23) (by omega)).1]
    exact ⟨s22, s23, by omega⟩
  simp only [KU_ap, s_L_law_15, s_L_law_16, s_L_law_17, dropL_nil]
  exact law_loop (g := (b, L, xs, sa)) (B := B) hL (fun h hh => ⟨rfl, hh⟩) 64 0 h2 uZ (by show L < 5 * (0 + 64) + 5; omega) (by decide) ⟨X2, M2⟩ (by omega)

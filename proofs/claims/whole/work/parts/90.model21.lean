/-! The model's calls: told -/
section M21
variable {g : GL} {h : HP} {Φ : Value → HP → Prop} {M : Nat} {u : XS}
theorem p_unlikeAt (hM : isM h M u) {x : Nat} (hx : x < 9) : J g k_X9_unlikeAt 0 [.ref M, .int (nI x), m_D, m_D, m_D, m_D] [] [] h Φ = Φ (.int (nI (unN u.1.1 x))) h := by
  have hl := hM.2.2.2.1.1
  have f1 := hM.2.2.1.1
  have vt := hM.2.2.2.1.2.2.2.1
  have e01 : ∀ b : Bool, (if b = false then nI 0 else nI 1) = nI (if b = true then 1 else 0) := fun b => by cases b <;> rfl
  have inner : ∀ i (n : Int32), i < u.1.1.length → J g k_X9_unlikeAt 18 [.ref M, .int (nI x), .int n, .int (nI i), .int 1, .int 0] [] [] h Φ = J g k_X9_unlikeAt 58 [.ref M, .int (nI x), .int n, .int (nI i), .int (zI (decide (∀ j, j < i → ¬ rS (gS u.1.1 j) x = rS (gS u.1.1 i) x))), .int (nI i)] [] [] h Φ := by
    intro i n hi
    have ri := rS_lt vt (x := x) hi hx
    have key := J_it0 (fun j (b : Bool) => J g k_X9_unlikeAt 18 [.ref M, .int (nI x), .int n, .int (nI i), .int (zI b), .int (nI j)] [] [] h Φ) (fun j b => b && !decide (rS (gS u.1.1 i) x = rS (gS u.1.1 j) x)) i (fun j b hj => by
      have rj := rS_lt vt (x := x) (show j < u.1.1.length by omega) hx
      rw [s_X9_unlikeAt_18]
      cases b
      · simp only [s_X9_unlikeAt_0, s_X9_unlikeAt_1, s_X9_unlikeAt_2, s_X9_unlikeAt_3, s_X9_unlikeAt_5, s_X9_unlikeAt_6, s_X9_unlikeAt_9, s_X9_unlikeAt_12, s_X9_unlikeAt_13, s_X9_unlikeAt_15, s_X9_unlikeAt_16, s_X9_unlikeAt_20, s_X9_unlikeAt_21, s_X9_unlikeAt_24, s_X9_unlikeAt_26, s_X9_unlikeAt_29, s_X9_unlikeAt_30, s_X9_unlikeAt_31, s_X9_unlikeAt_32, s_X9_unlikeAt_35, s_X9_unlikeAt_36, s_X9_unlikeAt_38, s_X9_unlikeAt_39, s_X9_unlikeAt_42, s_X9_unlikeAt_45, s_X9_unlikeAt_46, s_X9_unlikeAt_49, s_X9_unlikeAt_50, s_X9_unlikeAt_52, s_X9_unlikeAt_55, s_X9_unlikeAt_59, s_X9_unlikeAt_61, s_X9_unlikeAt_64, s_X9_unlikeAt_65, s_X9_unlikeAt_68, s_X9_unlikeAt_69, s_X9_unlikeAt_70, s_X9_unlikeAt_71, s_X9_unlikeAt_74, s_X9_unlikeAt_77, s_X9_unlikeAt_78, zI_0, Bool.true_eq_false, Bool.false_eq_true, not_true_eq_false, not_false_eq_true, if_true, if_false, KV_ap, KU_ap, dropL_nil, le_nI (show i < 2147483648 by omega) (show j < 2147483648 by omega), if_neg (Nat.not_le.mpr hj), a1, Bool.false_and, zI_f]
      · simp only [s_X9_unlikeAt_0, s_X9_unlikeAt_1, s_X9_unlikeAt_2, s_X9_unlikeAt_3, s_X9_unlikeAt_5, s_X9_unlikeAt_6, s_X9_unlikeAt_9, s_X9_unlikeAt_12, s_X9_unlikeAt_13, s_X9_unlikeAt_15, s_X9_unlikeAt_16, s_X9_unlikeAt_20, s_X9_unlikeAt_21, s_X9_unlikeAt_24, s_X9_unlikeAt_26, s_X9_unlikeAt_29, s_X9_unlikeAt_30, s_X9_unlikeAt_31, s_X9_unlikeAt_32, s_X9_unlikeAt_35, s_X9_unlikeAt_36, s_X9_unlikeAt_38, s_X9_unlikeAt_39, s_X9_unlikeAt_42, s_X9_unlikeAt_45, s_X9_unlikeAt_46, s_X9_unlikeAt_49, s_X9_unlikeAt_50, s_X9_unlikeAt_52, s_X9_unlikeAt_55, s_X9_unlikeAt_59, s_X9_unlikeAt_61, s_X9_unlikeAt_64, s_X9_unlikeAt_65, s_X9_unlikeAt_68, s_X9_unlikeAt_69, s_X9_unlikeAt_70, s_X9_unlikeAt_71, s_X9_unlikeAt_74, s_X9_unlikeAt_77, s_X9_unlikeAt_78, zI_0, Bool.true_eq_false, Bool.false_eq_true, not_true_eq_false, not_false_eq_true, if_true, if_false, KV_ap, KU_ap, dropL_nil, le_nI (show i < 2147483648 by omega) (show j < 2147483648 by omega), if_neg (Nat.not_le.mpr hj), a1, Bool.true_and, hM.1.1, p_readIn hM hi hx, p_readIn hM (show j < u.1.1.length by omega) hx, eq_nI (show rS (gS u.1.1 i) x < 2147483648 by omega) (show rS (gS u.1.1 j) x < 2147483648 by omega)]
        by_cases e : rS (gS u.1.1 i) x = rS (gS u.1.1 j) x
        · rw [if_pos e, decide_eq_true e]; rfl
        · rw [if_neg e, decide_eq_false e]; rfl) true
    refine Eq.trans key ?_
    rw [s_X9_unlikeAt_18]
    simp only [s_X9_unlikeAt_0, s_X9_unlikeAt_1, s_X9_unlikeAt_2, s_X9_unlikeAt_3, s_X9_unlikeAt_5, s_X9_unlikeAt_6, s_X9_unlikeAt_9, s_X9_unlikeAt_12, s_X9_unlikeAt_13, s_X9_unlikeAt_15, s_X9_unlikeAt_16, s_X9_unlikeAt_20, s_X9_unlikeAt_21, s_X9_unlikeAt_24, s_X9_unlikeAt_26, s_X9_unlikeAt_29, s_X9_unlikeAt_30, s_X9_unlikeAt_31, s_X9_unlikeAt_32, s_X9_unlikeAt_35, s_X9_unlikeAt_36, s_X9_unlikeAt_38, s_X9_unlikeAt_39, s_X9_unlikeAt_42, s_X9_unlikeAt_45, s_X9_unlikeAt_46, s_X9_unlikeAt_49, s_X9_unlikeAt_50, s_X9_unlikeAt_52, s_X9_unlikeAt_55, s_X9_unlikeAt_59, s_X9_unlikeAt_61, s_X9_unlikeAt_64, s_X9_unlikeAt_65, s_X9_unlikeAt_68, s_X9_unlikeAt_69, s_X9_unlikeAt_70, s_X9_unlikeAt_71, s_X9_unlikeAt_74, s_X9_unlikeAt_77, s_X9_unlikeAt_78, zI_0, Bool.true_eq_false, Bool.false_eq_true, not_true_eq_false, not_false_eq_true, if_true, if_false, KV_ap, KU_ap, dropL_nil, le_nI (show i < 2147483648 by omega) (show i < 2147483648 by omega), Nat.le_refl]
    congr 8
    rw [Bool.eq_iff_iff, it_and, decide_eq_true_eq]
    simp only [Bool.not_eq_true', decide_eq_false_iff_not, Nat.zero_le, Nat.zero_add, true_implies, true_and]
    constructor
    · intro z j hj e; exact z j hj e.symm
    · intro z j hj e; exact z j hj e.symm
  have key := J_it0 (fun i (q : Nat × Value × Value) => J g k_X9_unlikeAt 4 [.ref M, .int (nI x), .int (nI q.1), .int (nI i), q.2.1, q.2.2] [] [] h Φ) (fun i q => ((if (∀ j, j < i → ¬ rS (gS u.1.1 j) x = rS (gS u.1.1 i) x) then q.1 + 1 else q.1), .int (zI (decide (∀ j, j < i → ¬ rS (gS u.1.1 j) x = rS (gS u.1.1 i) x))), .int (nI i))) u.1.1.length (fun i q hi => by
    rw [s_X9_unlikeAt_4]
    simp only [s_X9_unlikeAt_0, s_X9_unlikeAt_1, s_X9_unlikeAt_2, s_X9_unlikeAt_3, s_X9_unlikeAt_5, s_X9_unlikeAt_6, s_X9_unlikeAt_9, s_X9_unlikeAt_12, s_X9_unlikeAt_13, s_X9_unlikeAt_15, s_X9_unlikeAt_16, s_X9_unlikeAt_20, s_X9_unlikeAt_21, s_X9_unlikeAt_24, s_X9_unlikeAt_26, s_X9_unlikeAt_29, s_X9_unlikeAt_30, s_X9_unlikeAt_31, s_X9_unlikeAt_32, s_X9_unlikeAt_35, s_X9_unlikeAt_36, s_X9_unlikeAt_38, s_X9_unlikeAt_39, s_X9_unlikeAt_42, s_X9_unlikeAt_45, s_X9_unlikeAt_46, s_X9_unlikeAt_49, s_X9_unlikeAt_50, s_X9_unlikeAt_52, s_X9_unlikeAt_55, s_X9_unlikeAt_58, s_X9_unlikeAt_59, s_X9_unlikeAt_61, s_X9_unlikeAt_64, s_X9_unlikeAt_65, s_X9_unlikeAt_68, s_X9_unlikeAt_69, s_X9_unlikeAt_70, s_X9_unlikeAt_71, s_X9_unlikeAt_74, s_X9_unlikeAt_77, s_X9_unlikeAt_78, zI_0, Bool.true_eq_false, Bool.false_eq_true, not_true_eq_false, not_false_eq_true, if_true, if_false, KV_ap, KU_ap, dropL_nil, hM.1.1, f1, le_nI (show u.1.1.length < 2147483648 by omega) (show i < 2147483648 by omega), if_neg (Nat.not_le.mpr hi), inner i _ hi]
    by_cases e : ∀ j, j < i → ¬ rS (gS u.1.1 j) x = rS (gS u.1.1 i) x
    · rw [if_pos e, decide_eq_true e]
      rw [if_neg (by decide)]
      simp only [a1]
    · rw [if_neg e, decide_eq_false e]
      rw [if_pos rfl]
      simp only [a1]
      rw [show (0 : Int32) = nI 0 from rfl, i_add]
      rfl) (0, m_D, m_D)
  have e2 : ∀ m i (q : Nat × Value × Value), (it (fun i (q : Nat × Value × Value) => ((if (∀ j, j < i → ¬ rS (gS u.1.1 j) x = rS (gS u.1.1 i) x) then q.1 + 1 else q.1), Value.int (zI (decide (∀ j, j < i → ¬ rS (gS u.1.1 j) x = rS (gS u.1.1 i) x))), Value.int (nI i))) m i q).1 = it (fun i m => if (∀ j, j < i → ¬ rS (gS u.1.1 j) x = rS (gS u.1.1 i) x) then m + 1 else m) m i q.1 := by
    intro m
    induction m with
    | zero => intro i q; rfl
    | succ m ih => intro i q; rw [it, it, ih]
  simp only [s_X9_unlikeAt_0, s_X9_unlikeAt_1, s_X9_unlikeAt_2, s_X9_unlikeAt_3, s_X9_unlikeAt_5, s_X9_unlikeAt_6, s_X9_unlikeAt_9, s_X9_unlikeAt_12, s_X9_unlikeAt_13, s_X9_unlikeAt_15, s_X9_unlikeAt_16, s_X9_unlikeAt_20, s_X9_unlikeAt_21, s_X9_unlikeAt_24, s_X9_unlikeAt_26, s_X9_unlikeAt_29, s_X9_unlikeAt_30, s_X9_unlikeAt_31, s_X9_unlikeAt_32, s_X9_unlikeAt_35, s_X9_unlikeAt_36, s_X9_unlikeAt_38, s_X9_unlikeAt_39, s_X9_unlikeAt_42, s_X9_unlikeAt_45, s_X9_unlikeAt_46, s_X9_unlikeAt_49, s_X9_unlikeAt_50, s_X9_unlikeAt_52, s_X9_unlikeAt_55, s_X9_unlikeAt_58, s_X9_unlikeAt_59, s_X9_unlikeAt_61, s_X9_unlikeAt_64, s_X9_unlikeAt_65, s_X9_unlikeAt_68, s_X9_unlikeAt_69, s_X9_unlikeAt_70, s_X9_unlikeAt_71, s_X9_unlikeAt_74, s_X9_unlikeAt_77, s_X9_unlikeAt_78, zI_0, Bool.true_eq_false, Bool.false_eq_true, not_true_eq_false, not_false_eq_true, if_true, if_false, KV_ap, KU_ap, dropL_nil]
  refine Eq.trans key ?_
  rw [s_X9_unlikeAt_4]
  simp only [s_X9_unlikeAt_0, s_X9_unlikeAt_1, s_X9_unlikeAt_2, s_X9_unlikeAt_3, s_X9_unlikeAt_5, s_X9_unlikeAt_6, s_X9_unlikeAt_9, s_X9_unlikeAt_12, s_X9_unlikeAt_13, s_X9_unlikeAt_15, s_X9_unlikeAt_16, s_X9_unlikeAt_20, s_X9_unlikeAt_21, s_X9_unlikeAt_24, s_X9_unlikeAt_26, s_X9_unlikeAt_29, s_X9_unlikeAt_30, s_X9_unlikeAt_31, s_X9_unlikeAt_32, s_X9_unlikeAt_35, s_X9_unlikeAt_36, s_X9_unlikeAt_38, s_X9_unlikeAt_39, s_X9_unlikeAt_42, s_X9_unlikeAt_45, s_X9_unlikeAt_46, s_X9_unlikeAt_49, s_X9_unlikeAt_50, s_X9_unlikeAt_52, s_X9_unlikeAt_55, s_X9_unlikeAt_58, s_X9_unlikeAt_59, s_X9_unlikeAt_61, s_X9_unlikeAt_64, s_X9_unlikeAt_65, s_X9_unlikeAt_68, s_X9_unlikeAt_69, s_X9_unlikeAt_70, s_X9_unlikeAt_71, s_X9_unlikeAt_74, s_X9_unlikeAt_77, s_X9_unlikeAt_78, zI_0, Bool.true_eq_false, Bool.false_eq_true, not_true_eq_false, not_false_eq_true, if_true, if_false, KV_ap, KU_ap, dropL_nil, hM.1.1, f1, le_nI (show u.1.1.length < 2147483648 by omega) (show u.1.1.length < 2147483648 by omega), Nat.le_refl, e2]
  rfl
theorem td_eq (L : List St) : ∀ m i b, it (fun x (q : Nat × Nat) => if q.2 < unN L x then (x, unN L x) else q) m i (b, unN L b) = (it (fun x b => if unN L b < unN L x then x else b) m i b, unN L (it (fun x b => if unN L b < unN L x then x else b) m i b)) := by
  intro m
  induction m with
  | zero => intro i b; rfl
  | succ m ih =>
    intro i b
    rw [it, it]
    by_cases e : unN L b < unN L i
    · rw [if_pos e, if_pos e, ih]
    · rw [if_neg e, if_neg e, ih]
def tbN (L : List St) : Nat := it (fun x b => if unN L b < unN L x then x else b) 8 1 0
theorem td_tb (L : List St) : tdN L = (tbN L, unN L (tbN L)) := by
  unfold tdN tbN
  rw [it]
  have : (if (0 : Nat) < unN L 0 then ((0 : Nat), unN L 0) else ((0 : Nat), (0 : Nat))) = (0, unN L 0) := by
    split
    · rfl
    · rename_i z; rw [show unN L 0 = 0 by omega]
  dsimp only
  rw [this, td_eq]
end M21
theorem m_told (v : Int32) : cM k_X9_told [.int v, m_D, m_D] (aTold v) := by
  intro g h M u Φ hM k
  have hl := hM.2.2.2.1.1
  cases g1 : decide (0 ≤ v ∧ v < 2)
  · have e : aTold v u = (.int (-2), bdU u 0) := by simp only [aTold, g1, Bool.false_eq_true, if_false]
    rw [e] at k
    simp only [s_X9_told_0, s_X9_told_1, s_X9_told_2, s_X9_told_3, s_X9_told_6, s_X9_told_9, s_X9_told_10, s_X9_told_13, s_X9_told_14, s_X9_told_15, s_X9_told_16, s_X9_told_17, s_X9_told_19, s_X9_told_21, s_X9_told_24, s_X9_told_25, s_X9_told_26, s_X9_told_29, s_X9_told_30, s_X9_told_31, s_X9_told_34, s_X9_told_37, s_X9_told_38, s_X9_told_41, s_X9_told_42, s_X9_told_43, s_X9_told_46, s_X9_told_49, s_X9_told_50, s_X9_told_53, s_X9_told_54, s_X9_told_57, s_X9_told_58, s_X9_told_59, s_X9_told_62, zI_0, Bool.true_eq_false, Bool.false_eq_true, not_true_eq_false, not_false_eq_true, if_true, if_false, KV_ap, KU_ap, dropL_nil, p_in, le_1, g1, hM.1.1]
    exact p_bad hM (fun h' hM' hf => by simp only [KV_ap, s_X9_told_0, s_X9_told_1, s_X9_told_2, s_X9_told_3, s_X9_told_6, s_X9_told_9, s_X9_told_10, s_X9_told_13, s_X9_told_14, s_X9_told_15, s_X9_told_16, s_X9_told_17, s_X9_told_19, s_X9_told_21, s_X9_told_24, s_X9_told_25, s_X9_told_26, s_X9_told_29, s_X9_told_30, s_X9_told_31, s_X9_told_34, s_X9_told_37, s_X9_told_38, s_X9_told_41, s_X9_told_42, s_X9_told_43, s_X9_told_46, s_X9_told_49, s_X9_told_50, s_X9_told_53, s_X9_told_54, s_X9_told_57, s_X9_told_58, s_X9_told_59, s_X9_told_62]; exact k h' hM' hf)
  · have e : aTold v u = (.int (if v = 0 then nI (tbN u.1.1) else nI (unN u.1.1 (tbN u.1.1))), u) := by simp only [aTold, g1, if_true, td_tb]
    rw [e] at k
    have k' := k h hM (frm_rfl h _ _)
    simp only [s_X9_told_0, s_X9_told_1, s_X9_told_2, s_X9_told_3, s_X9_told_6, s_X9_told_9, s_X9_told_10, s_X9_told_13, s_X9_told_14, s_X9_told_15, s_X9_told_16, s_X9_told_17, s_X9_told_19, s_X9_told_21, s_X9_told_24, s_X9_told_25, s_X9_told_26, s_X9_told_29, s_X9_told_30, s_X9_told_31, s_X9_told_34, s_X9_told_37, s_X9_told_38, s_X9_told_41, s_X9_told_42, s_X9_told_43, s_X9_told_46, s_X9_told_49, s_X9_told_50, s_X9_told_53, s_X9_told_54, s_X9_told_57, s_X9_told_58, s_X9_told_59, s_X9_told_62, zI_0, Bool.true_eq_false, Bool.false_eq_true, not_true_eq_false, not_false_eq_true, if_true, if_false, KV_ap, KU_ap, dropL_nil, p_in, le_1, g1]
    have key := J_it (fun x (b : Nat) => J g k_X9_told 18 [.ref M, .int v, .int (nI b), .int (nI x)] [] [] h Φ) (fun x b => if unN u.1.1 b < unN u.1.1 x then x else b) 9 (fun _ b => b < 9) (fun x b hx hb => by split <;> omega) (fun x b hx hb => by
      have l1 := unN_le u.1.1 x
      have l2 := unN_le u.1.1 b
      rw [s_X9_told_18]
      simp only [s_X9_told_0, s_X9_told_1, s_X9_told_2, s_X9_told_3, s_X9_told_6, s_X9_told_9, s_X9_told_10, s_X9_told_13, s_X9_told_14, s_X9_told_15, s_X9_told_16, s_X9_told_17, s_X9_told_19, s_X9_told_21, s_X9_told_24, s_X9_told_25, s_X9_told_26, s_X9_told_29, s_X9_told_30, s_X9_told_31, s_X9_told_34, s_X9_told_37, s_X9_told_38, s_X9_told_41, s_X9_told_42, s_X9_told_43, s_X9_told_46, s_X9_told_49, s_X9_told_50, s_X9_told_53, s_X9_told_54, s_X9_told_57, s_X9_told_58, s_X9_told_59, s_X9_told_62, zI_0, Bool.true_eq_false, Bool.false_eq_true, not_true_eq_false, not_false_eq_true, if_true, if_false, KV_ap, KU_ap, dropL_nil, hM.1.1, c9, le_nI (show 9 < 2147483648 by decide) (show x < 2147483648 by omega), if_neg (Nat.not_le.mpr hx), p_unlikeAt hM hx, p_unlikeAt hM hb, le_nI (show unN u.1.1 x < 2147483648 by omega) (show unN u.1.1 b < 2147483648 by omega), a1]
      by_cases z : unN u.1.1 b < unN u.1.1 x
      · rw [if_neg (by omega), if_pos z]
      · rw [if_pos (by omega), if_neg z]) 8 1 0 rfl (by decide)
    refine Eq.mpr key.1 ?_
    have hb : tbN u.1.1 < 9 := key.2
    rw [s_X9_told_18]
    simp only [s_X9_told_0, s_X9_told_1, s_X9_told_2, s_X9_told_3, s_X9_told_6, s_X9_told_9, s_X9_told_10, s_X9_told_13, s_X9_told_14, s_X9_told_15, s_X9_told_16, s_X9_told_17, s_X9_told_19, s_X9_told_21, s_X9_told_24, s_X9_told_25, s_X9_told_26, s_X9_told_29, s_X9_told_30, s_X9_told_31, s_X9_told_34, s_X9_told_37, s_X9_told_38, s_X9_told_41, s_X9_told_42, s_X9_told_43, s_X9_told_46, s_X9_told_49, s_X9_told_50, s_X9_told_53, s_X9_told_54, s_X9_told_57, s_X9_told_58, s_X9_told_59, s_X9_told_62, zI_0, Bool.true_eq_false, Bool.false_eq_true, not_true_eq_false, not_false_eq_true, if_true, if_false, KV_ap, KU_ap, dropL_nil, hM.1.1, c9, le_nI (show 9 < 2147483648 by decide) (show 9 < 2147483648 by decide), Nat.le_refl]
    change if ¬ v = 0 then _ else _
    by_cases z : v = 0
    · rw [if_pos z] at k'
      rw [if_neg (not_not_intro z)]
      exact k'
    · rw [if_neg z] at k'
      rw [if_pos z]
      refine Eq.mpr (p_unlikeAt hM hb) ?_
      simp only [s_X9_told_0, s_X9_told_1, s_X9_told_2, s_X9_told_3, s_X9_told_6, s_X9_told_9, s_X9_told_10, s_X9_told_13, s_X9_told_14, s_X9_told_15, s_X9_told_16, s_X9_told_17, s_X9_told_19, s_X9_told_21, s_X9_told_24, s_X9_told_25, s_X9_told_26, s_X9_told_29, s_X9_told_30, s_X9_told_31, s_X9_told_34, s_X9_told_37, s_X9_told_38, s_X9_told_41, s_X9_told_42, s_X9_told_43, s_X9_told_46, s_X9_told_49, s_X9_told_50, s_X9_told_53, s_X9_told_54, s_X9_told_57, s_X9_told_58, s_X9_told_59, s_X9_told_62, zI_0, Bool.true_eq_false, Bool.false_eq_true, not_true_eq_false, not_false_eq_true, if_true, if_false, KV_ap, KU_ap, dropL_nil]
      exact k'

/-! The model's calls: names -/
theorem it_fl {α : Type} (f : Nat → α → α) : ∀ m i a, it f m i a = (List.range' i m).foldl (fun a i => f i a) a := by
  intro m
  induction m with
  | zero => intro i a; rfl
  | succ m ih => intro i a; rw [it, List.range'_succ, List.foldl_cons, ih]
theorem nm_list : (List.range' 1 4444).filter isNm = (List.range' 1 340).map nrN := by decide +kernel
def nmS (N : List St) (i k : Nat) (q : Nat × Int32) (n : Nat) : Nat × Int32 := if fitN N i k n = true then (q.1 + 1, if q.1 = 0 then nI n else q.2) else q
def nmM (N : List St) (i k : Nat) : Nat × Int32 := it (fun n q => if isNm n = true then nmS N i k q n else q) 4444 1 (0, -1)
theorem nI_m1 {n : Nat} (h : n < 2147483648) : ¬ nI n = -1 := fun e => by
  have h1 : (0 : Int32) ≤ nI n := by rw [ge0 h]; trivial
  rw [e] at h1
  exact absurd h1 (by decide)
theorem nm_fold (N : List St) (i k : Nat) : ∀ (l : List Nat) (q : Nat × Int32), (∀ n, n ∈ l → n < 2147483648) → (q.1 = 0 ↔ q.2 = -1) → l.foldl (fun q n => nmS N i k q n) q = l.foldl (fun (q : Nat × Int32) n => if fitN N i k n = true then (q.1 + 1, if q.2 = -1 then nI n else q.2) else q) q := by
  intro l
  induction l with
  | nil => intro q _ _; rfl
  | cons n l ih =>
    intro q hl hq
    rw [List.foldl_cons, List.foldl_cons]
    have hn := hl n (List.mem_cons_self ..)
    have e : nmS N i k q n = (if fitN N i k n = true then (q.1 + 1, if q.2 = -1 then nI n else q.2) else q) := by
      unfold nmS
      by_cases z : q.1 = 0
      · rw [if_pos z, if_pos (hq.mp z)]
      · rw [if_neg z, if_neg (fun y => z (hq.mpr y))]
    rw [e]
    refine ih _ (fun m hm => hl m (List.mem_cons_of_mem _ hm)) ?_
    split
    · constructor
      · intro z; exact absurd z (by show ¬ q.1 + 1 = 0; omega)
      · intro z
        dsimp only at z
        by_cases y : q.2 = -1
        · rw [if_pos y] at z; exact absurd z (nI_m1 hn)
        · rw [if_neg y] at z; exact absurd z y
    · exact hq
theorem nm_eq (N : List St) (i k : Nat) : nmM N i k = nmN N i k := by
  have h1 : nmM N i k = ((List.range' 1 4444).filter isNm).foldl (fun q n => nmS N i k q n) (0, -1) := by
    rw [nmM, it_fl, List.foldl_filter]
  rw [h1, nm_list, nm_fold]
  · rw [nmN, it_fl, List.foldl_map]
  · intro n hn
    obtain ⟨r, hr, e⟩ := List.mem_map.mp hn
    rw [List.mem_range'_1] at hr
    have := (nm1 (nr_nm hr.1 (by omega))).1
    rw [← e]; omega
  · exact ⟨fun _ => rfl, fun _ => rfl⟩
theorem m_names (v0 v1 : Int32) : cM k_X9_names [.int v0, .int v1, m_D, m_D, m_D] (aNames v0 v1) := by
  intro g h M u Φ hM k
  have hl := hM.2.2.2.1.1
  have hbad : (decide (0 ≤ v0 ∧ v0 < nI u.1.1.length) && decide (0 ≤ v1 ∧ v1 < 2)) = false → aNames v0 v1 u = (.int (-2), bdU u 0) := fun z => by rw [aNames, z]; rfl
  cases g1 : decide (0 ≤ v0 ∧ v0 < nI u.1.1.length)
  · rw [hbad (by simp only [g1, Bool.false_and])] at k
    simp only [s_X9_names_0, s_X9_names_1, s_X9_names_2, s_X9_names_5, s_X9_names_8, s_X9_names_9, s_X9_names_10, s_X9_names_11, s_X9_names_14, s_X9_names_17, s_X9_names_18, s_X9_names_21, s_X9_names_22, s_X9_names_23, s_X9_names_24, s_X9_names_25, s_X9_names_27, s_X9_names_28, s_X9_names_32, s_X9_names_35, s_X9_names_38, s_X9_names_40, s_X9_names_43, s_X9_names_46, s_X9_names_47, s_X9_names_48, s_X9_names_49, s_X9_names_52, s_X9_names_53, s_X9_names_54, s_X9_names_56, s_X9_names_59, s_X9_names_62, s_X9_names_63, s_X9_names_66, s_X9_names_68, s_X9_names_71, s_X9_names_73, s_X9_names_75, s_X9_names_78, s_X9_names_81, s_X9_names_84, s_X9_names_85, s_X9_names_88, s_X9_names_89, s_X9_names_92, s_X9_names_94, zI_0, Bool.true_eq_false, Bool.false_eq_true, not_true_eq_false, not_false_eq_true, if_true, if_false, KV_ap, KU_ap, dropL_nil, hM.1.1, p_isStick hM, g1]
    exact p_bad hM (fun h' hM' hf => by simp only [KV_ap, s_X9_names_0, s_X9_names_1, s_X9_names_2, s_X9_names_5, s_X9_names_8, s_X9_names_9, s_X9_names_10, s_X9_names_11, s_X9_names_14, s_X9_names_17, s_X9_names_18, s_X9_names_21, s_X9_names_22, s_X9_names_23, s_X9_names_24, s_X9_names_25, s_X9_names_27, s_X9_names_28, s_X9_names_32, s_X9_names_35, s_X9_names_38, s_X9_names_40, s_X9_names_43, s_X9_names_46, s_X9_names_47, s_X9_names_48, s_X9_names_49, s_X9_names_52, s_X9_names_53, s_X9_names_54, s_X9_names_56, s_X9_names_59, s_X9_names_62, s_X9_names_63, s_X9_names_66, s_X9_names_68, s_X9_names_71, s_X9_names_73, s_X9_names_75, s_X9_names_78, s_X9_names_81, s_X9_names_84, s_X9_names_85, s_X9_names_88, s_X9_names_89, s_X9_names_92, s_X9_names_94]; exact k h' hM' hf)
  · cases g2 : decide (0 ≤ v1 ∧ v1 < 2)
    · rw [hbad (by simp only [g1, g2, Bool.and_false])] at k
      simp only [s_X9_names_0, s_X9_names_1, s_X9_names_2, s_X9_names_5, s_X9_names_8, s_X9_names_9, s_X9_names_10, s_X9_names_11, s_X9_names_14, s_X9_names_17, s_X9_names_18, s_X9_names_21, s_X9_names_22, s_X9_names_23, s_X9_names_24, s_X9_names_25, s_X9_names_27, s_X9_names_28, s_X9_names_32, s_X9_names_35, s_X9_names_38, s_X9_names_40, s_X9_names_43, s_X9_names_46, s_X9_names_47, s_X9_names_48, s_X9_names_49, s_X9_names_52, s_X9_names_53, s_X9_names_54, s_X9_names_56, s_X9_names_59, s_X9_names_62, s_X9_names_63, s_X9_names_66, s_X9_names_68, s_X9_names_71, s_X9_names_73, s_X9_names_75, s_X9_names_78, s_X9_names_81, s_X9_names_84, s_X9_names_85, s_X9_names_88, s_X9_names_89, s_X9_names_92, s_X9_names_94, zI_0, Bool.true_eq_false, Bool.false_eq_true, not_true_eq_false, not_false_eq_true, if_true, if_false, KV_ap, KU_ap, dropL_nil, hM.1.1, p_isStick hM, p_in, le_1, g1, g2]
      exact p_bad hM (fun h' hM' hf => by simp only [KV_ap, s_X9_names_0, s_X9_names_1, s_X9_names_2, s_X9_names_5, s_X9_names_8, s_X9_names_9, s_X9_names_10, s_X9_names_11, s_X9_names_14, s_X9_names_17, s_X9_names_18, s_X9_names_21, s_X9_names_22, s_X9_names_23, s_X9_names_24, s_X9_names_25, s_X9_names_27, s_X9_names_28, s_X9_names_32, s_X9_names_35, s_X9_names_38, s_X9_names_40, s_X9_names_43, s_X9_names_46, s_X9_names_47, s_X9_names_48, s_X9_names_49, s_X9_names_52, s_X9_names_53, s_X9_names_54, s_X9_names_56, s_X9_names_59, s_X9_names_62, s_X9_names_63, s_X9_names_66, s_X9_names_68, s_X9_names_71, s_X9_names_73, s_X9_names_75, s_X9_names_78, s_X9_names_81, s_X9_names_84, s_X9_names_85, s_X9_names_88, s_X9_names_89, s_X9_names_92, s_X9_names_94]; exact k h' hM' hf)
    · obtain ⟨j, ej, hj⟩ := hs_ex (show u.1.1.length < 2147483648 by omega) g1
      have e : aNames v0 v1 u = (.int (if v1 = 0 then nI (nmM u.1.2.1 j (gS u.1.1 j).1).1 else (nmM u.1.2.1 j (gS u.1.1 j).1).2), u) := by
        simp only [aNames, g1, g2, Bool.and_self, if_true]
        rw [ej, cl_nI (show j < 2147483648 by omega), nm_eq]
      rw [e] at k
      subst ej
      have k' := k h hM (frm_rfl h _ _)
      obtain ⟨w1, w2, w3, w4⟩ := hM.2.2.2.1.2.2.2.1 j hj
      obtain ⟨e0, e1, e2, e3⟩ := hM.2.2.2.2.1 j hj
      have s := hM.1
      have q2 := hM.2.1.2.1 2 (by decide) (by decide)
      have b6 : m_inb (nI j) 6 = true := by rw [inb_nI (by omega)]; simpa using (show j < 6 by omega)
      have c44 : ∀ n : Nat, n < 2147483648 → ((4444 : Int32) < nI n) = (4444 < n) := fun n hn => lt_nI (show 4444 < 2147483648 by decide) hn
      simp only [s_X9_names_0, s_X9_names_1, s_X9_names_2, s_X9_names_5, s_X9_names_8, s_X9_names_9, s_X9_names_10, s_X9_names_11, s_X9_names_14, s_X9_names_17, s_X9_names_18, s_X9_names_21, s_X9_names_22, s_X9_names_23, s_X9_names_24, s_X9_names_25, s_X9_names_27, s_X9_names_28, s_X9_names_32, s_X9_names_35, s_X9_names_38, s_X9_names_40, s_X9_names_43, s_X9_names_46, s_X9_names_47, s_X9_names_48, s_X9_names_49, s_X9_names_52, s_X9_names_53, s_X9_names_54, s_X9_names_56, s_X9_names_59, s_X9_names_62, s_X9_names_63, s_X9_names_66, s_X9_names_68, s_X9_names_71, s_X9_names_73, s_X9_names_75, s_X9_names_78, s_X9_names_81, s_X9_names_84, s_X9_names_85, s_X9_names_88, s_X9_names_89, s_X9_names_92, s_X9_names_94, zI_0, Bool.true_eq_false, Bool.false_eq_true, not_true_eq_false, not_false_eq_true, if_true, if_false, KV_ap, KU_ap, dropL_nil, hM.1.1, p_isStick hM, p_in, le_1, g1, g2]
      have key := J_it (fun n (q : Nat × Int32) => J g k_X9_names 30 [.ref M, .int (nI j), .int v1, .int (nI q.1), .int q.2, .int (nI n)] [] [] h Φ) (fun n q => if isNm n = true then nmS u.1.2.1 j (gS u.1.1 j).1 q n else q) 4445 (fun n q => q.1 ≤ n) (fun n q _ hq => by
          unfold nmS
          split
          · split
            · show q.1 + 1 ≤ n + 1; omega
            · show q.1 ≤ n + 1; omega
          · show q.1 ≤ n + 1; omega) (fun n q hn hq => by
        rw [s_X9_names_30]
        simp only [s_X9_names_0, s_X9_names_1, s_X9_names_2, s_X9_names_5, s_X9_names_8, s_X9_names_9, s_X9_names_10, s_X9_names_11, s_X9_names_14, s_X9_names_17, s_X9_names_18, s_X9_names_21, s_X9_names_22, s_X9_names_23, s_X9_names_24, s_X9_names_25, s_X9_names_27, s_X9_names_28, s_X9_names_32, s_X9_names_35, s_X9_names_38, s_X9_names_40, s_X9_names_43, s_X9_names_46, s_X9_names_47, s_X9_names_48, s_X9_names_49, s_X9_names_52, s_X9_names_53, s_X9_names_54, s_X9_names_56, s_X9_names_59, s_X9_names_62, s_X9_names_63, s_X9_names_66, s_X9_names_68, s_X9_names_71, s_X9_names_73, s_X9_names_75, s_X9_names_78, s_X9_names_81, s_X9_names_84, s_X9_names_85, s_X9_names_88, s_X9_names_89, s_X9_names_92, s_X9_names_94, zI_0, Bool.true_eq_false, Bool.false_eq_true, not_true_eq_false, not_false_eq_true, if_true, if_false, KV_ap, KU_ap, dropL_nil, c44 n (by omega), if_neg (show ¬ 4444 < n by omega), p_isName, nmI_nI (show n < 2147483648 by omega), a1]
        cases hnm : isNm n
        · simp only [if_true, Bool.false_eq_true, if_false]
        · simp only [Bool.true_eq_false, if_false, if_true, s.1, s.2.2.1, q2, b6, cl_nI (show j < 2147483648 by omega), e0, p_isSo hM (show j < 2147483648 by omega) w1 hnm, s_X9_names_0, s_X9_names_1, s_X9_names_2, s_X9_names_5, s_X9_names_8, s_X9_names_9, s_X9_names_10, s_X9_names_11, s_X9_names_14, s_X9_names_17, s_X9_names_18, s_X9_names_21, s_X9_names_22, s_X9_names_23, s_X9_names_24, s_X9_names_25, s_X9_names_27, s_X9_names_28, s_X9_names_32, s_X9_names_35, s_X9_names_38, s_X9_names_40, s_X9_names_43, s_X9_names_46, s_X9_names_47, s_X9_names_48, s_X9_names_49, s_X9_names_52, s_X9_names_53, s_X9_names_54, s_X9_names_56, s_X9_names_59, s_X9_names_62, s_X9_names_63, s_X9_names_66, s_X9_names_68, s_X9_names_71, s_X9_names_73, s_X9_names_75, s_X9_names_78, s_X9_names_81, s_X9_names_84, s_X9_names_85, s_X9_names_88, s_X9_names_89, s_X9_names_92, s_X9_names_94, zI_0, Bool.true_eq_false, Bool.false_eq_true, not_true_eq_false, not_false_eq_true, if_true, if_false, KV_ap, KU_ap, dropL_nil, a1]
          unfold nmS
          cases fitN u.1.2.1 j (gS u.1.1 j).1 n
          · simp only [if_true, Bool.false_eq_true, if_false]
          · simp only [Bool.true_eq_false, if_false, if_true, eq0 (show q.1 < 2147483648 by omega)]
            by_cases z : q.1 = 0
            · simp only [z, if_true, not_true_eq_false, if_false]
            · simp only [z, if_false, not_false_eq_true, if_true]) 4444 1 (0, -1) rfl (by decide)
      refine Eq.mpr key.1 ?_
      rw [s_X9_names_30]
      simp only [s_X9_names_0, s_X9_names_1, s_X9_names_2, s_X9_names_5, s_X9_names_8, s_X9_names_9, s_X9_names_10, s_X9_names_11, s_X9_names_14, s_X9_names_17, s_X9_names_18, s_X9_names_21, s_X9_names_22, s_X9_names_23, s_X9_names_24, s_X9_names_25, s_X9_names_27, s_X9_names_28, s_X9_names_32, s_X9_names_35, s_X9_names_38, s_X9_names_40, s_X9_names_43, s_X9_names_46, s_X9_names_47, s_X9_names_48, s_X9_names_49, s_X9_names_52, s_X9_names_53, s_X9_names_54, s_X9_names_56, s_X9_names_59, s_X9_names_62, s_X9_names_63, s_X9_names_66, s_X9_names_68, s_X9_names_71, s_X9_names_73, s_X9_names_75, s_X9_names_78, s_X9_names_81, s_X9_names_84, s_X9_names_85, s_X9_names_88, s_X9_names_89, s_X9_names_92, s_X9_names_94, zI_0, Bool.true_eq_false, Bool.false_eq_true, not_true_eq_false, not_false_eq_true, if_true, if_false, KV_ap, KU_ap, dropL_nil, c44 4445 (by decide), show (4444 < 4445) = True by decide]
      change if ¬ v1 = 0 then _ else _
      by_cases z : v1 = 0
      · rw [if_pos z] at k'
        rw [if_neg (not_not_intro z)]
        exact k'
      · rw [if_neg z] at k'
        rw [if_pos z]
        exact k'

/-! The search of rows goes through all rows in rising order -/
def cp (n : Nat) : Nat → Nat → Nat → List (List Nat)
  | 0, _, _ => []
  | m + 1, d, used => if n ≤ d then [[]] else (List.range n).flatMap (fun i => if used.testBit i = true then [] else (cp n m (d + 1) (used ||| 2 ^ i)).map (fun c => i :: c))
def smU (U : Nat → Nat → Nat) : Nat → Nat → List Nat → Nat
  | _, _, [] => 0
  | d, t, i :: r => (if d = 0 then 0 else U t i) + smU U (d + 1) i r
abbrev ZP : Type := Nat × List Nat
def stR (U : Nat → Nat → Nat) (d t : Nat) (pre : List Nat) (sum : Nat) (z : ZP) (c : List Nat) : ZP := if sum + smU U d t c < z.1 then (sum + smU U d t c, pre ++ c) else z
def Rl (n d : Nat) (pre : List Nat) (q : TQ) (z : ZP) : Prop := q.1 = z.1 ∧ (q.1 < 1000 → ∀ j, j < n → q.2.1 j = nI (z.2.getD j 0)) ∧ (∀ k, k < d → q.2.2 k = nI (pre.getD k 0))
theorem fold_no (U : Nat → Nat → Nat) (d t : Nat) (pre : List Nat) (sum : Nat) : ∀ (l : List (List Nat)) (z : ZP), z.1 ≤ sum → l.foldl (stR U d t pre sum) z = z := by
  intro l
  induction l with
  | nil => intro z _; rfl
  | cons c l ih =>
    intro z hz
    rw [List.foldl_cons]
    have : stR U d t pre sum z c = z := by rw [stR, if_neg (by omega)]
    rw [this]
    exact ih z hz
theorem it_range {α : Type} (f : Nat → α → α) : ∀ m i a, it f m i a = (List.range' i m).foldl (fun a i => f i a) a := by
  intro m
  induction m with
  | zero => intro i a; rfl
  | succ m ih => intro i a; rw [it, List.range'_succ, List.foldl_cons]; exact ih (i + 1) _
theorem foldl_fm {α β γ : Type} (f : α → List β) (s : γ → β → γ) : ∀ (l : List α) (z : γ), (l.flatMap f).foldl s z = l.foldl (fun z a => (f a).foldl s z) z := by
  intro l
  induction l with
  | nil => intro z; rfl
  | cons a l ih => intro z; rw [List.flatMap_cons, List.foldl_append, List.foldl_cons]; exact ih _
theorem tf_cp (n : Nat) (hn : n ≤ 6) (U : Nat → Nat → Nat) : ∀ m d used sum t pre (q : TQ) (z : ZP), d ≤ n → d + m = 7 → pre.length = d → Rl n d pre q z → Rl n d pre (tf n U m d used sum t q) ((cp n m d used).foldl (stR U d t pre sum) z) := by
  intro m
  induction m with
  | zero => intro d used sum t pre q z h1 h2; omega
  | succ m ih =>
    intro d used sum t pre q z h1 h2 h3 hR
    obtain ⟨e1, e2, e3⟩ := id hR
    rw [tf]
    by_cases hc : sum < q.1
    · rw [if_pos hc, cp]
      by_cases hd : n ≤ d
      · rw [if_pos hd, if_pos hd, List.foldl_cons, List.foldl_nil]
        have : stR U d t pre sum z [] = (sum, pre ++ []) := by
          unfold stR
          rw [if_pos (by show sum + 0 < z.1; omega)]
          rfl
        rw [this, List.append_nil]
        refine ⟨rfl, fun _ j hj => ?_, e3⟩
        show (if 0 ≤ j ∧ j < 0 + 6 then q.2.2 (0 + (j - 0)) else q.2.1 j) = _
        rw [if_pos (by omega), show 0 + (j - 0) = j by omega]
        exact e3 j (by omega)
      · rw [if_neg hd, if_neg hd, foldl_fm, it_range, List.range_eq_range']
        have loop : ∀ (l : List Nat) (q : TQ) (z : ZP), Rl n d pre q z → Rl n d pre (l.foldl (fun q i => if used.testBit i = true then q else tf n U m (d + 1) (used ||| 2 ^ i) (sum + (if d = 0 then 0 else U t i)) i (q.1, q.2.1, upd q.2.2 d (nI i))) q) (l.foldl (fun z i => (if used.testBit i = true then [] else (cp n m (d + 1) (used ||| 2 ^ i)).map (fun c => i :: c)).foldl (stR U d t pre sum) z) z) := by
          intro l
          induction l with
          | nil => intro q z h; exact h
          | cons i l ihl =>
            intro q z hq
            rw [List.foldl_cons, List.foldl_cons]
            apply ihl
            by_cases hb : used.testBit i = true
            · rw [if_pos hb, if_pos hb]; exact hq
            · rw [if_neg hb, if_neg hb, List.foldl_map]
              obtain ⟨f1, f2, f3⟩ := hq
              have hpl : (pre ++ [i]).length = d + 1 := by rw [List.length_append, h3]; rfl
              have hR2 : Rl n (d + 1) (pre ++ [i]) (q.1, q.2.1, upd q.2.2 d (nI i)) z := by
                refine ⟨f1, f2, fun k hk => ?_⟩
                show upd q.2.2 d (nI i) k = _
                rw [List.getD_eq_getElem?_getD, List.getElem?_append]
                by_cases e : k = d
                · subst e; rw [upd, if_pos rfl, if_neg (by omega), h3, Nat.sub_self]; rfl
                · rw [upd, if_neg e, if_pos (by omega), f3 k (by omega), List.getD_eq_getElem?_getD]
              have := ih (d + 1) (used ||| 2 ^ i) (sum + (if d = 0 then 0 else U t i)) i (pre ++ [i]) _ z (by omega) (by omega) hpl hR2
              have es : (fun (x : ZP) (y : List Nat) => stR U d t pre sum x (i :: y)) = stR U (d + 1) i (pre ++ [i]) (sum + (if d = 0 then 0 else U t i)) := by
                funext x y
                unfold stR
                rw [smU, ← Nat.add_assoc, List.append_assoc]
                rfl
              rw [es]
              obtain ⟨g1, g2, g3⟩ := this
              refine ⟨g1, g2, fun k hk => ?_⟩
              rw [g3 k (by omega), List.getD_eq_getElem?_getD, List.getElem?_append, if_pos (by omega), List.getD_eq_getElem?_getD]
        exact loop _ q z hR
    · rw [if_neg hc, fold_no U d t pre sum _ z (by omega)]
      exact hR
/-- the row with the fewest unlike places, the first of them -/
def rwN (n : Nat) (U : Nat → Nat → Nat) : ZP := (cp n 7 0 0).foldl (stR U 0 0 [] 0) (1000, [])
theorem cp_chk : ∀ n, n < 7 → ((cp n 7 0 0).all (fun c => decide (c.length = n)) && !(cp n 7 0 0).isEmpty) = true := by decide +kernel
theorem smU_le (U : Nat → Nat → Nat) (hU : ∀ i j, U i j ≤ 5) : ∀ c d t, smU U d t c ≤ 5 * c.length := by
  intro c
  induction c with
  | nil => intro d t; exact Nat.zero_le _
  | cons i c ih =>
    intro d t
    rw [smU, List.length_cons]
    have := ih (d + 1) i
    have h2 : (if d = 0 then 0 else U t i) ≤ 5 := by split; omega; exact hU t i
    omega
theorem fold_lt (U : Nat → Nat → Nat) (d t : Nat) (pre : List Nat) (s : Nat) : ∀ (l : List (List Nat)) (z : ZP), (l.foldl (stR U d t pre s) z).1 ≤ z.1 := by
  intro l
  induction l with
  | nil => intro z; exact Nat.le_refl _
  | cons c l ih =>
    intro z
    rw [List.foldl_cons]
    refine Nat.le_trans (ih _) ?_
    unfold stR
    split
    · rename_i h; exact Nat.le_of_lt h
    · exact Nat.le_refl _
theorem rwN_lt (n : Nat) (hn : n ≤ 6) (U : Nat → Nat → Nat) (hU : ∀ i j, U i j ≤ 5) : (rwN n U).1 < 1000 := by
  have h := cp_chk n (by omega)
  rw [Bool.and_eq_true] at h
  unfold rwN
  cases hl : cp n 7 0 0 with
  | nil => rw [hl] at h; exact absurd h.2 (by decide)
  | cons c l =>
    rw [hl] at h
    have hc := List.all_eq_true.mp h.1 c (List.mem_cons_self)
    have hc : c.length = n := by simpa using hc
    rw [List.foldl_cons]
    refine Nat.lt_of_le_of_lt (fold_lt U 0 0 [] 0 l _) ?_
    have := smU_le U hU c 0 0
    unfold stR
    split
    · show 0 + smU U 0 0 c < 1000; omega
    · show 1000 < 1000
      rename_i h5
      exact absurd (show 0 + smU U 0 0 c < 1000 by omega) h5

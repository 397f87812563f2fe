/-! The class's cells: what they hold of a state -/
abbrev XS : Type := TW × (Nat → Option TW) × List Nat × (Int64 × Int64) × (Nat → Int32)
def oX (h : HP) (B : Nat) (fr : Int64 × Int64) : Prop := hS h B = (0, 6) ∧ hF h B 0 = .ref (B + 1) ∧ hF h B 1 = .ref (B + 9) ∧ hF h B 2 = .ref (B + 10) ∧ hF h B 3 = .ref (B + 17) ∧ hF h B 4 = .ref (B + 21) ∧ hF h B 5 = .ref (B + 22) ∧ hF h B 6 = .ref (B + 23) ∧ hF h B 7 = .long fr.1 ∧ hF h B 8 = .long fr.2
def imX (h : HP) (B : Nat) (im : Nat → Option TW) : Prop := hS h (B + 9) = (3, 2) ∧ (∀ i, i < 2 → im i = none → hF h (B + 9) i = .null) ∧ (∀ i, i < 2 → ∀ T, im i = some T → ∃ t : Nat, hF h (B + 9) i = .ref t ∧ B + 43 ≤ t ∧ t + 8 ≤ hN h ∧ isT h t T) ∧ (∀ t t' : Nat, hF h (B + 9) 0 = .ref t → hF h (B + 9) 1 = .ref t' → t + 8 ≤ t' ∨ t' + 8 ≤ t)
def txR (f : Nat → Int32) (tx : List Nat) : Prop := ∀ j, j < tx.length → f j = nI (tx.getD j 0) ∧ tx.getD j 0 < 128
def txX (h : HP) (a : Nat) (tx : List Nat) : Prop := hS h a = (0, 5) ∧ hF h a 0 = .ref (a + 1) ∧ hF h a 1 = .ref (a + 3) ∧ hF h a 2 = .int (nI tx.length) ∧ hF h a 3 = .ref (a + 4) ∧ hF h a 4 = .ref (a + 5) ∧ hF h a 5 = .ref (a + 6) ∧ tx.length ≤ 150 ∧ (∃ D, isS h (a + 1) D) ∧ hS h (a + 3) = (2, 150) ∧ hS h (a + 4) = (1, 150) ∧ hS h (a + 5) = (1, 150) ∧ hS h (a + 6) = (1, 150) ∧ txR (hI h (a + 3)) tx
def rwX (h : HP) (a : Nat) : Prop := hS h a = (0, 2) ∧ hF h a 0 = .ref (a + 1) ∧ hF h a 1 = .ref (a + 2) ∧ hF h a 2 = .ref (a + 3) ∧ hS h (a + 1) = (1, 36) ∧ hS h (a + 2) = (1, 6) ∧ hS h (a + 3) = (1, 6)
def rfX (h : HP) (a : Nat) (rf : Nat → Int32) : Prop := hS h a = (1, 3) ∧ ∀ i, i < 3 → hI h a i = rf i
def scX (h : HP) (B : Nat) : Prop := hS h (B + 22) = (1, 6) ∧ hS h (B + 23) = (1, 6) ∧ B + 43 ≤ hN h
def isX (h : HP) (B : Nat) (u : XS) : Prop := oX h B u.2.2.2.1 ∧ isT h (B + 1) u.1 ∧ imX h B u.2.1 ∧ txX h (B + 10) u.2.2.1 ∧ rwX h (B + 17) ∧ rfX h (B + 21) u.2.2.2.2 ∧ scX h B
/-- the heaps agree but for the cells from lo to hi -/
def frm (h h' : HP) (lo hi : Nat) : Prop := (∀ x, x < lo ∨ hi ≤ x → agr h h' x) ∧ hN h' = hN h
theorem frm_rfl (h : HP) (lo hi : Nat) : frm h h lo hi := ⟨fun x _ => agr_rfl h x, rfl⟩
theorem frm_pI {h h' : HP} {lo hi a : Nat} {f : Nat → Int32} (h1 : lo ≤ a) (h2 : a < hi) (p : frm h h' lo hi) : frm h (pI h' a f) lo hi := ⟨fun x hx => agr_pI (by omega) (p.1 x hx), p.2⟩
theorem frm_pF {h h' : HP} {lo hi a j : Nat} {v : Value} (h1 : lo ≤ a) (h2 : a < hi) (p : frm h h' lo hi) : frm h (pF h' a j v) lo hi := ⟨fun x hx => agr_pF (by omega) (p.1 x hx), p.2⟩
theorem frm_mono {h h' : HP} {lo hi lo' hi' : Nat} (h1 : lo' ≤ lo) (h2 : hi ≤ hi') (p : frm h h' lo hi) : frm h h' lo' hi' := ⟨fun x hx => p.1 x (by omega), p.2⟩
theorem frm_trans {h h' h'' : HP} {lo hi : Nat} (p : frm h h' lo hi) (q : frm h' h'' lo hi) : frm h h'' lo hi := ⟨fun x hx => agr_trans (p.1 x hx) (q.1 x hx), q.2.trans p.2⟩
theorem oX_agr {h h' : HP} {B : Nat} {f : Int64 × Int64} (p : agr h h' B) (hA : oX h B f) : oX h' B f := by
  unfold oX
  rw [p.1, p.2.1]
  exact hA
theorem imX_agr {h h' : HP} {B : Nat} {im : Nat → Option TW} (p : agr h h' (B + 9)) (q : ∀ x, B + 43 ≤ x → x < hN h → agr h h' x) (hn : hN h ≤ hN h') (hA : imX h B im) : imX h' B im := by
  obtain ⟨h1, h2, h3, h4⟩ := hA
  unfold imX
  rw [p.1, p.2.1]
  refine ⟨h1, h2, fun i hi T hT => ?_, h4⟩
  obtain ⟨t, r1, r2, r3, r4⟩ := h3 i hi T hT
  have r5 : t + 8 ≤ hN h := r3
  exact ⟨t, r1, r2, Nat.le_trans r5 hn, isT_agr (fun x a b => q x (Nat.le_trans r2 a) (Nat.lt_of_lt_of_le b r5)) r4⟩
theorem txX_agr {h h' : HP} {a : Nat} {tx : List Nat} (p : ∀ x, a ≤ x → x < a + 7 → agr h h' x) (hA : txX h a tx) : txX h' a tx := by
  obtain ⟨h0, h1, h2, h3, h4, h5, h6, h7, ⟨D, h8⟩, h9, h10, h11, h12, h13⟩ := hA
  unfold txX
  rw [(p a (by omega) (by omega)).1, (p a (by omega) (by omega)).2.1, (p (a + 3) (by omega) (by omega)).1, (p (a + 4) (by omega) (by omega)).1, (p (a + 5) (by omega) (by omega)).1, (p (a + 6) (by omega) (by omega)).1, (p (a + 3) (by omega) (by omega)).2.2]
  exact ⟨h0, h1, h2, h3, h4, h5, h6, h7, ⟨D, isS_agr (fun x a b => p x (by omega) (by omega)) h8⟩, h9, h10, h11, h12, h13⟩
theorem rwX_agr {h h' : HP} {a : Nat} (p : ∀ x, a ≤ x → x < a + 4 → agr h h' x) (hA : rwX h a) : rwX h' a := by
  unfold rwX
  rw [(p a (by omega) (by omega)).1, (p a (by omega) (by omega)).2.1, (p (a + 1) (by omega) (by omega)).1, (p (a + 2) (by omega) (by omega)).1, (p (a + 3) (by omega) (by omega)).1]
  exact hA
theorem rfX_agr {h h' : HP} {a : Nat} {rf : Nat → Int32} (p : agr h h' a) (hA : rfX h a rf) : rfX h' a rf := by
  unfold rfX
  rw [p.1, p.2.2]
  exact hA
theorem scX_agr {h h' : HP} {B : Nat} (p : hS h' (B + 22) = hS h (B + 22)) (q : hS h' (B + 23) = hS h (B + 23)) (hn : hN h ≤ hN h') (hA : scX h B) : scX h' B := by
  unfold scX
  rw [p, q]
  exact ⟨hA.1, hA.2.1, Nat.le_trans hA.2.2 hn⟩
section RP
variable {h h' : HP} {B : Nat} {T T' : TW} {im : Nat → Option TW} {tx tx' : List Nat} {fr : Int64 × Int64} {rf rf' : Nat → Int32}
/-- only the town now, the text, the search, the refusals, the scratch rows have changed -/
theorem isX_T (hX : isX h B (T, im, tx, fr, rf)) (p : frm h h' (B + 1) (B + 9)) (hT : isT h' (B + 1) T') : isX h' B (T', im, tx, fr, rf) := by
  obtain ⟨h1, h2, h3, h4, h5, h6, h7⟩ := hX
  exact ⟨oX_agr (p.1 _ (by omega)) h1, hT, imX_agr (p.1 _ (by omega)) (fun x a b => p.1 x (by omega)) (Nat.le_of_eq p.2.symm) h3, txX_agr (fun x a b => p.1 x (by omega)) h4, rwX_agr (fun x a b => p.1 x (by omega)) h5, rfX_agr (p.1 _ (by omega)) h6, scX_agr (p.1 _ (by omega)).1 (p.1 _ (by omega)).1 (Nat.le_of_eq p.2.symm) h7⟩
theorem isX_tx (hX : isX h B (T, im, tx, fr, rf)) (p : frm h h' (B + 10) (B + 17)) (hT : txX h' (B + 10) tx') : isX h' B (T, im, tx', fr, rf) := by
  obtain ⟨h1, h2, h3, h4, h5, h6, h7⟩ := hX
  exact ⟨oX_agr (p.1 _ (by omega)) h1, isT_agr (fun x a b => p.1 x (by omega)) h2, imX_agr (p.1 _ (by omega)) (fun x a b => p.1 x (by omega)) (Nat.le_of_eq p.2.symm) h3, hT, rwX_agr (fun x a b => p.1 x (by omega)) h5, rfX_agr (p.1 _ (by omega)) h6, scX_agr (p.1 _ (by omega)).1 (p.1 _ (by omega)).1 (Nat.le_of_eq p.2.symm) h7⟩
theorem isX_rw (hX : isX h B (T, im, tx, fr, rf)) (p : frm h h' (B + 17) (B + 21)) (hT : rwX h' (B + 17)) : isX h' B (T, im, tx, fr, rf) := by
  obtain ⟨h1, h2, h3, h4, h5, h6, h7⟩ := hX
  exact ⟨oX_agr (p.1 _ (by omega)) h1, isT_agr (fun x a b => p.1 x (by omega)) h2, imX_agr (p.1 _ (by omega)) (fun x a b => p.1 x (by omega)) (Nat.le_of_eq p.2.symm) h3, txX_agr (fun x a b => p.1 x (by omega)) h4, hT, rfX_agr (p.1 _ (by omega)) h6, scX_agr (p.1 _ (by omega)).1 (p.1 _ (by omega)).1 (Nat.le_of_eq p.2.symm) h7⟩
theorem isX_rf (hX : isX h B (T, im, tx, fr, rf)) (p : frm h h' (B + 21) (B + 22)) (hT : rfX h' (B + 21) rf') : isX h' B (T, im, tx, fr, rf') := by
  obtain ⟨h1, h2, h3, h4, h5, h6, h7⟩ := hX
  exact ⟨oX_agr (p.1 _ (by omega)) h1, isT_agr (fun x a b => p.1 x (by omega)) h2, imX_agr (p.1 _ (by omega)) (fun x a b => p.1 x (by omega)) (Nat.le_of_eq p.2.symm) h3, txX_agr (fun x a b => p.1 x (by omega)) h4, rwX_agr (fun x a b => p.1 x (by omega)) h5, hT, scX_agr (p.1 _ (by omega)).1 (p.1 _ (by omega)).1 (Nat.le_of_eq p.2.symm) h7⟩
theorem isX_sc (hX : isX h B (T, im, tx, fr, rf)) {a : Nat} {f : Nat → Int32} (ha : a = B + 22 ∨ a = B + 23) : isX (pI h a f) B (T, im, tx, fr, rf) := by
  obtain ⟨h1, h2, h3, h4, h5, h6, h7⟩ := hX
  have p : frm h (pI h a f) (B + 22) (B + 24) := frm_pI (by omega) (by omega) (frm_rfl h _ _)
  exact ⟨h1, isT_agr (fun x a b => p.1 x (by omega)) h2, imX_agr (p.1 _ (by omega)) (fun x a b => p.1 x (by omega)) (Nat.le_of_eq p.2.symm) h3, txX_agr (fun x a b => p.1 x (by omega)) h4, rwX_agr (fun x a b => p.1 x (by omega)) h5, rfX_agr (p.1 _ (by omega)) h6, h7⟩
theorem isX_fr (hX : isX h B (T, im, tx, fr, rf)) (x y : Int64) : isX (pF (pF h B 7 (.long x)) B 8 (.long y)) B (T, im, tx, (x, y), rf) := by
  obtain ⟨⟨a0, a1, a2, a3, a4, a5, a6, a7, a8, a9⟩, h2, h3, h4, h5, h6, h7⟩ := hX
  have p : frm h (pF (pF h B 7 (.long x)) B 8 (.long y)) B (B + 1) := frm_pF (by omega) (by omega) (frm_pF (by omega) (by omega) (frm_rfl h _ _))
  refine ⟨⟨a0, ?_, ?_, ?_, ?_, ?_, ?_, ?_, ?_, ?_⟩, isT_agr (fun x a b => p.1 x (by omega)) h2, imX_agr (p.1 _ (by omega)) (fun x a b => p.1 x (by omega)) (Nat.le_of_eq p.2.symm) h3, txX_agr (fun x a b => p.1 x (by omega)) h4, rwX_agr (fun x a b => p.1 x (by omega)) h5, rfX_agr (p.1 _ (by omega)) h6, h7⟩
  all_goals simp only [hF_pF, true_and, Nat.reduceEqDiff, if_false, if_true]
  all_goals assumption
end RP
/-- what a call may change: none of the other's cells -/
def frX (h h' : HP) (B : Nat) : Prop := (∀ x, x < B ∨ (B + 24 ≤ x ∧ x < B + 43) → agr h h' x) ∧ hN h ≤ hN h' ∧ hN h' ≤ hN h + 8
theorem frX_of {h h' : HP} {B lo hi : Nat} (h1 : B ≤ lo) (h2 : hi ≤ B + 24) (p : frm h h' lo hi) : frX h h' B := ⟨fun x hx => p.1 x (by omega), Nat.le_of_eq p.2.symm, by have := p.2; omega⟩
theorem frX_rfl (h : HP) (B : Nat) : frX h h B := ⟨fun x _ => agr_rfl h x, Nat.le_refl _, by omega⟩

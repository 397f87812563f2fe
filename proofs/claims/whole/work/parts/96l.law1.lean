/-! The class and the model side by side -/
def bth (h : HP) (B : Nat) (u : XS) : Prop := isX h B u ∧ isM h (B + 24) u
theorem isM_ag {h h' : HP} {M : Nat} {u : XS} (hM : isM h M u) (p : ∀ x, x < 19 → agr h h' (M + x)) : isM h' M u := by
  obtain ⟨s, sh, f, v, c, d, pp, t, r, i0, i1⟩ := hM
  have p0 := p 0 (by decide)
  rw [Nat.add_zero] at p0
  have eI : ∀ x, x < 19 → hI h' (M + x) = hI h (M + x) := fun x hx => (p x hx).2.2
  have eS : ∀ x, x < 19 → hS h' (M + x) = hS h (M + x) := fun x hx => (p x hx).1
  refine ⟨?_, ?_, ?_, v, ?_, ?_, ?_, ⟨t.1, ?_⟩, ?_, ?_, ?_⟩
  · unfold sM
    rw [p0.1, p0.2.1]
    exact s
  · unfold shM
    rw [eS 1 (by decide), eS 10 (by decide), eS 11 (by decide), eS 12 (by decide), eS 13 (by decide), eS 14 (by decide), eS 15 (by decide), eS 16 (by decide), eS 17 (by decide), eS 18 (by decide)]
    exact ⟨sh.1, fun x h1 h2 => by rw [eS x (by omega)]; exact sh.2.1 x h1 h2, sh.2.2⟩
  · rw [p0.2.1]; exact f
  · rw [eI 2 (by decide), eI 3 (by decide), eI 4 (by decide), eI 5 (by decide)]; exact c
  · rw [eI 6 (by decide), eI 7 (by decide), eI 8 (by decide), eI 9 (by decide)]; exact d
  · rw [eI 12 (by decide)]; exact pp
  · rw [eI 10 (by decide)]; exact t.2
  · rw [eI 1 (by decide)]; exact r
  · rw [eI 18 (by decide)]; exact i0
  · rw [eI 18 (by decide), eI 17 (by decide)]; exact i1
theorem isX_ag {h h' : HP} {B : Nat} {u : XS} (hX : isX h B u) (p : ∀ x, (B ≤ x ∧ x < B + 24) ∨ B + 43 ≤ x → agr h h' x) (hn : hN h' = hN h) : isX h' B u := by
  obtain ⟨o, t, im, tx, rw', rf, sc⟩ := hX
  refine ⟨oX_agr (p B (by omega)) o, isT_agr (fun x a b => p x (by omega)) t, imX_agr (p (B + 9) (by omega)) (fun x a _ => p x (by omega)) (Nat.le_of_eq hn.symm) im, txX_agr (fun x a b => p x (by omega)) tx, rwX_agr (fun x a b => p x (by omega)) rw', rfX_agr (p (B + 21) (by omega)) rf, ?_⟩
  unfold scX at sc ⊢
  rw [(p (B + 22) (by omega)).1, (p (B + 23) (by omega)).1, hn]
  exact sc
theorem lg0 (w : Int64) : lg_cmp w w = 0 := by
  unfold lg_cmp
  simp
section PR
variable {g : GL} {h : HP} {B : Nat} {u : XS} {kx km : Nat} {ax am : List Value} {a : XS → Value × XS} {Φ1 : Value → HP → Prop}
theorem pr_i (hx : cX kx ax a) (hm : cM km am a) (hi : ∀ u, ∃ w, (a u).1 = .int w) (hB : bth h B u) {Φ2 : Int32 → Value → HP → Prop} (s1 : ∀ w h1, hS h1 (B + 24) = (0, 7) → J g km 0 (.ref (B + 24) :: am) [] [] h1 (Φ2 w) → Φ1 (.int w) h1) (s2 : ∀ w h2, bth h2 B (a u).2 → hN h2 ≤ hN h + 8 → Φ2 w (.int w) h2) : J g kx 0 (.ref B :: ax) [] [] h Φ1 := by
  obtain ⟨w, hw⟩ := hi u
  refine hx g h B u Φ1 hB.1 (fun h1 X1 f1 => ?_)
  rw [hw]
  have M1 : isM h1 (B + 24) u := isM_ag hB.2 (fun x hx => f1.1 _ (by omega))
  refine s1 w h1 M1.1.1 (hm g h1 (B + 24) u (Φ2 w) M1 (fun h2 M2 f2 => ?_))
  rw [hw]
  exact s2 w h2 ⟨isX_ag X1 (fun x hx => f2.1 x (by omega)) f2.2, M2⟩ (by have := f1.2.2; have := f2.2; omega)
theorem pr_l (hx : cX kx ax a) (hm : cM km am a) (hi : ∀ u, ∃ w, (a u).1 = .long w) (hB : bth h B u) {Φ2 : Int64 → Value → HP → Prop} (s1 : ∀ w h1, hS h1 (B + 24) = (0, 7) → J g km 0 (.ref (B + 24) :: am) [] [] h1 (Φ2 w) → Φ1 (.long w) h1) (s2 : ∀ w h2, bth h2 B (a u).2 → hN h2 ≤ hN h + 8 → Φ2 w (.long w) h2) : J g kx 0 (.ref B :: ax) [] [] h Φ1 := by
  obtain ⟨w, hw⟩ := hi u
  refine hx g h B u Φ1 hB.1 (fun h1 X1 f1 => ?_)
  rw [hw]
  have M1 : isM h1 (B + 24) u := isM_ag hB.2 (fun x hx => f1.1 _ (by omega))
  refine s1 w h1 M1.1.1 (hm g h1 (B + 24) u (Φ2 w) M1 (fun h2 M2 f2 => ?_))
  rw [hw]
  exact s2 w h2 ⟨isX_ag X1 (fun x hx => f2.1 x (by omega)) f2.2, M2⟩ (by have := f1.2.2; have := f2.2; omega)
end PR

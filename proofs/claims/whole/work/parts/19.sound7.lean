/-! the walk, and a method's contract out of its run -/
theorem call_inv {pc k' n k'' : Nat} {ls : List Value} {ll : List (Nat × Int64)} {st as : List Value} {h : HP} {f : CF} (hs : m_call pc k' n ls ll st h = some (.inr (.inr (k'', as, f)))) : k'' = k' ∧ ∃ rest, st = as.reverse ++ rest ∧ as.length = n ∧ rest.length ≤ 4 ∧ f = (pc + 3, ls, ll, rest, h) := by
  unfold m_call at hs
  split at hs
  · rename_i hc
    simp only [Option.some.injEq, Sum.inr.injEq, Prod.mk.injEq] at hs
    obtain ⟨rfl, rfl, rfl⟩ := hs
    refine ⟨rfl, st.drop n, ?_, ?_, hc.2, rfl⟩
    · rw [List.reverse_reverse, List.take_append_drop]
    · rw [List.length_reverse, List.length_take]; omega
  · simp at hs
theorem head_of {as rest : List Value} {n : Nat} {w : Value} (hn : as.length = n + 1) (h : (as.reverse ++ rest)[n]? = some w) : ∃ As, as = w :: As := by
  cases as with
  | nil => simp at hn
  | cons a As =>
    simp only [List.length_cons, Nat.add_right_cancel_iff] at hn
    rw [List.reverse_cons, List.append_assoc, List.getElem?_append_right (by simp [hn]), List.length_reverse, hn, Nat.sub_self] at h
    simp only [List.singleton_append, List.getElem?_cons_zero, Option.some.injEq] at h
    exact ⟨As, by rw [h]⟩
section S7
variable {p : Program} {l : Launch} {e : Env} {R : Room} {s : State} {m : MethodId} {args : Array Value} {below : List Frame} {meth : Method} {c : Code} {Q : State → Prop} {en : EN} {g : GL} {k : Nat}
variable {pc : Nat} {ls : List Value} {ll : List (Nat × Int64)} {st : List Value} {h h1 : HP} {v : Value} {f : CF}
set_option maxHeartbeats 8000000 in
theorem w_stepC (F : m_FR p R s m args meth c en g k) {i : Instr} {len k' : Nat} {as : List Value} (hd : decode (m_cd k) pc = .ok (i, len)) (hl : m_lok i len = true) (hs : stepI g k pc i ls ll st h = some (.inr (.inr (k', as, f)))) (hle : hN h ≤ hN h1) (hcap : hN h1 - s.heap.size ≤ R.cells ∧ 512 * (hN h1 - s.heap.size) ≤ R.slots) (hM : k' < m_law → m_Met l en g k' as h v h1)
    (K : m_WK p l e R s m args below meth c Q en k (f.1, f.2.1, f.2.2.1, m_push k' v f.2.2.2.1, h1)) : m_WK p l e R s m args below meth c Q en k (pc, ls, ll, st, h) := by
  unfold stepI at hs
  split at hs
  all_goals try unfold m_ldi at hs
  all_goals try unfold m_lda at hs
  all_goals try unfold m_ldl at hs
  all_goals try unfold m_sti at hs
  all_goals try unfold m_sta at hs
  all_goals try unfold m_stl at hs
  all_goals try unfold m_bi at hs
  all_goals try unfold m_bl at hs
  all_goals try unfold m_sw at hs
  all_goals try unfold m_goto at hs
  all_goals try (simp [nx_] at hs; done)
  all_goals try (split at hs <;> first | (simp [nx_] at hs; done) | (split at hs <;> first | (simp [nx_] at hs; done) | (split at hs <;> first | (simp [nx_] at hs; done) | (split at hs <;> (simp [nx_] at hs; done)))); done)
  · obtain rfl := lok3 hl rfl
    unfold m_static at hs
    split at hs
    · simp at hs
    · rename_i idx x hx9
      obtain ⟨hin, hci, hid⟩ := m_cT_in hx9
      split at hs
      · rename_i hk
        obtain ⟨rfl, rest, hst, hn, hr, rfl⟩ := call_inv hs
        exact w_call F hin (Or.inl ⟨Or.inl hk, hd, hn⟩) hid hst rfl hr hle hcap hM K
      · rename_i hk
        obtain ⟨rfl, rest, hst, hn, hr, rfl⟩ := call_inv hs
        exact w_call F hin (Or.inl ⟨Or.inr hk, hd, hn⟩) hid hst rfl hr hle hcap hM K
      · split at hs
        · split at hs <;> simp [nx_] at hs
        · simp at hs
      · split at hs
        · split at hs <;> simp [nx_] at hs
        · simp at hs
      · unfold m_copy at hs
        split at hs
        · split at hs <;> simp [nx_] at hs
        · simp at hs
      · simp at hs
  · obtain rfl := lok3 hl rfl
    unfold m_special at hs
    split at hs
    · simp at hs
    · rename_i idx x hx9
      obtain ⟨hin, hci, hid⟩ := m_cT_in hx9
      split at hs
      · split at hs
        · split at hs <;> simp [nx_] at hs
        · simp at hs
      · rename_i hk
        split at hs
        · rename_i a ha
          obtain ⟨rfl, rest, hst, hn, hr, rfl⟩ := call_inv hs
          obtain ⟨As, has⟩ := head_of hn (by rw [← hst]; exact ha)
          exact w_call F hin (Or.inr (Or.inl ⟨Or.inl hk, hd, hn, a, As, has⟩)) hid hst rfl hr hle hcap hM K
        · simp at hs
      · rename_i hk
        split at hs
        · rename_i a ha
          obtain ⟨rfl, rest, hst, hn, hr, rfl⟩ := call_inv hs
          obtain ⟨As, has⟩ := head_of hn (by rw [← hst]; exact ha)
          exact w_call F hin (Or.inr (Or.inl ⟨Or.inr hk, hd, hn, a, As, has⟩)) hid hst rfl hr hle hcap hM K
        · simp at hs
      · simp at hs
  · obtain rfl := lok3 hl rfl
    unfold m_virtual at hs
    split at hs
    · simp at hs
    · rename_i idx x hx9
      split at hs
      · split at hs
        · split at hs <;> simp [nx_] at hs
        · simp at hs
      · split at hs
        · split at hs <;> simp [nx_] at hs
        · simp at hs
      · split at hs
        · rename_i a ha
          split at hs
          · rename_i hS0
            split at hs
            · rename_i y hy9
              obtain ⟨hin, hci, hid⟩ := m_cT_in hy9
              split at hs
              · rename_i hk
                obtain ⟨rfl, rest, hst, hn, hr, rfl⟩ := call_inv hs
                obtain ⟨As, has⟩ := head_of hn (by rw [← hst, hk.2]; exact ha)
                refine w_call F hin (Or.inr (Or.inr ⟨hk.1, hd, hn, a, As, has, ?_⟩)) hid hst rfl hr hle hcap hM K
                rw [hci]
                exact Prod.ext hS0 rfl
              · simp at hs
            · simp at hs
          · simp at hs
        · simp at hs
end S7
set_option maxHeartbeats 8000000 in
theorem st_ret {g : GL} {k pc : Nat} {i : Instr} {ls : List Value} {ll : List (Nat × Int64)} {st : List Value} {h : HP} {r : Value × HP} (hs : stepI g k pc i ls ll st h = some (.inr (.inl r))) : i = .ireturn ∨ i = .lreturn ∨ i = .return_ := by
  unfold stepI at hs
  split at hs
  all_goals try exact Or.inl rfl
  all_goals try exact Or.inr (Or.inl rfl)
  all_goals try exact Or.inr (Or.inr rfl)
  all_goals exfalso
  all_goals try unfold m_ldi at hs
  all_goals try unfold m_lda at hs
  all_goals try unfold m_ldl at hs
  all_goals try unfold m_sti at hs
  all_goals try unfold m_sta at hs
  all_goals try unfold m_stl at hs
  all_goals try unfold m_bi at hs
  all_goals try unfold m_bl at hs
  all_goals try unfold m_sw at hs
  all_goals try unfold m_static at hs
  all_goals try unfold m_special at hs
  all_goals try unfold m_virtual at hs
  all_goals try unfold m_copy at hs
  all_goals try unfold m_goto at hs
  all_goals try unfold m_call at hs
  all_goals repeat' split at hs
  all_goals (simp [nx_] at hs; done)
/-- what the walk of n steps says -/
def m_WN (l : Launch) (en : EN) (g : GL) (n : Nat) : Prop := ∀ {p : Program} {e : Env} {R : Room} {s : State} {m : MethodId} {args : Array Value} {below : List Frame} {meth : Method} {c : Code} {Q : State → Prop} {k : Nat} (_ : m_FR p R s m args meth c en g k) (c0 : CF) (v : Value) (h1 : HP), run g n k c0 = some (v, h1) → (hN h1 - s.heap.size ≤ R.cells ∧ 512 * (hN h1 - s.heap.size) ≤ R.slots) →
  (∀ (pc : Nat) (ls : List Value) (ll : List (Nat × Int64)) (st : List Value) (i : Instr) (len : Nat), decode (m_cd k) pc = .ok (i, len) → m_lok i len = true → stepI g k pc i ls ll st h1 = some (.inr (.inl (v, h1))) → m_WK p l e R s m args below meth c Q en k (pc, ls, ll, st, h1)) → m_WK p l e R s m args below meth c Q en k c0
set_option maxHeartbeats 8000000 in
theorem m_met_of {l : Launch} {en : EN} {g : GL} {n : Nat} (hWN : m_WN l en g n) {k : Nat} (hk : k < m_law) {as : List Value} {h h1 : HP} {v : Value} (ha : m_okA k as = true) (hr : run g n k (0, m_ent k as, m_ell 0 as, [], h) = some (v, h1)) : m_Met l en g k as h v h1 := by
  obtain ⟨hpl, -, -, hrt⟩ := m_md hk
  refine Met.ofW (cc := m_cd k) (maxL := m_ml k) (ret := m_rt k) hpl rfl ?_
  intro p e s m args below meth c s₁ B hml hv
  obtain ⟨rfl, hP, hK, hNW, hAO, hSX, hW, hsz⟩ := hv
  have hle := run_mN g n k _ v h1 hr
  have hle : hN h ≤ hN h1 := hle
  have hts := atoms_spec (ws := m_ws k) B.pre
  have hgw : ∀ w ∈ m_GW, w.before as.toArray s = true := fun w hw => hts w (List.mem_cons_of_mem _ hw)
  have hR : (headSpec (m_ws k) (m_rm k (hN h1 - hN h))).room = m_rm k (hN h1 - hN h) := rfl
  have F : m_FR p (headSpec (m_ws k) (m_rm k (hN h1 - hN h))).room s m as.toArray meth c en g k := ⟨B.exec, B.bytes, hml, findClass_of_methodNamed B.named, fun w hw => hgw w (GI_cons ac_int w hw), hgw, fun z => (name_of_methodNamed B.named B.method).1.trans z, hK, hNW, hAO, hSX, by rw [hsz]; exact hW.1, Nat.le_refl _, Nat.le_refl _, Nat.lt_trans hk (by decide), fun z => absurd z (Nat.ne_of_lt hk)⟩
  rw [lg_entry_eq]
  have hz0 : hN h - s.heap.size = 0 := by omega
  have hfin : ∀ (pc : Nat) (ls : List Value) (ll : List (Nat × Int64)) (st : List Value) (i : Instr) (len : Nat), decode (m_cd k) pc = .ok (i, len) → m_lok i len = true → stepI g k pc i ls ll st h1 = some (.inr (.inl (v, h1))) → m_WK p l e (headSpec (m_ws k) (m_rm k (hN h1 - hN h))).room s m as.toArray below meth c (MQ below (m_Qk en k v h1) as.toArray s (hN h1 - hN h) (512 * (hN h1 - hN h)) (m_A en)) en k (pc, ls, ll, st, h1) := by
    have hx := B.exec
    have hb := B.bytes
    have hrr := B.returns
    have hlocks := B.notSynchronized
    intro pc ls ll st i len hd hl hs
    intro H locs A hL hP1 hS1 hW1 hN1
    have hP1 : va_P en.2.1 vwCl (m_wl en h1) H := hP1
    have hW1 : m_WF en h1 := hW1
    have ec : hN h1 - s.heap.size = hN h1 - hN h := by omega
    show W p l e _ s m as.toArray below meth c H locs (hN h1 - s.heap.size) (512 * (hN h1 - s.heap.size)) _ (F0 m pc A st)
    rw [ec]
    have hpost : ∀ t : State, t.heap = H → m_QW en h1 t := fun t ht => ⟨by rw [ht]; exact hP1, hW1⟩
    rcases st_ret hs with rfl | rfl | rfl
    · obtain rfl := lok1 hl rfl
      simp only [stepI] at hs
      split at hs
      · rename_i x
        split at hs
        · rename_i ty hty
          split at hs
          · rename_i hc
            simp only [Option.some.injEq, Sum.inr.injEq, Sum.inl.injEq, Prod.mk.injEq, and_true] at hs
            subst hs
            have hnl : ty ≠ .long := by
              rintro rfl
              simp [fits] at hc
            have eQ : m_Qk en k (.int x) h1 = va_Qi (fun r (_ : Unit) => Value.int x = .int r) (fun _ t => m_QW en h1 t) (m_A en) := by
              simp only [m_Qk, hty]
              all_goals (cases ty <;> first | rfl | exact absurd rfl hnl)
            rw [eQ]
            exact W.zret (ty := ty) hx hb (by rw [hrr]; exact hty) hc.1 (fun t ht _ => ⟨⟨x, (), rfl, rfl, hpost t ht⟩, hS1.F ht⟩) hS1.2.2 hd
          · simp at hs
        · simp at hs
      · simp at hs
    · obtain rfl := lok1 hl rfl
      simp only [stepI] at hs
      split at hs
      · rename_i x
        split at hs
        · rename_i hty
          simp only [Option.some.injEq, Sum.inr.injEq, Sum.inl.injEq, Prod.mk.injEq, and_true] at hs
          subst hs
          have eQ : m_Qk en k (.long x) h1 = va_Ql (fun r (_ : Unit) => Value.long x = .long r) (fun _ t => m_QW en h1 t) (m_A en) := by simp only [m_Qk, hty]
          rw [eQ]
          exact W.lret hx hb (by rw [hrr]; exact hty) (fun t ht _ => ⟨⟨x, (), rfl, rfl, hpost t ht⟩, hS1.F ht⟩) hS1.2.2 hd
        · simp at hs
      · simp at hs
    · obtain rfl := lok1 hl rfl
      simp only [stepI] at hs
      split at hs
      · split at hs
        · rename_i hty
          simp only [Option.some.injEq, Sum.inr.injEq, Sum.inl.injEq, Prod.mk.injEq, and_true] at hs
          subst hs
          have eQ : m_Qk en k .null h1 = va_Qv (fun (_ : Unit) => Value.null = .null) (fun _ t => m_QW en h1 t) (m_A en) := by simp only [m_Qk, hty]
          rw [eQ]
          exact W.vret hx hb (by rw [hrr]; exact hty) (fun t ht _ => ⟨⟨(), rfl, rfl, hpost t ht⟩, hS1.F ht⟩) hS1.2.2 hd
        · simp at hs
      · simp at hs
  have key := hWN (e := e) (below := below) F (0, m_ent k as, m_ell 0 as, [], h) v h1 hr (by rw [hR, hsz]; exact ⟨Nat.le_refl _, Nat.le_refl _⟩) hfin s.heap [] _ (LH_entry ha) hP va_S.rf hW (by show _ ≤ hN h; omega)
  have key2 : W p l e (headSpec (m_ws k) (m_rm k (hN h1 - hN h))).room s m as.toArray below meth c s.heap [] (hN h - s.heap.size) (512 * (hN h - s.heap.size)) (MQ below (m_Qk en k v h1) as.toArray s (hN h1 - hN h) (512 * (hN h1 - hN h)) (m_A en)) (F0 m 0 ((lg_sl as ++ List.replicate (m_ml k - (lg_sl as).length) Slot.unset).toArray) []) := key
  rw [hz0] at key2
  exact key2
set_option maxHeartbeats 4000000 in
theorem m_walk (l : Launch) (en : EN) (g : GL) : ∀ n, m_WN l en g n := by
  intro n
  induction n with
  | zero =>
    intro p e R s m args below meth c Q k F c0 v h1 hr
    simp [run] at hr
  | succ n ih =>
    intro p e R s m args below meth c Q k F c0 v h1 hr hcap hfin
    obtain ⟨pc, ls, ll, st, h⟩ := c0
    rw [run] at hr
    cases hs : stp g k (pc, ls, ll, st, h) with
    | none => rw [hs] at hr; simp at hr
    | some o =>
      rw [hs] at hr
      unfold stp at hs
      split at hs
      · rename_i i len hd
        split at hs
        · rename_i hl
          rcases o with c' | r' | ⟨k', as, c'⟩
          · have hm := run_mN g n k c' v h1 hr
            exact w_step F hd hl hs (by omega) (ih F c' v h1 hr hcap hfin)
          · simp only [Option.some.injEq] at hr
            subst hr
            have hm : h1 = h := st_mono hs
            subst hm
            exact hfin pc ls ll st i len hd hl hs
          · dsimp only at hr
            have hm : c'.2.2.2.2 = h := st_mono hs
            split at hr
            · rename_i ha
              split at hr
              · simp at hr
              · rename_i v1 w1 hq
                rw [hm] at hq
                have e1 : hN h ≤ hN w1 := run_mN g n k' _ v1 w1 hq
                have e2 : hN w1 ≤ hN h1 := run_mN g n k _ v h1 hr
                exact w_stepC F hd hl hs e1 (by omega) (fun hk' => m_met_of ih hk' ha hq) (ih F _ v h1 hr hcap hfin)
            · simp at hr
        · simp at hs
      · simp at hs

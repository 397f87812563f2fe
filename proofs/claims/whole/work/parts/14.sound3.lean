/-! the steps that read, write and make cells -/
theorem E0 {en : EN} {h : HP} {a : Nat} (h0 : (hS h a).1 = 0) : m_E en h a = .inr ((hS h a).2, (List.range (m_nf (hS h a).2)).map (hF h a)) := by simp only [m_E, h0]
theorem E1 {en : EN} {h : HP} {a : Nat} (h0 : (hS h a).1 = 1) : m_E en h a = .inl (en.2.2.1.1, (hS h a).2, .inl (hI h a)) := by simp only [m_E, h0]
theorem E2 {en : EN} {h : HP} {a : Nat} (h0 : (hS h a).1 = 2) : m_E en h a = .inl (en.2.2.1.2.1, (hS h a).2, .inl (hI h a)) := by simp only [m_E, h0]
theorem E3 {en : EN} {h : HP} {a : Nat} (h0 : (hS h a).1 = 3) : m_E en h a = .inl (en.2.2.1.2.2, (hS h a).2, .inr (.inr (.inr (.inr (fun i => rfO (hF h a i)))))) := by simp only [m_E, h0]
theorem m_E_congr {en : EN} {h h' : HP} {a : Nat} (h1 : hS h' a = hS h a) (h2 : ∀ j, hF h' a j = hF h a j) (h3 : hI h' a = hI h a) : m_E en h' a = m_E en h a := by
  have e2 : hF h' a = hF h a := funext h2
  simp only [m_E, h1, e2, h3]
theorem inb_in {i : Int32} {n : Nat} (h : m_inb i n = true) : vp_in i n := by
  simp only [m_inb, Bool.and_eq_true, Bool.not_eq_true', decide_eq_false_iff_not, decide_eq_true_eq] at h
  rintro (q | q)
  · exact h.1 q
  · omega
theorem map_set (n j : Nat) (f : Nat → Value) (v : Value) : ((List.range n).map f).set j v = (List.range n).map (fun i => if i = j then v else f i) := by
  apply List.ext_getElem?
  intro i
  by_cases hi : i = j
  · subst hi
    by_cases hn : i < n
    · rw [List.getElem?_set_self (by simpa using hn), List.getElem?_map, List.getElem?_range hn]
      simp
    · rw [List.getElem?_eq_none (by simp; omega), List.getElem?_eq_none (by simp; omega)]
  · rw [List.getElem?_set_ne (Ne.symm hi), List.getElem?_map, List.getElem?_map]
    by_cases hn : i < n
    · rw [List.getElem?_range hn]
      simp [hi]
    · rw [List.getElem?_eq_none (by simp; omega)]
      rfl
theorem m_fit_ok {t : FieldType} {n : Nat} {v : Value} (ht : m_ty t = n) (hn : n < 3) (hv : m_fit n v = true) : narrow t v = v ∧ fits t v = true := by
  subst ht
  cases t <;> cases v <;> first | exact ⟨rfl, rfl⟩ | (simp [m_ty] at hn; done) | (simp [m_ty, m_fit] at hv; done)
theorem vw_len : ∀ q ∈ vwCl, q.2.2 ≤ 512 := by
  intro q hq
  simp only [vwCl, List.mem_cons, List.not_mem_nil, or_false] at hq
  rcases hq with rfl | rfl | rfl | rfl | rfl | rfl | rfl | rfl <;> exact Nat.le_of_ble_eq_true rfl
theorem vw_cls {q : vw_C} (hq : q ∈ vwCl) : (∀ w ∈ u_ws q.1 q.2.1 q.2.2, w ∈ m_GW) ∧ (∀ a, a < q.2.2 → parseFieldDescriptor (q.2.1 a).2.2.1 = some ((parseFieldDescriptor (q.2.1 a).2.2.1).getD .int)) ∧ ∀ a, a < q.2.2 → ∀ b, b < q.2.2 → a ≠ b → (q.2.1 a).2.1 ≠ (q.2.1 b).2.1 := by
  have h := List.all_eq_true.mp vw_ok q hq
  simp only [m_chC0, Bool.and_eq_true, List.all_eq_true, Bool.or_eq_true, decide_eq_true_eq, List.mem_range] at h
  refine ⟨fun w hw => List.mem_filter.mpr (h.1 w hw), fun a ha => ?_, fun a ha b hb hab => ?_⟩
  · obtain ⟨x, hx⟩ := Option.isSome_iff_exists.mp (h.2 a ha).1
    rw [hx]; rfl
  · rcases (h.2 a ha).2 b hb with h1 | h1
    · exact absurd h1 hab
    · exact h1
theorem m_fT_spec {k idx : Nat} {sh : Nat × Nat} {x : m_fe} (hkK : k < m_K) (h : m_fT k idx sh = some x) : sh.1 = 0 ∧ ∃ q, vwCl[sh.2]? = some q ∧ x.2.2.1 < q.2.2 ∧ Cond.fieldLink (m_y k).cls idx x.2.2.2.2.2.1 (q.2.1 x.2.2.1).2.1 (q.2.1 x.2.2.1).2.2.1 ∈ m_GW ∧
    ((q.2.1 x.2.2.1).1 = x.2.2.2.2.2.1 ∨ Cond.sameField x.2.2.2.2.2.1 (q.2.1 x.2.2.1).1 (q.2.1 x.2.2.1).2.1 (q.2.1 x.2.2.1).2.2.1 ∈ m_GW) ∧ (q.2.1 x.2.2.1).2.2.2 = x.2.2.2.2.1 ∧ (x.2.2.2.2.1 = false ∨ (q.2.1 x.2.2.1).1 = x.2.2.2.2.2.1 ∨ x.2.2.2.2.2.1 ≠ (m_y k).cls) ∧ ∃ t, parseFieldDescriptor (q.2.1 x.2.2.1).2.2.1 = some t ∧ m_ty t = x.2.2.2.1 ∧ x.2.2.2.1 < 3 := by
  have hoc := oc_ok k hkK
  unfold m_fT at h
  split at h
  · rename_i h0
    refine ⟨h0, ?_⟩
    have h1 := List.all_eq_true.mp (fl_ok _ hoc.1) _ (List.mem_of_find?_eq_some h)
    have h2 := List.find?_some h
    simp only [Bool.and_eq_true, beq_iff_eq] at h2
    obtain ⟨h3, h4⟩ := h2
    unfold m_chF at h1
    rw [h4] at h1
    split at h1
    · simp at h1
    · rename_i q hq
      simp only [Bool.and_eq_true, Bool.or_eq_true, decide_eq_true_eq, beq_iff_eq, Bool.not_eq_true'] at h1
      obtain ⟨b1, b2, b3, b4, b5, b6⟩ := h1
      refine ⟨q, hq, b1, ?_, ?_, b4, ?_, ?_⟩
      · have := lwi_in b2
        rw [h3, ← hoc.2] at this
        exact this
      · rcases b3 with b3 | b3
        · exact Or.inl b3
        · exact Or.inr (lwi_in b3)
      · rcases b5 with (b5 | b5) | b5
        · exact Or.inl b5
        · exact Or.inr (Or.inl b5)
        · exact Or.inr (Or.inr (by rw [hoc.2]; exact b5))
      · split at b6
        · rename_i t ht
          simp only [Bool.and_eq_true, beq_iff_eq, decide_eq_true_eq] at b6
          exact ⟨t, ht, b6.1, b6.2⟩
        · simp at b6
  · simp at h
theorem w_sum {r : List Value} (hr : r.length ≤ 4) : (r.map fun v => v.category).sum ≤ 8 := by
  have h : ∀ r : List Value, (r.map fun v => v.category).sum ≤ 2 * r.length := by
    intro r
    induction r with
    | nil => simp
    | cons v t ih =>
      simp only [List.map_cons, List.sum_cons, List.length_cons]
      rcases lv_cat v with h | h <;> omega
  have := h r
  omega
section S3
variable {p : Program} {l : Launch} {e : Env} {R : Room} {s : State} {m : MethodId} {args : Array Value} {below : List Frame} {meth : Method} {c : Code} {Q : State → Prop} {en : EN} {g : GL} {k : Nat}
variable {pc : Nat} {ls : List Value} {ll : List (Nat × Int64)} {r : List Value} {h : HP}
theorem w_same {args : Array Value} {s : State} {ref : String} {q : String × String × String × Bool} (hts : ∀ w ∈ m_GW, w.before args s = true) (h : q.1 = ref ∨ Cond.sameField ref q.1 q.2.1 q.2.2.1 ∈ m_GW) : ∀ x, s.fieldFound? q.1 q.2.1 q.2.2.1 = some x → s.fieldFound? ref q.2.1 q.2.2.1 = some x := by
  intro x hx
  rcases h with h | h
  · rw [← h]; exact hx
  · exact u_same (hts _ h) x hx
theorem w_getf (F : m_FR p R s m args meth c en g k) {idx a : Nat} {x : m_fe} (hd : decode (m_cd k) pc = .ok (.getfield idx, 3)) (hf : m_fT k idx (hS h a) = some x)
    (K : m_WK p l e R s m args below meth c Q en k (pc + 3, ls, ll, hF h a x.2.2.1 :: r, h)) : m_WK p l e R s m args below meth c Q en k (pc, ls, ll, .ref a :: r, h) := by
  obtain ⟨hx, hb, hml, hown, htk, hts, hnm, hK, hNW, hAO, hSX, hB, hRf, hRl, hkK, hlaw⟩ := F
  obtain ⟨h0, q, hq, hj, hlink, hsame, -, -, -⟩ := m_fT_spec hkK hf
  intro H locs A hL hP hS' hW hN'
  obtain ⟨ha1, ha2⟩ := hW.2 a (show (hS h a).1 ≤ 3 by omega)
  have he := wl_at (en := en) ha1 ha2
  rw [E0 h0] at he
  have hnf : m_nf (hS h a).2 = q.2.2 := by simp only [m_nf, hq]
  refine va_get (own := (m_y k).cls) (C := q.1) (T := q.2.1) (N := q.2.2) hx hb hts (vw_cls (List.mem_of_getElem? hq)).1 hown hK hP (a - en.1) he hq x.2.2.1 hj (hts _ hlink) (w_same hts hsame) (v := hF h a x.2.2.1) ?_ hd (K H locs A hL hP hS' hW hN')
  rw [hnf, List.getElem?_map, List.getElem?_range hj]
  rfl
theorem w_putf (F : m_FR p R s m args meth c en g k) {idx a : Nat} {x : m_fe} {v : Value} (hd : decode (m_cd k) pc = .ok (.putfield idx, 3)) (hf : m_fT k idx (hS h a) = some x) (hv : m_fit x.2.2.2.1 v = true) (hfi : x.2.2.2.2.1 = false ∨ ((m_y k).name = "<init>" ∧ (m_y k).cls = x.2.2.2.2.2.1))
    (K : m_WK p l e R s m args below meth c Q en k (pc + 3, ls, ll, r, pF h a x.2.2.1 v)) : m_WK p l e R s m args below meth c Q en k (pc, ls, ll, v :: .ref a :: r, h) := by
  obtain ⟨hx, hb, hml, hown, htk, hts, hnm, hK, hNW, hAO, hSX, hB, hRf, hRl, hkK, hlaw⟩ := F
  obtain ⟨h0, q, hq, hj, hlink, hsame, hfin, hfo, t, ht, hty, ht3⟩ := m_fT_spec hkK hf
  obtain ⟨hn, hfit⟩ := m_fit_ok hty ht3 hv
  obtain ⟨c1, c2, c3⟩ := vw_cls (List.mem_of_getElem? hq)
  intro H locs A hL hP hS' hW hN'
  obtain ⟨ha1, ha2⟩ := hW.2 a (show (hS h a).1 ≤ 3 by omega)
  have he := wl_at (en := en) ha1 ha2
  rw [E0 h0] at he
  have hnf : m_nf (hS h a).2 = q.2.2 := by simp only [m_nf, hq]
  have hset : (m_wl en h).set (a - en.1) (a, .inr ((hS h a).2, ((List.range (m_nf (hS h a).2)).map (hF h a)).set x.2.2.1 v)) = m_wl en (pF h a x.2.2.1 v) := by
    refine wl_set ha1 rfl ?_ (fun z hz => m_E_congr rfl (fun j => ?_) rfl)
    · rw [map_set, E0 (h := pF h a x.2.2.1 v) (a := a) h0]
      congr 3
      funext i
      by_cases hi : i = x.2.2.1
      · simp [hF, pF, hi]
      · simp [hF, pF, hi]
    · simp [hF, pF, hz]
  have hlen : x.2.2.1 < ((List.range (m_nf (hS h a).2)).map (hF h a)).length := by rw [List.length_map, List.length_range, hnf]; exact hj
  by_cases hff : x.2.2.2.2.1 = false
  · refine va_put (own := (m_y k).cls) (C := q.1) (T := q.2.1) (N := q.2.2) hx hb hts c1 _ c2 c3 hown hK hP (wl_D en h) hS' (a - en.1) he hq x.2.2.1 hj (hts _ hlink) (w_same hts hsame) (by rw [hfin]; exact hff) ht hn hfit hlen hd (fun H1 locs1 hP1 hD1 hS1 => ?_)
    rw [hset] at hP1
    exact K H1 locs1 A hL hP1 hS1 hW hN'
  · have hft : x.2.2.2.2.1 = true := by simpa using hff
    rcases hfi with hfi | ⟨hi1, hi2⟩
    · exact absurd hfi hff
    · have hdecl : (q.2.1 x.2.2.1).1 = (m_y k).cls := by
        rcases hfo with z | z | z
        · exact absurd z hff
        · rw [z, hi2]
        · exact absurd hi2.symm z
      refine va_putF (own := (m_y k).cls) (C := q.1) (T := q.2.1) (N := q.2.2) hx hb hts c1 _ c2 c3 hown hK hP (wl_D en h) hS' (a - en.1) he hq x.2.2.1 hj (hts _ hlink) (w_same hts hsame) (by rw [hfin]; exact hft) (hnm hi1) hdecl ht hn hfit hlen hd (fun H1 locs1 hP1 hD1 hS1 => ?_)
      rw [hset] at hP1
      exact K H1 locs1 A hL hP1 hS1 hW hN'
theorem w_iald (F : m_FR p R s m args meth c en g k) {a : Nat} {i : Int32} (hd : decode (m_cd k) pc = .ok (.iaload, 1)) (h0 : (hS h a).1 = 1) (hi : m_inb i (hS h a).2 = true)
    (K : m_WK p l e R s m args below meth c Q en k (pc + 1, ls, ll, .int (hI h a i.toNatClampNeg) :: r, h)) : m_WK p l e R s m args below meth c Q en k (pc, ls, ll, .int i :: .ref a :: r, h) := by
  obtain ⟨hx, hb, hml, hown, htk, hts, hnm, hK, hNW, hAO, hSX, hB, hRf, hRl, hkK, hlaw⟩ := F
  intro H locs A hL hP hS' hW hN'
  obtain ⟨ha1, ha2⟩ := hW.2 a (show (hS h a).1 ≤ 3 by omega)
  have he := wl_at (en := en) ha1 ha2
  rw [E1 h0] at he
  exact va_iald hx hb hK hP (a - en.1) 0 he rfl (inb_in hi) hd (K H locs A hL hP hS' hW hN')
theorem w_sald (F : m_FR p R s m args meth c en g k) (hk : k = m_law) {i : Int32} (hd : decode (m_cd k) pc = .ok (.iaload, 1)) (hi : m_inb i g.2.1 = true)
    (K : m_WK p l e R s m args below meth c Q en k (pc + 1, ls, ll, .int (g.2.2.1 i.toNatClampNeg) :: r, h)) : m_WK p l e R s m args below meth c Q en k (pc, ls, ll, .int i :: .ref g.1 :: r, h) := by
  obtain ⟨hx, hb, hml, hown, htk, hts, hnm, hK, hNW, hAO, hSX, hB, hRf, hRl, hkK, hlaw⟩ := F
  obtain ⟨hX, hX1, hX2⟩ := hlaw hk
  intro H locs A hL hP hS' hW hN'
  exact va_sld hx hb hX hX1 (by show ¬ en.1 ≤ g.1; omega) hS' (inb_in hi) hd (K H locs A hL hP hS' hW hN')
theorem w_slen (F : m_FR p R s m args meth c en g k) (hk : k = m_law) (hd : decode (m_cd k) pc = .ok (.arraylength, 1))
    (K : m_WK p l e R s m args below meth c Q en k (pc + 1, ls, ll, .int (Int32.ofNat g.2.1) :: r, h)) : m_WK p l e R s m args below meth c Q en k (pc, ls, ll, .ref g.1 :: r, h) := by
  obtain ⟨hx, hb, hml, hown, htk, hts, hnm, hK, hNW, hAO, hSX, hB, hRf, hRl, hkK, hlaw⟩ := F
  obtain ⟨hX, hX1, hX2⟩ := hlaw hk
  intro H locs A hL hP hS' hW hN'
  exact va_slen hx hb hX hX1 (by show ¬ en.1 ≤ g.1; omega) hS' hd (K H locs A hL hP hS' hW hN')
theorem w_bald (F : m_FR p R s m args meth c en g k) {a : Nat} {i : Int32} (hd : decode (m_cd k) pc = .ok (.baload, 1)) (h0 : (hS h a).1 = 2) (hi : m_inb i (hS h a).2 = true)
    (K : m_WK p l e R s m args below meth c Q en k (pc + 1, ls, ll, .int (hI h a i.toNatClampNeg) :: r, h)) : m_WK p l e R s m args below meth c Q en k (pc, ls, ll, .int i :: .ref a :: r, h) := by
  obtain ⟨hx, hb, hml, hown, htk, hts, hnm, hK, hNW, hAO, hSX, hB, hRf, hRl, hkK, hlaw⟩ := F
  intro H locs A hL hP hS' hW hN'
  obtain ⟨ha1, ha2⟩ := hW.2 a (show (hS h a).1 ≤ 3 by omega)
  have he := wl_at (en := en) ha1 ha2
  rw [E2 h0] at he
  exact va_bald hx hb hK hP (a - en.1) 1 he rfl (inb_in hi) hd (K H locs A hL hP hS' hW hN')
theorem w_aald (F : m_FR p R s m args meth c en g k) {a : Nat} {i : Int32} (hd : decode (m_cd k) pc = .ok (.aaload, 1)) (h0 : (hS h a).1 = 3) (hi : m_inb i (hS h a).2 = true)
    (K : m_WK p l e R s m args below meth c Q en k (pc + 1, ls, ll, va_rf (rfO (hF h a i.toNatClampNeg)) :: r, h)) : m_WK p l e R s m args below meth c Q en k (pc, ls, ll, .int i :: .ref a :: r, h) := by
  obtain ⟨hx, hb, hml, hown, htk, hts, hnm, hK, hNW, hAO, hSX, hB, hRf, hRl, hkK, hlaw⟩ := F
  intro H locs A hL hP hS' hW hN'
  obtain ⟨ha1, ha2⟩ := hW.2 a (show (hS h a).1 ≤ 3 by omega)
  have he := wl_at (en := en) ha1 ha2
  rw [E3 h0] at he
  exact va_aldq hx hb hK hP (a - en.1) 2 he rfl (inb_in hi) hd (K H locs A hL hP hS' hW hN')
theorem w_alen (F : m_FR p R s m args meth c en g k) {a : Nat} (hd : decode (m_cd k) pc = .ok (.arraylength, 1)) (h0 : (hS h a).1 = 1 ∨ (hS h a).1 = 2)
    (K : m_WK p l e R s m args below meth c Q en k (pc + 1, ls, ll, .int (Int32.ofNat (hS h a).2) :: r, h)) : m_WK p l e R s m args below meth c Q en k (pc, ls, ll, .ref a :: r, h) := by
  obtain ⟨hx, hb, hml, hown, htk, hts, hnm, hK, hNW, hAO, hSX, hB, hRf, hRl, hkK, hlaw⟩ := F
  intro H locs A hL hP hS' hW hN'
  obtain ⟨ha1, ha2⟩ := hW.2 a (show (hS h a).1 ≤ 3 by omega)
  have he := wl_at (en := en) ha1 ha2
  rcases h0 with h0 | h0
  · rw [E1 h0] at he
    exact va_alen hx hb hK hP (a - en.1) 0 he rfl rfl hd (K H locs A hL hP hS' hW hN')
  · rw [E2 h0] at he
    exact va_alen hx hb hK hP (a - en.1) 1 he rfl rfl hd (K H locs A hL hP hS' hW hN')
theorem pI_other {en : EN} {h : HP} {a z : Nat} {f : Nat → Int32} (hz : z ≠ a) : m_E en (pI h a f) z = m_E en h z := m_E_congr rfl (fun _ => rfl) (by simp [hI, pI, hz])
theorem pI_self {h : HP} {a : Nat} {f : Nat → Int32} : hI (pI h a f) a = f := by simp [hI, pI]
theorem w_iast (F : m_FR p R s m args meth c en g k) {a : Nat} {i x : Int32} (hd : decode (m_cd k) pc = .ok (.iastore, 1)) (h0 : (hS h a).1 = 1) (hi : m_inb i (hS h a).2 = true)
    (K : m_WK p l e R s m args below meth c Q en k (pc + 1, ls, ll, r, pI h a (upd (hI h a) i.toNatClampNeg x))) : m_WK p l e R s m args below meth c Q en k (pc, ls, ll, .int x :: .int i :: .ref a :: r, h) := by
  obtain ⟨hx, hb, hml, hown, htk, hts, hnm, hK, hNW, hAO, hSX, hB, hRf, hRl, hkK, hlaw⟩ := F
  intro H locs A hL hP hS' hW hN'
  obtain ⟨ha1, ha2⟩ := hW.2 a (show (hS h a).1 ≤ 3 by omega)
  have he := wl_at (en := en) ha1 ha2
  rw [E1 h0] at he
  refine va_iast hx hb hK hP (wl_D en h) hS' (a - en.1) 0 he rfl (inb_in hi) hd (fun H1 locs1 hP1 hD1 hS1 => ?_)
  have hset := wl_set (en := en) (h := h) (h' := pI h a (upd (hI h a) i.toNatClampNeg x)) ha1 rfl (E1 (h := pI h a (upd (hI h a) i.toNatClampNeg x)) (a := a) h0).symm (fun z hz => pI_other hz)
  have hP2 : va_P en.2.1 vwCl (m_wl en (pI h a (upd (hI h a) i.toNatClampNeg x))) H1 := by rw [← hset, pI_self]; exact hP1
  exact K H1 locs1 A hL hP2 hS1 hW hN'
theorem w_bast (F : m_FR p R s m args meth c en g k) {a : Nat} {i x : Int32} (hd : decode (m_cd k) pc = .ok (.bastore, 1)) (h0 : (hS h a).1 = 2) (hi : m_inb i (hS h a).2 = true)
    (K : m_WK p l e R s m args below meth c Q en k (pc + 1, ls, ll, r, pI h a (upd (hI h a) i.toNatClampNeg (vp_nar .byte x)))) : m_WK p l e R s m args below meth c Q en k (pc, ls, ll, .int x :: .int i :: .ref a :: r, h) := by
  obtain ⟨hx, hb, hml, hown, htk, hts, hnm, hK, hNW, hAO, hSX, hB, hRf, hRl, hkK, hlaw⟩ := F
  intro H locs A hL hP hS' hW hN'
  obtain ⟨ha1, ha2⟩ := hW.2 a (show (hS h a).1 ≤ 3 by omega)
  have he := wl_at (en := en) ha1 ha2
  rw [E2 h0] at he
  refine va_bast hx hb hK hP (wl_D en h) hS' (a - en.1) 1 he rfl (inb_in hi) hd (fun H1 locs1 hP1 hD1 hS1 => ?_)
  have hset := wl_set (en := en) (h := h) (h' := pI h a (upd (hI h a) i.toNatClampNeg (vp_nar .byte x))) ha1 rfl (E2 (h := pI h a (upd (hI h a) i.toNatClampNeg (vp_nar .byte x))) (a := a) h0).symm (fun z hz => pI_other hz)
  have hP2 : va_P en.2.1 vwCl (m_wl en (pI h a (upd (hI h a) i.toNatClampNeg (vp_nar .byte x)))) H1 := by rw [← hset, pI_self]; exact hP1
  exact K H1 locs1 A hL hP2 hS1 hW hN'
theorem w_aast (F : m_FR p R s m args meth c en g k) {a v : Nat} {i : Int32} (hd : decode (m_cd k) pc = .ok (.aastore, 1)) (h0 : (hS h a).1 = 3) (hi : m_inb i (hS h a).2 = true) (hv : hS h v = (0, 4))
    (K : m_WK p l e R s m args below meth c Q en k (pc + 1, ls, ll, r, pF h a i.toNatClampNeg (.ref v))) : m_WK p l e R s m args below meth c Q en k (pc, ls, ll, .ref v :: .int i :: .ref a :: r, h) := by
  obtain ⟨hx, hb, hml, hown, htk, hts, hnm, hK, hNW, hAO, hSX, hB, hRf, hRl, hkK, hlaw⟩ := F
  intro H locs A hL hP hS' hW hN'
  obtain ⟨ha1, ha2⟩ := hW.2 a (show (hS h a).1 ≤ 3 by omega)
  have hv0 : (hS h v).1 = 0 := by rw [hv]
  obtain ⟨hv1, hv2⟩ := hW.2 v (show (hS h v).1 ≤ 3 by omega)
  have he := wl_at (en := en) ha1 ha2
  rw [E3 h0] at he
  have hve := wl_at (en := en) hv1 hv2
  rw [E0 hv0, hv] at hve
  refine va_astq hx hb hK hP (wl_D en h) hS' (a - en.1) 2 (v - en.1) 4 he rfl hve (r := (RX6, TX6, 3)) rfl (inb_in hi) hd (fun H1 locs1 hP1 hD1 hS1 => ?_)
  have hset := wl_set (en := en) (h := h) (h' := pF h a i.toNatClampNeg (.ref v)) ha1 rfl (E3 (h := pF h a i.toNatClampNeg (.ref v)) (a := a) h0).symm (fun z hz => m_E_congr rfl (fun j => by simp [hF, pF, hz]) rfl)
  have hfun : (fun j => rfO (hF (pF h a i.toNatClampNeg (.ref v)) a j)) = va_up (fun j => rfO (hF h a j)) i.toNatClampNeg (some v) := by
    funext j
    by_cases hj : j = i.toNatClampNeg
    · simp [va_up, hF, pF, hj, rfO]
    · simp [va_up, hF, pF, hj]
  rw [hfun] at hset
  have hP2 : va_P en.2.1 vwCl (m_wl en (pF h a i.toNatClampNeg (.ref v))) H1 := by rw [← hset]; exact hP1
  exact K H1 locs1 A hL hP2 hS1 hW hN'
theorem w_copy (F : m_FR p R s m args meth c en g k) {a b idx : Nat} {sp dp n : Int32} {hs : List Nat} (hd : decode (m_cd k) pc = .ok (.invokestatic idx, 3)) (hch : (decide (1 ≤ m_rk k) && (lwi (hh hs 0) (.methodLink (m_y k).cls idx arraycopyName) && (lwi (hh hs 1) (.native arraycopyName) && (lwi (hh hs 2) (.static arraycopyName) && lwi (hh hs 3) (.initialized "java/lang/System"))))) = true)
    (h1 : (hS h a).1 = 1) (h2 : (hS h b).1 = 1) (h3 : ¬ sp < 0) (h4 : ¬ dp < 0) (h5 : ¬ n < 0) (h6 : sp.toNatClampNeg + n.toNatClampNeg ≤ (hS h a).2) (h7 : dp.toNatClampNeg + n.toNatClampNeg ≤ (hS h b).2) (hr : r.length ≤ 4)
    (K : m_WK p l e R s m args below meth c Q en k (pc + 3, ls, ll, r, pI h b (va_cpy (hI h a) (hI h b) sp.toNatClampNeg dp.toNatClampNeg n.toNatClampNeg))) : m_WK p l e R s m args below meth c Q en k (pc, ls, ll, .int n :: .int dp :: .ref b :: .int sp :: .ref a :: r, h) := by
  obtain ⟨hx, hb, hml, hown, htk, hts, hnm, hK, hNW, hAO, hSX, hB, hRf, hRl, hkK, hlaw⟩ := F
  simp only [Bool.and_eq_true, decide_eq_true_eq] at hch
  obtain ⟨hrk, q1, q2, q3, q4⟩ := hch
  intro H locs A hL hP hS' hW hN'
  obtain ⟨ha1, ha2⟩ := hW.2 a (show (hS h a).1 ≤ 3 by omega)
  obtain ⟨hb1, hb2⟩ := hW.2 b (show (hS h b).1 ≤ 3 by omega)
  have he := wl_at (en := en) ha1 ha2
  rw [E1 h1] at he
  have he2 := wl_at (en := en) hb1 hb2
  rw [E1 h2] at he2
  have hsum := w_sum hr
  refine va_copyi hx hb (by rw [hml, hL.1.1]) hown (hts _ (lwi_in q1)) (hts _ (lwi_in q2)) (hts _ (lwi_in q3)) (hts _ (lwi_in q4)) hK hP (wl_D en h) hS' (a - en.1) (b - en.1) 0 0 he he2 rfl rfl rfl h3 h4 h5 h6 h7 (fun _ _ => rfl) (by omega) ?_ hd (fun H1 locs1 hP1 hD1 hS1 => ?_)
  · have e9 : nativeFrameWords "java/lang/System" "arraycopy" 5 = 7 := by decide +kernel
    rw [e9]; omega
  · have hset := wl_set (en := en) (h := h) (h' := pI h b (va_cpy (hI h a) (hI h b) sp.toNatClampNeg dp.toNatClampNeg n.toNatClampNeg)) hb1 rfl (E1 (h := pI h b (va_cpy (hI h a) (hI h b) sp.toNatClampNeg dp.toNatClampNeg n.toNatClampNeg)) (a := b) h2).symm (fun z hz => pI_other hz)
    have hP2 : va_P en.2.1 vwCl (m_wl en (pI h b (va_cpy (hI h a) (hI h b) sp.toNatClampNeg dp.toNatClampNeg n.toNatClampNeg))) H1 := by rw [← hset, pI_self]; exact hP1
    exact K H1 locs1 A hL hP2 hS1 hW hN'
end S3

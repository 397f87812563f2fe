/-! the steps that make cells; the library's small calls -/
section S4
variable {p : Program} {l : Launch} {e : Env} {R : Room} {s : State} {m : MethodId} {args : Array Value} {below : List Frame} {meth : Method} {c : Code} {Q : State → Prop} {en : EN} {g : GL} {k : Nat}
variable {pc : Nat} {ls : List Value} {ll : List (Nat × Int64)} {r st : List Value} {h : HP}
/-- where a new cell lies: the claim's machine has no other place for it -/
theorem w_where {T : State} {q : Nat} {x : va_E} {D : va_G} (hsz : T.heap.size ≤ hN h + 1) (h0 : en.1 ≤ hN h) (hP : va_P D vwCl (m_wl en h ++ [(q, x)]) T.heap) (hD : va_D (m_A en) (m_wl en h ++ [(q, x)])) : q = hN h := by
  have hlen : (m_wl en h).length = hN h - en.1 := by simp [m_wl]
  have hq : (m_wl en h ++ [(q, x)])[hN h - en.1]? = some (q, x) := by
    rw [List.getElem?_append_right (by omega), hlen, Nat.sub_self]
    rfl
  have h1 : q < T.heap.size := (hP _ _ hq).lt
  have h2 : en.1 ≤ q := hD.2 _ _ hq
  rcases Nat.lt_or_ge q (hN h) with h3 | h3
  · have h4 : (m_wl en h ++ [(q, x)])[q - en.1]? = some (q, m_E en h q) := by
      rw [List.getElem?_append_left (by omega)]
      exact wl_at h2 h3
    have := hD.1 _ _ _ _ h4 hq rfl
    omega
  · omega
theorem hN_nwA (h : HP) (t n : Nat) : hN (nwA h t n) = hN h + 1 := rfl
theorem hN_nwO (h : HP) (ci : Nat) : hN (nwO h ci) = hN h + 1 := rfl
theorem nwA_other {t n z : Nat} (hz : z ≠ hN h) : m_E en (nwA h t n) z = m_E en h z := by
  have hz' : z ≠ h.2.2.2 := hz
  exact m_E_congr (by simp [hS, nwA, hz']) (fun j => by simp [hF, nwA, hz']) (by simp [hI, nwA, hz'])
theorem nwO_other {ci z : Nat} (hz : z ≠ hN h) : m_E en (nwO h ci) z = m_E en h z := by
  have hz' : z ≠ h.2.2.2 := hz
  exact m_E_congr (by simp [hS, nwO, hz']) (fun j => by simp [hF, nwO, hz']) (by simp [hI, nwO])
theorem nwA_at (h : HP) (t n : Nat) : hS (nwA h t n) (hN h) = (t, n) ∧ hI (nwA h t n) (hN h) = (fun _ => 0) ∧ ∀ j, hF (nwA h t n) (hN h) j = .null := by
  refine ⟨by simp [hS, nwA, hN], by simp [hI, nwA, hN], fun j => by simp [hF, nwA, hN]⟩
theorem nwO_at (h : HP) (ci : Nat) : hS (nwO h ci) (hN h) = (0, ci) ∧ ∀ j, hF (nwO h ci) (hN h) j = m_df ci j := by
  refine ⟨by simp [hS, nwO, hN], fun j => by simp [hF, nwO, hN]⟩
theorem nwA_WF {t n : Nat} (hW : m_WF en h) : m_WF en (nwA h t n) := by
  refine ⟨by rw [hN_nwA]; exact Nat.le_succ_of_le hW.1, fun a ha => ?_⟩
  rw [hN_nwA]
  by_cases hz : a = hN h
  · subst hz
    exact ⟨hW.1, by omega⟩
  · have hz' : a ≠ h.2.2.2 := hz
    have : hS (nwA h t n) a = hS h a := by simp [hS, nwA, hz']
    rw [this] at ha
    have := hW.2 a ha
    omega
theorem nwO_WF {ci : Nat} (hW : m_WF en h) : m_WF en (nwO h ci) := by
  refine ⟨by rw [hN_nwO]; exact Nat.le_succ_of_le hW.1, fun a ha => ?_⟩
  rw [hN_nwO]
  by_cases hz : a = hN h
  · subst hz
    exact ⟨hW.1, by omega⟩
  · have hz' : a ≠ h.2.2.2 := hz
    have : hS (nwO h ci) a = hS h a := by simp [hS, nwO, hz']
    rw [this] at ha
    have := hW.2 a ha
    omega
theorem ac_int : Cond.arrayClass .int ∈ m_GW := lwi_in (i := 119) (by decide +kernel)
theorem ac_byte : Cond.arrayClass .byte ∈ m_GW := lwi_in (i := 196) (by decide +kernel)
theorem w_newi (F : m_FR p R s m args meth c en g k) {n : Int32} (hd : decode (m_cd k) pc = .ok (.newarray .int, 2)) (hn : ¬ n < 0) (hn2 : n.toNatClampNeg ≤ 512)
    (hcap : hN h + 1 - s.heap.size ≤ R.cells ∧ 512 * (hN h + 1 - s.heap.size) ≤ R.slots)
    (K : m_WK p l e R s m args below meth c Q en k (pc + 2, ls, ll, .ref (hN h) :: r, nwA h 1 n.toNatClampNeg)) : m_WK p l e R s m args below meth c Q en k (pc, ls, ll, .int n :: r, h) := by
  obtain ⟨hx, hb, hml, hown, htk, hts, hnm, hK, hNW, hAO, hSX, hB, hRf, hRl, hkK, hlaw⟩ := F
  intro H locs A hL hP hS' hW hN'
  have hP : va_P en.2.1 vwCl (m_wl en h) H := hP
  have hW : m_WF en h := hW
  have hN' : s.heap.size ≤ hN h := hN'
  refine va_newa (atype := .int) (ty := .int) (a0 := (n.toNatClampNeg, .inl (fun _ => 0))) hx hb (hts _ ac_int) rfl hK hP (wl_D en h) hS' (fun q hq => Nat.le_trans hB hq) (fun cA => rfl) hn rfl (by show _ * 4 ≤ _; omega) (by show hN h - _ + 1 ≤ _; omega) (by show 512 * (hN h - _) + _ ≤ _; omega) hd (fun q cA H1 hK1 hP1 hD1 hS1 => ?_)
  have hcA : cA = en.2.2.1.1 := by
    have e1 : s.vm.findClass ("[" ++ FieldType.int.toString) = some cA := (hK1.2 3 (cA, .int) rfl).2
    have e2 : s.vm.findClass ("[" ++ FieldType.int.toString) = some en.2.2.1.1 := (hK.2 0 (en.2.2.1.1, .int) rfl).2
    exact Option.some.inj (e1.symm.trans e2)
  subst hcA
  refine W.widen (k := hN (nwA h 1 n.toNatClampNeg) - s.heap.size) (n := 512 * (hN (nwA h 1 n.toNatClampNeg) - s.heap.size)) (by show hN h - _ + 1 ≤ hN h + 1 - _; omega) (by show 512 * (hN h - _) + _ ≤ 512 * (hN h + 1 - _); omega) ?_
  intro T hT X
  have hsz := X.heapSize
  rw [hN_nwA] at hsz
  have hq : q = hN h := w_where (T := T) (by omega) hW.1 (by rw [hT]; exact hP1) hD1
  subst hq
  obtain ⟨a1, a2, a3⟩ := nwA_at h 1 n.toNatClampNeg
  have hwl := wl_push (en := en) (h := h) (h' := nwA h 1 n.toNatClampNeg) hW.1 rfl (E1 (h := nwA h 1 n.toNatClampNeg) (a := hN h) (by rw [a1])).symm (fun z hz => nwA_other hz)
  rw [a1, a2] at hwl
  exact K H1 locs A hL (by rw [← hwl]; exact hP1) hS1 (nwA_WF hW) (by rw [hN_nwA]; omega) T hT X
theorem w_newb (F : m_FR p R s m args meth c en g k) {n : Int32} (hd : decode (m_cd k) pc = .ok (.newarray .byte, 2)) (hn : ¬ n < 0) (hn2 : n.toNatClampNeg ≤ 512)
    (hcap : hN h + 1 - s.heap.size ≤ R.cells ∧ 512 * (hN h + 1 - s.heap.size) ≤ R.slots)
    (K : m_WK p l e R s m args below meth c Q en k (pc + 2, ls, ll, .ref (hN h) :: r, nwA h 2 n.toNatClampNeg)) : m_WK p l e R s m args below meth c Q en k (pc, ls, ll, .int n :: r, h) := by
  obtain ⟨hx, hb, hml, hown, htk, hts, hnm, hK, hNW, hAO, hSX, hB, hRf, hRl, hkK, hlaw⟩ := F
  intro H locs A hL hP hS' hW hN'
  have hP : va_P en.2.1 vwCl (m_wl en h) H := hP
  have hW : m_WF en h := hW
  have hN' : s.heap.size ≤ hN h := hN'
  refine va_newa (atype := .byte) (ty := .byte) (a0 := (n.toNatClampNeg, .inl (fun _ => 0))) hx hb (hts _ ac_byte) rfl hK hP (wl_D en h) hS' (fun q hq => Nat.le_trans hB hq) (fun cA => rfl) hn rfl (by show _ * 1 ≤ _; omega) (by show hN h - _ + 1 ≤ _; omega) (by show 512 * (hN h - _) + _ ≤ _; omega) hd (fun q cA H1 hK1 hP1 hD1 hS1 => ?_)
  have hcA : cA = en.2.2.1.2.1 := by
    have e1 : s.vm.findClass ("[" ++ FieldType.byte.toString) = some cA := (hK1.2 3 (cA, .byte) rfl).2
    have e2 : s.vm.findClass ("[" ++ FieldType.byte.toString) = some en.2.2.1.2.1 := (hK.2 1 (en.2.2.1.2.1, .byte) rfl).2
    exact Option.some.inj (e1.symm.trans e2)
  subst hcA
  refine W.widen (k := hN (nwA h 2 n.toNatClampNeg) - s.heap.size) (n := 512 * (hN (nwA h 2 n.toNatClampNeg) - s.heap.size)) (by show hN h - _ + 1 ≤ hN h + 1 - _; omega) (by show 512 * (hN h - _) + _ ≤ 512 * (hN h + 1 - _); omega) ?_
  intro T hT X
  have hsz := X.heapSize
  rw [hN_nwA] at hsz
  have hq : q = hN h := w_where (T := T) (by omega) hW.1 (by rw [hT]; exact hP1) hD1
  subst hq
  obtain ⟨a1, a2, a3⟩ := nwA_at h 2 n.toNatClampNeg
  have hwl := wl_push (en := en) (h := h) (h' := nwA h 2 n.toNatClampNeg) hW.1 rfl (E2 (h := nwA h 2 n.toNatClampNeg) (a := hN h) (by rw [a1])).symm (fun z hz => nwA_other hz)
  rw [a1, a2] at hwl
  exact K H1 locs A hL (by rw [← hwl]; exact hP1) hS1 (nwA_WF hW) (by rw [hN_nwA]; omega) T hT X
theorem m_nT_spec {k idx : Nat} {x : m_ne} (hkK : k < m_K) (h : m_nT k idx = some x) : ∃ q, vwCl[x.2.1]? = some q ∧ Cond.classLink (m_y k).cls idx q.1 ∈ m_GW ∧ Cond.instantiable q.1 q.2.2 ∈ m_GW ∧ Cond.initialized q.1 ∈ m_GW := by
  have hoc := oc_ok k hkK
  unfold m_nT at h
  have h1 := List.all_eq_true.mp (nl_ok _ hoc.1) _ (List.mem_of_find?_eq_some h)
  have h2 := List.find?_some h
  simp only [beq_iff_eq] at h2
  unfold m_chN at h1
  split at h1
  · simp at h1
  · rename_i q hq
    simp only [Bool.and_eq_true] at h1
    refine ⟨q, hq, ?_, lwi_in h1.2.1, lwi_in h1.2.2⟩
    have := lwi_in h1.1
    rw [h2, ← hoc.2] at this
    exact this
theorem w_newq (F : m_FR p R s m args meth c en g k) {n : Int32} {idx : Nat} {x : m_ne} (hd : decode (m_cd k) pc = .ok (.anewarray idx, 3)) (hxn : m_nT k idx = some x) (h4 : x.2.1 = 4) (hn : ¬ n < 0) (hn2 : n.toNatClampNeg ≤ 512)
    (hcap : hN h + 1 - s.heap.size ≤ R.cells ∧ 512 * (hN h + 1 - s.heap.size) ≤ R.slots)
    (K : m_WK p l e R s m args below meth c Q en k (pc + 3, ls, ll, .ref (hN h) :: r, nwA h 3 n.toNatClampNeg)) : m_WK p l e R s m args below meth c Q en k (pc, ls, ll, .int n :: r, h) := by
  obtain ⟨hx, hb, hml, hown, htk, hts, hnm, hK, hNW, hAO, hSX, hB, hRf, hRl, hkK, hlaw⟩ := F
  obtain ⟨q9, hq9, hcl, -, -⟩ := m_nT_spec hkK hxn
  rw [h4] at hq9
  have hq9' : q9 = (RX6, TX6, 3) := (Option.some.inj hq9).symm
  have hcl' : Cond.classLink (m_y k).cls idx "RockName$Town" ∈ m_GW := by rw [hq9'] at hcl; exact hcl
  intro H locs A hL hP hS' hW hN'
  have hP : va_P en.2.1 vwCl (m_wl en h) H := hP
  have hW : m_WF en h := hW
  have hN' : s.heap.size ≤ hN h := hN'
  refine va_newq (C := "RockName$Town") hx hb hown (hts _ hcl') hAO hK hP (wl_D en h) hS' (fun q hq => Nat.le_trans hB hq) hn rfl (by omega) (by show hN h - _ + 1 ≤ _; omega) (by show 512 * (hN h - _) + _ ≤ _; omega) hd (fun q cA H1 hK1 hP1 hD1 hS1 => ?_)
  have hcA : cA = en.2.2.1.2.2 := by
    obtain ⟨-, -, -, -, -, e1⟩ := (hK1.2 3 (cA, .object "RockName$Town") rfl).2
    obtain ⟨-, -, -, -, -, e2⟩ := (hK.2 2 (en.2.2.1.2.2, .object "RockName$Town") rfl).2
    exact Option.some.inj (e1.symm.trans e2)
  subst hcA
  refine W.widen (k := hN (nwA h 3 n.toNatClampNeg) - s.heap.size) (n := 512 * (hN (nwA h 3 n.toNatClampNeg) - s.heap.size)) (by show hN h - _ + 1 ≤ hN h + 1 - _; omega) (by show 512 * (hN h - _) + _ ≤ 512 * (hN h + 1 - _); omega) ?_
  intro T hT X
  have hsz := X.heapSize
  rw [hN_nwA] at hsz
  have hq : q = hN h := w_where (T := T) (by omega) hW.1 (by rw [hT]; exact hP1) hD1
  subst hq
  obtain ⟨a1, a2, a3⟩ := nwA_at h 3 n.toNatClampNeg
  have hwl := wl_push (en := en) (h := h) (h' := nwA h 3 n.toNatClampNeg) hW.1 rfl (E3 (h := nwA h 3 n.toNatClampNeg) (a := hN h) (by rw [a1])).symm (fun z hz => nwA_other hz)
  have hfun : (fun i => rfO (hF (nwA h 3 n.toNatClampNeg) (hN h) i)) = fun _ => none := by funext i; rw [a3]; rfl
  rw [a1, hfun] at hwl
  exact K H1 locs A hL (by rw [← hwl]; exact hP1) hS1 (nwA_WF hW) (by rw [hN_nwA]; omega) T hT X
theorem w_new (F : m_FR p R s m args meth c en g k) {idx : Nat} {x : m_ne} (hd : decode (m_cd k) pc = .ok (.new idx, 3)) (hxn : m_nT k idx = some x)
    (hcap : hN h + 1 - s.heap.size ≤ R.cells ∧ 512 * (hN h + 1 - s.heap.size) ≤ R.slots)
    (K : m_WK p l e R s m args below meth c Q en k (pc + 3, ls, ll, .ref (hN h) :: st, nwO h x.2.1)) : m_WK p l e R s m args below meth c Q en k (pc, ls, ll, st, h) := by
  obtain ⟨hx, hb, hml, hown, htk, hts, hnm, hK, hNW, hAO, hSX, hB, hRf, hRl, hkK, hlaw⟩ := F
  obtain ⟨q9, hq9, hcl, hin, hini⟩ := m_nT_spec hkK hxn
  have hmem := List.mem_of_getElem? hq9
  obtain ⟨c1, c2, c3⟩ := vw_cls hmem
  have hlen := vw_len q9 hmem
  intro H locs A hL hP hS' hW hN'
  have hP : va_P en.2.1 vwCl (m_wl en h) H := hP
  have hW : m_WF en h := hW
  have hN' : s.heap.size ≤ hN h := hN'
  have hnf : m_nf x.2.1 = q9.2.2 := by simp only [m_nf, hq9]
  refine va_new (C := q9.1) (T := q9.2.1) (N := q9.2.2) (ci := x.2.1) (fs := (List.range q9.2.2).map (m_df x.2.1)) hx hb hts c1 _ c2 hown (hts _ hcl) (hts _ hin) (hts _ hini) hK hP (wl_D en h) hS' (fun q hq => Nat.le_trans hB hq) hq9 (fun j hj => ?_) (by show hN h - _ + 1 ≤ _; omega) (by show 512 * (hN h - _) + _ ≤ _; omega) hd (fun q H1 hP1 hD1 hS1 => ?_)
  · simp only [vp_V, List.getD_eq_getElem?_getD, List.getElem?_map, List.getElem?_range hj, Option.map_some, Option.getD_some, m_df, hq9]
  · refine W.widen (k := hN (nwO h x.2.1) - s.heap.size) (n := 512 * (hN (nwO h x.2.1) - s.heap.size)) (by show hN h - _ + 1 ≤ hN h + 1 - _; omega) (by show 512 * (hN h - _) + _ ≤ 512 * (hN h + 1 - _); omega) ?_
    intro T hT X
    have hsz := X.heapSize
    rw [hN_nwO] at hsz
    have hq : q = hN h := w_where (T := T) (by omega) hW.1 (by rw [hT]; exact hP1) hD1
    subst hq
    obtain ⟨a1, a3⟩ := nwO_at h x.2.1
    have hwl := wl_push (en := en) (h := h) (h' := nwO h x.2.1) hW.1 rfl (E0 (h := nwO h x.2.1) (a := hN h) (by rw [a1])).symm (fun z hz => nwO_other hz)
    rw [a1] at hwl
    have hfun : hF (nwO h x.2.1) (hN h) = m_df x.2.1 := funext a3
    rw [hfun] at hwl
    simp only [hnf] at hwl
    exact K H1 locs A hL (by rw [← hwl]; exact hP1) hS1 (nwO_WF hW) (by rw [hN_nwO]; omega) T hT X
theorem w_oi (F : m_FR p R s m args meth c en g k) {idx a : Nat} {hs : List Nat} (hd : decode (m_cd k) pc = .ok (.invokespecial idx, 3)) (hch : (decide (1 ≤ m_rk k) && (lwi (hh hs 0) (.methodLink (m_y k).cls idx Lib.objectInit) && (lwi (hh hs 1) (.instanceMethod Lib.objectInit) && lwi (hh hs 2) (.code Lib.objectInit ⟨#[0xb1]⟩ 1 none)))) = true) (hr : r.length ≤ 4)
    (K : m_WK p l e R s m args below meth c Q en k (pc + 3, ls, ll, r, h)) : m_WK p l e R s m args below meth c Q en k (pc, ls, ll, .ref a :: r, h) := by
  obtain ⟨hx, hb, hml, hown, htk, hts, hnm, hK, hNW, hAO, hSX, hB, hRf, hRl, hkK, hlaw⟩ := F
  simp only [Bool.and_eq_true, decide_eq_true_eq] at hch
  obtain ⟨hrk, q1, q2, q3⟩ := hch
  have hsum := w_sum hr
  intro H locs A hL hP hS' hW hN'
  refine W.objInit hx hb hown (hts _ (lwi_in q1)) (hts _ (lwi_in q2)) (hts _ (lwi_in q3)) rfl (by show A.size = _; rw [hml, hL.1.1]) rfl hd (by omega) ?_ (K H locs A hL hP hS' hW hN')
  show 2 * 0 + _ + 12 ≤ _
  omega
theorem w_max (F : m_FR p R s m args meth c en g k) {idx : Nat} {x y : Int32} {hs : List Nat} (hd : decode (m_cd k) pc = .ok (.invokestatic idx, 3)) (hch : (decide (1 ≤ m_rk k) && (lwi (hh hs 0) (.methodLink (m_y k).cls idx Lib.Math.max.name) && (lwi (hh hs 1) (.static Lib.Math.max.name) && (lwi (hh hs 2) (.initialized "java/lang/Math") && lwi (hh hs 3) (.code Lib.Math.max.name Lib.Math.max.code 2 (some .int)))))) = true) (hr : r.length ≤ 4)
    (hcap : hN h - s.heap.size ≤ R.cells ∧ 512 * (hN h - s.heap.size) ≤ R.slots)
    (K : m_WK p l e R s m args below meth c Q en k (pc + 3, ls, ll, .int (if x < y then y else x) :: r, h)) : m_WK p l e R s m args below meth c Q en k (pc, ls, ll, .int y :: .int x :: r, h) := by
  obtain ⟨hx, hb, hml, hown, htk, hts, hnm, hK, hNW, hAO, hSX, hB, hRf, hRl, hkK, hlaw⟩ := F
  simp only [Bool.and_eq_true, decide_eq_true_eq] at hch
  obtain ⟨hrk, q1, q2, q3, q4⟩ := hch
  have hsum := w_sum hr
  intro H locs A hL hP hS' hW hN'
  exact va_mmax hx hb (by rw [hml, hL.1.1]) hown (hts _ (lwi_in q1)) (hts _ (lwi_in q2)) (hts _ (lwi_in q3)) (hts _ (lwi_in q4)) (by omega) (by omega) hcap.1 hcap.2 hd (K H locs A hL hP hS' hW hN')
theorem w_min (F : m_FR p R s m args meth c en g k) {idx : Nat} {x y : Int32} {hs : List Nat} (hd : decode (m_cd k) pc = .ok (.invokestatic idx, 3)) (hch : (decide (1 ≤ m_rk k) && (lwi (hh hs 0) (.methodLink (m_y k).cls idx Lib.Math.min.name) && (lwi (hh hs 1) (.static Lib.Math.min.name) && (lwi (hh hs 2) (.initialized "java/lang/Math") && lwi (hh hs 3) (.code Lib.Math.min.name Lib.Math.min.code 2 (some .int)))))) = true) (hr : r.length ≤ 4)
    (hcap : hN h - s.heap.size ≤ R.cells ∧ 512 * (hN h - s.heap.size) ≤ R.slots)
    (K : m_WK p l e R s m args below meth c Q en k (pc + 3, ls, ll, .int (if y < x then y else x) :: r, h)) : m_WK p l e R s m args below meth c Q en k (pc, ls, ll, .int y :: .int x :: r, h) := by
  obtain ⟨hx, hb, hml, hown, htk, hts, hnm, hK, hNW, hAO, hSX, hB, hRf, hRl, hkK, hlaw⟩ := F
  simp only [Bool.and_eq_true, decide_eq_true_eq] at hch
  obtain ⟨hrk, q1, q2, q3, q4⟩ := hch
  have hsum := w_sum hr
  intro H locs A hL hP hS' hW hN'
  exact va_mmin hx hb (by rw [hml, hL.1.1]) hown (hts _ (lwi_in q1)) (hts _ (lwi_in q2)) (hts _ (lwi_in q3)) (hts _ (lwi_in q4)) (by omega) (by omega) hcap.1 hcap.2 hd (K H locs A hL hP hS' hW hN')
theorem ks_ok : ∀ o, o < 12 → ∀ x ∈ m_ks o, o = 7 ∧ (x = (51, 0) ∨ x = (86, 1) ∨ x = (91, 2)) := by decide +kernel
theorem w_ldcS (F : m_FR p R s m args meth c en g k) {idx : Nat} {x : Nat × Nat} (hd : decode (m_cd k) pc = .ok (.ldc idx, 2)) (hq : m_ksT k idx = some x)
    (K : m_WK p l e R s m args below meth c Q en k (pc + 2, ls, ll, .ref (g.2.2.2 x.2) :: st, h)) : m_WK p l e R s m args below meth c Q en k (pc, ls, ll, st, h) := by
  obtain ⟨hx, hb, hml, hown, htk, hts, hnm, hK, hNW, hAO, hSX, hB, hRf, hRl, hkK, hlaw⟩ := F
  have hoc := oc_ok k hkK
  obtain ⟨h7, hx3⟩ := ks_ok _ hoc.1 _ (List.mem_of_find?_eq_some hq)
  have h2 := List.find?_some hq
  simp only [beq_iff_eq] at h2
  rw [hoc.2, h7] at hown
  intro H locs A hL hP hS' hW hN'
  rcases hx3 with rfl | rfl | rfl
  · simp only at h2
    subst h2
    exact va_ldcS hx hb hown hSX.2.1.1 hd (K H locs A hL hP hS' hW hN')
  · simp only at h2
    subst h2
    exact va_ldcS hx hb hown hSX.2.1.2.1 hd (K H locs A hL hP hS' hW hN')
  · simp only at h2
    subst h2
    exact va_ldcS hx hb hown hSX.2.1.2.2 hd (K H locs A hL hP hS' hW hN')
theorem w_ldcI (F : m_FR p R s m args meth c en g k) {idx : Nat} {x : Nat × Int32 × Nat} (hd : decode (m_cd k) pc = .ok (.ldc idx, 2)) (hq : m_kiT k idx = some x)
    (K : m_WK p l e R s m args below meth c Q en k (pc + 2, ls, ll, .int x.2.1 :: st, h)) : m_WK p l e R s m args below meth c Q en k (pc, ls, ll, st, h) := by
  obtain ⟨hx, hb, hml, hown, htk, hts, hnm, hK, hNW, hAO, hSX, hB, hRf, hRl, hkK, hlaw⟩ := F
  have hoc := oc_ok k hkK
  intro H locs A hL hP hS' hW hN'
  have h1 := List.all_eq_true.mp (ki_ok _ hoc.1) _ (List.mem_of_find?_eq_some hq)
  have h2 := List.find?_some hq
  simp only [beq_iff_eq] at h2
  rw [h2, ← hoc.2] at h1
  exact lv_ldc hx hb hown (hts _ (lwi_in h1)) hd (K H locs A hL hP hS' hW hN')
end S4

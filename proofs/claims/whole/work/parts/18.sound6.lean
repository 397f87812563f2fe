/-! the walk -/
section S6
variable {p : Program} {l : Launch} {e : Env} {R : Room} {s : State} {m : MethodId} {args : Array Value} {below : List Frame} {meth : Method} {c : Code} {Q : State → Prop} {en : EN} {g : GL} {k : Nat}
variable {pc : Nat} {ls : List Value} {ll : List (Nat × Int64)} {st rest : List Value} {h h1 : HP} {v : Value} {f : CF}
/-- a text is asked its length, or a char -/
theorem w_text {x : m_ce} (F : m_FR p R s m args meth c en g k) (hx9 : x ∈ m_cl k) {idx : Nat} (hid : x.2.2.2.2.1 = idx) (hd : decode (m_cd k) pc = .ok (.invokevirtual idx, 3)) (hcap : hN h - s.heap.size ≤ R.cells ∧ 512 * (hN h - s.heap.size) ≤ R.slots) {a i : Nat} {r : List Value} (hi : i < 3) (ha : a = g.2.2.2 i) (hr4 : r.length ≤ 4)
    (hkd : (x.2.2.1 = 11 ∧ st = .ref a :: r ∧ f = (pc + 3, ls, ll, .int (nI (m_tx i).length) :: r, h)) ∨ (x.2.2.1 = 12 ∧ ∃ j, st = .int j :: .ref a :: r ∧ m_inb j (m_tx i).length = true ∧ f = (pc + 3, ls, ll, .int ((m_tx i).getD j.toNatClampNeg 0) :: r, h)))
    (K : m_WK p l e R s m args below meth c Q en k f) : m_WK p l e R s m args below meth c Q en k (pc, ls, ll, st, h) := by
  have F0' := F
  obtain ⟨hx, hb, hml, hown, htk, hts, hnm, hK, hNW, hAO, hSX, hB, hRf, hRl, hkK, hlaw⟩ := F
  have hch := cl_ok hkK hx9
  obtain ⟨pc0, ci, kd, k', idx', n', xx, hs⟩ := x
  simp only at hkd hid
  subst hid
  subst ha
  intro H locs A hL hP hS' hW hN'
  have hP : va_P en.2.1 vwCl (m_wl en h) H := hP
  have hW : m_WF en h := hW
  have hN' : s.heap.size ≤ hN h := hN'
  have hroom := w_sum hr4
  have hrecv : ∃ cell : Cell, H[g.2.2.2 i]? = some cell ∧ cell.vm.isStatics = false ∧ s.vm.findClass "java/lang/String" = some cell.cls := vk_recv hSX.1 hi hS'
  have hgo : ∀ U : State, U.heap = H → s.WarmedH U.vm → m_SX en g U U.heap := fun U hU hwm => by rw [hU]; exact hSX.go hwm hS'.2.1
  rcases hkd with ⟨rfl, rfl, rfl⟩ | ⟨rfl, j, rfl, hj, rfl⟩
  · simp only [m_chC, Bool.and_eq_true, decide_eq_true_eq] at hch
    obtain ⟨hrk, q1, q2, q3, q4⟩ := hch
    have hGI : GoodIn m_T0 (wsV (m_y k).cls idx' "java/lang/String" yJ0_length_8abf5 (.code yJ0_length_8abf5 cJ0_length_8abf5 1 (some .int) :: m_GW)) := GI (GI_app (fun w hw => by
      simp only [List.mem_cons, List.not_mem_nil, or_false] at hw
      rcases hw with rfl | rfl | rfl | rfl
      · exact lwi_in q1
      · exact lwi_in q2
      · exact lwi_in q3
      · exact lwi_in q4) (GI_cons jc_len))
    refine va_calli (A0 := m_A en) (H0 := s.heap) (va_runV (As := []) (b := g.2.2.2 i) (rest := r) ⟨hx, hb, hml, hown, htk⟩ (j_length l en g H hi) (cwV 0 htk hGI rfl rfl rfl (by decide +kernel) ⟨by show 1 + 1 ≤ _; omega, by show 8 + (1 + 11) + 64 ≤ _; omega⟩) ⟨j_blind, hrecv, fun U hU hwm => ⟨rfl, hU, hgo U hU hwm⟩⟩ rfl rfl hL.1.1 rfl (lv_room hroom) hd hcap) hS' (fun _ _ z => z.elim) (fun _ z => z.elim) (fun r2 u t H1 locs1 ht hvm hw hB2 hz1 hk1 hS1 => ?_)
    subst hw
    have e1 : H1 = H := ht.symm.trans hB2
    subst e1
    exact K H1 locs1 A hL hP hS1 hW hN'
  · simp only [m_chC, Bool.and_eq_true, decide_eq_true_eq] at hch
    obtain ⟨hrk, q1, q2, q3, q4⟩ := hch
    have hGI : GoodIn m_T0 (wsV (m_y k).cls idx' "java/lang/String" yJ0_charAt_5068e (.code yJ0_charAt_5068e cJ0_charAt_5068e 2 (some .char) :: m_GW)) := GI (GI_app (fun w hw => by
      simp only [List.mem_cons, List.not_mem_nil, or_false] at hw
      rcases hw with rfl | rfl | rfl | rfl
      · exact lwi_in q1
      · exact lwi_in q2
      · exact lwi_in q3
      · exact lwi_in q4) (GI_cons jc_charAt))
    refine va_calli (A0 := m_A en) (H0 := s.heap) (va_runV (As := [.int j]) (b := g.2.2.2 i) (rest := r) ⟨hx, hb, hml, hown, htk⟩ (j_charAt l en g H hi j hj) (cwV 1 htk hGI rfl rfl rfl (by decide +kernel) ⟨by show 3 + 1 ≤ _; omega, by show 8 + (2 + 11) + 192 ≤ _; omega⟩) ⟨j_blind, hrecv, fun U hU hwm => ⟨rfl, hU, hgo U hU hwm⟩⟩ rfl rfl hL.1.1 rfl (lv_room hroom) hd hcap) hS' (fun _ _ z => z.elim) (fun _ z => z.elim) (fun r2 u t H1 locs1 ht hvm hw hB2 hz1 hk1 hS1 => ?_)
    subst hw
    have e1 : H1 = H := ht.symm.trans hB2
    subst e1
    exact K H1 locs1 A hL hP hS1 hW hN'
theorem m_cT_in {k pc ci idx : Nat} {x : m_ce} (h : m_cT k pc ci idx = some x) : x ∈ m_cl k ∧ x.2.1 = ci ∧ x.2.2.2.2.1 = idx := by
  unfold m_cT at h
  have h2 := List.find?_some h
  simp only [Bool.and_eq_true, beq_iff_eq] at h2
  exact ⟨List.mem_of_find?_eq_some h, h2.2.1, h2.2.2⟩
theorem m_c0_in {k pc idx : Nat} {x : m_ce} (h : m_c0 k pc idx = some x) : x ∈ m_cl k ∧ x.2.2.2.2.1 = idx := by
  unfold m_c0 at h
  have h2 := List.find?_some h
  simp only [Bool.and_eq_true, beq_iff_eq] at h2
  exact ⟨List.mem_of_find?_eq_some h, h2.2⟩
set_option maxHeartbeats 8000000 in
theorem w_step (F : m_FR p R s m args meth c en g k) {i : Instr} {len : Nat} (hd : decode (m_cd k) pc = .ok (i, len)) (hl : m_lok i len = true) (hs : stepI g k pc i ls ll st h = some (.inl f)) (hcap : hN f.2.2.2.2 - s.heap.size ≤ R.cells ∧ 512 * (hN f.2.2.2.2 - s.heap.size) ≤ R.slots) (K : m_WK p l e R s m args below meth c Q en k f) : m_WK p l e R s m args below meth c Q en k (pc, ls, ll, st, h) := by
  by_cases hi : m_pure i = true
  · exact w_pure F hi hd hl hs K
  · have hkK : k < m_K := F.2.2.2.2.2.2.2.2.2.2.2.2.2.2.1
    cases i with
    | getfield idx =>
      obtain rfl := lok3 hl rfl
      simp only [stepI] at hs
      split at hs
      · split at hs
        · rename_i x hx9
          obtain rfl := nx_inj hs
          exact w_getf F hd hx9 K
        · simp at hs
      · simp at hs
    | putfield idx =>
      obtain rfl := lok3 hl rfl
      simp only [stepI] at hs
      split at hs
      · split at hs
        · rename_i x hx9
          split at hs
          · rename_i hc
            obtain rfl := nx_inj hs
            exact w_putf F hd hx9 hc.1 hc.2 K
          · simp at hs
        · simp at hs
      · simp at hs
    | iaload =>
      obtain rfl := lok1 hl rfl
      simp only [stepI] at hs
      split at hs
      · split at hs
        · rename_i hk
          split at hs
          · rename_i hc
            obtain rfl := nx_inj hs
            rw [hc.1]
            exact w_sald F hk hd hc.2 K
          · simp at hs
        · split at hs
          · rename_i hc
            obtain rfl := nx_inj hs
            exact w_iald F hd hc.1 hc.2 K
          · simp at hs
      · simp at hs
    | baload =>
      obtain rfl := lok1 hl rfl
      simp only [stepI] at hs
      split at hs
      · split at hs
        · rename_i hc
          obtain rfl := nx_inj hs
          exact w_bald F hd hc.1 hc.2 K
        · simp at hs
      · simp at hs
    | aaload =>
      obtain rfl := lok1 hl rfl
      simp only [stepI] at hs
      split at hs
      · split at hs
        · rename_i hc
          obtain rfl := nx_inj hs
          exact w_aald F hd hc.1 hc.2 K
        · simp at hs
      · simp at hs
    | iastore =>
      obtain rfl := lok1 hl rfl
      simp only [stepI] at hs
      split at hs
      · split at hs
        · rename_i hc
          obtain rfl := nx_inj hs
          exact w_iast F hd hc.1 hc.2 K
        · simp at hs
      · simp at hs
    | bastore =>
      obtain rfl := lok1 hl rfl
      simp only [stepI] at hs
      split at hs
      · split at hs
        · rename_i hc
          obtain rfl := nx_inj hs
          exact w_bast F hd hc.1 hc.2 K
        · simp at hs
      · simp at hs
    | aastore =>
      obtain rfl := lok1 hl rfl
      simp only [stepI] at hs
      split at hs
      · split at hs
        · rename_i hc
          obtain rfl := nx_inj hs
          exact w_aast F hd hc.1 hc.2.1 hc.2.2 K
        · simp at hs
      · simp at hs
    | arraylength =>
      obtain rfl := lok1 hl rfl
      simp only [stepI] at hs
      split at hs
      · split at hs
        · rename_i hk
          split at hs
          · rename_i hc
            obtain rfl := nx_inj hs
            rw [hc]
            exact w_slen F hk hd K
          · simp at hs
        · split at hs
          · rename_i hc
            obtain rfl := nx_inj hs
            exact w_alen F hd hc K
          · simp at hs
      · simp at hs
    | newarray at' =>
      obtain rfl := lok2 hl rfl
      cases at' with
      | int =>
        simp only [stepI] at hs
        split at hs
        · split at hs
          · rename_i hc
            obtain rfl := nx_inj hs
            exact w_newi F hd hc.1 hc.2 hcap K
          · simp at hs
        · simp at hs
      | byte =>
        simp only [stepI] at hs
        split at hs
        · split at hs
          · rename_i hc
            obtain rfl := nx_inj hs
            exact w_newb F hd hc.1 hc.2 hcap K
          · simp at hs
        · simp at hs
      | _ => simp [stepI] at hs
    | anewarray idx =>
      obtain rfl := lok3 hl rfl
      simp only [stepI] at hs
      split at hs
      · split at hs
        · rename_i x hx9
          split at hs
          · rename_i hc
            obtain rfl := nx_inj hs
            exact w_newq F hd hx9 hc.2.2 hc.1 hc.2.1 hcap K
          · simp at hs
        · simp at hs
      · simp at hs
    | new idx =>
      obtain rfl := lok3 hl rfl
      simp only [stepI] at hs
      split at hs
      · rename_i x hx9
        obtain rfl := nx_inj hs
        exact w_new F hd hx9 hcap K
      · simp at hs
    | ldc idx =>
      obtain rfl := lok2 hl rfl
      simp only [stepI] at hs
      split at hs
      · rename_i x hx9
        obtain rfl := nx_inj hs
        exact w_ldcI F hd hx9 K
      · split at hs
        · rename_i x hx9
          obtain rfl := nx_inj hs
          exact w_ldcS F hd hx9 K
        · simp at hs
    | invokestatic idx =>
      obtain rfl := lok3 hl rfl
      simp only [stepI, m_static] at hs
      split at hs
      · simp at hs
      · rename_i x hx9
        obtain ⟨hin, hci, hid⟩ := m_cT_in hx9
        have hch := cl_ok hkK hin
        obtain ⟨pc0, ci, kd, k', idx', n', xx, hints⟩ := x
        simp only at hs hci hid
        subst hid
        split at hs
        · unfold m_call at hs; split at hs <;> simp at hs
        · unfold m_call at hs; split at hs <;> simp at hs
        · split at hs
          · split at hs
            · rename_i hr
              obtain rfl := nx_inj hs
              exact w_max F hd (hs := hints) hch hr hcap K
            · simp at hs
          · simp at hs
        · split at hs
          · split at hs
            · rename_i hr
              obtain rfl := nx_inj hs
              exact w_min F hd (hs := hints) hch hr hcap K
            · simp at hs
          · simp at hs
        · unfold m_copy at hs
          split at hs
          · split at hs
            · rename_i hc
              obtain rfl := nx_inj hs
              exact w_copy F hd (hs := hints) hch hc.1 hc.2.1 hc.2.2.1 hc.2.2.2.1 hc.2.2.2.2.1 hc.2.2.2.2.2.1 hc.2.2.2.2.2.2.1 hc.2.2.2.2.2.2.2 K
            · simp at hs
          · simp at hs
        · simp at hs
    | invokespecial idx =>
      obtain rfl := lok3 hl rfl
      simp only [stepI, m_special] at hs
      split at hs
      · simp at hs
      · rename_i x hx9
        obtain ⟨hin, hci, hid⟩ := m_cT_in hx9
        have hch := cl_ok hkK hin
        obtain ⟨pc0, ci, kd, k', idx', n', xx, hints⟩ := x
        simp only at hs hci hid
        subst hid
        split at hs
        · split at hs
          · split at hs
            · rename_i hr
              obtain rfl := nx_inj hs
              exact w_oi F hd (hs := hints) hch hr K
            · simp at hs
          · simp at hs
        · split at hs
          · unfold m_call at hs; split at hs <;> simp at hs
          · simp at hs
        · split at hs
          · unfold m_call at hs; split at hs <;> simp at hs
          · simp at hs
        · simp at hs
    | invokevirtual idx =>
      obtain rfl := lok3 hl rfl
      simp only [stepI, m_virtual] at hs
      split at hs
      · simp at hs
      · rename_i x hx9
        obtain ⟨hin, hid⟩ := m_c0_in hx9
        split at hs
        · rename_i hk11
          split at hs
          · split at hs
            · rename_i hc
              have hf := nx_inj hs
              exact w_text F hin hid hd (by rw [hf] at hcap; exact hcap) hc.1 hc.2.1 hc.2.2 (Or.inl ⟨hk11, rfl, hf⟩) K
            · simp at hs
          · simp at hs
        · rename_i hk12
          split at hs
          · split at hs
            · rename_i hc
              have hf := nx_inj hs
              exact w_text F hin hid hd (by rw [hf] at hcap; exact hcap) hc.1 hc.2.1 hc.2.2.1 (Or.inr ⟨hk12, _, rfl, hc.2.2.2, hf⟩) K
            · simp at hs
          · simp at hs
        · split at hs
          · split at hs
            · split at hs
              · split at hs
                · unfold m_call at hs; split at hs <;> simp at hs
                · simp at hs
              · simp at hs
            · simp at hs
          · simp at hs
    | ireturn =>
      simp only [stepI] at hs
      repeat' split at hs
      all_goals simp at hs
    | lreturn =>
      simp only [stepI] at hs
      repeat' split at hs
      all_goals simp at hs
    | return_ =>
      simp only [stepI] at hs
      repeat' split at hs
      all_goals simp at hs
    | _ => simp [m_pure] at hi
end S6

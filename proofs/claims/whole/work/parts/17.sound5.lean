/-! calls, ends, and the walk: what the small machine does, the claim's machine does -/
def oH (h : HP) : OU → Prop
  | .inl f => hN h ≤ hN f.2.2.2.2
  | .inr (.inl r) => r.2 = h
  | .inr (.inr q) => q.2.2.2.2.2.2 = h
theorem oH_nx {h h' : HP} {pc : Nat} {ls : List Value} {ll : List (Nat × Int64)} {st : List Value} {o : OU} (hh : hN h ≤ hN h') (hs : nx_ pc ls ll st h' = some o) : oH h o := by
  simp only [nx_, Option.some.injEq] at hs
  subst hs
  exact hh
theorem oH_nxF {h : HP} {pc a j : Nat} {v : Value} {ls : List Value} {ll : List (Nat × Int64)} {st : List Value} {o : OU} (hs : nx_ pc ls ll st (pF h a j v) = some o) : oH h o := oH_nx (h' := pF h a j v) (Nat.le_refl _) hs
theorem oH_nxI {h : HP} {pc a : Nat} {f : Nat → Int32} {ls : List Value} {ll : List (Nat × Int64)} {st : List Value} {o : OU} (hs : nx_ pc ls ll st (pI h a f) = some o) : oH h o := oH_nx (h' := pI h a f) (Nat.le_refl _) hs
theorem oH_goto {h : HP} {pc : Nat} {off : Int} {ls : List Value} {ll : List (Nat × Int64)} {st : List Value} {o : OU} (hs : m_goto pc off ls ll st h = some o) : oH h o := by
  unfold m_goto at hs
  split at hs
  · exact oH_nx (Nat.le_refl _) hs
  · simp at hs
theorem oH_call {h : HP} {pc k' n : Nat} {ls : List Value} {ll : List (Nat × Int64)} {st : List Value} {o : OU} (hs : m_call pc k' n ls ll st h = some o) : oH h o := by
  unfold m_call at hs
  split at hs
  · simp only [Option.some.injEq] at hs
    subst hs
    rfl
  · simp at hs
set_option maxHeartbeats 8000000 in
theorem st_mono {g : GL} {k pc : Nat} {i : Instr} {ls : List Value} {ll : List (Nat × Int64)} {st : List Value} {h : HP} {o : OU} (hs : stepI g k pc i ls ll st h = some o) : oH h o := by
  unfold stepI at hs
  split at hs
  all_goals try unfold m_ldi at hs
  all_goals try unfold m_lda at hs
  all_goals try unfold m_ldl at hs
  all_goals try unfold m_sti at hs
  all_goals try unfold m_sta at hs
  all_goals try unfold m_stl at hs
  all_goals try unfold m_bi at hs
  all_goals try unfold m_bl at hs
  all_goals try unfold m_sw at hs
  all_goals try unfold m_static at hs
  all_goals try unfold m_special at hs
  all_goals try unfold m_virtual at hs
  all_goals try unfold m_copy at hs
  all_goals repeat' split at hs
  all_goals first
    | (simp at hs; done)
    | exact oH_nx (Nat.le_refl _) hs
    | exact oH_nx (Nat.le_succ _) hs
    | exact oH_goto hs
    | exact oH_call hs
    | (simp only [Option.some.injEq] at hs; subst hs; rfl)
    | exact oH_nxF hs
    | exact oH_nxI hs
theorem run_mN (g : GL) : ∀ (n k : Nat) (c : CF) (v : Value) (h' : HP), run g n k c = some (v, h') → hN c.2.2.2.2 ≤ hN h' := by
  intro n
  induction n with
  | zero => intro k c v h' h; simp [run] at h
  | succ n ih =>
    intro k c v h' h
    rw [run] at h
    cases hs : stp g k c with
    | none => rw [hs] at h; simp at h
    | some o =>
      rw [hs] at h
      have hm : oH c.2.2.2.2 o := by
        unfold stp at hs
        split at hs
        · split at hs
          · exact st_mono hs
          · simp at hs
        · simp at hs
      rcases o with c' | r' | ⟨k', as, c'⟩
      · exact Nat.le_trans hm (ih _ _ _ _ h)
      · simp only [Option.some.injEq] at h
        subst h
        have hm : h' = c.2.2.2.2 := hm
        rw [hm]
        exact Nat.le_refl _
      · dsimp only at h
        have hm : c'.2.2.2.2 = c.2.2.2.2 := hm
        split at h
        · split at h
          · simp at h
          · rename_i v1 h1 hr
            have e1 := ih _ _ _ _ hr
            have e2 := ih _ _ _ _ h
            dsimp only at e1 e2
            rw [hm] at e1
            exact Nat.le_trans e1 e2
        · simp at h
def m_QW (en : EN) (h : HP) (t : State) : Prop := va_P en.2.1 vwCl (m_wl en h) t.heap ∧ m_WF en h
def m_Qk (en : EN) (k : Nat) (v : Value) (h : HP) : Array Value → State → Outcome → State → Prop := match m_rt k with
  | none => va_Qv (fun (_ : Unit) => v = .null) (fun _ t => m_QW en h t) (m_A en)
  | some .long => va_Ql (fun r (_ : Unit) => v = .long r) (fun _ t => m_QW en h t) (m_A en)
  | some _ => va_Qi (fun r (_ : Unit) => v = .int r) (fun _ t => m_QW en h t) (m_A en)
def m_rm (k d : Nat) : Room := { frames := m_rk k, cells := d, slots := 512 * d, locals := 64 * m_rk k }
def m_Met (l : Launch) (en : EN) (g : GL) (k : Nat) (as : List Value) (h : HP) (v : Value) (h1 : HP) : Prop := Met l (m_y k) (m_ws k) (m_rm k (hN h1 - hN h)) (va_Pc as (m_PW en g h)) (m_Qk en k v h1) (hN h1 - hN h) (512 * (hN h1 - hN h)) (m_A en)
theorem m_ws_in {k : Nat} (hk : k < m_law) : ∀ w ∈ m_ws k, w ∈ m_GW := by
  have h := md_ok hk
  simp only [m_chM, Bool.and_eq_true] at h
  exact GI_cons (lwi_in h.1)
theorem m_md {k : Nat} (hk : k < m_law) : plainName (m_y k).cls = true ∧ m_ml k ≤ 20 ∧ ((m_y k).cls ≠ "java/lang/invoke/MethodHandle" ∧ (m_y k).cls ≠ "java/lang/invoke/VarHandle") ∧ (m_rt k = none ∨ m_rt k = some .int ∨ m_rt k = some .boolean ∨ m_rt k = some .long) := by
  have h := md_ok hk
  simp only [m_chM, Bool.and_eq_true, decide_eq_true_eq] at h
  exact ⟨h.2.1, h.2.2.1, h.2.2.2.1, h.2.2.2.2⟩
section S5
variable {p : Program} {l : Launch} {e : Env} {R : Room} {s : State} {m : MethodId} {args : Array Value} {below : List Frame} {meth : Method} {c : Code} {Q : State → Prop} {en : EN} {g : GL} {k : Nat}
variable {pc : Nat} {ls : List Value} {ll : List (Nat × Int64)} {st rest : List Value} {h h1 : HP} {v : Value}
theorem w_after {k' : Nat} (hk' : k' < m_law) {H : Heap} {locs : List Loc} {A : Array Slot} {a : Array Value} (hr : va_Run p l e R s m args below meth c H locs (hN h - s.heap.size) (512 * (hN h - s.heap.size)) (hN h1 - hN h) (512 * (hN h1 - hN h)) (F0 m pc A st) rest (m_Qk en k' v h1 a) (m_A en)) (hle : hN h ≤ hN h1) (hN' : s.heap.size ≤ hN h) (hS' : va_S (m_A en) s.heap H locs) (hL : LH (m_ml k) A ls ll)
    (K : m_WK p l e R s m args below meth c Q en k (pc + 3, ls, ll, m_push k' v rest, h1)) : W p l e R s m args below meth c H locs (hN h - s.heap.size) (512 * (hN h - s.heap.size)) Q (F0 m pc A st) := by
  have ec : hN h - s.heap.size + (hN h1 - hN h) = hN h1 - s.heap.size := by omega
  have es : 512 * (hN h - s.heap.size) + 512 * (hN h1 - hN h) = 512 * (hN h1 - s.heap.size) := by omega
  rcases (m_md hk').2.2.2 with h9 | h9 | h9 | h9
  · have e1 : m_Qk en k' v h1 = va_Qv (fun (_ : Unit) => v = .null) (fun _ t => m_QW en h1 t) (m_A en) := by simp only [m_Qk, h9]
    rw [e1] at hr
    refine va_callv hr hS' (fun _ _ z => z) (fun _ z => z) (fun u t H1 locs1 ht hvm hw hB hz1 hk1 hS1 => ?_)
    rw [ec, es]
    have := K H1 locs1 A hL (by rw [← ht]; exact hB.1) hS1 hB.2 (by show _ ≤ hN h1; omega)
    simp only [m_push, h9] at this
    exact this
  · have e1 : m_Qk en k' v h1 = va_Qi (fun r (_ : Unit) => v = .int r) (fun _ t => m_QW en h1 t) (m_A en) := by simp only [m_Qk, h9]
    rw [e1] at hr
    refine va_calli hr hS' (fun _ _ z => z) (fun _ z => z) (fun r u t H1 locs1 ht hvm hw hB hz1 hk1 hS1 => ?_)
    rw [ec, es]
    have := K H1 locs1 A hL (by rw [← ht]; exact hB.1) hS1 hB.2 (by show _ ≤ hN h1; omega)
    simp only [m_push, h9] at this
    rw [hw] at this
    exact this
  · have e1 : m_Qk en k' v h1 = va_Qi (fun r (_ : Unit) => v = .int r) (fun _ t => m_QW en h1 t) (m_A en) := by simp only [m_Qk, h9]
    rw [e1] at hr
    refine va_calli hr hS' (fun _ _ z => z) (fun _ z => z) (fun r u t H1 locs1 ht hvm hw hB hz1 hk1 hS1 => ?_)
    rw [ec, es]
    have := K H1 locs1 A hL (by rw [← ht]; exact hB.1) hS1 hB.2 (by show _ ≤ hN h1; omega)
    simp only [m_push, h9] at this
    rw [hw] at this
    exact this
  · have e1 : m_Qk en k' v h1 = va_Ql (fun r (_ : Unit) => v = .long r) (fun _ t => m_QW en h1 t) (m_A en) := by simp only [m_Qk, h9]
    rw [e1] at hr
    refine va_calll hr hS' (fun _ _ z => z) (fun _ z => z) (fun r u t H1 locs1 ht hvm hw hB hz1 hk1 hS1 => ?_)
    rw [ec, es]
    have := K H1 locs1 A hL (by rw [← ht]; exact hB.1) hS1 hB.2 (by show _ ≤ hN h1; omega)
    simp only [m_push, h9] at this
    rw [hw] at this
    exact this
/-- how great the heap is, wherever the walk stands -/
theorem w_sized {H : Heap} {locs : List Loc} {fr : JFrame} (hN' : s.heap.size ≤ hN h) (hB : en.1 ≤ s.heap.size) (hP : va_P en.2.1 vwCl (m_wl en h) H) (hS' : va_S (m_A en) s.heap H locs) (kk : H.size = hN h → W p l e R s m args below meth c H locs (hN h - s.heap.size) (512 * (hN h - s.heap.size)) Q fr) : W p l e R s m args below meth c H locs (hN h - s.heap.size) (512 * (hN h - s.heap.size)) Q fr := by
  intro T hT X
  have hsz := X.heapSize
  rw [hT] at hsz
  have hge : hN h ≤ H.size := by
    rcases Nat.lt_or_ge s.heap.size (hN h) with z | z
    · have := (wl_P hP (a := hN h - 1) (by omega) (by omega)).lt
      simp only at this
      omega
    · exact Nat.le_trans z hS'.1
  exact kk (by omega) T hT X
theorem w_pre {H : Heap} {locs : List Loc} (F : m_FR p R s m args meth c en g k) (hP : va_P en.2.1 vwCl (m_wl en h) H) (hS' : va_S (m_A en) s.heap H locs) (hW : m_WF en h) (hsz : H.size = hN h) {U : State} (hU : U.heap = H) (hwarm : s.WarmedH U.vm) : m_PW en g h U := by
  obtain ⟨hx, hb, hml, hown, htk, hts, hnm, hK, hNW, hAO, hSX, hB, hRf, hRl, hkK, hlaw⟩ := F
  exact ⟨by rw [hU]; exact hP, va_K.moved hwarm.alike hK, m_nw_warm hwarm hNW, va_AO.moved hwarm.alike hAO, by rw [hU]; exact hSX.go hwarm hS'.2.1, hW, by rw [hU]; exact hsz⟩
theorem m_blind {as : List Value} : FrameBlind (va_Pc as (m_PW en g h)) := fun a U gg mk q => ⟨q.1, m_PW.same (u := U) (U := U.calling gg mk a) rfl rfl q.2⟩
theorem m_np_ok {y : MethodName} {n : Nat} (hn : m_np y n = true) : (parseMethodDescriptor y.desc).map (fun d => d.parameters.length) = some n := by simpa [m_np] using hn
theorem w_room {k' : Nat} (F : m_FR p R s m args meth c en g k) (hk' : k' < m_law) (hrk : m_rk k' < m_rk k) {d : Nat} : (m_rm k' d).frames + 1 ≤ R.frames ∧ 8 + (m_ml k' + 11) + (m_rm k' d).locals ≤ R.locals := by
  obtain ⟨hx, hb, hml, hown, htk, hts, hnm, hK, hNW, hAO, hSX, hB, hRf, hRl, hkK, hlaw⟩ := F
  have hml20 := (m_md hk').2.1
  simp only [m_rm]
  omega
/-- a call of one of the methods -/
theorem w_call (F : m_FR p R s m args meth c en g k) {x : m_ce} (hx9 : x ∈ m_cl k) {idx n : Nat} {as : List Value} (hkd : (x.2.2.1 = 3 ∨ x.2.2.1 = 4) ∧ decode (m_cd k) pc = .ok (.invokestatic idx, 3) ∧ n = x.2.2.2.2.2.1 ∨ (x.2.2.1 = 5 ∨ x.2.2.1 = 6) ∧ decode (m_cd k) pc = .ok (.invokespecial idx, 3) ∧ n = x.2.2.2.2.2.1 + 1 ∧ (∃ b As, as = .ref b :: As) ∨ (x.2.2.1 = 1 ∨ x.2.2.1 = 2) ∧ decode (m_cd k) pc = .ok (.invokevirtual idx, 3) ∧ n = x.2.2.2.2.2.1 + 1 ∧ ∃ b As, as = .ref b :: As ∧ hS h b = (0, x.2.1)) (hid : x.2.2.2.2.1 = idx)
    (hst : st = as.reverse ++ rest) (hn : as.length = n) (hr4 : rest.length ≤ 4) (hle : hN h ≤ hN h1) (hcap : hN h1 - s.heap.size ≤ R.cells ∧ 512 * (hN h1 - s.heap.size) ≤ R.slots)
    (hM : x.2.2.2.1 < m_law → m_Met l en g x.2.2.2.1 as h v h1) (K : m_WK p l e R s m args below meth c Q en k (pc + 3, ls, ll, m_push x.2.2.2.1 v rest, h1)) : m_WK p l e R s m args below meth c Q en k (pc, ls, ll, st, h) := by
  have F0' := F
  obtain ⟨hx, hb, hml, hown, htk, hts, hnm, hK, hNW, hAO, hSX, hB, hRf, hRl, hkK, hlaw⟩ := F
  have hch := cl_ok hkK hx9
  obtain ⟨pc0, ci, kd, k', idx', n', xx, hs⟩ := x
  simp only at hkd hid hM K
  subst hid
  intro H locs A hL hP hS' hW hN'
  have hP : va_P en.2.1 vwCl (m_wl en h) H := hP
  have hW : m_WF en h := hW
  have hN' : s.heap.size ≤ hN h := hN'
  show W p l e R s m args below meth c H locs (hN h - s.heap.size) (512 * (hN h - s.heap.size)) Q (F0 m pc A st)
  refine w_sized hN' hB hP hS' (fun hsz => ?_)
  have hroom := w_sum hr4
  have hcp : hN h - s.heap.size + (hN h1 - hN h) ≤ R.cells ∧ 512 * (hN h - s.heap.size) + 512 * (hN h1 - hN h) ≤ R.slots := by omega
  have hsz2 : A.size = m_ml k := hL.1.1
  rcases hkd with ⟨hkd, hd, hn'⟩ | ⟨hkd, hd, hn', b, As, has⟩ | ⟨hkd, hd, hn', b, As, has, hbS⟩
  · rcases hkd with rfl | rfl
    · simp only [m_chC, Bool.and_eq_true, decide_eq_true_eq] at hch
      obtain ⟨⟨hk', hrk⟩, q1, q2, q3, q4⟩ := hch
      have hGI : GoodIn m_T0 (va_wsS (m_y k).cls idx' (m_y k') (m_ws k')) := GI (GI_app (fun w hw => by
        simp only [List.mem_cons, List.not_mem_nil, or_false] at hw
        rcases hw with rfl | rfl | rfl
        · exact lwi_in q1
        · exact lwi_in q2
        · exact lwi_in q3) (m_ws_in hk'))
      have hd9 := (m_md hk').2.2.1
      exact w_after hk' (va_runS (As := as) (rest := rest) ⟨hx, hb, hml, hown, htk⟩ (hM hk') (va_cwS n' htk hGI rfl rfl rfl ⟨hd9.1, hd9.2, m_np_ok q4⟩ (w_room F0' hk' hrk)) ⟨m_blind, fun U hU hwm => ⟨rfl, w_pre F0' hP hS' hW hsz hU hwm⟩⟩ rfl (by omega) hsz2 hst (lv_room hroom) hd hcp) hle hN' hS' hL K
    · simp only [m_chC, Bool.and_eq_true, decide_eq_true_eq] at hch
      obtain ⟨⟨hk', hrk⟩, q1, q2, q3, q4⟩ := hch
      have hd9 := (m_md hk').2.2.1
      exact w_after hk' (va_runSN (As := as) (rest := rest) ⟨hx, hb, hml, hown, htk⟩ (hM hk') ⟨va_cnB n' htk (GI (m_ws_in hk')) rfl rfl rfl (hNW _ (List.mem_of_getElem? q1)) (hts _ (lwi_in q3)) ⟨hd9.1, hd9.2, m_np_ok q4⟩ (w_room F0' hk' hrk), hts _ (lwi_in q2), trivial⟩ ⟨m_blind, fun U hU hwm => ⟨rfl, w_pre F0' hP hS' hW hsz hU hwm⟩⟩ rfl (by omega) hsz2 hst (lv_room hroom) hd hcp) hle hN' hS' hL K
  · subst has
    rcases hkd with rfl | rfl
    · simp only [m_chC, Bool.and_eq_true, decide_eq_true_eq] at hch
      obtain ⟨⟨hk', hrk⟩, q1, q2, q3, ⟨q5, q6⟩, q4⟩ := hch
      have hd9 := (m_md hk').2.2.1
      have hM' := hM hk'
      have hwk : m_ws k' = .code (m_y k') (m_cd k') (m_ml k') none :: m_GW := by simp only [m_ws, q6]
      exact w_after hk' (va_runI (As := As) (b := b) (rest := rest) ⟨hx, hb, hml, hown, htk⟩ hM' (cwI n' htk (GI (m_ws_in hk')) hwk rfl rfl (hts _ (lwi_in q3)) (hts _ (lwi_in q1)) (hts _ (lwi_in q2)) q5 ⟨hd9.1, hd9.2, m_np_ok q4⟩ (w_room F0' hk' hrk)) ⟨m_blind, fun U hU hwm => ⟨rfl, w_pre F0' hP hS' hW hsz hU hwm⟩⟩ rfl (by simp at hn; omega) hsz2 (by rw [hst]; simp) (lv_room hroom) hd hcp) hle hN' hS' hL K
    · simp only [m_chC, Bool.and_eq_true, decide_eq_true_eq] at hch
      obtain ⟨⟨hk', hrk⟩, q1, q2, q3, ⟨q5, q6⟩, q4⟩ := hch
      have hd9 := (m_md hk').2.2.1
      have hM' := hM hk'
      have hwk : m_ws k' = .code (m_y k') (m_cd k') (m_ml k') none :: m_GW := by simp only [m_ws, q6]
      exact w_after hk' (va_runIN (As := As) (b := b) (rest := rest) ⟨hx, hb, hml, hown, htk⟩ hM' ⟨va_cnB n' htk (GI (m_ws_in hk')) hwk rfl rfl (hNW _ (List.mem_of_getElem? q1)) (hts _ (lwi_in q3)) ⟨hd9.1, hd9.2, m_np_ok q4⟩ (w_room F0' hk' hrk), q5, hts _ (lwi_in q2)⟩ ⟨m_blind, fun U hU hwm => ⟨rfl, w_pre F0' hP hS' hW hsz hU hwm⟩⟩ rfl (by simp at hn; omega) hsz2 (by rw [hst]; simp) (lv_room hroom) hd hcp) hle hN' hS' hL K
  · subst has
    have hb0 : (hS h b).1 = 0 := by rw [hbS]
    obtain ⟨hb1, hb2⟩ := hW.2 b (by omega)
    have he := wl_at (en := en) hb1 hb2
    rw [E0 hb0, hbS] at he
    rcases hkd with rfl | rfl
    · simp only [m_chC, m_ch1] at hch
      split at hch
      · simp at hch
      · rename_i q hq
        simp only [Bool.and_eq_true, decide_eq_true_eq] at hch
        obtain ⟨⟨hk', hrk⟩, q0, q1, q2, q3, q5, q4⟩ := hch
        have hd9 := (m_md hk').2.2.1
        have hGI : GoodIn m_T0 (wsV (m_y k).cls idx' q.1 (m_y k') (m_ws k')) := GI (GI_app (fun w hw => by
          simp only [List.mem_cons, List.not_mem_nil, or_false] at hw
          rcases hw with rfl | rfl | rfl | rfl
          · exact lwi_in q1
          · exact lwi_in q2
          · exact lwi_in q3
          · exact lwi_in q5) (m_ws_in hk'))
        exact w_after hk' (va_runV (As := As) (b := b) (rest := rest) ⟨hx, hb, hml, hown, htk⟩ (hM hk') (cwV n' htk hGI rfl rfl rfl ⟨q0, hd9.1, hd9.2, m_np_ok q4⟩ (w_room F0' hk' hrk)) ⟨m_blind, va_recv hK hP hq he, fun U hU hwm => ⟨rfl, w_pre F0' hP hS' hW hsz hU hwm⟩⟩ rfl (by simp at hn; omega) hsz2 (by rw [hst]; simp) (lv_room hroom) hd hcp) hle hN' hS' hL K
    · simp only [m_chC, m_ch2] at hch
      split at hch
      · simp at hch
      · rename_i q hq
        simp only [Bool.and_eq_true, decide_eq_true_eq] at hch
        obtain ⟨⟨hk', hrk⟩, ⟨q0, q0'⟩, q1, q2, q3, q5, q6, q4⟩ := hch
        have hd9 := (m_md hk').2.2.1
        have hGI : GoodIn m_T0 (va_wsU (m_y k).cls idx' q.1 (m_y k').cls xx (m_y k') (m_ws k')) := GI (GI_app (fun w hw => by
          simp only [List.mem_cons, List.not_mem_nil, or_false] at hw
          rcases hw with rfl | rfl | rfl | rfl | rfl
          · exact lwi_in q1
          · exact lwi_in q2
          · exact lwi_in q3
          · exact lwi_in q5
          · exact lwi_in q6) (m_ws_in hk'))
        have hyx : m_y k' = ⟨(m_y k').cls, xx.name, xx.desc⟩ := by rw [← q0, ← q0']
        exact w_after hk' (va_runU (As := As) (b := b) (rest := rest) ⟨hx, hb, hml, hown, htk⟩ (hM hk') (va_cwU n' htk hGI rfl rfl rfl hyx ⟨hd9.1, hd9.2, m_np_ok q4⟩ (w_room F0' hk' hrk)) ⟨m_blind, va_recv hK hP hq he, fun U hU hwm => ⟨rfl, w_pre F0' hP hS' hW hsz hU hwm⟩⟩ rfl (by simp at hn; omega) hsz2 (by rw [hst]; simp) (lv_room hroom) hd hcp) hle hN' hS' hL K
end S5

/-! the steps that touch no cell -/
theorem lokE {i : Instr} {len n : Nat} (hl : m_lok i len = true) (hn : m_len i = n) (h0 : n ≠ 0) : len = n := by
  subst hn
  simp only [m_lok, Bool.or_eq_true, beq_iff_eq] at hl
  rcases hl with h | h
  · exact absurd h h0
  · exact h.symm
theorem nx_inj {a : Nat} {b : List Value} {c : List (Nat × Int64)} {d : List Value} {x : HP} {f : CF} (h : nx_ a b c d x = some (.inl f)) : f = (a, b, c, d, x) := by
  simp only [nx_, Option.some.injEq, Sum.inl.injEq] at h
  exact h.symm
theorem lok1 {i : Instr} {len : Nat} (hl : m_lok i len = true) (hn : m_len i = 1) : len = 1 := lokE hl hn (by decide)
theorem lok2 {i : Instr} {len : Nat} (hl : m_lok i len = true) (hn : m_len i = 2) : len = 2 := lokE hl hn (by decide)
theorem lok3 {i : Instr} {len : Nat} (hl : m_lok i len = true) (hn : m_len i = 3) : len = 3 := lokE hl hn (by decide)
section S2
variable {p : Program} {l : Launch} {e : Env} {R : Room} {s : State} {m : MethodId} {args : Array Value} {below : List Frame} {meth : Method} {c : Code} {Q : State → Prop} {en : EN} {g : GL} {k : Nat}
variable {pc : Nat} {len : Nat} {ls : List Value} {ll : List (Nat × Int64)} {st : List Value} {h : HP} {f : CF}
theorem w_ldi (F : m_FR p R s m args meth c en g k) {i pc' : Nat} (hrow : ∀ {H : Heap} {locs : List Loc} {A : Array Slot} {cells slots : Nat} {x : Int32}, A[i]? = some (.val (.int x)) → W p l e R s m args below meth c H locs cells slots Q (F0 m pc' A (.int x :: st)) → W p l e R s m args below meth c H locs cells slots Q (F0 m pc A st))
    (hs : m_ldi pc' i ls ll st h = some (.inl f)) (K : m_WK p l e R s m args below meth c Q en k f) : m_WK p l e R s m args below meth c Q en k (pc, ls, ll, st, h) := by
  unfold m_ldi at hs
  split at hs
  · rename_i x hx
    obtain rfl := nx_inj hs
    intro H locs A hL hP hS hW hN
    exact hrow (hL.at hx (by simp [m_D])) (K H locs A hL hP hS hW hN)
  · simp at hs
theorem w_lda (F : m_FR p R s m args meth c en g k) {i pc' : Nat} (hrow : ∀ {H : Heap} {locs : List Loc} {A : Array Slot} {cells slots : Nat} {x : Nat}, A[i]? = some (.val (.ref x)) → W p l e R s m args below meth c H locs cells slots Q (F0 m pc' A (.ref x :: st)) → W p l e R s m args below meth c H locs cells slots Q (F0 m pc A st))
    (hrowN : ∀ {H : Heap} {locs : List Loc} {A : Array Slot} {cells slots : Nat}, A[i]? = some (.val .null) → W p l e R s m args below meth c H locs cells slots Q (F0 m pc' A (.null :: st)) → W p l e R s m args below meth c H locs cells slots Q (F0 m pc A st))
    (hs : m_lda pc' i ls ll st h = some (.inl f)) (K : m_WK p l e R s m args below meth c Q en k f) : m_WK p l e R s m args below meth c Q en k (pc, ls, ll, st, h) := by
  unfold m_lda at hs
  split at hs
  · rename_i x hx
    obtain rfl := nx_inj hs
    intro H locs A hL hP hS hW hN
    exact hrow (hL.at hx (by simp [m_D])) (K H locs A hL hP hS hW hN)
  · rename_i hx
    obtain rfl := nx_inj hs
    intro H locs A hL hP hS hW hN
    exact hrowN (hL.at hx (by simp [m_D])) (K H locs A hL hP hS hW hN)
  · simp at hs
theorem w_ldl (F : m_FR p R s m args meth c en g k) {i pc' : Nat} (hrow : ∀ {H : Heap} {locs : List Loc} {A : Array Slot} {cells slots : Nat} {x : Int64}, A[i]? = some (.val (.long x)) → W p l e R s m args below meth c H locs cells slots Q (F0 m pc' A (.long x :: st)) → W p l e R s m args below meth c H locs cells slots Q (F0 m pc A st))
    (hs : m_ldl pc' i ls ll st h = some (.inl f)) (K : m_WK p l e R s m args below meth c Q en k f) : m_WK p l e R s m args below meth c Q en k (pc, ls, ll, st, h) := by
  unfold m_ldl at hs
  split at hs
  · rename_i x hx
    obtain rfl := nx_inj hs
    intro H locs A hL hP hS hW hN
    exact hrow (hL.lat hx) (K H locs A hL hP hS hW hN)
  · simp at hs
theorem w_sti (F : m_FR p R s m args meth c en g k) {i pc' : Nat} (hrow : ∀ {H : Heap} {locs : List Loc} {A : Array Slot} {cells slots : Nat} {x : Int32} {r : List Value} {lv : List (Nat × Value)}, lv_has A (m_ml k) lv → i < m_ml k → (∀ A', lv_has A' (m_ml k) ((i, .int x) :: lv.filter (fun q => !(q.1 == i) && !(q.1 + 1 == i && q.2.category == 2))) → W p l e R s m args below meth c H locs cells slots Q (F0 m pc' A' r)) → W p l e R s m args below meth c H locs cells slots Q (F0 m pc A (.int x :: r)))
    (hs : m_sti pc' i ls ll st h = some (.inl f)) (K : m_WK p l e R s m args below meth c Q en k f) : m_WK p l e R s m args below meth c Q en k (pc, ls, ll, st, h) := by
  unfold m_sti at hs
  split at hs
  · rename_i x r
    split at hs
    · rename_i hi
      obtain rfl := nx_inj hs
      intro H locs A hL hP hS hW hN
      have hi' : i < m_ml k := by rw [← hL.2.1]; exact hi
      exact hrow hL.1 hi' (fun A' hA' => K H locs A' (hL.st1 hi' rfl hA') hP hS hW hN)
    · simp at hs
  · simp at hs
theorem w_sta (F : m_FR p R s m args meth c en g k) {i pc' : Nat} (hrow : ∀ {H : Heap} {locs : List Loc} {A : Array Slot} {cells slots : Nat} {x : Nat} {r : List Value} {lv : List (Nat × Value)}, lv_has A (m_ml k) lv → i < m_ml k → (∀ A', lv_has A' (m_ml k) ((i, .ref x) :: lv.filter (fun q => !(q.1 == i) && !(q.1 + 1 == i && q.2.category == 2))) → W p l e R s m args below meth c H locs cells slots Q (F0 m pc' A' r)) → W p l e R s m args below meth c H locs cells slots Q (F0 m pc A (.ref x :: r)))
    (hrowN : ∀ {H : Heap} {locs : List Loc} {A : Array Slot} {cells slots : Nat} {r : List Value} {lv : List (Nat × Value)}, lv_has A (m_ml k) lv → i < m_ml k → (∀ A', lv_has A' (m_ml k) ((i, .null) :: lv.filter (fun q => !(q.1 == i) && !(q.1 + 1 == i && q.2.category == 2))) → W p l e R s m args below meth c H locs cells slots Q (F0 m pc' A' r)) → W p l e R s m args below meth c H locs cells slots Q (F0 m pc A (.null :: r)))
    (hs : m_sta pc' i ls ll st h = some (.inl f)) (K : m_WK p l e R s m args below meth c Q en k f) : m_WK p l e R s m args below meth c Q en k (pc, ls, ll, st, h) := by
  unfold m_sta at hs
  split at hs
  · rename_i x r
    split at hs
    · rename_i hi
      obtain rfl := nx_inj hs
      intro H locs A hL hP hS hW hN
      have hi' : i < m_ml k := by rw [← hL.2.1]; exact hi
      exact hrow hL.1 hi' (fun A' hA' => K H locs A' (hL.st1 hi' rfl hA') hP hS hW hN)
    · simp at hs
  · rename_i r
    split at hs
    · rename_i hi
      obtain rfl := nx_inj hs
      intro H locs A hL hP hS hW hN
      have hi' : i < m_ml k := by rw [← hL.2.1]; exact hi
      exact hrowN hL.1 hi' (fun A' hA' => K H locs A' (hL.st1 hi' rfl hA') hP hS hW hN)
    · simp at hs
  · simp at hs
theorem w_stl (F : m_FR p R s m args meth c en g k) {i pc' : Nat} (hrow : ∀ {H : Heap} {locs : List Loc} {A : Array Slot} {cells slots : Nat} {x : Int64} {r : List Value} {lv : List (Nat × Value)}, lv_has A (m_ml k) lv → i + 1 < m_ml k → (∀ A', lv_has A' (m_ml k) ((i, .long x) :: lv.filter (fun q => !(q.1 == i) && (!(q.1 == i + 1) && !(q.1 + 1 == i && q.2.category == 2)))) → W p l e R s m args below meth c H locs cells slots Q (F0 m pc' A' r)) → W p l e R s m args below meth c H locs cells slots Q (F0 m pc A (.long x :: r)))
    (hs : m_stl pc' i ls ll st h = some (.inl f)) (K : m_WK p l e R s m args below meth c Q en k f) : m_WK p l e R s m args below meth c Q en k (pc, ls, ll, st, h) := by
  unfold m_stl at hs
  split at hs
  · rename_i x r
    split at hs
    · rename_i hi
      obtain rfl := nx_inj hs
      intro H locs A hL hP hS hW hN
      have hi' : i + 1 < m_ml k := by rw [← hL.2.1]; exact hi
      exact hrow hL.1 hi' (fun A' hA' => K H locs A' (hL.st2 hi' hA') hP hS hW hN)
    · simp at hs
  · simp at hs
theorem w_bi {op : Int32 → Int32 → Int32} (hrow : ∀ {H : Heap} {locs : List Loc} {A : Array Slot} {cells slots : Nat} {x y : Int32} {r : List Value}, W p l e R s m args below meth c H locs cells slots Q (F0 m (pc + 1) A (.int (op x y) :: r)) → W p l e R s m args below meth c H locs cells slots Q (F0 m pc A (.int y :: .int x :: r)))
    (hs : m_bi op pc ls ll st h = some (.inl f)) (K : m_WK p l e R s m args below meth c Q en k f) : m_WK p l e R s m args below meth c Q en k (pc, ls, ll, st, h) := by
  unfold m_bi at hs
  split at hs
  · rename_i y x r
    obtain rfl := nx_inj hs
    intro H locs A hL hP hS hW hN
    exact hrow (K H locs A hL hP hS hW hN)
  · simp at hs
theorem w_bl {op : Int64 → Int64 → Int64} (hrow : ∀ {H : Heap} {locs : List Loc} {A : Array Slot} {cells slots : Nat} {x y : Int64} {r : List Value}, W p l e R s m args below meth c H locs cells slots Q (F0 m (pc + 1) A (.long (op x y) :: r)) → W p l e R s m args below meth c H locs cells slots Q (F0 m pc A (.long y :: .long x :: r)))
    (hs : m_bl op pc ls ll st h = some (.inl f)) (K : m_WK p l e R s m args below meth c Q en k f) : m_WK p l e R s m args below meth c Q en k (pc, ls, ll, st, h) := by
  unfold m_bl at hs
  split at hs
  · rename_i y x r
    obtain rfl := nx_inj hs
    intro H locs A hL hP hS hW hN
    exact hrow (K H locs A hL hP hS hW hN)
  · simp at hs
theorem goto_inv {o : Int} {r : List Value} (hs : m_goto pc o ls ll r h = some (.inl f)) : ∃ t : Nat, (pc : Int) + o = (t : Int) ∧ f = (t, ls, ll, r, h) := by
  unfold m_goto at hs
  split at hs
  · rename_i h0
    exact ⟨((pc : Int) + o).toNat, by omega, nx_inj hs⟩
  · simp at hs
theorem m_is1_cat {v : Value} (h : m_is1 v = true) : v.category = 1 := by cases v <;> first | rfl | (simp [m_is1] at h)
/-- what instruction moves no cell -/
def m_pure : Instr → Bool
  | .getfield _ => false
  | .putfield _ => false
  | .iaload => false
  | .baload => false
  | .aaload => false
  | .iastore => false
  | .bastore => false
  | .aastore => false
  | .arraylength => false
  | .newarray _ => false
  | .anewarray _ => false
  | .new _ => false
  | .invokestatic _ => false
  | .invokespecial _ => false
  | .invokevirtual _ => false
  | .ireturn => false
  | .lreturn => false
  | .return_ => false
  | .ldc _ => false
  | _ => true
set_option maxHeartbeats 4000000 in
theorem w_pure (F : m_FR p R s m args meth c en g k) {i : Instr} (hi : m_pure i = true) (hd : decode (m_cd k) pc = .ok (i, len)) (hl : m_lok i len = true) (hs : stepI g k pc i ls ll st h = some (.inl f)) (K : m_WK p l e R s m args below meth c Q en k f) : m_WK p l e R s m args below meth c Q en k (pc, ls, ll, st, h) := by
  have F0' := F
  obtain ⟨hx, hb, hml, hown, htk, hts, hnm, hK, hNW, hAO, hSX, hB, hRf, hRl, hkK, hlaw⟩ := F
  have hoc := oc_ok k hkK
  unfold stepI at hs
  split at hs
  · obtain rfl := lok1 hl rfl
    obtain rfl := nx_inj hs
    intro H locs A hL hP hS hW hN
    exact lv_iconst hx hb hd rfl (K H locs A hL hP hS hW hN)
  · obtain rfl := lok2 hl rfl
    obtain rfl := nx_inj hs
    intro H locs A hL hP hS hW hN
    exact lv_bipush hx hb hd rfl (K H locs A hL hP hS hW hN)
  · obtain rfl := lok3 hl rfl
    obtain rfl := nx_inj hs
    intro H locs A hL hP hS hW hN
    exact lv_sipush hx hb hd rfl (K H locs A hL hP hS hW hN)
  · obtain rfl := lok1 hl rfl
    obtain rfl := nx_inj hs
    intro H locs A hL hP hS hW hN
    exact lv_lconst hx hb hd rfl (K H locs A hL hP hS hW hN)
  · simp [m_pure] at hi
  · obtain rfl := lok3 hl rfl
    split at hs
    · rename_i idx q hq
      obtain rfl := nx_inj hs
      intro H locs A hL hP hS hW hN
      have h1 := List.all_eq_true.mp (ki_ok _ hoc.1) _ (List.mem_of_find?_eq_some hq)
      have h2 := List.find?_some hq
      simp only [beq_iff_eq] at h2
      rw [h2, ← hoc.2] at h1
      exact lv_ldcw hx hb hown (hts _ (lwi_in h1)) hd (K H locs A hL hP hS hW hN)
    · simp at hs
  · obtain rfl := lok3 hl rfl
    split at hs
    · rename_i idx q hq
      obtain rfl := nx_inj hs
      intro H locs A hL hP hS hW hN
      have h1 := List.all_eq_true.mp (kl_ok _ hoc.1) _ (List.mem_of_find?_eq_some hq)
      have h2 := List.find?_some hq
      simp only [beq_iff_eq] at h2
      rw [h2, ← hoc.2] at h1
      exact lv_ldc2 hx hb hown (hts _ (lwi_in h1)) hd (K H locs A hL hP hS hW hN)
    · simp at hs
  · obtain rfl := lok1 hl rfl
    exact w_ldi F0' (fun ha hk => lv_iload_n hx hb hd rfl ha hk) hs K
  · obtain rfl := lok2 hl rfl
    exact w_ldi F0' (fun ha hk => lv_iload hx hb hd ha hk) hs K
  · obtain rfl := lok1 hl rfl
    exact w_lda F0' (fun ha hk => lv_aload_n hx hb hd rfl ha hk) (fun ha hk => lv_aload_nN hx hb hd rfl ha hk) hs K
  · obtain rfl := lok1 hl rfl
    exact w_ldl F0' (fun ha hk => lv_lload_n hx hb hd rfl ha hk) hs K
  · obtain rfl := lok2 hl rfl
    exact w_ldl F0' (fun ha hk => lv_lload hx hb hd ha hk) hs K
  · obtain rfl := lok1 hl rfl
    exact w_sti F0' (fun ha hn hk => lv_istore_n hx hb hd rfl ha hn rfl hk) hs K
  · obtain rfl := lok2 hl rfl
    exact w_sti F0' (fun ha hn hk => lv_istore hx hb hd ha hn rfl hk) hs K
  · obtain rfl := lok1 hl rfl
    exact w_sta F0' (fun ha hn hk => lv_astore_n hx hb hd rfl ha hn rfl hk) (fun ha hn hk => lv_astore_nN hx hb hd rfl ha hn rfl hk) hs K
  · obtain rfl := lok1 hl rfl
    exact w_stl F0' (fun ha hn hk => lv_lstore_n hx hb hd rfl ha hn rfl hk) hs K
  · obtain rfl := lok2 hl rfl
    exact w_stl F0' (fun ha hn hk => lv_lstore hx hb hd ha hn rfl hk) hs K
  · obtain rfl := lok3 hl rfl
    split at hs
    · rename_i x hx9
      obtain rfl := nx_inj hs
      intro H locs A hL hP hS hW hN
      have hj := hL.2.1 ▸ (List.getElem?_eq_some_iff.mp hx9).1
      obtain ⟨kk, hkk⟩ := List.getElem?_of_mem (toA_ls (ll := ll) hx9 (show Value.int x ≠ m_D by simp [m_D]))
      exact lv_iinc hx hb hd hL.1 hkk rfl hj rfl (fun A' hA' => K H locs A' (hL.st1 hj rfl hA') hP hS hW hN)
    · simp at hs
  · obtain rfl := lok1 hl rfl
    exact w_bi (fun hk => lv_iadd hx hb hd hk) hs K
  · obtain rfl := lok1 hl rfl
    exact w_bi (fun hk => lv_isub hx hb hd hk) hs K
  · obtain rfl := lok1 hl rfl
    exact w_bi (fun hk => lv_imul hx hb hd hk) hs K
  · obtain rfl := lok1 hl rfl
    exact w_bi (fun hk => lv_iand hx hb hd hk) hs K
  · obtain rfl := lok1 hl rfl
    exact w_bi (fun hk => lv_ior hx hb hd hk) hs K
  · obtain rfl := lok1 hl rfl
    exact w_bi (fun hk => lv_ixor hx hb hd hk) hs K
  · obtain rfl := lok1 hl rfl
    exact w_bi (fun hk => lv_ishl hx hb hd hk) hs K
  · obtain rfl := lok1 hl rfl
    exact w_bi (fun hk => lv_ishr hx hb hd hk) hs K
  · obtain rfl := lok1 hl rfl
    exact w_bi (fun hk => lv_iushr hx hb hd rfl hk) hs K
  · obtain rfl := lok1 hl rfl
    split at hs
    · split at hs
      · simp at hs
      · rename_i hy
        obtain rfl := nx_inj hs
        intro H locs A hL hP hS hW hN
        exact lv_idiv hx hb hd hy (K H locs A hL hP hS hW hN)
    · simp at hs
  · obtain rfl := lok1 hl rfl
    split at hs
    · split at hs
      · simp at hs
      · rename_i hy
        obtain rfl := nx_inj hs
        intro H locs A hL hP hS hW hN
        exact lv_irem hx hb hd hy (K H locs A hL hP hS hW hN)
    · simp at hs
  · obtain rfl := lok1 hl rfl
    exact w_bl (fun hk => lv_ladd hx hb hd hk) hs K
  · obtain rfl := lok1 hl rfl
    exact w_bl (fun hk => lv_lmul hx hb hd hk) hs K
  · obtain rfl := lok1 hl rfl
    split at hs
    · split at hs
      · simp at hs
      · rename_i hy
        obtain rfl := nx_inj hs
        intro H locs A hL hP hS hW hN
        exact lv_ldiv hx hb hd hy (K H locs A hL hP hS hW hN)
    · simp at hs
  · obtain rfl := lok1 hl rfl
    split at hs
    · split at hs
      · simp at hs
      · rename_i hy
        obtain rfl := nx_inj hs
        intro H locs A hL hP hS hW hN
        exact lv_lrem hx hb hd hy (K H locs A hL hP hS hW hN)
    · simp at hs
  · obtain rfl := lok1 hl rfl
    split at hs
    · obtain rfl := nx_inj hs
      intro H locs A hL hP hS hW hN
      exact W.lcmp hx hb hd (K H locs A hL hP hS hW hN)
    · simp at hs
  · obtain rfl := lok1 hl rfl
    split at hs
    · obtain rfl := nx_inj hs
      intro H locs A hL hP hS hW hN
      exact lv_i2l hx hb hd rfl (K H locs A hL hP hS hW hN)
    · simp at hs
  · obtain rfl := lok1 hl rfl
    split at hs
    · obtain rfl := nx_inj hs
      intro H locs A hL hP hS hW hN
      exact lv_l2i hx hb hd rfl (K H locs A hL hP hS hW hN)
    · simp at hs
  · obtain rfl := lok1 hl rfl
    split at hs
    · obtain rfl := nx_inj hs
      intro H locs A hL hP hS hW hN
      exact lv_i2b hx hb hd rfl (K H locs A hL hP hS hW hN)
    · simp at hs
  · obtain rfl := lok1 hl rfl
    split at hs
    · split at hs
      · rename_i hv
        obtain rfl := nx_inj hs
        intro H locs A hL hP hS hW hN
        exact lv_dup hx hb hd (m_is1_cat hv) (K H locs A hL hP hS hW hN)
      · simp at hs
    · simp at hs
  · obtain rfl := lok1 hl rfl
    split at hs
    · split at hs
      · rename_i hv
        obtain rfl := nx_inj hs
        intro H locs A hL hP hS hW hN
        exact lv_pop hx hb hd (m_is1_cat hv) (K H locs A hL hP hS hW hN)
      · simp at hs
    · simp at hs
  · obtain rfl := lok1 hl rfl
    split at hs
    · split at hs
      · rename_i hv
        obtain rfl := nx_inj hs
        intro H locs A hL hP hS hW hN
        exact lv_dup2_11 hx hb hd (m_is1_cat hv.1) (m_is1_cat hv.2) (K H locs A hL hP hS hW hN)
      · simp at hs
    · simp at hs
  · obtain rfl := lok3 hl rfl
    obtain ⟨t, ht, rfl⟩ := goto_inv hs
    intro H locs A hL hP hS hW hN
    exact lv_goto hx hb hd ht (K H locs A hL hP hS hW hN)
  · obtain rfl := lok3 hl rfl
    rename_i cnd o
    split at hs
    · rename_i x r
      split at hs
      · rename_i h0
        have ht : (pc : Int) + o = ((((pc : Int) + o).toNat : Nat) : Int) := by omega
        split at hs
        · rename_i hc
          obtain rfl := nx_inj hs
          intro H locs A hL hP hS hW hN
          cases cnd <;> simp only [m_c1, decide_eq_true_eq] at hc
          · exact lv_if_eq hx hb hd ht (fun _ => K H locs A hL hP hS hW hN) (fun z => absurd hc z)
          · exact lv_if_ne hx hb hd ht (fun _ => K H locs A hL hP hS hW hN) (fun z => absurd z hc)
          · exact lv_if_lt hx hb hd ht (fun _ => K H locs A hL hP hS hW hN) (fun z => absurd hc z)
          · exact lv_if_ge hx hb hd ht (fun _ => K H locs A hL hP hS hW hN) (fun z => absurd hc z)
          · exact lv_if_gt hx hb hd ht (fun _ => K H locs A hL hP hS hW hN) (fun z => absurd hc z)
          · exact lv_if_le hx hb hd ht (fun _ => K H locs A hL hP hS hW hN) (fun z => absurd hc z)
        · rename_i hc
          obtain rfl := nx_inj hs
          intro H locs A hL hP hS hW hN
          cases cnd <;> simp only [m_c1, decide_eq_true_eq, Classical.not_not] at hc
          · exact lv_if_eq hx hb hd ht (fun z => absurd z hc) (fun _ => K H locs A hL hP hS hW hN)
          · exact lv_if_ne hx hb hd ht (fun z => absurd hc z) (fun _ => K H locs A hL hP hS hW hN)
          · exact lv_if_lt hx hb hd ht (fun z => absurd z hc) (fun _ => K H locs A hL hP hS hW hN)
          · exact lv_if_ge hx hb hd ht (fun z => absurd z hc) (fun _ => K H locs A hL hP hS hW hN)
          · exact lv_if_gt hx hb hd ht (fun z => absurd z hc) (fun _ => K H locs A hL hP hS hW hN)
          · exact lv_if_le hx hb hd ht (fun z => absurd z hc) (fun _ => K H locs A hL hP hS hW hN)
      · simp at hs
    · simp at hs
  · obtain rfl := lok3 hl rfl
    rename_i cnd o
    split at hs
    · rename_i y x r
      split at hs
      · rename_i h0
        have ht : (pc : Int) + o = ((((pc : Int) + o).toNat : Nat) : Int) := by omega
        split at hs
        · rename_i hc
          obtain rfl := nx_inj hs
          intro H locs A hL hP hS hW hN
          cases cnd <;> simp only [m_c2, decide_eq_true_eq] at hc
          · exact lv_icmp_eq hx hb hd ht (fun _ => K H locs A hL hP hS hW hN) (fun z => absurd hc z)
          · exact lv_icmp_ne hx hb hd ht (fun _ => K H locs A hL hP hS hW hN) (fun z => absurd z hc)
          · exact lv_icmp_lt hx hb hd ht (fun _ => K H locs A hL hP hS hW hN) (fun z => absurd hc z)
          · exact lv_icmp_ge hx hb hd ht (fun _ => K H locs A hL hP hS hW hN) (fun z => absurd hc z)
          · exact lv_icmp_gt hx hb hd ht (fun _ => K H locs A hL hP hS hW hN) (fun z => absurd hc z)
          · exact lv_icmp_le hx hb hd ht (fun _ => K H locs A hL hP hS hW hN) (fun z => absurd hc z)
        · rename_i hc
          obtain rfl := nx_inj hs
          intro H locs A hL hP hS hW hN
          cases cnd <;> simp only [m_c2, decide_eq_true_eq, Classical.not_not] at hc
          · exact lv_icmp_eq hx hb hd ht (fun z => absurd z hc) (fun _ => K H locs A hL hP hS hW hN)
          · exact lv_icmp_ne hx hb hd ht (fun z => absurd hc z) (fun _ => K H locs A hL hP hS hW hN)
          · exact lv_icmp_lt hx hb hd ht (fun z => absurd z hc) (fun _ => K H locs A hL hP hS hW hN)
          · exact lv_icmp_ge hx hb hd ht (fun z => absurd z hc) (fun _ => K H locs A hL hP hS hW hN)
          · exact lv_icmp_gt hx hb hd ht (fun z => absurd z hc) (fun _ => K H locs A hL hP hS hW hN)
          · exact lv_icmp_le hx hb hd ht (fun z => absurd z hc) (fun _ => K H locs A hL hP hS hW hN)
      · simp at hs
    · simp at hs
  · obtain rfl := lok3 hl rfl
    split at hs
    · obtain ⟨t, ht, rfl⟩ := goto_inv hs
      intro H locs A hL hP hS hW hN
      exact lv_ifnonnull hx hb hd ht (K H locs A hL hP hS hW hN)
    · obtain rfl := nx_inj hs
      intro H locs A hL hP hS hW hN
      exact lv_ifnonnullN hx hb hd (K H locs A hL hP hS hW hN)
    · simp at hs
  · unfold m_sw at hs
    split at hs
    · split at hs
      · rename_i hc
        obtain ⟨t, ht, rfl⟩ := goto_inv hs
        intro H locs A hL hP hS hW hN
        exact lv_tableOut hx hb hd hc ht (K H locs A hL hP hS hW hN)
      · rename_i hc
        split at hs
        · rename_i o ho
          obtain ⟨t, ht, rfl⟩ := goto_inv hs
          intro H locs A hL hP hS hW hN
          exact lv_tableIn hx hb hd (fun z => hc (Or.inl z)) (fun z => hc (Or.inr z)) ho ht (K H locs A hL hP hS hW hN)
        · simp at hs
    · simp at hs
  all_goals first | (simp [m_pure] at hi; done) | (simp at hs; done)
end S2

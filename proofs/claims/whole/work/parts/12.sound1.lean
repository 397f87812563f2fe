/-! the small machine tied to the claim's: locals, worlds, what a frame knows -/
/-- the locals that may be read -/
def toA (ls : List Value) (ll : List (Nat × Int64)) : List (Nat × Value) := (List.range ls.length).filterMap (fun i => match ls[i]? with
  | some v => if v = m_D then none else some (i, v)
  | none => none) ++ ll.map (fun q => (q.1, .long q.2))
theorem toA_ls {ls : List Value} {ll : List (Nat × Int64)} {i : Nat} {v : Value} (h : ls[i]? = some v) (hv : v ≠ m_D) : (i, v) ∈ toA ls ll := by
  refine List.mem_append_left _ (List.mem_filterMap.mpr ⟨i, ?_, ?_⟩)
  · exact List.mem_range.mpr (List.getElem?_eq_some_iff.mp h).1
  · simp only [h, if_neg hv]
theorem toA_ll {ls : List Value} {ll : List (Nat × Int64)} {q : Nat × Int64} (h : q ∈ ll) : (q.1, Value.long q.2) ∈ toA ls ll := List.mem_append_right _ (List.mem_map.mpr ⟨q, h, rfl⟩)
theorem toA_cases {ls : List Value} {ll : List (Nat × Int64)} {q : Nat × Value} (h : q ∈ toA ls ll) : (ls[q.1]? = some q.2 ∧ q.2 ≠ m_D) ∨ ∃ x, q.2 = .long x ∧ (q.1, x) ∈ ll := by
  rcases List.mem_append.mp h with h | h
  · obtain ⟨i, hi, hq⟩ := List.mem_filterMap.mp h
    cases hv : ls[i]? with
    | none => rw [hv] at hq; simp at hq
    | some v =>
      rw [hv] at hq
      by_cases hd : v = m_D
      · simp [hd] at hq
      · simp only [if_neg hd, Option.some.injEq] at hq
        subst hq
        exact Or.inl ⟨hv, hd⟩
  · obtain ⟨r, hr, rfl⟩ := List.mem_map.mp h
    exact Or.inr ⟨r.2, rfl, hr⟩
def LH (nL : Nat) (A : Array Slot) (ls : List Value) (ll : List (Nat × Int64)) : Prop := lv_has A nL (toA ls ll) ∧ ls.length = nL ∧ ∀ v ∈ ls, v.category = 1
theorem LH.at {nL : Nat} {A : Array Slot} {ls : List Value} {ll : List (Nat × Int64)} (h : LH nL A ls ll) {i : Nat} {v : Value} (hi : ls[i]? = some v) (hv : v ≠ m_D) : A[i]? = some (.val v) := h.1.2.2 _ (toA_ls hi hv)
theorem LH.lat {nL : Nat} {A : Array Slot} {ls : List Value} {ll : List (Nat × Int64)} (h : LH nL A ls ll) {i : Nat} {x : Int64} (hi : ll.lookup i = some x) : A[i]? = some (.val (.long x)) := by
  have hm : (i, x) ∈ ll := by
    clear h
    induction ll with
    | nil => simp at hi
    | cons q t ih =>
      rw [List.lookup_cons] at hi
      by_cases hq : i == q.1
      · simp only [hq] at hi
        have : i = q.1 := by simpa using hq
        cases hi
        rw [this]
        exact List.mem_cons_self
      · simp only [hq] at hi
        exact List.mem_cons_of_mem _ (ih hi)
  exact h.1.2.2 _ (toA_ll hm)
theorem LH.st1 {nL : Nat} {A A' : Array Slot} {ls : List Value} {ll : List (Nat × Int64)} {i : Nat} {v : Value} (h : LH nL A ls ll) (hi : i < nL) (hc : v.category = 1) (h' : lv_has A' nL ((i, v) :: (toA ls ll).filter (fun q => !(q.1 == i) && !(q.1 + 1 == i && q.2.category == 2)))) : LH nL A' (ls.set i v) (dropL i ll) := by
  obtain ⟨h1, h2, h3⟩ := h
  refine ⟨⟨h'.1, h'.2.1, fun q hq => ?_⟩, by simp [h2], fun w hw => ?_⟩
  · rcases toA_cases hq with ⟨ha, hb⟩ | ⟨x, ha, hb⟩
    · by_cases hqi : q.1 = i
      · rw [hqi, List.getElem?_set_self (by omega)] at ha
        have : q = (i, v) := by
          obtain ⟨q1, q2⟩ := q
          simp only at hqi ha
          simp only [Option.some.injEq] at ha
          rw [hqi, ← ha]
        rw [this]
        exact h'.2.2 _ List.mem_cons_self
      · rw [List.getElem?_set_ne (Ne.symm hqi)] at ha
        have hc1 : q.2.category = 1 := h3 _ (List.mem_of_getElem? ha)
        refine h'.2.2 _ (List.mem_cons_of_mem _ (List.mem_filter.mpr ⟨toA_ls ha hb, ?_⟩))
        simp [hqi, hc1]
    · obtain ⟨hm, hf⟩ := List.mem_filter.mp hb
      simp only [Bool.and_eq_true, Bool.not_eq_true', beq_eq_false_iff_ne, ne_eq] at hf
      refine h'.2.2 _ (List.mem_cons_of_mem _ (List.mem_filter.mpr ⟨?_, ?_⟩))
      · have := toA_ll (ls := ls) hm
        rw [show q = (q.1, q.2) from rfl, ha]
        exact this
      · simp [hf.1, hf.2]
  · rcases List.mem_or_eq_of_mem_set hw with h | h
    · exact h3 _ h
    · rw [h]; exact hc
theorem LH.st2 {nL : Nat} {A A' : Array Slot} {ls : List Value} {ll : List (Nat × Int64)} {i : Nat} {x : Int64} (h : LH nL A ls ll) (hi : i + 1 < nL) (h' : lv_has A' nL ((i, .long x) :: (toA ls ll).filter (fun q => !(q.1 == i) && (!(q.1 == i + 1) && !(q.1 + 1 == i && q.2.category == 2))))) : LH nL A' ((ls.set i m_D).set (i + 1) m_D) ((i, x) :: dropLL i ll) := by
  obtain ⟨h1, h2, h3⟩ := h
  refine ⟨⟨h'.1, h'.2.1, fun q hq => ?_⟩, by simp [h2], fun w hw => ?_⟩
  · rcases toA_cases hq with ⟨ha, hb⟩ | ⟨y, ha, hb⟩
    · by_cases hq1 : q.1 = i + 1
      · rw [hq1, List.getElem?_set_self (by simp; omega)] at ha
        exact absurd (Option.some.inj ha).symm hb
      · rw [List.getElem?_set_ne (Ne.symm hq1)] at ha
        by_cases hqi : q.1 = i
        · rw [hqi, List.getElem?_set_self (by omega)] at ha
          exact absurd (Option.some.inj ha).symm hb
        · rw [List.getElem?_set_ne (Ne.symm hqi)] at ha
          have hc1 : q.2.category = 1 := h3 _ (List.mem_of_getElem? ha)
          refine h'.2.2 _ (List.mem_cons_of_mem _ (List.mem_filter.mpr ⟨toA_ls ha hb, ?_⟩))
          simp [hqi, hq1, hc1]
    · rcases List.mem_cons.mp hb with hb | hb
      · have : q = (i, .long x) := by
          obtain ⟨q1, q2⟩ := q
          simp only [Prod.mk.injEq] at hb ha
          rw [hb.1, ha, hb.2]
        rw [this]
        exact h'.2.2 _ List.mem_cons_self
      · obtain ⟨hm, hf⟩ := List.mem_filter.mp hb
        simp only [Bool.and_eq_true, Bool.not_eq_true', beq_eq_false_iff_ne, ne_eq] at hf
        refine h'.2.2 _ (List.mem_cons_of_mem _ (List.mem_filter.mpr ⟨?_, ?_⟩))
        · have := toA_ll (ls := ls) hm
          rw [show q = (q.1, q.2) from rfl, ha]
          exact this
        · simp [hf.1, hf.2.1, hf.2.2]
  · rcases List.mem_or_eq_of_mem_set hw with h | h
    · rcases List.mem_or_eq_of_mem_set h with h | h
      · exact h3 _ h
      · rw [h]; rfl
    · rw [h]; rfl
/-- at a method's entry -/
theorem LH_entry {k : Nat} {as : List Value} (ha : m_okA k as = true) : LH (m_ml k) ((lg_sl as ++ List.replicate (m_ml k - (lg_sl as).length) Slot.unset).toArray) (m_ent k as) (m_ell 0 as) := by
  simp only [m_okA, Bool.and_eq_true, decide_eq_true_eq] at ha
  obtain ⟨hlen, hall⟩ := ha
  have hok : ∀ v ∈ as, (∃ x, v = .long x) ∨ m_is1 v = true := by
    intro v hv
    have := List.all_eq_true.mp hall v hv
    cases v <;> simp_all [m_is1]
  have hl1 : ∀ as : List Value, (∀ v ∈ as, (∃ x, v = Value.long x) ∨ m_is1 v = true) → (lg_sl as).length = (m_enl as).length := by
    intro as
    induction as with
    | nil => intro _; rfl
    | cons v t ih =>
      intro h
      have ht := ih (fun w hw => h w (List.mem_cons_of_mem _ hw))
      rcases h v List.mem_cons_self with ⟨x, rfl⟩ | h1
      · simp only [lg_sl, m_enl, List.flatMap_cons, List.length_append] at ht ⊢
        rw [show (t.flatMap fun v => if v.category = 2 then [Slot.val v, Slot.second] else [Slot.val v]).length = (m_enl t).length from ht]
        simp [Value.category]; omega
      · cases v with
        | int x => simp only [lg_sl, m_enl, List.flatMap_cons, List.length_append] at ht ⊢; rw [ht]; simp [Value.category]; omega
        | ref x => simp only [lg_sl, m_enl, List.flatMap_cons, List.length_append] at ht ⊢; rw [ht]; simp [Value.category]; omega
        | null => simp only [lg_sl, m_enl, List.flatMap_cons, List.length_append] at ht ⊢; rw [ht]; simp [Value.category]; omega
        | _ => simp [m_is1] at h1
  have hE := lv_entry as (n := m_ml k) (by rw [hl1 as hok]; exact hlen)
  have key : ∀ (as : List Value) (i : Nat), (∀ v ∈ as, (∃ x, v = Value.long x) ∨ m_is1 v = true) → (∀ (j : Nat) (w : Value), (m_enl as)[j]? = some w → w ≠ m_D → (i + j, w) ∈ lv_args i as) ∧ (∀ q ∈ m_ell i as, (q.1, Value.long q.2) ∈ lv_args i as) ∧ ∀ w ∈ m_enl as, w.category = 1 := by
    intro as
    induction as with
    | nil => intro i _; simp [m_enl, m_ell]
    | cons v t ih =>
      intro i h
      have h' : ∀ v ∈ t, (∃ x, v = Value.long x) ∨ m_is1 v = true := fun w hw => h w (List.mem_cons_of_mem _ hw)
      rcases h v List.mem_cons_self with ⟨x, rfl⟩ | h1
      · obtain ⟨a1, a2, a3⟩ := ih (i + 2) h'
        refine ⟨fun j w hj hw => ?_, fun q hq => ?_, fun w hw => ?_⟩
        · rcases j with _ | _ | j
          · simp only [m_enl, List.getElem?_cons_zero, Option.some.injEq] at hj
            exact absurd hj.symm hw
          · simp only [m_enl, List.getElem?_cons_succ, List.getElem?_cons_zero, Option.some.injEq] at hj
            exact absurd hj.symm hw
          · simp only [m_enl, List.getElem?_cons_succ] at hj
            have := a1 j w hj hw
            simp only [lv_args, Value.category]
            exact List.mem_cons_of_mem _ (by rw [show i + (j + 1 + 1) = i + 2 + j by omega]; exact this)
        · simp only [m_ell, List.mem_cons] at hq
          simp only [lv_args, Value.category]
          rcases hq with rfl | hq
          · exact List.mem_cons_self
          · exact List.mem_cons_of_mem _ (a2 q hq)
        · simp only [m_enl, List.mem_cons] at hw
          rcases hw with rfl | rfl | hw
          · rfl
          · rfl
          · exact a3 w hw
      · obtain ⟨a1, a2, a3⟩ := ih (i + 1) h'
        have e1 : m_enl (v :: t) = v :: m_enl t := by cases v <;> first | rfl | (simp [m_is1] at h1)
        have e2 : m_ell i (v :: t) = m_ell (i + 1) t := by cases v <;> first | rfl | (simp [m_is1] at h1)
        have e3 : v.category = 1 := by cases v <;> first | rfl | (simp [m_is1] at h1)
        have e4 : lv_args i (v :: t) = (i, v) :: lv_args (i + 1) t := by simp [lv_args, e3]
        rw [e1, e2, e4]
        refine ⟨fun j w hj hw => ?_, fun q hq => List.mem_cons_of_mem _ (a2 q hq), fun w hw => ?_⟩
        · cases j with
          | zero =>
            simp only [List.getElem?_cons_zero, Option.some.injEq] at hj
            subst hj
            exact List.mem_cons_self
          | succ j =>
            simp only [List.getElem?_cons_succ] at hj
            exact List.mem_cons_of_mem _ (by rw [show i + (j + 1) = i + 1 + j by omega]; exact a1 j w hj hw)
        · rcases List.mem_cons.mp hw with rfl | hw
          · exact e3
          · exact a3 w hw
  obtain ⟨k1, k2, k3⟩ := key as 0 hok
  refine ⟨⟨hE.1, hE.2.1, fun q hq => ?_⟩, by simp [m_ent]; omega, fun v hv => ?_⟩
  · rcases toA_cases hq with ⟨ha, hb⟩ | ⟨x, ha, hb⟩
    · have hlt : q.1 < (m_enl as).length := by
        rcases Nat.lt_or_ge q.1 (m_enl as).length with h | h
        · exact h
        · rw [m_ent, List.getElem?_append_right h] at ha
          exact absurd (List.eq_of_mem_replicate (List.mem_of_getElem? ha)) hb
      rw [m_ent, List.getElem?_append_left hlt] at ha
      have := k1 q.1 q.2 ha hb
      rw [Nat.zero_add] at this
      exact hE.2.2 _ this
    · have := k2 _ hb
      rw [show q = (q.1, q.2) from rfl, ha]
      exact hE.2.2 _ this
  · rcases List.mem_append.mp hv with h | h
    · exact k3 v h
    · rw [List.eq_of_mem_replicate h]; rfl
/-- where things are: the first address of ours, the classes' numbers, the arrays' classes, where the texts' bytes lie -/
abbrev EN : Type := Nat × va_G × (ClassId × ClassId × ClassId) × (Nat → Nat)
def m_tys (en : EN) : List (ClassId × FieldType) := [(en.2.2.1.1, .int), (en.2.2.1.2.1, .byte), (en.2.2.1.2.2, .object "RockName$Town")]
def m_A (en : EN) : Nat → Prop := fun q => en.1 ≤ q
def m_E (en : EN) (h : HP) (a : Nat) : va_E := match (hS h a).1 with
  | 0 => .inr ((hS h a).2, (List.range (m_nf (hS h a).2)).map (hF h a))
  | 1 => .inl (en.2.2.1.1, (hS h a).2, .inl (hI h a))
  | 2 => .inl (en.2.2.1.2.1, (hS h a).2, .inl (hI h a))
  | _ => .inl (en.2.2.1.2.2, (hS h a).2, .inr (.inr (.inr (.inr (fun i => rfO (hF h a i))))))
def m_wl (en : EN) (h : HP) : va_W := (List.range (hN h - en.1)).map (fun i => (en.1 + i, m_E en h (en.1 + i)))
def m_WF (en : EN) (h : HP) : Prop := en.1 ≤ hN h ∧ ∀ a, (hS h a).1 ≤ 3 → en.1 ≤ a ∧ a < hN h
theorem wl_at {en : EN} {h : HP} {a : Nat} (h1 : en.1 ≤ a) (h2 : a < hN h) : (m_wl en h)[a - en.1]? = some (a, m_E en h a) := by
  have hlt : a - en.1 < hN h - en.1 := by omega
  rw [m_wl, List.getElem?_map, List.getElem?_range hlt]
  simp only [Option.map_some]
  rw [show en.1 + (a - en.1) = a by omega]
theorem wl_lt {en : EN} {h : HP} {i : Nat} {q : Nat × va_E} (hq : (m_wl en h)[i]? = some q) : i < hN h - en.1 ∧ q = (en.1 + i, m_E en h (en.1 + i)) := by
  rw [m_wl, List.getElem?_map] at hq
  have hi : i < hN h - en.1 := by
    rcases Nat.lt_or_ge i (hN h - en.1) with h1 | h1
    · exact h1
    · rw [List.getElem?_eq_none (by simpa using h1)] at hq
      simp at hq
  rw [List.getElem?_range hi] at hq
  simp only [Option.map_some, Option.some.injEq] at hq
  exact ⟨hi, hq.symm⟩
theorem wl_D (en : EN) (h : HP) : va_D (m_A en) (m_wl en h) := by
  refine ⟨fun i j p q hi hj hpq => ?_, fun k q hk => ?_⟩
  · obtain ⟨-, rfl⟩ := wl_lt hi
    obtain ⟨-, rfl⟩ := wl_lt hj
    simp only at hpq
    omega
  · obtain ⟨-, rfl⟩ := wl_lt hk
    show en.1 ≤ en.1 + k
    omega
theorem wl_P {en : EN} {h : HP} {H : Heap} {D : va_G} (hP : va_P D vwCl (m_wl en h) H) {a : Nat} (h1 : en.1 ≤ a) (h2 : a < hN h) : va_at D vwCl (a, m_E en h a) H := hP _ _ (wl_at h1 h2)
/-- one cell of ours is another one -/
theorem wl_set {en : EN} {h h' : HP} {a : Nat} {x : va_E} (h1 : en.1 ≤ a) (hn : hN h' = hN h) (hx : x = m_E en h' a) (ho : ∀ q, q ≠ a → m_E en h' q = m_E en h q) : (m_wl en h).set (a - en.1) (a, x) = m_wl en h' := by
  subst hx
  apply List.ext_getElem?
  intro i
  by_cases hi : i = a - en.1
  · subst hi
    by_cases h2 : a < hN h
    · rw [wl_at h1 (by rw [hn]; exact h2), List.getElem?_set_self (by simp [m_wl]; omega)]
    · have hl : (m_wl en h).length ≤ a - en.1 := by simp [m_wl]; omega
      rw [List.getElem?_eq_none (by simpa using hl), List.getElem?_eq_none (by simp [m_wl, hn]; omega)]
  · rw [List.getElem?_set_ne (Ne.symm hi), m_wl, m_wl, hn, List.getElem?_map, List.getElem?_map]
    by_cases hlt : i < hN h - en.1
    · rw [List.getElem?_range hlt]
      simp only [Option.map_some]
      rw [ho _ (by omega)]
    · rw [List.getElem?_eq_none (by simpa using hlt)]
      rfl
theorem wl_push {en : EN} {h h' : HP} {x : va_E} (h0 : en.1 ≤ hN h) (hn : hN h' = hN h + 1) (hx : x = m_E en h' (hN h)) (ho : ∀ q, q ≠ hN h → m_E en h' q = m_E en h q) : m_wl en h ++ [(hN h, x)] = m_wl en h' := by
  subst hx
  rw [m_wl, m_wl, hn, show hN h + 1 - en.1 = (hN h - en.1) + 1 by omega, List.range_succ, List.map_append]
  congr 1
  · apply List.map_congr_left
    intro i hi
    rw [ho _ (by have := List.mem_range.mp hi; omega)]
  · simp only [List.map_cons, List.map_nil]
    rw [show en.1 + (hN h - en.1) = hN h by omega]
/-- the texts and what asking them needs -/
def m_len3 : List Nat := [4, 5, 4]
def m_byt3 : List (List Int32) := [m_tx 0, m_tx 1, m_tx 2]
def m_SX (en : EN) (g : GL) (U : State) (H : Heap) : Prop := vk_S 3 m_len3 m_byt3 g.2.2.2 en.2.2.2 (m_A en) U H ∧ (vk_R "RockName$TownText" 51 "town" (g.2.2.2 0) U ∧ vk_R "RockName$TownText" 86 "stick" (g.2.2.2 1) U ∧ vk_R "RockName$TownText" 91 "suck" (g.2.2.2 2) U) ∧ va_Z "java/lang/String" "COMPACT_STRINGS" "Z" (.int 1) (m_A en) U H ∧ va_Zq "jdk/internal/util/Preconditions" "SIOOBE_FORMATTER" "Ljava/util/function/BiFunction;" (m_A en) U H
theorem m_SX.go {en : EN} {g : GL} {s U : State} {H0 H : Heap} (hW : s.WarmedH U.vm) (h : m_SX en g s H0) (hk : ∀ a : Nat, a < H0.size → ¬ m_A en a → H[a]? = H0[a]?) : m_SX en g U H :=
  ⟨(h.1.moved hW.alike).kept hk, ⟨h.2.1.1.warm hW, h.2.1.2.1.warm hW, h.2.1.2.2.warm hW⟩, (h.2.2.1.moved hW.alike).kept hk, (h.2.2.2.moved hW.alike).kept hk⟩
theorem m_SX.same {en : EN} {g : GL} {u U : State} {H : Heap} (hv : U.vm = u.vm) (h : m_SX en g u H) : m_SX en g U H := by
  have ha : u.vm.Alike U.vm := by rw [hv]; exact Vm.Alike.refl u.vm
  exact ⟨h.1.moved ha, ⟨h.2.1.1.same hv, h.2.1.2.1.same hv, h.2.1.2.2.same hv⟩, h.2.2.1.moved ha, h.2.2.2.moved ha⟩
/-- a method's start -/
def m_PW (en : EN) (g : GL) (h : HP) (U : State) : Prop := va_P en.2.1 vwCl (m_wl en h) U.heap ∧ va_K en.2.1 vwCl (m_tys en) U ∧ (∀ w ∈ m_nw, va_Nw w U) ∧ va_AO "RockName$Town" U ∧ m_SX en g U U.heap ∧ m_WF en h ∧ U.heap.size = hN h
theorem m_nw_on : m_nw.all (fun w => w.onTables) = true := by decide +kernel
theorem m_nw_sh : ∀ w ∈ m_nw, ∃ a i x b, w = Cond.methodLinkNest a i x b := by
  intro w hw
  simp only [m_nw, List.mem_cons, List.not_mem_nil, or_false] at hw
  rcases hw with rfl | rfl | rfl | rfl | rfl | rfl | rfl | rfl | rfl | rfl | rfl | rfl | rfl <;> exact ⟨_, _, _, _, rfl⟩
theorem m_nw_warm {s U : State} (hW : s.WarmedH U.vm) (h : ∀ w ∈ m_nw, va_Nw w s) : ∀ w ∈ m_nw, va_Nw w U := by
  intro w hw
  obtain ⟨a, i, x, b, rfl⟩ := m_nw_sh w hw
  exact va_Nw.warmM hW (h _ hw)
theorem m_PW.same {en : EN} {g : GL} {h : HP} {u U : State} (hv : U.vm = u.vm) (hh : U.heap = u.heap) (H : m_PW en g h u) : m_PW en g h U := by
  obtain ⟨h1, h2, h3, h4, h5, h6, h7⟩ := H
  have ha : u.vm.Alike U.vm := by rw [hv]; exact Vm.Alike.refl u.vm
  exact ⟨by rw [hh]; exact h1, va_K.moved ha h2, fun w hw => va_Nw.same (List.all_eq_true.mp m_nw_on w hw) hv.symm (h3 w hw), va_AO.moved ha h4, by rw [hh]; exact h5.same hv, h6, by rw [hh]; exact h7⟩
/-- words that stand ahead of every call -/
abbrev m_T0 : List Cond := Cond.arrayClass .int :: m_GW
/-- what a frame knows of its start: all of it is said of the state at the method's entry -/
def m_FR (p : Program) (R : Room) (s : State) (m : MethodId) (args : Array Value) (meth : Method) (c : Code) (en : EN) (g : GL) (k : Nat) : Prop :=
  p.tables.exec = Jvm.exec ∧ c.code = m_cd k ∧ c.maxLocals = m_ml k ∧ s.vm.findClass (m_y k).cls = some m.cls ∧ (∀ w ∈ m_T0, w.before args s = true) ∧ (∀ w ∈ m_GW, w.before args s = true) ∧ ((m_y k).name = "<init>" → meth.name = "<init>") ∧
  va_K en.2.1 vwCl (m_tys en) s ∧ (∀ w ∈ m_nw, va_Nw w s) ∧ va_AO "RockName$Town" s ∧ m_SX en g s s.heap ∧ en.1 ≤ s.heap.size ∧ m_rk k ≤ R.frames ∧ 64 * m_rk k ≤ R.locals ∧ k < m_K ∧ (k = m_law → va_X g.1 g.2.1 g.2.2.1 s s.heap ∧ g.1 < s.heap.size ∧ g.1 < en.1)
/-- the walk from a place of the small machine -/
def m_WK (p : Program) (l : Launch) (e : Env) (R : Room) (s : State) (m : MethodId) (args : Array Value) (below : List Frame) (meth : Method) (c : Code) (Q : State → Prop) (en : EN) (k : Nat) (f : CF) : Prop :=
  ∀ (H : Heap) (locs : List Loc) (A : Array Slot), LH (m_ml k) A f.2.1 f.2.2.1 → va_P en.2.1 vwCl (m_wl en f.2.2.2.2) H → va_S (m_A en) s.heap H locs → m_WF en f.2.2.2.2 → s.heap.size ≤ hN f.2.2.2.2 → W p l e R s m args below meth c H locs (hN f.2.2.2.2 - s.heap.size) (512 * (hN f.2.2.2.2 - s.heap.size)) Q (F0 m f.1 A f.2.2.2.1)

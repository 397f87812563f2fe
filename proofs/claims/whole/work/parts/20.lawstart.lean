/-! the law's start: what the Statement gives, as the small machine's frame wants it -/
def hp0 (B : Nat) : HP := ((fun _ => (9, 0)), (fun _ _ => .null), (fun _ _ => 0), B)
theorem nw_in : m_nw.all (fun w => decide (w ∈ lw_tbl)) = true := by decide +kernel
theorem vw_in : vwCl.all (fun q => decide (Cond.instantiable q.1 q.2.2 ∈ lw_tbl)) = true := by decide +kernel
theorem gw_tbl {w : Cond} (h : w ∈ m_GW) : w ∈ lw_tbl := (List.mem_filter.mp h).1
def m_tm (i : Nat) : Term := .string "RockName$TownText" (match i with | 0 => 51 | 1 => 86 | _ => 91)
theorem l3 {P : Nat → Prop} (h0 : P 0) (h1 : P 1) (h2 : P 2) : ∀ i, i < 3 → P i := by
  intro i hi
  rcases i with _ | _ | _ | i
  · exact h0
  · exact h1
  · exact h2
  · omega
set_option maxHeartbeats 4000000 in
set_option maxRecDepth 100000 in
theorem law_en {args : Array Value} {s : State} (b L : Nat) (xs : Nat → Int32) (hts : ∀ w ∈ lw_tbl, w.before args s = true) (hgv : (Jvm.Cond.and given_1 narrow_1).before args s = true) : ∃ (en : EN) (sa : Nat → Nat), en.1 = s.heap.size ∧ va_K en.2.1 vwCl (m_tys en) s ∧ (∀ w ∈ m_nw, va_Nw w s) ∧ va_AO "RockName$Town" s ∧ m_SX en (b, L, xs, sa) s s.heap := by
  have hs := flat_of_before _ hgv
  have hgw : ∀ w ∈ m_GW, w.before args s = true := fun w hw => hts w (gw_tbl hw)
  have hkn : ∀ ci : Nat, ∃ pq : ClassId × (Nat → Nat), ∀ q, vwCl[ci]? = some q → u_Kn s q.1 q.2.1 q.2.2 pq.1 pq.2 := by
    intro ci
    cases hq : vwCl[ci]? with
    | none => exact ⟨(0, fun _ => 0), fun q h => by cases h⟩
    | some q =>
      have hm := List.mem_of_getElem? hq
      have hi := List.all_eq_true.mp vw_in q hm
      simp only [decide_eq_true_eq] at hi
      obtain ⟨cC, iS, hK⟩ := u_known (C := q.1) (T := q.2.1) (N := q.2.2) hgw (vw_cls hm).1 (hts _ hi)
      exact ⟨(cC, iS), fun q' h => by cases h; exact hK⟩
  obtain ⟨D, hD⟩ := Classical.axiomOfChoice hkn
  have hI : (Cond.arrayClass .int).before args s = true := hgw _ ac_int
  have hY : (Cond.arrayClass .byte).before args s = true := hgw _ ac_byte
  have hO : (Cond.arrayOver (.object "RockName$Town")).before args s = true := hts _ (List.mem_of_getElem? (i := 158) (by decide +kernel))
  obtain ⟨cI, kI, coI, i1, i2, i3⟩ := Cond.arrayClass_spec hI
  obtain ⟨cB, kB, coB, b1, b2, b3⟩ := Cond.arrayClass_spec hY
  obtain ⟨coR, cR, kR, r1, -, r2, r3, r4⟩ := Cond.arrayOver_spec hO
  have hA : ∀ a : Nat, a < s.heap.size → ¬ s.heap.size ≤ a := fun a h => by omega
  obtain ⟨adK, adV, hV, hE⟩ := vk_Sof (args := args) (s := s) (N := 3) (tm := m_tm) (len := m_len3) (byt := m_byt3) (A := fun q => s.heap.size ≤ q)
    (l3 (by decide) (by decide) (by decide))
    (l3 (hs _ (by decide +kernel)) (hs _ (by decide +kernel)) (hs _ (by decide +kernel)))
    (l3 (hs _ (by decide +kernel)) (hs _ (by decide +kernel)) (hs _ (by decide +kernel)))
    (l3 (hs _ (by decide +kernel)) (hs _ (by decide +kernel)) (hs _ (by decide +kernel)))
    (l3 (hs _ (by decide +kernel)) (hs _ (by decide +kernel)) (hs _ (by decide +kernel)))
    (l3 (fun j hj => hs _ (by
        have hj : j < 4 := hj
        rcases j with _ | _ | _ | _ | j
        · decide +kernel
        · decide +kernel
        · decide +kernel
        · decide +kernel
        · omega))
      (fun j hj => hs _ (by
        have hj : j < 5 := hj
        rcases j with _ | _ | _ | _ | _ | j
        · decide +kernel
        · decide +kernel
        · decide +kernel
        · decide +kernel
        · decide +kernel
        · omega))
      (fun j hj => hs _ (by
        have hj : j < 4 := hj
        rcases j with _ | _ | _ | _ | j
        · decide +kernel
        · decide +kernel
        · decide +kernel
        · decide +kernel
        · omega)))
    (fun i j hi hj hij => by
      have key : ∀ i, i < 3 → ∀ j, j < 3 → i ≠ j → Cond.not (Cond.eq (m_tm i) (m_tm j)) ∈ flatC (Jvm.Cond.and given_1 narrow_1) ∨ Cond.not (Cond.eq (m_tm j) (m_tm i)) ∈ flatC (Jvm.Cond.and given_1 narrow_1) := by decide +kernel
      rcases key i hi j hj hij with z | z
      · exact Or.inl (hs _ z)
      · exact Or.inr (hs _ z))
    hA
  have hcs : va_Z "java/lang/String" "COMPACT_STRINGS" "Z" (.int 1) (fun q => s.heap.size ≤ q) s s.heap := va_Zof (hts _ (List.mem_of_getElem? (i := 384) (by decide +kernel))) (hts _ (List.mem_of_getElem? (i := 75) (by decide +kernel))) (va_eqi (hs _ (by decide +kernel))) hA
  have hsf : va_Zq "jdk/internal/util/Preconditions" "SIOOBE_FORMATTER" "Ljava/util/function/BiFunction;" (fun q => s.heap.size ≤ q) s s.heap := va_Zqof (hts _ (List.mem_of_getElem? (i := 405) (by decide +kernel))) (hts _ (List.mem_of_getElem? (i := 77) (by decide +kernel))) (hs _ (by decide +kernel)) hA
  have hr : ∀ (i : Nat) (k : Nat) (tx : String), i < 3 → m_tm i = .string "RockName$TownText" k → Cond.stringRef "RockName$TownText" k tx ∈ lw_tbl → vk_R "RockName$TownText" k tx (adK i) s := fun i k tx hi hk hm => vk_R.of (hts _ hm) (by rw [← hk]; exact hE i hi)
  refine ⟨(s.heap.size, (fun ci => (D ci).1, fun ci => (D ci).2), (cI, cB, cR), adV), adK, rfl, ⟨fun ci q hq => hD ci q hq, fun k q hk => ?_⟩, fun w hw => va_Nw.of (List.all_eq_true.mp m_nw_on w hw) (hts w (by simpa using List.all_eq_true.mp nw_in w hw)), va_AO.of hO, hV, ⟨hr 0 51 _ (by decide) rfl (List.mem_of_getElem? (i := 370) (by decide +kernel)), hr 1 86 _ (by decide) rfl (List.mem_of_getElem? (i := 437) (by decide +kernel)), hr 2 91 _ (by decide) rfl (List.mem_of_getElem? (i := 447) (by decide +kernel))⟩, hcs, hsf⟩
  rcases k with _ | _ | _ | k
  · cases hk
    exact ⟨fun n z => ⟨fun k h => (by cases h), kI, i2, coI, i3⟩, i1⟩
  · cases hk
    exact ⟨fun n z => ⟨fun k h => (by cases h), kB, b2, coB, b3⟩, b1⟩
  · cases hk
    exact ⟨fun n z => ⟨fun k h => (by cases h), kR, r2, coR, r3⟩, kR, coR, r2, r3, r1, r4⟩
  · simp [m_tys] at hk

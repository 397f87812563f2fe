/-! String.length and String.charAt of the three texts, over the claim's machine -/
theorem gw_good {w : Cond} (h : w ∈ m_GW) : (w.onTables && w.keeps) = true ∨ ∃ ty, w = .arrayClass ty := good_of_word (List.mem_filter.mp h).2
theorem GI {c0 : Cond} {ws : List Cond} (h : ∀ w ∈ ws, w ∈ m_GW) : GoodIn (c0 :: m_GW) ws := fun w hw => ⟨List.mem_cons_of_mem _ (h w hw), gw_good (h w hw)⟩
theorem GI_app {a b : List Cond} (ha : ∀ w ∈ a, w ∈ m_GW) (hb : ∀ w ∈ b, w ∈ m_GW) : ∀ w ∈ a ++ b, w ∈ m_GW := fun w h => (List.mem_append.mp h).elim (ha w) (hb w)
theorem GI_cons {c0 : Cond} (h : c0 ∈ m_GW) : ∀ w ∈ c0 :: m_GW, w ∈ m_GW := fun w hw => by
  rcases List.mem_cons.mp hw with rfl | hw
  · exact h
  · exact hw
abbrev j_Pc (as : List Value) (en : EN) (g : GL) (H : Heap) : Array Value → State → Prop := va_Pc as (fun U => U.heap = H ∧ m_SX en g U U.heap)
abbrev j_Qi (v : Int32) (H : Heap) : Array Value → State → Outcome → State → Prop := va_Qi (fun r (_ : Unit) => r = v) (fun _ t => t.heap = H) (fun _ => False)
abbrev j_Qv (H : Heap) : Array Value → State → Outcome → State → Prop := va_Qv (fun (_ : Unit) => True) (fun _ t => t.heap = H) (fun _ => False)
theorem j_blind {as : List Value} {en : EN} {g : GL} {H : Heap} : FrameBlind (j_Pc as en g H) := fun a U gg mk q => ⟨q.1, q.2.1, q.2.2.same rfl⟩
theorem j_F {s t : State} (h : t.heap = s.heap) : va_F (fun _ => False) s t := ⟨by rw [h]; exact Nat.le_refl _, fun q _ _ => by rw [h]⟩
theorem j_go {en : EN} {g : GL} {s U : State} (hW : s.WarmedH U.vm) (hU : U.heap = s.heap) (h : m_SX en g s s.heap) : m_SX en g U U.heap := by
  rw [hU]
  exact h.go hW (fun _ _ _ => rfl)
theorem jc_len : Cond.code yJ0_length_8abf5 cJ0_length_8abf5 1 (some .int) ∈ m_GW := lwi_in (i := 378) (by decide +kernel)
theorem jc_coder : Cond.code yJ0_coder_7d493 cJ0_coder_7d493 1 (some .byte) ∈ m_GW := lwi_in (i := 382) (by decide +kernel)
theorem jc_charAt : Cond.code yJ0_charAt_5068e cJ0_charAt_5068e 2 (some .char) ∈ m_GW := lwi_in (i := 393) (by decide +kernel)
theorem jc_latin : Cond.code yJ0_isLatin1_aae02 cJ0_isLatin1_aae02 1 (some .boolean) ∈ m_GW := lwi_in (i := 397) (by decide +kernel)
theorem jc_l1 : Cond.code yJ1_charAt_3b067 cJ1_charAt_3b067 2 (some .char) ∈ m_GW := lwi_in (i := 400) (by decide +kernel)
theorem jc_ci : Cond.code yJ0_checkIndex_df160 cJ0_checkIndex_df160 2 none ∈ m_GW := lwi_in (i := 403) (by decide +kernel)
theorem jc_pci : Cond.code yJ3_checkIndex_8e157 cJ3_checkIndex_8e157 3 (some .int) ∈ m_GW := lwi_in (i := 408) (by decide +kernel)
theorem jl_38 : Cond.fieldLink "java/lang/String" 38 "java/lang/String" "COMPACT_STRINGS" "Z" ∈ m_GW := lwi_in (i := 383) (by decide +kernel)
theorem jl_1053 : Cond.fieldLink "java/lang/String" 1053 "jdk/internal/util/Preconditions" "SIOOBE_FORMATTER" "Ljava/util/function/BiFunction;" ∈ m_GW := lwi_in (i := 404) (by decide +kernel)
theorem jl_9 : Cond.fieldLink "java/lang/String" 9 "java/lang/String" "value" "[B" ∈ m_GW := lwi_in (i := 1235) (by decide +kernel)
theorem jl_15 : Cond.fieldLink "java/lang/String" 15 "java/lang/String" "coder" "B" ∈ m_GW := lwi_in (i := 1236) (by decide +kernel)
theorem jw_coder : ∀ w ∈ wsV "java/lang/String" 335 "java/lang/String" yJ0_coder_7d493 (.code yJ0_coder_7d493 cJ0_coder_7d493 1 (some .byte) :: m_GW), w ∈ m_GW := by
  refine GI_app ?_ (GI_cons jc_coder)
  intro w hw
  simp only [List.mem_cons, List.not_mem_nil, or_false] at hw
  rcases hw with rfl | rfl | rfl | rfl
  · exact lwi_in (i := 379) (by decide +kernel)
  · exact lwi_in (i := 380) (by decide +kernel)
  · exact lwi_in (i := 381) (by decide +kernel)
  · exact lwi_in (i := 75) (by decide +kernel)
theorem jw_latin : ∀ w ∈ wsV "java/lang/String" 492 "java/lang/String" yJ0_isLatin1_aae02 (.code yJ0_isLatin1_aae02 cJ0_isLatin1_aae02 1 (some .boolean) :: m_GW), w ∈ m_GW := by
  refine GI_app ?_ (GI_cons jc_latin)
  intro w hw
  simp only [List.mem_cons, List.not_mem_nil, or_false] at hw
  rcases hw with rfl | rfl | rfl | rfl
  · exact lwi_in (i := 394) (by decide +kernel)
  · exact lwi_in (i := 395) (by decide +kernel)
  · exact lwi_in (i := 396) (by decide +kernel)
  · exact lwi_in (i := 75) (by decide +kernel)
theorem jw_l1 : ∀ w ∈ va_wsS "java/lang/String" 495 yJ1_charAt_3b067 (.code yJ1_charAt_3b067 cJ1_charAt_3b067 2 (some .char) :: m_GW), w ∈ m_GW := by
  refine GI_app ?_ (GI_cons jc_l1)
  intro w hw
  simp only [List.mem_cons, List.not_mem_nil, or_false] at hw
  rcases hw with rfl | rfl | rfl
  · exact lwi_in (i := 398) (by decide +kernel)
  · exact lwi_in (i := 399) (by decide +kernel)
  · exact lwi_in (i := 76) (by decide +kernel)
theorem jw_ci : ∀ w ∈ va_wsS "java/lang/StringLatin1" 9 yJ0_checkIndex_df160 (.code yJ0_checkIndex_df160 cJ0_checkIndex_df160 2 none :: m_GW), w ∈ m_GW := by
  refine GI_app ?_ (GI_cons jc_ci)
  intro w hw
  simp only [List.mem_cons, List.not_mem_nil, or_false] at hw
  rcases hw with rfl | rfl | rfl
  · exact lwi_in (i := 401) (by decide +kernel)
  · exact lwi_in (i := 402) (by decide +kernel)
  · exact lwi_in (i := 75) (by decide +kernel)
theorem jw_pci : ∀ w ∈ va_wsS "java/lang/String" 1059 yJ3_checkIndex_8e157 (.code yJ3_checkIndex_8e157 cJ3_checkIndex_8e157 3 (some .int) :: m_GW), w ∈ m_GW := by
  refine GI_app ?_ (GI_cons jc_pci)
  intro w hw
  simp only [List.mem_cons, List.not_mem_nil, or_false] at hw
  rcases hw with rfl | rfl | rfl
  · exact lwi_in (i := 406) (by decide +kernel)
  · exact lwi_in (i := 407) (by decide +kernel)
  · exact lwi_in (i := 77) (by decide +kernel)
set_option maxHeartbeats 4000000 in
set_option maxRecDepth 100000 in
theorem j_coder (l : Launch) (en : EN) (g : GL) (H : Heap) {i : Nat} (hi : i < 3) : Met l yJ0_coder_7d493 (.code yJ0_coder_7d493 cJ0_coder_7d493 1 (some .byte) :: m_GW) ({ frames := 0, cells := 0, slots := 0, locals := 0 }) (j_Pc [.ref (g.2.2.2 i)] en g H) (j_Qi 0 H) 0 0 (fun _ => False) := by
  refine Met.ofW (cc := cJ0_coder_7d493) (maxL := 1) (ret := some .byte) (by decide) rfl ?_
  intro p e s m args below meth c s₁ B hml hv
  obtain ⟨rfl, hH, hX⟩ := hv
  have hx := B.exec
  have hb := B.bytes
  have hr := B.returns
  have hts := atoms_spec (ws := .code yJ0_coder_7d493 cJ0_coder_7d493 1 (some .byte) :: m_GW) B.pre
  have hgw : ∀ w ∈ m_GW, w.before #[Value.ref (g.2.2.2 i)] s = true := fun w hw => hts w (List.mem_cons_of_mem _ hw)
  have hown : s.vm.findClass "java/lang/String" = some m.cls := findClass_of_methodNamed B.named
  have hlocks := B.notSynchronized
  have hS : va_S (m_A en) s.heap s.heap [] := va_S.rf
  have hl := lv_entry ([.ref (g.2.2.2 i)]) (n := 1) (Nat.le_of_ble_eq_true rfl)
  rw [lg_entry_eq]
  generalize (lg_sl ([.ref (g.2.2.2 i)]) ++ List.replicate (1 - (lg_sl ([.ref (g.2.2.2 i)])).length) Slot.unset).toArray = ls at hl ⊢
  have hl : lv_has ls 1 [(0, .ref (g.2.2.2 i))] := hl
  refine va_gets hx hb hX.2.2.1 hS hown (hgw _ jl_38) (fun _ h => h) dJ0_coder_7d493_0 ?_
  refine lv_if_eq (tgt := 13) hx hb dJ0_coder_7d493_3 (by decide) (fun z => absurd z (by decide)) (fun _ => ?_)
  refine lv_aload_n hx hb dJ0_coder_7d493_6 rfl (lv_at hl 0 rfl) ?_
  refine vk_getf hx hb (hX.1.1 i hi).2.1 hS hown (hgw _ jl_15) (fun _ h => h) dJ0_coder_7d493_7 ?_
  refine lv_goto (tgt := 14) hx hb dJ0_coder_7d493_10 (by decide) ?_
  exact W.zret (ty := .byte) hx hb hr (by decide) (fun t ht _ => ⟨⟨0, (), rfl, rfl, ht.trans hH⟩, j_F ht⟩) (fun _ h => by cases h) dJ0_coder_7d493_14
set_option maxHeartbeats 4000000 in
set_option maxRecDepth 100000 in
theorem j_latin (l : Launch) (en : EN) (g : GL) (H : Heap) {i : Nat} (hi : i < 3) : Met l yJ0_isLatin1_aae02 (.code yJ0_isLatin1_aae02 cJ0_isLatin1_aae02 1 (some .boolean) :: m_GW) ({ frames := 0, cells := 0, slots := 0, locals := 0 }) (j_Pc [.ref (g.2.2.2 i)] en g H) (j_Qi 1 H) 0 0 (fun _ => False) := by
  refine Met.ofW (cc := cJ0_isLatin1_aae02) (maxL := 1) (ret := some .boolean) (by decide) rfl ?_
  intro p e s m args below meth c s₁ B hml hv
  obtain ⟨rfl, hH, hX⟩ := hv
  have hx := B.exec
  have hb := B.bytes
  have hr := B.returns
  have hts := atoms_spec (ws := .code yJ0_isLatin1_aae02 cJ0_isLatin1_aae02 1 (some .boolean) :: m_GW) B.pre
  have hgw : ∀ w ∈ m_GW, w.before #[Value.ref (g.2.2.2 i)] s = true := fun w hw => hts w (List.mem_cons_of_mem _ hw)
  have hown : s.vm.findClass "java/lang/String" = some m.cls := findClass_of_methodNamed B.named
  have hlocks := B.notSynchronized
  have hS : va_S (m_A en) s.heap s.heap [] := va_S.rf
  have hl := lv_entry ([.ref (g.2.2.2 i)]) (n := 1) (Nat.le_of_ble_eq_true rfl)
  rw [lg_entry_eq]
  generalize (lg_sl ([.ref (g.2.2.2 i)]) ++ List.replicate (1 - (lg_sl ([.ref (g.2.2.2 i)])).length) Slot.unset).toArray = ls at hl ⊢
  have hl : lv_has ls 1 [(0, .ref (g.2.2.2 i))] := hl
  refine va_gets hx hb hX.2.2.1 hS hown (hgw _ jl_38) (fun _ h => h) dJ0_isLatin1_aae02_0 ?_
  refine lv_if_eq (tgt := 17) hx hb dJ0_isLatin1_aae02_3 (by decide) (fun z => absurd z (by decide)) (fun _ => ?_)
  refine lv_aload_n hx hb dJ0_isLatin1_aae02_6 rfl (lv_at hl 0 rfl) ?_
  refine vk_getf hx hb (hX.1.1 i hi).2.1 hS hown (hgw _ jl_15) (fun _ h => h) dJ0_isLatin1_aae02_7 ?_
  refine lv_if_ne (tgt := 17) hx hb dJ0_isLatin1_aae02_10 (by decide) (fun z => absurd rfl z) (fun _ => ?_)
  refine lv_iconst (v := 1) hx hb dJ0_isLatin1_aae02_13 (by decide) ?_
  refine lv_goto (tgt := 18) hx hb dJ0_isLatin1_aae02_14 (by decide) ?_
  exact W.zret (ty := .boolean) hx hb hr (by decide) (fun t ht _ => ⟨⟨1, (), rfl, rfl, ht.trans hH⟩, j_F ht⟩) (fun _ h => by cases h) dJ0_isLatin1_aae02_18
theorem j_recv {en : EN} {g : GL} {s : State} {i : Nat} (hi : i < 3) (hX : m_SX en g s s.heap) : ∃ cell : Cell, s.heap[g.2.2.2 i]? = some cell ∧ cell.vm.isStatics = false ∧ s.vm.findClass "java/lang/String" = some cell.cls := vk_recv hX.1 hi va_S.rf
theorem j_shr0 : ∀ i, i < 3 → Int32.ofNat (m_len3.getD i 0) >>> ((0 : Int32) &&& 31) = nI (m_tx i).length := by decide +kernel
set_option maxHeartbeats 4000000 in
set_option maxRecDepth 100000 in
theorem j_length (l : Launch) (en : EN) (g : GL) (H : Heap) {i : Nat} (hi : i < 3) : Met l yJ0_length_8abf5 (.code yJ0_length_8abf5 cJ0_length_8abf5 1 (some .int) :: m_GW) ({ frames := 1, cells := 0, slots := 0, locals := 64 }) (j_Pc [.ref (g.2.2.2 i)] en g H) (j_Qi (nI (m_tx i).length) H) 0 0 (fun _ => False) := by
  refine Met.ofW (cc := cJ0_length_8abf5) (maxL := 1) (ret := some .int) (by decide) rfl ?_
  intro p e s m args below meth c s₁ B hml hv
  obtain ⟨rfl, hH, hX⟩ := hv
  have hx := B.exec
  have hb := B.bytes
  have hr := B.returns
  have hts := atoms_spec (ws := .code yJ0_length_8abf5 cJ0_length_8abf5 1 (some .int) :: m_GW) B.pre
  have hgw : ∀ w ∈ m_GW, w.before #[Value.ref (g.2.2.2 i)] s = true := fun w hw => hts w (List.mem_cons_of_mem _ hw)
  have hown : s.vm.findClass "java/lang/String" = some m.cls := findClass_of_methodNamed B.named
  have hlocks := B.notSynchronized
  have hS : va_S (m_A en) s.heap s.heap [] := va_S.rf
  have hl := lv_entry ([.ref (g.2.2.2 i)]) (n := 1) (Nat.le_of_ble_eq_true rfl)
  rw [lg_entry_eq]
  generalize (lg_sl ([.ref (g.2.2.2 i)]) ++ List.replicate (1 - (lg_sl ([.ref (g.2.2.2 i)])).length) Slot.unset).toArray = ls at hl ⊢
  have hl : lv_has ls 1 [(0, .ref (g.2.2.2 i))] := hl
  refine lv_aload_n hx hb dJ0_length_8abf5_0 rfl (lv_at hl 0 rfl) ?_
  refine vk_getf hx hb (hX.1.1 i hi).2.2.1 hS hown (hgw _ jl_9) (fun _ h => h) dJ0_length_8abf5_1 ?_
  refine va_tlen hx hb (hX.1.1 i hi).2.2.2 hS rfl dJ0_length_8abf5_4 ?_
  refine lv_aload_n hx hb dJ0_length_8abf5_5 rfl (lv_at hl 0 rfl) ?_
  refine va_calli (A0 := fun _ => False) (H0 := s.heap) (va_runV (As := []) (b := g.2.2.2 i) (rest := [.int (Int32.ofNat (m_len3.getD i 0))]) ⟨hx, hb, hml, hown, hts⟩ (j_coder l en g H hi) (cwV 0 hts (GI jw_coder) rfl rfl rfl (by decide +kernel) ⟨Nat.le_of_ble_eq_true rfl, Nat.le_of_ble_eq_true rfl⟩) ⟨j_blind, j_recv hi hX, fun U hU hW => ⟨rfl, hU.trans hH, j_go hW hU hX⟩⟩ rfl rfl hl.1 rfl (lv_room (Nat.le_of_ble_eq_true rfl)) dJ0_length_8abf5_6 ⟨Nat.le_of_ble_eq_true rfl, Nat.le_of_ble_eq_true rfl⟩) va_S.rf (fun _ _ h => h) (fun _ h => h) (fun r u t H1 locs ht hvm hw hB hz1 hk1 hS1 => ?_)
  subst hw
  refine lv_ishr hx hb dJ0_length_8abf5_9 ?_
  rw [j_shr0 i hi]
  exact W.iret hx hb hr (fun t' ht' _ => ⟨⟨_, (), rfl, rfl, ht'.trans (ht.symm.trans hB)⟩, j_F (ht'.trans (ht.symm.trans (Eq.trans hB hH.symm)))⟩) (fun q h => hS1.2.2 q h) dJ0_length_8abf5_10
set_option maxHeartbeats 4000000 in
set_option maxRecDepth 100000 in
theorem j_pci (l : Launch) (en : EN) (g : GL) (H : Heap) (x y : Int32) (z : Value) (hz : z.category = 1) (h0 : ¬ x < 0) (h1 : x < y) : Met l yJ3_checkIndex_8e157 (.code yJ3_checkIndex_8e157 cJ3_checkIndex_8e157 3 (some .int) :: m_GW) ({ frames := 0, cells := 0, slots := 0, locals := 0 }) (j_Pc [.int x, .int y, z] en g H) (j_Qi x H) 0 0 (fun _ => False) := by
  refine Met.ofW (cc := cJ3_checkIndex_8e157) (maxL := 3) (ret := some .int) (by decide) rfl ?_
  intro p e s m args below meth c s₁ B hml hv
  obtain ⟨rfl, hH, hX⟩ := hv
  have hx := B.exec
  have hb := B.bytes
  have hr := B.returns
  have hlocks := B.notSynchronized
  have hlen : (lg_sl ([.int x, .int y, z] : List Value)).length ≤ 3 := by
    cases z <;> first | (simp [Value.category] at hz; done) | exact Nat.le_of_ble_eq_true rfl
  have hl := lv_entry ([.int x, .int y, z]) (n := 3) hlen
  rw [lg_entry_eq]
  generalize (lg_sl ([.int x, .int y, z]) ++ List.replicate (3 - (lg_sl ([.int x, .int y, z])).length) Slot.unset).toArray = ls at hl ⊢
  have hl : lv_has ls 3 [(0, .int x), (1, .int y), (2, z)] := hl
  refine lv_iload_n hx hb dJ3_checkIndex_8e157_0 rfl (lv_at hl 0 rfl) ?_
  refine lv_if_lt (tgt := 9) hx hb dJ3_checkIndex_8e157_1 (by decide) (fun q => absurd q h0) (fun _ => ?_)
  refine lv_iload_n hx hb dJ3_checkIndex_8e157_4 rfl (lv_at hl 0 rfl) ?_
  refine lv_iload_n hx hb dJ3_checkIndex_8e157_5 rfl (lv_at hl 1 rfl) ?_
  refine lv_icmp_lt (tgt := 16) hx hb dJ3_checkIndex_8e157_6 (by decide) (fun _ => ?_) (fun q => absurd h1 q)
  refine lv_iload_n hx hb dJ3_checkIndex_8e157_16 rfl (lv_at hl 0 rfl) ?_
  exact W.iret hx hb hr (fun t ht _ => ⟨⟨x, (), rfl, rfl, ht.trans hH⟩, j_F ht⟩) (fun _ h => by cases h) dJ3_checkIndex_8e157_17
set_option maxHeartbeats 4000000 in
set_option maxRecDepth 100000 in
theorem j_ci (l : Launch) (en : EN) (g : GL) (H : Heap) (x y : Int32) (h0 : ¬ x < 0) (h1 : x < y) : Met l yJ0_checkIndex_df160 (.code yJ0_checkIndex_df160 cJ0_checkIndex_df160 2 none :: m_GW) ({ frames := 1, cells := 0, slots := 0, locals := 64 }) (j_Pc [.int x, .int y] en g H) (j_Qv H) 0 0 (fun _ => False) := by
  refine Met.ofW (cc := cJ0_checkIndex_df160) (maxL := 2) (ret := none) (by decide) rfl ?_
  intro p e s m args below meth c s₁ B hml hv
  obtain ⟨rfl, hH, hX⟩ := hv
  have hx := B.exec
  have hb := B.bytes
  have hr := B.returns
  have hts := atoms_spec (ws := .code yJ0_checkIndex_df160 cJ0_checkIndex_df160 2 none :: m_GW) B.pre
  have hgw : ∀ w ∈ m_GW, w.before #[Value.int x, Value.int y] s = true := fun w hw => hts w (List.mem_cons_of_mem _ hw)
  have hown : s.vm.findClass "java/lang/String" = some m.cls := findClass_of_methodNamed B.named
  have hlocks := B.notSynchronized
  have hS : va_S (m_A en) s.heap s.heap [] := va_S.rf
  have hl := lv_entry ([.int x, .int y]) (n := 2) (Nat.le_of_ble_eq_true rfl)
  rw [lg_entry_eq]
  generalize (lg_sl ([.int x, .int y]) ++ List.replicate (2 - (lg_sl ([.int x, .int y])).length) Slot.unset).toArray = ls at hl ⊢
  have hl : lv_has ls 2 [(0, .int x), (1, .int y)] := hl
  refine lv_iload_n hx hb dJ0_checkIndex_df160_0 rfl (lv_at hl 0 rfl) ?_
  refine lv_iload_n hx hb dJ0_checkIndex_df160_1 rfl (lv_at hl 1 rfl) ?_
  obtain ⟨z, hz, hZ⟩ : ∃ z : Value, z.category = 1 ∧ va_Z "jdk/internal/util/Preconditions" "SIOOBE_FORMATTER" "Ljava/util/function/BiFunction;" z (m_A en) s s.heap := by
    rcases hX.2.2.2 with h | ⟨t, h⟩
    · exact ⟨.null, rfl, h⟩
    · exact ⟨.ref t, rfl, h⟩
  refine va_gets hx hb hZ hS hown (hgw _ jl_1053) (fun _ h => h) dJ0_checkIndex_df160_2 ?_
  refine va_calli (A0 := fun _ => False) (H0 := s.heap) (va_runS (As := [.int x, .int y, z]) (rest := []) ⟨hx, hb, hml, hown, hts⟩ (j_pci l en g H x y z hz h0 h1) (va_cwS 3 hts (GI jw_pci) rfl rfl rfl (by decide +kernel) ⟨Nat.le_of_ble_eq_true rfl, Nat.le_of_ble_eq_true rfl⟩) ⟨j_blind, fun U hU hW => ⟨rfl, hU.trans hH, j_go hW hU hX⟩⟩ rfl rfl hl.1 rfl (lv_room (Nat.le_of_ble_eq_true rfl)) dJ0_checkIndex_df160_5 ⟨Nat.le_of_ble_eq_true rfl, Nat.le_of_ble_eq_true rfl⟩) va_S.rf (fun _ _ h => h) (fun _ h => h) (fun r u t H1 locs ht hvm hw hB hz1 hk1 hS1 => ?_)
  refine lv_pop hx hb dJ0_checkIndex_df160_8 rfl ?_
  exact W.vret hx hb hr (fun t' ht' _ => ⟨⟨(), rfl, trivial, ht'.trans (ht.symm.trans hB)⟩, j_F (ht'.trans (ht.symm.trans (Eq.trans hB hH.symm)))⟩) (fun q h => hS1.2.2 q h) dJ0_checkIndex_df160_9
theorem j_ch : ∀ i, i < 3 → ∀ j, j < (m_tx i).length → ((((m_byt3.getD i []).getD j 0) &&& 255).toUInt32 % 65536).toInt32 = (m_tx i).getD j 0 ∧ narrow .char (.int ((m_tx i).getD j 0)) = .int ((m_tx i).getD j 0) := by decide +kernel
theorem j_255 : (Int16.ofInt 255).toInt32 = 255 := by decide
theorem j_len3 : ∀ i, i < 3 → m_len3.getD i 0 = (m_tx i).length ∧ (m_tx i).length < 2 ^ 31 := by decide +kernel
set_option maxHeartbeats 4000000 in
set_option maxRecDepth 100000 in
theorem j_l1 (l : Launch) (en : EN) (g : GL) (H : Heap) {i : Nat} (hi : i < 3) (x : Int32) (hxi : m_inb x (m_tx i).length = true) : Met l yJ1_charAt_3b067 (.code yJ1_charAt_3b067 cJ1_charAt_3b067 2 (some .char) :: m_GW) ({ frames := 2, cells := 0, slots := 0, locals := 128 }) (j_Pc [.ref (en.2.2.2 i), .int x] en g H) (j_Qi ((m_tx i).getD x.toNatClampNeg 0) H) 0 0 (fun _ => False) := by
  have hin := inb_in hxi
  have h0 : ¬ x < 0 := fun q => hin (Or.inl q)
  have hlt : x.toNatClampNeg < (m_tx i).length := Nat.not_le.mp fun q => hin (Or.inr q)
  obtain ⟨hl3, hl31⟩ := j_len3 i hi
  have h1 : x < Int32.ofNat (m_len3.getD i 0) := by
    obtain ⟨j, hj, rfl⟩ := vp_in_of hin hl31
    rw [hl3]
    exact nI_lt hj hl31
  refine Met.ofW (cc := cJ1_charAt_3b067) (maxL := 2) (ret := some .char) (by decide) rfl ?_
  intro p e s m args below meth c s₁ B hml hv
  obtain ⟨rfl, hH, hX⟩ := hv
  have hx := B.exec
  have hb := B.bytes
  have hr := B.returns
  have hts := atoms_spec (ws := .code yJ1_charAt_3b067 cJ1_charAt_3b067 2 (some .char) :: m_GW) B.pre
  have hown : s.vm.findClass "java/lang/StringLatin1" = some m.cls := findClass_of_methodNamed B.named
  have hlocks := B.notSynchronized
  have hS : va_S (m_A en) s.heap s.heap [] := va_S.rf
  have hl := lv_entry ([.ref (en.2.2.2 i), .int x]) (n := 2) (Nat.le_of_ble_eq_true rfl)
  rw [lg_entry_eq]
  generalize (lg_sl ([.ref (en.2.2.2 i), .int x]) ++ List.replicate (2 - (lg_sl ([.ref (en.2.2.2 i), .int x])).length) Slot.unset).toArray = ls at hl ⊢
  have hl : lv_has ls 2 [(0, .ref (en.2.2.2 i)), (1, .int x)] := hl
  refine lv_iload_n hx hb dJ1_charAt_3b067_0 rfl (lv_at hl 1 rfl) ?_
  refine lv_aload_n hx hb dJ1_charAt_3b067_1 rfl (lv_at hl 0 rfl) ?_
  refine va_tlen hx hb (hX.1.1 i hi).2.2.2 hS rfl dJ1_charAt_3b067_2 ?_
  refine va_callv (A0 := fun _ => False) (H0 := s.heap) (va_runS (As := [.int x, .int (Int32.ofNat (m_len3.getD i 0))]) (rest := []) ⟨hx, hb, hml, hown, hts⟩ (j_ci l en g H x _ h0 h1) (va_cwS 2 hts (GI jw_ci) rfl rfl rfl (by decide +kernel) ⟨Nat.le_of_ble_eq_true rfl, Nat.le_of_ble_eq_true rfl⟩) ⟨j_blind, fun U hU hW => ⟨rfl, hU.trans hH, j_go hW hU hX⟩⟩ rfl rfl hl.1 rfl (lv_room (Nat.le_of_ble_eq_true rfl)) dJ1_charAt_3b067_3 ⟨Nat.le_of_ble_eq_true rfl, Nat.le_of_ble_eq_true rfl⟩) va_S.rf (fun _ _ h => h) (fun _ h => h) (fun u t H1 locs ht hvm hw hB hz1 hk1 hS1 => ?_)
  have hH1 : H1 = s.heap := by rw [← ht, hB, hH]
  have hS2 : va_S (m_A en) s.heap H1 locs := ⟨hS1.1, fun q h1 _ => hS1.2.1 q h1 (fun z => z), fun q h => (hS1.2.2 q h).elim⟩
  refine lv_aload_n hx hb dJ1_charAt_3b067_6 rfl (lv_at hl 0 rfl) ?_
  refine lv_iload_n hx hb dJ1_charAt_3b067_7 rfl (lv_at hl 1 rfl) ?_
  refine va_tb hx hb (hX.1.1 i hi).2.2.2 hS2 (by rw [hl3]; exact hin) rfl dJ1_charAt_3b067_8 ?_
  refine lv_sipush (v := 255) hx hb dJ1_charAt_3b067_9 j_255 ?_
  refine lv_iand hx hb dJ1_charAt_3b067_12 ?_
  refine lv_i2c hx hb dJ1_charAt_3b067_13 (j_ch i hi _ hlt).1 ?_
  exact W.zret (ty := .char) hx hb hr (j_ch i hi _ hlt).2 (fun t' ht' _ => ⟨⟨_, (), rfl, rfl, ht'.trans (hH1.trans hH)⟩, j_F (by rw [ht', hH1])⟩) (fun q h => hS1.2.2 q h) dJ1_charAt_3b067_14
set_option maxHeartbeats 4000000 in
set_option maxRecDepth 100000 in
theorem j_charAt (l : Launch) (en : EN) (g : GL) (H : Heap) {i : Nat} (hi : i < 3) (x : Int32) (hxi : m_inb x (m_tx i).length = true) : Met l yJ0_charAt_5068e (.code yJ0_charAt_5068e cJ0_charAt_5068e 2 (some .char) :: m_GW) ({ frames := 3, cells := 0, slots := 0, locals := 192 }) (j_Pc [.ref (g.2.2.2 i), .int x] en g H) (j_Qi ((m_tx i).getD x.toNatClampNeg 0) H) 0 0 (fun _ => False) := by
  have hin := inb_in hxi
  have hlt : x.toNatClampNeg < (m_tx i).length := Nat.not_le.mp fun q => hin (Or.inr q)
  refine Met.ofW (cc := cJ0_charAt_5068e) (maxL := 2) (ret := some .char) (by decide) rfl ?_
  intro p e s m args below meth c s₁ B hml hv
  obtain ⟨rfl, hH, hX⟩ := hv
  have hx := B.exec
  have hb := B.bytes
  have hr := B.returns
  have hts := atoms_spec (ws := .code yJ0_charAt_5068e cJ0_charAt_5068e 2 (some .char) :: m_GW) B.pre
  have hgw : ∀ w ∈ m_GW, w.before #[Value.ref (g.2.2.2 i), Value.int x] s = true := fun w hw => hts w (List.mem_cons_of_mem _ hw)
  have hown : s.vm.findClass "java/lang/String" = some m.cls := findClass_of_methodNamed B.named
  have hlocks := B.notSynchronized
  have hl := lv_entry ([.ref (g.2.2.2 i), .int x]) (n := 2) (Nat.le_of_ble_eq_true rfl)
  rw [lg_entry_eq]
  generalize (lg_sl ([.ref (g.2.2.2 i), .int x]) ++ List.replicate (2 - (lg_sl ([.ref (g.2.2.2 i), .int x])).length) Slot.unset).toArray = ls at hl ⊢
  have hl : lv_has ls 2 [(0, .ref (g.2.2.2 i)), (1, .int x)] := hl
  refine lv_aload_n hx hb dJ0_charAt_5068e_0 rfl (lv_at hl 0 rfl) ?_
  refine va_calli (A0 := fun _ => False) (H0 := s.heap) (va_runV (As := []) (b := g.2.2.2 i) (rest := []) ⟨hx, hb, hml, hown, hts⟩ (j_latin l en g H hi) (cwV 0 hts (GI jw_latin) rfl rfl rfl (by decide +kernel) ⟨Nat.le_of_ble_eq_true rfl, Nat.le_of_ble_eq_true rfl⟩) ⟨j_blind, j_recv hi hX, fun U hU hW => ⟨rfl, hU.trans hH, j_go hW hU hX⟩⟩ rfl rfl hl.1 rfl (lv_room (Nat.le_of_ble_eq_true rfl)) dJ0_charAt_5068e_1 ⟨Nat.le_of_ble_eq_true rfl, Nat.le_of_ble_eq_true rfl⟩) va_S.rf (fun _ _ h => h) (fun _ h => h) (fun r u t H1 locs ht hvm hw hB hz1 hk1 hS1 => ?_)
  subst hw
  have hH1 : H1 = s.heap := by rw [← ht, hB, hH]
  have hS2 : va_S (m_A en) s.heap H1 locs := ⟨hS1.1, fun q h1 _ => hS1.2.1 q h1 (fun z => z), fun q h => (hS1.2.2 q h).elim⟩
  refine lv_if_eq (tgt := 16) hx hb dJ0_charAt_5068e_4 (by decide) (fun z => absurd z (by decide)) (fun _ => ?_)
  refine lv_aload_n hx hb dJ0_charAt_5068e_7 rfl (lv_at hl 0 rfl) ?_
  refine vk_getf hx hb (hX.1.1 i hi).2.2.1 hS2 hown (hgw _ jl_9) (fun _ h => h) dJ0_charAt_5068e_8 ?_
  refine lv_iload_n hx hb dJ0_charAt_5068e_11 rfl (lv_at hl 1 rfl) ?_
  refine va_calli (A0 := fun _ => False) (H0 := s.heap) (va_runS (As := [.ref (en.2.2.2 i), .int x]) (rest := []) ⟨hx, hb, hml, hown, hts⟩ (j_l1 l en g H hi x hxi) (va_cwS 2 hts (GI jw_l1) rfl rfl rfl (by decide +kernel) ⟨Nat.le_of_ble_eq_true rfl, Nat.le_of_ble_eq_true rfl⟩) ⟨j_blind, fun U hU hW => ⟨rfl, by rw [hU, hH1, hH], j_go hW (by rw [hU, hH1]) hX⟩⟩ rfl rfl hl.1 rfl (lv_room (Nat.le_of_ble_eq_true rfl)) dJ0_charAt_5068e_12 ⟨Nat.le_of_ble_eq_true rfl, Nat.le_of_ble_eq_true rfl⟩) hS1 (fun _ _ h => h) (fun _ h => h) (fun r2 u2 t2 H2 locs2 ht2 hvm2 hw2 hB2 hz2 hk2 hS3 => ?_)
  subst hw2
  exact W.zret (ty := .char) hx hb hr (j_ch i hi _ hlt).2 (fun t' ht' _ => ⟨⟨_, (), rfl, rfl, ht'.trans (ht2.symm.trans hB2)⟩, j_F (ht'.trans (ht2.symm.trans (Eq.trans hB2 hH.symm)))⟩) (fun q h => hS3.2.2 q h) dJ0_charAt_5068e_15

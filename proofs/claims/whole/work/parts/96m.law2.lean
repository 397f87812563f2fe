/-! One step of the law, call by call (written by gen_law.py) -/
section LW
variable {g : GL} {h : HP} {Φ : Value → HP → Prop} {B : Nat} {u : XS} {i : Nat}
theorem iv_town (u : XS) : ∃ w, (aTown  u).1 = .int w := by
  unfold aTown
  repeat' split
  all_goals exact ⟨_, rfl⟩
theorem lw_town (hB : bth h B u) (hi : i + 4 < g.2.1) (hL : g.2.1 ≤ 320) (K : ∀ h2 u2, bth h2 B u2 → hN h2 ≤ hN h + 8 → J g 211 1007 [.ref g.1, .ref B, .ref (B + 24), .int (nI i)] [] [] h2 Φ) : J g 211 172 [.ref g.1, .ref B, .ref (B + 24), .int (nI i)] [] [] h Φ := by
  simp only [s_L_law_172, s_L_law_173, s_L_law_176, s_L_law_177, s_L_law_180, s_L_law_183, s_L_law_184, hB.1.1.1]
  refine pr_i (x_town) (m_town) (iv_town ) hB (Φ2 := fun w => KV g 211 180 [.ref g.1, .ref B, .ref (B + 24), .int (nI i)] [] [.int w] Φ) (fun w h1 hs7 hj => ?_) (fun w h2 hB2 hn => ?_)
  · simp only [KV_ap, s_L_law_172, s_L_law_173, s_L_law_176, s_L_law_177, s_L_law_180, s_L_law_183, s_L_law_184, hs7]
    exact hj
  · simp only [KV_ap, s_L_law_172, s_L_law_173, s_L_law_176, s_L_law_177, s_L_law_180, s_L_law_183, s_L_law_184, if_true]
    exact K h2 _ hB2 hn
theorem iv_stick (v0 v1 v2 : Int32) (u : XS) : ∃ w, (aStick v0 v1 v2 u).1 = .int w := by
  unfold aStick
  repeat' split
  all_goals exact ⟨_, rfl⟩
theorem lw_stick (hB : bth h B u) (hi : i + 4 < g.2.1) (hL : g.2.1 ≤ 320) (K : ∀ h2 u2, bth h2 B u2 → hN h2 ≤ hN h + 8 → J g 211 1007 [.ref g.1, .ref B, .ref (B + 24), .int (nI i)] [] [] h2 Φ) : J g 211 185 [.ref g.1, .ref B, .ref (B + 24), .int (nI i)] [] [] h Φ := by
  have ib : ∀ j, j < 5 → m_inb (nI (i + j)) g.2.1 = true := fun j hj => by rw [inb_nI (by omega)]; simpa using (show i + j < g.2.1 by omega)
  have j2 : nI i + (2 : Int32) = nI (i + 2) := i_add i 2
  have j3 : nI i + (3 : Int32) = nI (i + 3) := i_add i 3
  have j4 : nI i + (4 : Int32) = nI (i + 4) := i_add i 4
  simp only [s_L_law_185, s_L_law_186, s_L_law_187, s_L_law_188, s_L_law_189, s_L_law_190, s_L_law_191, s_L_law_192, s_L_law_193, s_L_law_194, s_L_law_195, s_L_law_196, s_L_law_197, s_L_law_198, s_L_law_199, s_L_law_200, s_L_law_201, s_L_law_204, s_L_law_205, s_L_law_206, s_L_law_207, s_L_law_208, s_L_law_209, s_L_law_210, s_L_law_211, s_L_law_212, s_L_law_213, s_L_law_214, s_L_law_215, s_L_law_216, s_L_law_217, s_L_law_218, s_L_law_219, s_L_law_220, s_L_law_223, s_L_law_226, s_L_law_227, ib 1 (by decide), ib 2 (by decide), ib 3 (by decide), cl_nI (show i + 1 < 2147483648 by omega), cl_nI (show i + 2 < 2147483648 by omega), cl_nI (show i + 3 < 2147483648 by omega), a1, j2, j3, j4, hB.1.1.1]
  refine pr_i (x_stick (g.2.2.1 (i + 1)) (g.2.2.1 (i + 2)) (g.2.2.1 (i + 3))) (m_stick (g.2.2.1 (i + 1)) (g.2.2.1 (i + 2)) (g.2.2.1 (i + 3))) (iv_stick (g.2.2.1 (i + 1)) (g.2.2.1 (i + 2)) (g.2.2.1 (i + 3))) hB (Φ2 := fun w => KV g 211 223 [.ref g.1, .ref B, .ref (B + 24), .int (nI i)] [] [.int w] Φ) (fun w h1 hs7 hj => ?_) (fun w h2 hB2 hn => ?_)
  · simp only [KV_ap, s_L_law_185, s_L_law_186, s_L_law_187, s_L_law_188, s_L_law_189, s_L_law_190, s_L_law_191, s_L_law_192, s_L_law_193, s_L_law_194, s_L_law_195, s_L_law_196, s_L_law_197, s_L_law_198, s_L_law_199, s_L_law_200, s_L_law_201, s_L_law_204, s_L_law_205, s_L_law_206, s_L_law_207, s_L_law_208, s_L_law_209, s_L_law_210, s_L_law_211, s_L_law_212, s_L_law_213, s_L_law_214, s_L_law_215, s_L_law_216, s_L_law_217, s_L_law_218, s_L_law_219, s_L_law_220, s_L_law_223, s_L_law_226, s_L_law_227, ib 1 (by decide), ib 2 (by decide), ib 3 (by decide), cl_nI (show i + 1 < 2147483648 by omega), cl_nI (show i + 2 < 2147483648 by omega), cl_nI (show i + 3 < 2147483648 by omega), a1, j2, j3, j4, hs7]
    exact hj
  · simp only [KV_ap, s_L_law_185, s_L_law_186, s_L_law_187, s_L_law_188, s_L_law_189, s_L_law_190, s_L_law_191, s_L_law_192, s_L_law_193, s_L_law_194, s_L_law_195, s_L_law_196, s_L_law_197, s_L_law_198, s_L_law_199, s_L_law_200, s_L_law_201, s_L_law_204, s_L_law_205, s_L_law_206, s_L_law_207, s_L_law_208, s_L_law_209, s_L_law_210, s_L_law_211, s_L_law_212, s_L_law_213, s_L_law_214, s_L_law_215, s_L_law_216, s_L_law_217, s_L_law_218, s_L_law_219, s_L_law_220, s_L_law_223, s_L_law_226, s_L_law_227, if_true]
    exact K h2 _ hB2 hn
theorem iv_type (v0 : Int32) (u : XS) : ∃ w, (aType v0 u).1 = .int w := by
  unfold aType
  repeat' split
  all_goals exact ⟨_, rfl⟩
theorem lw_type (hB : bth h B u) (hi : i + 4 < g.2.1) (hL : g.2.1 ≤ 320) (K : ∀ h2 u2, bth h2 B u2 → hN h2 ≤ hN h + 8 → J g 211 1007 [.ref g.1, .ref B, .ref (B + 24), .int (nI i)] [] [] h2 Φ) : J g 211 228 [.ref g.1, .ref B, .ref (B + 24), .int (nI i)] [] [] h Φ := by
  have ib : ∀ j, j < 5 → m_inb (nI (i + j)) g.2.1 = true := fun j hj => by rw [inb_nI (by omega)]; simpa using (show i + j < g.2.1 by omega)
  have j2 : nI i + (2 : Int32) = nI (i + 2) := i_add i 2
  have j3 : nI i + (3 : Int32) = nI (i + 3) := i_add i 3
  have j4 : nI i + (4 : Int32) = nI (i + 4) := i_add i 4
  simp only [s_L_law_228, s_L_law_229, s_L_law_230, s_L_law_231, s_L_law_232, s_L_law_233, s_L_law_234, s_L_law_237, s_L_law_238, s_L_law_239, s_L_law_240, s_L_law_241, s_L_law_242, s_L_law_243, s_L_law_246, s_L_law_249, s_L_law_250, ib 1 (by decide), cl_nI (show i + 1 < 2147483648 by omega), a1, j2, j3, j4, hB.1.1.1]
  refine pr_i (x_type (g.2.2.1 (i + 1))) (m_type (g.2.2.1 (i + 1))) (iv_type (g.2.2.1 (i + 1))) hB (Φ2 := fun w => KV g 211 246 [.ref g.1, .ref B, .ref (B + 24), .int (nI i)] [] [.int w] Φ) (fun w h1 hs7 hj => ?_) (fun w h2 hB2 hn => ?_)
  · simp only [KV_ap, s_L_law_228, s_L_law_229, s_L_law_230, s_L_law_231, s_L_law_232, s_L_law_233, s_L_law_234, s_L_law_237, s_L_law_238, s_L_law_239, s_L_law_240, s_L_law_241, s_L_law_242, s_L_law_243, s_L_law_246, s_L_law_249, s_L_law_250, ib 1 (by decide), cl_nI (show i + 1 < 2147483648 by omega), a1, j2, j3, j4, hs7]
    exact hj
  · simp only [KV_ap, s_L_law_228, s_L_law_229, s_L_law_230, s_L_law_231, s_L_law_232, s_L_law_233, s_L_law_234, s_L_law_237, s_L_law_238, s_L_law_239, s_L_law_240, s_L_law_241, s_L_law_242, s_L_law_243, s_L_law_246, s_L_law_249, s_L_law_250, if_true]
    exact K h2 _ hB2 hn
theorem iv_clear (u : XS) : ∃ w, (aClear  u).1 = .int w := by
  unfold aClear
  repeat' split
  all_goals exact ⟨_, rfl⟩
theorem lw_clear (hB : bth h B u) (hi : i + 4 < g.2.1) (hL : g.2.1 ≤ 320) (K : ∀ h2 u2, bth h2 B u2 → hN h2 ≤ hN h + 8 → J g 211 1007 [.ref g.1, .ref B, .ref (B + 24), .int (nI i)] [] [] h2 Φ) : J g 211 251 [.ref g.1, .ref B, .ref (B + 24), .int (nI i)] [] [] h Φ := by
  simp only [s_L_law_251, s_L_law_252, s_L_law_255, s_L_law_256, s_L_law_259, s_L_law_262, s_L_law_263, hB.1.1.1]
  refine pr_i (x_clear) (m_clear) (iv_clear ) hB (Φ2 := fun w => KV g 211 259 [.ref g.1, .ref B, .ref (B + 24), .int (nI i)] [] [.int w] Φ) (fun w h1 hs7 hj => ?_) (fun w h2 hB2 hn => ?_)
  · simp only [KV_ap, s_L_law_251, s_L_law_252, s_L_law_255, s_L_law_256, s_L_law_259, s_L_law_262, s_L_law_263, hs7]
    exact hj
  · simp only [KV_ap, s_L_law_251, s_L_law_252, s_L_law_255, s_L_law_256, s_L_law_259, s_L_law_262, s_L_law_263, if_true]
    exact K h2 _ hB2 hn
theorem iv_read (u : XS) : ∃ w, (aRead  u).1 = .int w := by
  unfold aRead
  repeat' split
  all_goals exact ⟨_, rfl⟩
theorem lw_read (hB : bth h B u) (hi : i + 4 < g.2.1) (hL : g.2.1 ≤ 320) (K : ∀ h2 u2, bth h2 B u2 → hN h2 ≤ hN h + 8 → J g 211 1007 [.ref g.1, .ref B, .ref (B + 24), .int (nI i)] [] [] h2 Φ) : J g 211 264 [.ref g.1, .ref B, .ref (B + 24), .int (nI i)] [] [] h Φ := by
  simp only [s_L_law_264, s_L_law_265, s_L_law_268, s_L_law_269, s_L_law_272, s_L_law_275, s_L_law_276, hB.1.1.1]
  refine pr_i (x_read) (m_read) (iv_read ) hB (Φ2 := fun w => KV g 211 272 [.ref g.1, .ref B, .ref (B + 24), .int (nI i)] [] [.int w] Φ) (fun w h1 hs7 hj => ?_) (fun w h2 hB2 hn => ?_)
  · simp only [KV_ap, s_L_law_264, s_L_law_265, s_L_law_268, s_L_law_269, s_L_law_272, s_L_law_275, s_L_law_276, hs7]
    exact hj
  · simp only [KV_ap, s_L_law_264, s_L_law_265, s_L_law_268, s_L_law_269, s_L_law_272, s_L_law_275, s_L_law_276, if_true]
    exact K h2 _ hB2 hn
theorem iv_suck (v0 v1 : Int32) (u : XS) : ∃ w, (aSuck v0 v1 u).1 = .int w := by
  unfold aSuck
  repeat' split
  all_goals exact ⟨_, rfl⟩
theorem lw_suck (hB : bth h B u) (hi : i + 4 < g.2.1) (hL : g.2.1 ≤ 320) (K : ∀ h2 u2, bth h2 B u2 → hN h2 ≤ hN h + 8 → J g 211 1007 [.ref g.1, .ref B, .ref (B + 24), .int (nI i)] [] [] h2 Φ) : J g 211 277 [.ref g.1, .ref B, .ref (B + 24), .int (nI i)] [] [] h Φ := by
  have ib : ∀ j, j < 5 → m_inb (nI (i + j)) g.2.1 = true := fun j hj => by rw [inb_nI (by omega)]; simpa using (show i + j < g.2.1 by omega)
  have j2 : nI i + (2 : Int32) = nI (i + 2) := i_add i 2
  have j3 : nI i + (3 : Int32) = nI (i + 3) := i_add i 3
  have j4 : nI i + (4 : Int32) = nI (i + 4) := i_add i 4
  simp only [s_L_law_277, s_L_law_278, s_L_law_279, s_L_law_280, s_L_law_281, s_L_law_282, s_L_law_283, s_L_law_284, s_L_law_285, s_L_law_286, s_L_law_287, s_L_law_288, s_L_law_291, s_L_law_292, s_L_law_293, s_L_law_294, s_L_law_295, s_L_law_296, s_L_law_297, s_L_law_298, s_L_law_299, s_L_law_300, s_L_law_301, s_L_law_302, s_L_law_305, s_L_law_308, s_L_law_309, ib 1 (by decide), ib 2 (by decide), cl_nI (show i + 1 < 2147483648 by omega), cl_nI (show i + 2 < 2147483648 by omega), a1, j2, j3, j4, hB.1.1.1]
  refine pr_i (x_suck (g.2.2.1 (i + 1)) (g.2.2.1 (i + 2))) (m_suck (g.2.2.1 (i + 1)) (g.2.2.1 (i + 2))) (iv_suck (g.2.2.1 (i + 1)) (g.2.2.1 (i + 2))) hB (Φ2 := fun w => KV g 211 305 [.ref g.1, .ref B, .ref (B + 24), .int (nI i)] [] [.int w] Φ) (fun w h1 hs7 hj => ?_) (fun w h2 hB2 hn => ?_)
  · simp only [KV_ap, s_L_law_277, s_L_law_278, s_L_law_279, s_L_law_280, s_L_law_281, s_L_law_282, s_L_law_283, s_L_law_284, s_L_law_285, s_L_law_286, s_L_law_287, s_L_law_288, s_L_law_291, s_L_law_292, s_L_law_293, s_L_law_294, s_L_law_295, s_L_law_296, s_L_law_297, s_L_law_298, s_L_law_299, s_L_law_300, s_L_law_301, s_L_law_302, s_L_law_305, s_L_law_308, s_L_law_309, ib 1 (by decide), ib 2 (by decide), cl_nI (show i + 1 < 2147483648 by omega), cl_nI (show i + 2 < 2147483648 by omega), a1, j2, j3, j4, hs7]
    exact hj
  · simp only [KV_ap, s_L_law_277, s_L_law_278, s_L_law_279, s_L_law_280, s_L_law_281, s_L_law_282, s_L_law_283, s_L_law_284, s_L_law_285, s_L_law_286, s_L_law_287, s_L_law_288, s_L_law_291, s_L_law_292, s_L_law_293, s_L_law_294, s_L_law_295, s_L_law_296, s_L_law_297, s_L_law_298, s_L_law_299, s_L_law_300, s_L_law_301, s_L_law_302, s_L_law_305, s_L_law_308, s_L_law_309, if_true]
    exact K h2 _ hB2 hn
theorem iv_snap (v0 v1 : Int32) (u : XS) : ∃ w, (aSnap v0 v1 u).1 = .int w := by
  unfold aSnap
  repeat' split
  all_goals exact ⟨_, rfl⟩
theorem lw_snap (hB : bth h B u) (hi : i + 4 < g.2.1) (hL : g.2.1 ≤ 320) (K : ∀ h2 u2, bth h2 B u2 → hN h2 ≤ hN h + 8 → J g 211 1007 [.ref g.1, .ref B, .ref (B + 24), .int (nI i)] [] [] h2 Φ) : J g 211 310 [.ref g.1, .ref B, .ref (B + 24), .int (nI i)] [] [] h Φ := by
  have ib : ∀ j, j < 5 → m_inb (nI (i + j)) g.2.1 = true := fun j hj => by rw [inb_nI (by omega)]; simpa using (show i + j < g.2.1 by omega)
  have j2 : nI i + (2 : Int32) = nI (i + 2) := i_add i 2
  have j3 : nI i + (3 : Int32) = nI (i + 3) := i_add i 3
  have j4 : nI i + (4 : Int32) = nI (i + 4) := i_add i 4
  simp only [s_L_law_310, s_L_law_311, s_L_law_312, s_L_law_313, s_L_law_314, s_L_law_315, s_L_law_316, s_L_law_317, s_L_law_318, s_L_law_319, s_L_law_320, s_L_law_321, s_L_law_324, s_L_law_325, s_L_law_326, s_L_law_327, s_L_law_328, s_L_law_329, s_L_law_330, s_L_law_331, s_L_law_332, s_L_law_333, s_L_law_334, s_L_law_335, s_L_law_338, s_L_law_341, s_L_law_342, ib 1 (by decide), ib 2 (by decide), cl_nI (show i + 1 < 2147483648 by omega), cl_nI (show i + 2 < 2147483648 by omega), a1, j2, j3, j4, hB.1.1.1]
  refine pr_i (x_snap (g.2.2.1 (i + 1)) (g.2.2.1 (i + 2))) (m_snap (g.2.2.1 (i + 1)) (g.2.2.1 (i + 2))) (iv_snap (g.2.2.1 (i + 1)) (g.2.2.1 (i + 2))) hB (Φ2 := fun w => KV g 211 338 [.ref g.1, .ref B, .ref (B + 24), .int (nI i)] [] [.int w] Φ) (fun w h1 hs7 hj => ?_) (fun w h2 hB2 hn => ?_)
  · simp only [KV_ap, s_L_law_310, s_L_law_311, s_L_law_312, s_L_law_313, s_L_law_314, s_L_law_315, s_L_law_316, s_L_law_317, s_L_law_318, s_L_law_319, s_L_law_320, s_L_law_321, s_L_law_324, s_L_law_325, s_L_law_326, s_L_law_327, s_L_law_328, s_L_law_329, s_L_law_330, s_L_law_331, s_L_law_332, s_L_law_333, s_L_law_334, s_L_law_335, s_L_law_338, s_L_law_341, s_L_law_342, ib 1 (by decide), ib 2 (by decide), cl_nI (show i + 1 < 2147483648 by omega), cl_nI (show i + 2 < 2147483648 by omega), a1, j2, j3, j4, hs7]
    exact hj
  · simp only [KV_ap, s_L_law_310, s_L_law_311, s_L_law_312, s_L_law_313, s_L_law_314, s_L_law_315, s_L_law_316, s_L_law_317, s_L_law_318, s_L_law_319, s_L_law_320, s_L_law_321, s_L_law_324, s_L_law_325, s_L_law_326, s_L_law_327, s_L_law_328, s_L_law_329, s_L_law_330, s_L_law_331, s_L_law_332, s_L_law_333, s_L_law_334, s_L_law_335, s_L_law_338, s_L_law_341, s_L_law_342, if_true]
    exact K h2 _ hB2 hn
theorem iv_lays (v0 v1 : Int32) (u : XS) : ∃ w, (aLays v0 v1 u).1 = .int w := by
  unfold aLays
  repeat' split
  all_goals exact ⟨_, rfl⟩
theorem lw_lays (hB : bth h B u) (hi : i + 4 < g.2.1) (hL : g.2.1 ≤ 320) (K : ∀ h2 u2, bth h2 B u2 → hN h2 ≤ hN h + 8 → J g 211 1007 [.ref g.1, .ref B, .ref (B + 24), .int (nI i)] [] [] h2 Φ) : J g 211 343 [.ref g.1, .ref B, .ref (B + 24), .int (nI i)] [] [] h Φ := by
  have ib : ∀ j, j < 5 → m_inb (nI (i + j)) g.2.1 = true := fun j hj => by rw [inb_nI (by omega)]; simpa using (show i + j < g.2.1 by omega)
  have j2 : nI i + (2 : Int32) = nI (i + 2) := i_add i 2
  have j3 : nI i + (3 : Int32) = nI (i + 3) := i_add i 3
  have j4 : nI i + (4 : Int32) = nI (i + 4) := i_add i 4
  simp only [s_L_law_343, s_L_law_344, s_L_law_345, s_L_law_346, s_L_law_347, s_L_law_348, s_L_law_349, s_L_law_350, s_L_law_351, s_L_law_352, s_L_law_353, s_L_law_354, s_L_law_357, s_L_law_358, s_L_law_359, s_L_law_360, s_L_law_361, s_L_law_362, s_L_law_363, s_L_law_364, s_L_law_365, s_L_law_366, s_L_law_367, s_L_law_368, s_L_law_371, s_L_law_374, s_L_law_375, ib 1 (by decide), ib 2 (by decide), cl_nI (show i + 1 < 2147483648 by omega), cl_nI (show i + 2 < 2147483648 by omega), a1, j2, j3, j4, hB.1.1.1]
  refine pr_i (x_lays (g.2.2.1 (i + 1)) (g.2.2.1 (i + 2))) (m_lays (g.2.2.1 (i + 1)) (g.2.2.1 (i + 2))) (iv_lays (g.2.2.1 (i + 1)) (g.2.2.1 (i + 2))) hB (Φ2 := fun w => KV g 211 371 [.ref g.1, .ref B, .ref (B + 24), .int (nI i)] [] [.int w] Φ) (fun w h1 hs7 hj => ?_) (fun w h2 hB2 hn => ?_)
  · simp only [KV_ap, s_L_law_343, s_L_law_344, s_L_law_345, s_L_law_346, s_L_law_347, s_L_law_348, s_L_law_349, s_L_law_350, s_L_law_351, s_L_law_352, s_L_law_353, s_L_law_354, s_L_law_357, s_L_law_358, s_L_law_359, s_L_law_360, s_L_law_361, s_L_law_362, s_L_law_363, s_L_law_364, s_L_law_365, s_L_law_366, s_L_law_367, s_L_law_368, s_L_law_371, s_L_law_374, s_L_law_375, ib 1 (by decide), ib 2 (by decide), cl_nI (show i + 1 < 2147483648 by omega), cl_nI (show i + 2 < 2147483648 by omega), a1, j2, j3, j4, hs7]
    exact hj
  · simp only [KV_ap, s_L_law_343, s_L_law_344, s_L_law_345, s_L_law_346, s_L_law_347, s_L_law_348, s_L_law_349, s_L_law_350, s_L_law_351, s_L_law_352, s_L_law_353, s_L_law_354, s_L_law_357, s_L_law_358, s_L_law_359, s_L_law_360, s_L_law_361, s_L_law_362, s_L_law_363, s_L_law_364, s_L_law_365, s_L_law_366, s_L_law_367, s_L_law_368, s_L_law_371, s_L_law_374, s_L_law_375, if_true]
    exact K h2 _ hB2 hn
theorem iv_undo (u : XS) : ∃ w, (aUndo  u).1 = .int w := by
  unfold aUndo
  repeat' split
  all_goals exact ⟨_, rfl⟩
theorem lw_undo (hB : bth h B u) (hi : i + 4 < g.2.1) (hL : g.2.1 ≤ 320) (K : ∀ h2 u2, bth h2 B u2 → hN h2 ≤ hN h + 8 → J g 211 1007 [.ref g.1, .ref B, .ref (B + 24), .int (nI i)] [] [] h2 Φ) : J g 211 376 [.ref g.1, .ref B, .ref (B + 24), .int (nI i)] [] [] h Φ := by
  simp only [s_L_law_376, s_L_law_377, s_L_law_380, s_L_law_381, s_L_law_384, s_L_law_387, s_L_law_388, hB.1.1.1]
  refine pr_i (x_undo) (m_undo) (iv_undo ) hB (Φ2 := fun w => KV g 211 384 [.ref g.1, .ref B, .ref (B + 24), .int (nI i)] [] [.int w] Φ) (fun w h1 hs7 hj => ?_) (fun w h2 hB2 hn => ?_)
  · simp only [KV_ap, s_L_law_376, s_L_law_377, s_L_law_380, s_L_law_381, s_L_law_384, s_L_law_387, s_L_law_388, hs7]
    exact hj
  · simp only [KV_ap, s_L_law_376, s_L_law_377, s_L_law_380, s_L_law_381, s_L_law_384, s_L_law_387, s_L_law_388, if_true]
    exact K h2 _ hB2 hn
theorem iv_of (v0 v1 : Int32) (u : XS) : ∃ w, (aOf v0 v1 u).1 = .int w := by
  unfold aOf
  repeat' split
  all_goals exact ⟨_, rfl⟩
theorem lw_of (hB : bth h B u) (hi : i + 4 < g.2.1) (hL : g.2.1 ≤ 320) (K : ∀ h2 u2, bth h2 B u2 → hN h2 ≤ hN h + 8 → J g 211 1007 [.ref g.1, .ref B, .ref (B + 24), .int (nI i)] [] [] h2 Φ) : J g 211 389 [.ref g.1, .ref B, .ref (B + 24), .int (nI i)] [] [] h Φ := by
  have ib : ∀ j, j < 5 → m_inb (nI (i + j)) g.2.1 = true := fun j hj => by rw [inb_nI (by omega)]; simpa using (show i + j < g.2.1 by omega)
  have j2 : nI i + (2 : Int32) = nI (i + 2) := i_add i 2
  have j3 : nI i + (3 : Int32) = nI (i + 3) := i_add i 3
  have j4 : nI i + (4 : Int32) = nI (i + 4) := i_add i 4
  simp only [s_L_law_389, s_L_law_390, s_L_law_391, s_L_law_392, s_L_law_393, s_L_law_394, s_L_law_395, s_L_law_396, s_L_law_397, s_L_law_398, s_L_law_399, s_L_law_400, s_L_law_403, s_L_law_404, s_L_law_405, s_L_law_406, s_L_law_407, s_L_law_408, s_L_law_409, s_L_law_410, s_L_law_411, s_L_law_412, s_L_law_413, s_L_law_414, s_L_law_417, s_L_law_420, s_L_law_421, ib 1 (by decide), ib 2 (by decide), cl_nI (show i + 1 < 2147483648 by omega), cl_nI (show i + 2 < 2147483648 by omega), a1, j2, j3, j4, hB.1.1.1]
  refine pr_i (x_of (g.2.2.1 (i + 1)) (g.2.2.1 (i + 2))) (m_of (g.2.2.1 (i + 1)) (g.2.2.1 (i + 2))) (iv_of (g.2.2.1 (i + 1)) (g.2.2.1 (i + 2))) hB (Φ2 := fun w => KV g 211 417 [.ref g.1, .ref B, .ref (B + 24), .int (nI i)] [] [.int w] Φ) (fun w h1 hs7 hj => ?_) (fun w h2 hB2 hn => ?_)
  · simp only [KV_ap, s_L_law_389, s_L_law_390, s_L_law_391, s_L_law_392, s_L_law_393, s_L_law_394, s_L_law_395, s_L_law_396, s_L_law_397, s_L_law_398, s_L_law_399, s_L_law_400, s_L_law_403, s_L_law_404, s_L_law_405, s_L_law_406, s_L_law_407, s_L_law_408, s_L_law_409, s_L_law_410, s_L_law_411, s_L_law_412, s_L_law_413, s_L_law_414, s_L_law_417, s_L_law_420, s_L_law_421, ib 1 (by decide), ib 2 (by decide), cl_nI (show i + 1 < 2147483648 by omega), cl_nI (show i + 2 < 2147483648 by omega), a1, j2, j3, j4, hs7]
    exact hj
  · simp only [KV_ap, s_L_law_389, s_L_law_390, s_L_law_391, s_L_law_392, s_L_law_393, s_L_law_394, s_L_law_395, s_L_law_396, s_L_law_397, s_L_law_398, s_L_law_399, s_L_law_400, s_L_law_403, s_L_law_404, s_L_law_405, s_L_law_406, s_L_law_407, s_L_law_408, s_L_law_409, s_L_law_410, s_L_law_411, s_L_law_412, s_L_law_413, s_L_law_414, s_L_law_417, s_L_law_420, s_L_law_421, if_true]
    exact K h2 _ hB2 hn
theorem iv_at (v0 v1 v2 : Int32) (u : XS) : ∃ w, (aAt v0 v1 v2 u).1 = .int w := by
  unfold aAt
  repeat' split
  all_goals exact ⟨_, rfl⟩
theorem lw_at (hB : bth h B u) (hi : i + 4 < g.2.1) (hL : g.2.1 ≤ 320) (K : ∀ h2 u2, bth h2 B u2 → hN h2 ≤ hN h + 8 → J g 211 1007 [.ref g.1, .ref B, .ref (B + 24), .int (nI i)] [] [] h2 Φ) : J g 211 422 [.ref g.1, .ref B, .ref (B + 24), .int (nI i)] [] [] h Φ := by
  have ib : ∀ j, j < 5 → m_inb (nI (i + j)) g.2.1 = true := fun j hj => by rw [inb_nI (by omega)]; simpa using (show i + j < g.2.1 by omega)
  have j2 : nI i + (2 : Int32) = nI (i + 2) := i_add i 2
  have j3 : nI i + (3 : Int32) = nI (i + 3) := i_add i 3
  have j4 : nI i + (4 : Int32) = nI (i + 4) := i_add i 4
  simp only [s_L_law_422, s_L_law_423, s_L_law_424, s_L_law_425, s_L_law_426, s_L_law_427, s_L_law_428, s_L_law_429, s_L_law_430, s_L_law_431, s_L_law_432, s_L_law_433, s_L_law_434, s_L_law_435, s_L_law_436, s_L_law_437, s_L_law_438, s_L_law_441, s_L_law_442, s_L_law_443, s_L_law_444, s_L_law_445, s_L_law_446, s_L_law_447, s_L_law_448, s_L_law_449, s_L_law_450, s_L_law_451, s_L_law_452, s_L_law_453, s_L_law_454, s_L_law_455, s_L_law_456, s_L_law_457, s_L_law_460, s_L_law_463, s_L_law_464, ib 1 (by decide), ib 2 (by decide), ib 3 (by decide), cl_nI (show i + 1 < 2147483648 by omega), cl_nI (show i + 2 < 2147483648 by omega), cl_nI (show i + 3 < 2147483648 by omega), a1, j2, j3, j4, hB.1.1.1]
  refine pr_i (x_at (g.2.2.1 (i + 1)) (g.2.2.1 (i + 2)) (g.2.2.1 (i + 3))) (m_at (g.2.2.1 (i + 1)) (g.2.2.1 (i + 2)) (g.2.2.1 (i + 3))) (iv_at (g.2.2.1 (i + 1)) (g.2.2.1 (i + 2)) (g.2.2.1 (i + 3))) hB (Φ2 := fun w => KV g 211 460 [.ref g.1, .ref B, .ref (B + 24), .int (nI i)] [] [.int w] Φ) (fun w h1 hs7 hj => ?_) (fun w h2 hB2 hn => ?_)
  · simp only [KV_ap, s_L_law_422, s_L_law_423, s_L_law_424, s_L_law_425, s_L_law_426, s_L_law_427, s_L_law_428, s_L_law_429, s_L_law_430, s_L_law_431, s_L_law_432, s_L_law_433, s_L_law_434, s_L_law_435, s_L_law_436, s_L_law_437, s_L_law_438, s_L_law_441, s_L_law_442, s_L_law_443, s_L_law_444, s_L_law_445, s_L_law_446, s_L_law_447, s_L_law_448, s_L_law_449, s_L_law_450, s_L_law_451, s_L_law_452, s_L_law_453, s_L_law_454, s_L_law_455, s_L_law_456, s_L_law_457, s_L_law_460, s_L_law_463, s_L_law_464, ib 1 (by decide), ib 2 (by decide), ib 3 (by decide), cl_nI (show i + 1 < 2147483648 by omega), cl_nI (show i + 2 < 2147483648 by omega), cl_nI (show i + 3 < 2147483648 by omega), a1, j2, j3, j4, hs7]
    exact hj
  · simp only [KV_ap, s_L_law_422, s_L_law_423, s_L_law_424, s_L_law_425, s_L_law_426, s_L_law_427, s_L_law_428, s_L_law_429, s_L_law_430, s_L_law_431, s_L_law_432, s_L_law_433, s_L_law_434, s_L_law_435, s_L_law_436, s_L_law_437, s_L_law_438, s_L_law_441, s_L_law_442, s_L_law_443, s_L_law_444, s_L_law_445, s_L_law_446, s_L_law_447, s_L_law_448, s_L_law_449, s_L_law_450, s_L_law_451, s_L_law_452, s_L_law_453, s_L_law_454, s_L_law_455, s_L_law_456, s_L_law_457, s_L_law_460, s_L_law_463, s_L_law_464, if_true]
    exact K h2 _ hB2 hn
theorem iv_told (v0 : Int32) (u : XS) : ∃ w, (aTold v0 u).1 = .int w := by
  unfold aTold
  repeat' split
  all_goals exact ⟨_, rfl⟩
theorem lw_told (hB : bth h B u) (hi : i + 4 < g.2.1) (hL : g.2.1 ≤ 320) (K : ∀ h2 u2, bth h2 B u2 → hN h2 ≤ hN h + 8 → J g 211 1007 [.ref g.1, .ref B, .ref (B + 24), .int (nI i)] [] [] h2 Φ) : J g 211 465 [.ref g.1, .ref B, .ref (B + 24), .int (nI i)] [] [] h Φ := by
  have ib : ∀ j, j < 5 → m_inb (nI (i + j)) g.2.1 = true := fun j hj => by rw [inb_nI (by omega)]; simpa using (show i + j < g.2.1 by omega)
  have j2 : nI i + (2 : Int32) = nI (i + 2) := i_add i 2
  have j3 : nI i + (3 : Int32) = nI (i + 3) := i_add i 3
  have j4 : nI i + (4 : Int32) = nI (i + 4) := i_add i 4
  simp only [s_L_law_465, s_L_law_466, s_L_law_467, s_L_law_468, s_L_law_469, s_L_law_470, s_L_law_471, s_L_law_474, s_L_law_475, s_L_law_476, s_L_law_477, s_L_law_478, s_L_law_479, s_L_law_480, s_L_law_483, s_L_law_486, s_L_law_487, ib 1 (by decide), cl_nI (show i + 1 < 2147483648 by omega), a1, j2, j3, j4, hB.1.1.1]
  refine pr_i (x_told (g.2.2.1 (i + 1))) (m_told (g.2.2.1 (i + 1))) (iv_told (g.2.2.1 (i + 1))) hB (Φ2 := fun w => KV g 211 483 [.ref g.1, .ref B, .ref (B + 24), .int (nI i)] [] [.int w] Φ) (fun w h1 hs7 hj => ?_) (fun w h2 hB2 hn => ?_)
  · simp only [KV_ap, s_L_law_465, s_L_law_466, s_L_law_467, s_L_law_468, s_L_law_469, s_L_law_470, s_L_law_471, s_L_law_474, s_L_law_475, s_L_law_476, s_L_law_477, s_L_law_478, s_L_law_479, s_L_law_480, s_L_law_483, s_L_law_486, s_L_law_487, ib 1 (by decide), cl_nI (show i + 1 < 2147483648 by omega), a1, j2, j3, j4, hs7]
    exact hj
  · simp only [KV_ap, s_L_law_465, s_L_law_466, s_L_law_467, s_L_law_468, s_L_law_469, s_L_law_470, s_L_law_471, s_L_law_474, s_L_law_475, s_L_law_476, s_L_law_477, s_L_law_478, s_L_law_479, s_L_law_480, s_L_law_483, s_L_law_486, s_L_law_487, if_true]
    exact K h2 _ hB2 hn
theorem iv_sucks (v0 v1 : Int32) (u : XS) : ∃ w, (aSucks v0 v1 u).1 = .int w := by
  unfold aSucks
  repeat' split
  all_goals exact ⟨_, rfl⟩
theorem lw_sucks (hB : bth h B u) (hi : i + 4 < g.2.1) (hL : g.2.1 ≤ 320) (K : ∀ h2 u2, bth h2 B u2 → hN h2 ≤ hN h + 8 → J g 211 1007 [.ref g.1, .ref B, .ref (B + 24), .int (nI i)] [] [] h2 Φ) : J g 211 488 [.ref g.1, .ref B, .ref (B + 24), .int (nI i)] [] [] h Φ := by
  have ib : ∀ j, j < 5 → m_inb (nI (i + j)) g.2.1 = true := fun j hj => by rw [inb_nI (by omega)]; simpa using (show i + j < g.2.1 by omega)
  have j2 : nI i + (2 : Int32) = nI (i + 2) := i_add i 2
  have j3 : nI i + (3 : Int32) = nI (i + 3) := i_add i 3
  have j4 : nI i + (4 : Int32) = nI (i + 4) := i_add i 4
  simp only [s_L_law_488, s_L_law_489, s_L_law_490, s_L_law_491, s_L_law_492, s_L_law_493, s_L_law_494, s_L_law_495, s_L_law_496, s_L_law_497, s_L_law_498, s_L_law_499, s_L_law_502, s_L_law_503, s_L_law_504, s_L_law_505, s_L_law_506, s_L_law_507, s_L_law_508, s_L_law_509, s_L_law_510, s_L_law_511, s_L_law_512, s_L_law_513, s_L_law_516, s_L_law_519, s_L_law_520, ib 1 (by decide), ib 2 (by decide), cl_nI (show i + 1 < 2147483648 by omega), cl_nI (show i + 2 < 2147483648 by omega), a1, j2, j3, j4, hB.1.1.1]
  refine pr_i (x_sucks (g.2.2.1 (i + 1)) (g.2.2.1 (i + 2))) (m_sucks (g.2.2.1 (i + 1)) (g.2.2.1 (i + 2))) (iv_sucks (g.2.2.1 (i + 1)) (g.2.2.1 (i + 2))) hB (Φ2 := fun w => KV g 211 516 [.ref g.1, .ref B, .ref (B + 24), .int (nI i)] [] [.int w] Φ) (fun w h1 hs7 hj => ?_) (fun w h2 hB2 hn => ?_)
  · simp only [KV_ap, s_L_law_488, s_L_law_489, s_L_law_490, s_L_law_491, s_L_law_492, s_L_law_493, s_L_law_494, s_L_law_495, s_L_law_496, s_L_law_497, s_L_law_498, s_L_law_499, s_L_law_502, s_L_law_503, s_L_law_504, s_L_law_505, s_L_law_506, s_L_law_507, s_L_law_508, s_L_law_509, s_L_law_510, s_L_law_511, s_L_law_512, s_L_law_513, s_L_law_516, s_L_law_519, s_L_law_520, ib 1 (by decide), ib 2 (by decide), cl_nI (show i + 1 < 2147483648 by omega), cl_nI (show i + 2 < 2147483648 by omega), a1, j2, j3, j4, hs7]
    exact hj
  · simp only [KV_ap, s_L_law_488, s_L_law_489, s_L_law_490, s_L_law_491, s_L_law_492, s_L_law_493, s_L_law_494, s_L_law_495, s_L_law_496, s_L_law_497, s_L_law_498, s_L_law_499, s_L_law_502, s_L_law_503, s_L_law_504, s_L_law_505, s_L_law_506, s_L_law_507, s_L_law_508, s_L_law_509, s_L_law_510, s_L_law_511, s_L_law_512, s_L_law_513, s_L_law_516, s_L_law_519, s_L_law_520, if_true]
    exact K h2 _ hB2 hn
theorem iv_breaks (v0 v1 : Int32) (u : XS) : ∃ w, (aBreaks v0 v1 u).1 = .int w := by
  unfold aBreaks
  repeat' split
  all_goals exact ⟨_, rfl⟩
theorem lw_breaks (hB : bth h B u) (hi : i + 4 < g.2.1) (hL : g.2.1 ≤ 320) (K : ∀ h2 u2, bth h2 B u2 → hN h2 ≤ hN h + 8 → J g 211 1007 [.ref g.1, .ref B, .ref (B + 24), .int (nI i)] [] [] h2 Φ) : J g 211 521 [.ref g.1, .ref B, .ref (B + 24), .int (nI i)] [] [] h Φ := by
  have ib : ∀ j, j < 5 → m_inb (nI (i + j)) g.2.1 = true := fun j hj => by rw [inb_nI (by omega)]; simpa using (show i + j < g.2.1 by omega)
  have j2 : nI i + (2 : Int32) = nI (i + 2) := i_add i 2
  have j3 : nI i + (3 : Int32) = nI (i + 3) := i_add i 3
  have j4 : nI i + (4 : Int32) = nI (i + 4) := i_add i 4
  simp only [s_L_law_521, s_L_law_522, s_L_law_523, s_L_law_524, s_L_law_525, s_L_law_526, s_L_law_527, s_L_law_528, s_L_law_529, s_L_law_530, s_L_law_531, s_L_law_532, s_L_law_535, s_L_law_536, s_L_law_537, s_L_law_538, s_L_law_539, s_L_law_540, s_L_law_541, s_L_law_542, s_L_law_543, s_L_law_544, s_L_law_545, s_L_law_546, s_L_law_549, s_L_law_552, s_L_law_553, ib 1 (by decide), ib 2 (by decide), cl_nI (show i + 1 < 2147483648 by omega), cl_nI (show i + 2 < 2147483648 by omega), a1, j2, j3, j4, hB.1.1.1]
  refine pr_i (x_breaks (g.2.2.1 (i + 1)) (g.2.2.1 (i + 2))) (m_breaks (g.2.2.1 (i + 1)) (g.2.2.1 (i + 2))) (iv_breaks (g.2.2.1 (i + 1)) (g.2.2.1 (i + 2))) hB (Φ2 := fun w => KV g 211 549 [.ref g.1, .ref B, .ref (B + 24), .int (nI i)] [] [.int w] Φ) (fun w h1 hs7 hj => ?_) (fun w h2 hB2 hn => ?_)
  · simp only [KV_ap, s_L_law_521, s_L_law_522, s_L_law_523, s_L_law_524, s_L_law_525, s_L_law_526, s_L_law_527, s_L_law_528, s_L_law_529, s_L_law_530, s_L_law_531, s_L_law_532, s_L_law_535, s_L_law_536, s_L_law_537, s_L_law_538, s_L_law_539, s_L_law_540, s_L_law_541, s_L_law_542, s_L_law_543, s_L_law_544, s_L_law_545, s_L_law_546, s_L_law_549, s_L_law_552, s_L_law_553, ib 1 (by decide), ib 2 (by decide), cl_nI (show i + 1 < 2147483648 by omega), cl_nI (show i + 2 < 2147483648 by omega), a1, j2, j3, j4, hs7]
    exact hj
  · simp only [KV_ap, s_L_law_521, s_L_law_522, s_L_law_523, s_L_law_524, s_L_law_525, s_L_law_526, s_L_law_527, s_L_law_528, s_L_law_529, s_L_law_530, s_L_law_531, s_L_law_532, s_L_law_535, s_L_law_536, s_L_law_537, s_L_law_538, s_L_law_539, s_L_law_540, s_L_law_541, s_L_law_542, s_L_law_543, s_L_law_544, s_L_law_545, s_L_law_546, s_L_law_549, s_L_law_552, s_L_law_553, if_true]
    exact K h2 _ hB2 hn
theorem iv_letters (v0 : Int32) (u : XS) : ∃ w, (aLetters v0 u).1 = .int w := by
  unfold aLetters
  repeat' split
  all_goals exact ⟨_, rfl⟩
theorem lw_letters (hB : bth h B u) (hi : i + 4 < g.2.1) (hL : g.2.1 ≤ 320) (K : ∀ h2 u2, bth h2 B u2 → hN h2 ≤ hN h + 8 → J g 211 1007 [.ref g.1, .ref B, .ref (B + 24), .int (nI i)] [] [] h2 Φ) : J g 211 554 [.ref g.1, .ref B, .ref (B + 24), .int (nI i)] [] [] h Φ := by
  have ib : ∀ j, j < 5 → m_inb (nI (i + j)) g.2.1 = true := fun j hj => by rw [inb_nI (by omega)]; simpa using (show i + j < g.2.1 by omega)
  have j2 : nI i + (2 : Int32) = nI (i + 2) := i_add i 2
  have j3 : nI i + (3 : Int32) = nI (i + 3) := i_add i 3
  have j4 : nI i + (4 : Int32) = nI (i + 4) := i_add i 4
  simp only [s_L_law_554, s_L_law_555, s_L_law_556, s_L_law_557, s_L_law_558, s_L_law_559, s_L_law_560, s_L_law_563, s_L_law_564, s_L_law_565, s_L_law_566, s_L_law_567, s_L_law_568, s_L_law_569, s_L_law_572, s_L_law_575, s_L_law_576, ib 1 (by decide), cl_nI (show i + 1 < 2147483648 by omega), a1, j2, j3, j4, hB.1.1.1]
  refine pr_i (x_letters (g.2.2.1 (i + 1))) (m_letters (g.2.2.1 (i + 1))) (iv_letters (g.2.2.1 (i + 1))) hB (Φ2 := fun w => KV g 211 572 [.ref g.1, .ref B, .ref (B + 24), .int (nI i)] [] [.int w] Φ) (fun w h1 hs7 hj => ?_) (fun w h2 hB2 hn => ?_)
  · simp only [KV_ap, s_L_law_554, s_L_law_555, s_L_law_556, s_L_law_557, s_L_law_558, s_L_law_559, s_L_law_560, s_L_law_563, s_L_law_564, s_L_law_565, s_L_law_566, s_L_law_567, s_L_law_568, s_L_law_569, s_L_law_572, s_L_law_575, s_L_law_576, ib 1 (by decide), cl_nI (show i + 1 < 2147483648 by omega), a1, j2, j3, j4, hs7]
    exact hj
  · simp only [KV_ap, s_L_law_554, s_L_law_555, s_L_law_556, s_L_law_557, s_L_law_558, s_L_law_559, s_L_law_560, s_L_law_563, s_L_law_564, s_L_law_565, s_L_law_566, s_L_law_567, s_L_law_568, s_L_law_569, s_L_law_572, s_L_law_575, s_L_law_576, if_true]
    exact K h2 _ hB2 hn
theorem iv_row (v0 : Int32) (u : XS) : ∃ w, (aRow v0 u).1 = .int w := by
  unfold aRow
  repeat' split
  all_goals exact ⟨_, rfl⟩
theorem lw_row (hB : bth h B u) (hi : i + 4 < g.2.1) (hL : g.2.1 ≤ 320) (K : ∀ h2 u2, bth h2 B u2 → hN h2 ≤ hN h + 8 → J g 211 1007 [.ref g.1, .ref B, .ref (B + 24), .int (nI i)] [] [] h2 Φ) : J g 211 577 [.ref g.1, .ref B, .ref (B + 24), .int (nI i)] [] [] h Φ := by
  have ib : ∀ j, j < 5 → m_inb (nI (i + j)) g.2.1 = true := fun j hj => by rw [inb_nI (by omega)]; simpa using (show i + j < g.2.1 by omega)
  have j2 : nI i + (2 : Int32) = nI (i + 2) := i_add i 2
  have j3 : nI i + (3 : Int32) = nI (i + 3) := i_add i 3
  have j4 : nI i + (4 : Int32) = nI (i + 4) := i_add i 4
  simp only [s_L_law_577, s_L_law_578, s_L_law_579, s_L_law_580, s_L_law_581, s_L_law_582, s_L_law_583, s_L_law_586, s_L_law_587, s_L_law_588, s_L_law_589, s_L_law_590, s_L_law_591, s_L_law_592, s_L_law_595, s_L_law_598, s_L_law_599, ib 1 (by decide), cl_nI (show i + 1 < 2147483648 by omega), a1, j2, j3, j4, hB.1.1.1]
  refine pr_i (x_row (g.2.2.1 (i + 1))) (m_row (g.2.2.1 (i + 1))) (iv_row (g.2.2.1 (i + 1))) hB (Φ2 := fun w => KV g 211 595 [.ref g.1, .ref B, .ref (B + 24), .int (nI i)] [] [.int w] Φ) (fun w h1 hs7 hj => ?_) (fun w h2 hB2 hn => ?_)
  · simp only [KV_ap, s_L_law_577, s_L_law_578, s_L_law_579, s_L_law_580, s_L_law_581, s_L_law_582, s_L_law_583, s_L_law_586, s_L_law_587, s_L_law_588, s_L_law_589, s_L_law_590, s_L_law_591, s_L_law_592, s_L_law_595, s_L_law_598, s_L_law_599, ib 1 (by decide), cl_nI (show i + 1 < 2147483648 by omega), a1, j2, j3, j4, hs7]
    exact hj
  · simp only [KV_ap, s_L_law_577, s_L_law_578, s_L_law_579, s_L_law_580, s_L_law_581, s_L_law_582, s_L_law_583, s_L_law_586, s_L_law_587, s_L_law_588, s_L_law_589, s_L_law_590, s_L_law_591, s_L_law_592, s_L_law_595, s_L_law_598, s_L_law_599, if_true]
    exact K h2 _ hB2 hn
theorem iv_note (v0 v1 v2 v3 : Int32) (u : XS) : ∃ w, (aNote v0 v1 v2 v3 u).1 = .int w := by
  unfold aNote
  repeat' split
  all_goals exact ⟨_, rfl⟩
theorem lw_note (hB : bth h B u) (hi : i + 4 < g.2.1) (hL : g.2.1 ≤ 320) (K : ∀ h2 u2, bth h2 B u2 → hN h2 ≤ hN h + 8 → J g 211 1007 [.ref g.1, .ref B, .ref (B + 24), .int (nI i)] [] [] h2 Φ) : J g 211 600 [.ref g.1, .ref B, .ref (B + 24), .int (nI i)] [] [] h Φ := by
  have ib : ∀ j, j < 5 → m_inb (nI (i + j)) g.2.1 = true := fun j hj => by rw [inb_nI (by omega)]; simpa using (show i + j < g.2.1 by omega)
  have j2 : nI i + (2 : Int32) = nI (i + 2) := i_add i 2
  have j3 : nI i + (3 : Int32) = nI (i + 3) := i_add i 3
  have j4 : nI i + (4 : Int32) = nI (i + 4) := i_add i 4
  simp only [s_L_law_600, s_L_law_601, s_L_law_602, s_L_law_603, s_L_law_604, s_L_law_605, s_L_law_606, s_L_law_607, s_L_law_608, s_L_law_609, s_L_law_610, s_L_law_611, s_L_law_612, s_L_law_613, s_L_law_614, s_L_law_615, s_L_law_616, s_L_law_617, s_L_law_618, s_L_law_619, s_L_law_620, s_L_law_621, s_L_law_624, s_L_law_625, s_L_law_626, s_L_law_627, s_L_law_628, s_L_law_629, s_L_law_630, s_L_law_631, s_L_law_632, s_L_law_633, s_L_law_634, s_L_law_635, s_L_law_636, s_L_law_637, s_L_law_638, s_L_law_639, s_L_law_640, s_L_law_641, s_L_law_642, s_L_law_643, s_L_law_644, s_L_law_645, s_L_law_648, s_L_law_651, s_L_law_652, ib 1 (by decide), ib 2 (by decide), ib 3 (by decide), ib 4 (by decide), cl_nI (show i + 1 < 2147483648 by omega), cl_nI (show i + 2 < 2147483648 by omega), cl_nI (show i + 3 < 2147483648 by omega), cl_nI (show i + 4 < 2147483648 by omega), a1, j2, j3, j4, hB.1.1.1]
  refine pr_i (x_note (g.2.2.1 (i + 1)) (g.2.2.1 (i + 2)) (g.2.2.1 (i + 3)) (g.2.2.1 (i + 4))) (m_note (g.2.2.1 (i + 1)) (g.2.2.1 (i + 2)) (g.2.2.1 (i + 3)) (g.2.2.1 (i + 4))) (iv_note (g.2.2.1 (i + 1)) (g.2.2.1 (i + 2)) (g.2.2.1 (i + 3)) (g.2.2.1 (i + 4))) hB (Φ2 := fun w => KV g 211 648 [.ref g.1, .ref B, .ref (B + 24), .int (nI i)] [] [.int w] Φ) (fun w h1 hs7 hj => ?_) (fun w h2 hB2 hn => ?_)
  · simp only [KV_ap, s_L_law_600, s_L_law_601, s_L_law_602, s_L_law_603, s_L_law_604, s_L_law_605, s_L_law_606, s_L_law_607, s_L_law_608, s_L_law_609, s_L_law_610, s_L_law_611, s_L_law_612, s_L_law_613, s_L_law_614, s_L_law_615, s_L_law_616, s_L_law_617, s_L_law_618, s_L_law_619, s_L_law_620, s_L_law_621, s_L_law_624, s_L_law_625, s_L_law_626, s_L_law_627, s_L_law_628, s_L_law_629, s_L_law_630, s_L_law_631, s_L_law_632, s_L_law_633, s_L_law_634, s_L_law_635, s_L_law_636, s_L_law_637, s_L_law_638, s_L_law_639, s_L_law_640, s_L_law_641, s_L_law_642, s_L_law_643, s_L_law_644, s_L_law_645, s_L_law_648, s_L_law_651, s_L_law_652, ib 1 (by decide), ib 2 (by decide), ib 3 (by decide), ib 4 (by decide), cl_nI (show i + 1 < 2147483648 by omega), cl_nI (show i + 2 < 2147483648 by omega), cl_nI (show i + 3 < 2147483648 by omega), cl_nI (show i + 4 < 2147483648 by omega), a1, j2, j3, j4, hs7]
    exact hj
  · simp only [KV_ap, s_L_law_600, s_L_law_601, s_L_law_602, s_L_law_603, s_L_law_604, s_L_law_605, s_L_law_606, s_L_law_607, s_L_law_608, s_L_law_609, s_L_law_610, s_L_law_611, s_L_law_612, s_L_law_613, s_L_law_614, s_L_law_615, s_L_law_616, s_L_law_617, s_L_law_618, s_L_law_619, s_L_law_620, s_L_law_621, s_L_law_624, s_L_law_625, s_L_law_626, s_L_law_627, s_L_law_628, s_L_law_629, s_L_law_630, s_L_law_631, s_L_law_632, s_L_law_633, s_L_law_634, s_L_law_635, s_L_law_636, s_L_law_637, s_L_law_638, s_L_law_639, s_L_law_640, s_L_law_641, s_L_law_642, s_L_law_643, s_L_law_644, s_L_law_645, s_L_law_648, s_L_law_651, s_L_law_652, if_true]
    exact K h2 _ hB2 hn
theorem iv_forget (u : XS) : ∃ w, (aForget  u).1 = .int w := by
  unfold aForget
  repeat' split
  all_goals exact ⟨_, rfl⟩
theorem lw_forget (hB : bth h B u) (hi : i + 4 < g.2.1) (hL : g.2.1 ≤ 320) (K : ∀ h2 u2, bth h2 B u2 → hN h2 ≤ hN h + 8 → J g 211 1007 [.ref g.1, .ref B, .ref (B + 24), .int (nI i)] [] [] h2 Φ) : J g 211 653 [.ref g.1, .ref B, .ref (B + 24), .int (nI i)] [] [] h Φ := by
  simp only [s_L_law_653, s_L_law_654, s_L_law_657, s_L_law_658, s_L_law_661, s_L_law_664, s_L_law_665, hB.1.1.1]
  refine pr_i (x_forget) (m_forget) (iv_forget ) hB (Φ2 := fun w => KV g 211 661 [.ref g.1, .ref B, .ref (B + 24), .int (nI i)] [] [.int w] Φ) (fun w h1 hs7 hj => ?_) (fun w h2 hB2 hn => ?_)
  · simp only [KV_ap, s_L_law_653, s_L_law_654, s_L_law_657, s_L_law_658, s_L_law_661, s_L_law_664, s_L_law_665, hs7]
    exact hj
  · simp only [KV_ap, s_L_law_653, s_L_law_654, s_L_law_657, s_L_law_658, s_L_law_661, s_L_law_664, s_L_law_665, if_true]
    exact K h2 _ hB2 hn
theorem iv_is (v0 : Int32) (u : XS) : ∃ w, (aIs v0 u).1 = .int w := by
  unfold aIs
  repeat' split
  all_goals exact ⟨_, rfl⟩
theorem lw_is (hB : bth h B u) (hi : i + 4 < g.2.1) (hL : g.2.1 ≤ 320) (K : ∀ h2 u2, bth h2 B u2 → hN h2 ≤ hN h + 8 → J g 211 1007 [.ref g.1, .ref B, .ref (B + 24), .int (nI i)] [] [] h2 Φ) : J g 211 666 [.ref g.1, .ref B, .ref (B + 24), .int (nI i)] [] [] h Φ := by
  have ib : ∀ j, j < 5 → m_inb (nI (i + j)) g.2.1 = true := fun j hj => by rw [inb_nI (by omega)]; simpa using (show i + j < g.2.1 by omega)
  have j2 : nI i + (2 : Int32) = nI (i + 2) := i_add i 2
  have j3 : nI i + (3 : Int32) = nI (i + 3) := i_add i 3
  have j4 : nI i + (4 : Int32) = nI (i + 4) := i_add i 4
  simp only [s_L_law_666, s_L_law_667, s_L_law_668, s_L_law_669, s_L_law_670, s_L_law_671, s_L_law_672, s_L_law_675, s_L_law_676, s_L_law_677, s_L_law_678, s_L_law_679, s_L_law_680, s_L_law_681, s_L_law_684, s_L_law_687, s_L_law_688, ib 1 (by decide), cl_nI (show i + 1 < 2147483648 by omega), a1, j2, j3, j4, hB.1.1.1]
  refine pr_i (x_is (g.2.2.1 (i + 1))) (m_is (g.2.2.1 (i + 1))) (iv_is (g.2.2.1 (i + 1))) hB (Φ2 := fun w => KV g 211 684 [.ref g.1, .ref B, .ref (B + 24), .int (nI i)] [] [.int w] Φ) (fun w h1 hs7 hj => ?_) (fun w h2 hB2 hn => ?_)
  · simp only [KV_ap, s_L_law_666, s_L_law_667, s_L_law_668, s_L_law_669, s_L_law_670, s_L_law_671, s_L_law_672, s_L_law_675, s_L_law_676, s_L_law_677, s_L_law_678, s_L_law_679, s_L_law_680, s_L_law_681, s_L_law_684, s_L_law_687, s_L_law_688, ib 1 (by decide), cl_nI (show i + 1 < 2147483648 by omega), a1, j2, j3, j4, hs7]
    exact hj
  · simp only [KV_ap, s_L_law_666, s_L_law_667, s_L_law_668, s_L_law_669, s_L_law_670, s_L_law_671, s_L_law_672, s_L_law_675, s_L_law_676, s_L_law_677, s_L_law_678, s_L_law_679, s_L_law_680, s_L_law_681, s_L_law_684, s_L_law_687, s_L_law_688, if_true]
    exact K h2 _ hB2 hn
theorem iv_next (v0 : Int32) (u : XS) : ∃ w, (aNext v0 u).1 = .int w := by
  unfold aNext
  repeat' split
  all_goals exact ⟨_, rfl⟩
theorem lw_next (hB : bth h B u) (hi : i + 4 < g.2.1) (hL : g.2.1 ≤ 320) (K : ∀ h2 u2, bth h2 B u2 → hN h2 ≤ hN h + 8 → J g 211 1007 [.ref g.1, .ref B, .ref (B + 24), .int (nI i)] [] [] h2 Φ) : J g 211 689 [.ref g.1, .ref B, .ref (B + 24), .int (nI i)] [] [] h Φ := by
  have ib : ∀ j, j < 5 → m_inb (nI (i + j)) g.2.1 = true := fun j hj => by rw [inb_nI (by omega)]; simpa using (show i + j < g.2.1 by omega)
  have j2 : nI i + (2 : Int32) = nI (i + 2) := i_add i 2
  have j3 : nI i + (3 : Int32) = nI (i + 3) := i_add i 3
  have j4 : nI i + (4 : Int32) = nI (i + 4) := i_add i 4
  simp only [s_L_law_689, s_L_law_690, s_L_law_691, s_L_law_692, s_L_law_693, s_L_law_694, s_L_law_695, s_L_law_698, s_L_law_699, s_L_law_700, s_L_law_701, s_L_law_702, s_L_law_703, s_L_law_704, s_L_law_707, s_L_law_710, s_L_law_711, ib 1 (by decide), cl_nI (show i + 1 < 2147483648 by omega), a1, j2, j3, j4, hB.1.1.1]
  refine pr_i (x_next (g.2.2.1 (i + 1))) (m_next (g.2.2.1 (i + 1))) (iv_next (g.2.2.1 (i + 1))) hB (Φ2 := fun w => KV g 211 707 [.ref g.1, .ref B, .ref (B + 24), .int (nI i)] [] [.int w] Φ) (fun w h1 hs7 hj => ?_) (fun w h2 hB2 hn => ?_)
  · simp only [KV_ap, s_L_law_689, s_L_law_690, s_L_law_691, s_L_law_692, s_L_law_693, s_L_law_694, s_L_law_695, s_L_law_698, s_L_law_699, s_L_law_700, s_L_law_701, s_L_law_702, s_L_law_703, s_L_law_704, s_L_law_707, s_L_law_710, s_L_law_711, ib 1 (by decide), cl_nI (show i + 1 < 2147483648 by omega), a1, j2, j3, j4, hs7]
    exact hj
  · simp only [KV_ap, s_L_law_689, s_L_law_690, s_L_law_691, s_L_law_692, s_L_law_693, s_L_law_694, s_L_law_695, s_L_law_698, s_L_law_699, s_L_law_700, s_L_law_701, s_L_law_702, s_L_law_703, s_L_law_704, s_L_law_707, s_L_law_710, s_L_law_711, if_true]
    exact K h2 _ hB2 hn
theorem iv_names (v0 v1 : Int32) (u : XS) : ∃ w, (aNames v0 v1 u).1 = .int w := by
  unfold aNames
  repeat' split
  all_goals exact ⟨_, rfl⟩
theorem lw_names (hB : bth h B u) (hi : i + 4 < g.2.1) (hL : g.2.1 ≤ 320) (K : ∀ h2 u2, bth h2 B u2 → hN h2 ≤ hN h + 8 → J g 211 1007 [.ref g.1, .ref B, .ref (B + 24), .int (nI i)] [] [] h2 Φ) : J g 211 712 [.ref g.1, .ref B, .ref (B + 24), .int (nI i)] [] [] h Φ := by
  have ib : ∀ j, j < 5 → m_inb (nI (i + j)) g.2.1 = true := fun j hj => by rw [inb_nI (by omega)]; simpa using (show i + j < g.2.1 by omega)
  have j2 : nI i + (2 : Int32) = nI (i + 2) := i_add i 2
  have j3 : nI i + (3 : Int32) = nI (i + 3) := i_add i 3
  have j4 : nI i + (4 : Int32) = nI (i + 4) := i_add i 4
  simp only [s_L_law_712, s_L_law_713, s_L_law_714, s_L_law_715, s_L_law_716, s_L_law_717, s_L_law_718, s_L_law_719, s_L_law_720, s_L_law_721, s_L_law_722, s_L_law_723, s_L_law_726, s_L_law_727, s_L_law_728, s_L_law_729, s_L_law_730, s_L_law_731, s_L_law_732, s_L_law_733, s_L_law_734, s_L_law_735, s_L_law_736, s_L_law_737, s_L_law_740, s_L_law_743, s_L_law_744, ib 1 (by decide), ib 2 (by decide), cl_nI (show i + 1 < 2147483648 by omega), cl_nI (show i + 2 < 2147483648 by omega), a1, j2, j3, j4, hB.1.1.1]
  refine pr_i (x_names (g.2.2.1 (i + 1)) (g.2.2.1 (i + 2))) (m_names (g.2.2.1 (i + 1)) (g.2.2.1 (i + 2))) (iv_names (g.2.2.1 (i + 1)) (g.2.2.1 (i + 2))) hB (Φ2 := fun w => KV g 211 740 [.ref g.1, .ref B, .ref (B + 24), .int (nI i)] [] [.int w] Φ) (fun w h1 hs7 hj => ?_) (fun w h2 hB2 hn => ?_)
  · simp only [KV_ap, s_L_law_712, s_L_law_713, s_L_law_714, s_L_law_715, s_L_law_716, s_L_law_717, s_L_law_718, s_L_law_719, s_L_law_720, s_L_law_721, s_L_law_722, s_L_law_723, s_L_law_726, s_L_law_727, s_L_law_728, s_L_law_729, s_L_law_730, s_L_law_731, s_L_law_732, s_L_law_733, s_L_law_734, s_L_law_735, s_L_law_736, s_L_law_737, s_L_law_740, s_L_law_743, s_L_law_744, ib 1 (by decide), ib 2 (by decide), cl_nI (show i + 1 < 2147483648 by omega), cl_nI (show i + 2 < 2147483648 by omega), a1, j2, j3, j4, hs7]
    exact hj
  · simp only [KV_ap, s_L_law_712, s_L_law_713, s_L_law_714, s_L_law_715, s_L_law_716, s_L_law_717, s_L_law_718, s_L_law_719, s_L_law_720, s_L_law_721, s_L_law_722, s_L_law_723, s_L_law_726, s_L_law_727, s_L_law_728, s_L_law_729, s_L_law_730, s_L_law_731, s_L_law_732, s_L_law_733, s_L_law_734, s_L_law_735, s_L_law_736, s_L_law_737, s_L_law_740, s_L_law_743, s_L_law_744, if_true]
    exact K h2 _ hB2 hn
theorem iv_whose (v0 v1 : Int32) (u : XS) : ∃ w, (aWhose v0 v1 u).1 = .int w := by
  unfold aWhose
  repeat' split
  all_goals exact ⟨_, rfl⟩
theorem lw_whose (hB : bth h B u) (hi : i + 4 < g.2.1) (hL : g.2.1 ≤ 320) (K : ∀ h2 u2, bth h2 B u2 → hN h2 ≤ hN h + 8 → J g 211 1007 [.ref g.1, .ref B, .ref (B + 24), .int (nI i)] [] [] h2 Φ) : J g 211 745 [.ref g.1, .ref B, .ref (B + 24), .int (nI i)] [] [] h Φ := by
  have ib : ∀ j, j < 5 → m_inb (nI (i + j)) g.2.1 = true := fun j hj => by rw [inb_nI (by omega)]; simpa using (show i + j < g.2.1 by omega)
  have j2 : nI i + (2 : Int32) = nI (i + 2) := i_add i 2
  have j3 : nI i + (3 : Int32) = nI (i + 3) := i_add i 3
  have j4 : nI i + (4 : Int32) = nI (i + 4) := i_add i 4
  simp only [s_L_law_745, s_L_law_746, s_L_law_747, s_L_law_748, s_L_law_749, s_L_law_750, s_L_law_751, s_L_law_752, s_L_law_753, s_L_law_754, s_L_law_755, s_L_law_756, s_L_law_759, s_L_law_760, s_L_law_761, s_L_law_762, s_L_law_763, s_L_law_764, s_L_law_765, s_L_law_766, s_L_law_767, s_L_law_768, s_L_law_769, s_L_law_770, s_L_law_773, s_L_law_776, s_L_law_777, ib 1 (by decide), ib 2 (by decide), cl_nI (show i + 1 < 2147483648 by omega), cl_nI (show i + 2 < 2147483648 by omega), a1, j2, j3, j4, hB.1.1.1]
  refine pr_i (x_whose (g.2.2.1 (i + 1)) (g.2.2.1 (i + 2))) (m_whose (g.2.2.1 (i + 1)) (g.2.2.1 (i + 2))) (iv_whose (g.2.2.1 (i + 1)) (g.2.2.1 (i + 2))) hB (Φ2 := fun w => KV g 211 773 [.ref g.1, .ref B, .ref (B + 24), .int (nI i)] [] [.int w] Φ) (fun w h1 hs7 hj => ?_) (fun w h2 hB2 hn => ?_)
  · simp only [KV_ap, s_L_law_745, s_L_law_746, s_L_law_747, s_L_law_748, s_L_law_749, s_L_law_750, s_L_law_751, s_L_law_752, s_L_law_753, s_L_law_754, s_L_law_755, s_L_law_756, s_L_law_759, s_L_law_760, s_L_law_761, s_L_law_762, s_L_law_763, s_L_law_764, s_L_law_765, s_L_law_766, s_L_law_767, s_L_law_768, s_L_law_769, s_L_law_770, s_L_law_773, s_L_law_776, s_L_law_777, ib 1 (by decide), ib 2 (by decide), cl_nI (show i + 1 < 2147483648 by omega), cl_nI (show i + 2 < 2147483648 by omega), a1, j2, j3, j4, hs7]
    exact hj
  · simp only [KV_ap, s_L_law_745, s_L_law_746, s_L_law_747, s_L_law_748, s_L_law_749, s_L_law_750, s_L_law_751, s_L_law_752, s_L_law_753, s_L_law_754, s_L_law_755, s_L_law_756, s_L_law_759, s_L_law_760, s_L_law_761, s_L_law_762, s_L_law_763, s_L_law_764, s_L_law_765, s_L_law_766, s_L_law_767, s_L_law_768, s_L_law_769, s_L_law_770, s_L_law_773, s_L_law_776, s_L_law_777, if_true]
    exact K h2 _ hB2 hn
theorem iv_court (v0 v1 : Int32) (u : XS) : ∃ w, (aCourt v0 v1 u).1 = .int w := by
  unfold aCourt
  repeat' split
  all_goals exact ⟨_, rfl⟩
theorem lw_court (hB : bth h B u) (hi : i + 4 < g.2.1) (hL : g.2.1 ≤ 320) (K : ∀ h2 u2, bth h2 B u2 → hN h2 ≤ hN h + 8 → J g 211 1007 [.ref g.1, .ref B, .ref (B + 24), .int (nI i)] [] [] h2 Φ) : J g 211 778 [.ref g.1, .ref B, .ref (B + 24), .int (nI i)] [] [] h Φ := by
  have ib : ∀ j, j < 5 → m_inb (nI (i + j)) g.2.1 = true := fun j hj => by rw [inb_nI (by omega)]; simpa using (show i + j < g.2.1 by omega)
  have j2 : nI i + (2 : Int32) = nI (i + 2) := i_add i 2
  have j3 : nI i + (3 : Int32) = nI (i + 3) := i_add i 3
  have j4 : nI i + (4 : Int32) = nI (i + 4) := i_add i 4
  simp only [s_L_law_778, s_L_law_779, s_L_law_780, s_L_law_781, s_L_law_782, s_L_law_783, s_L_law_784, s_L_law_785, s_L_law_786, s_L_law_787, s_L_law_788, s_L_law_789, s_L_law_792, s_L_law_793, s_L_law_794, s_L_law_795, s_L_law_796, s_L_law_797, s_L_law_798, s_L_law_799, s_L_law_800, s_L_law_801, s_L_law_802, s_L_law_803, s_L_law_806, s_L_law_809, s_L_law_810, ib 1 (by decide), ib 2 (by decide), cl_nI (show i + 1 < 2147483648 by omega), cl_nI (show i + 2 < 2147483648 by omega), a1, j2, j3, j4, hB.1.1.1]
  refine pr_i (x_court (g.2.2.1 (i + 1)) (g.2.2.1 (i + 2))) (m_court (g.2.2.1 (i + 1)) (g.2.2.1 (i + 2))) (iv_court (g.2.2.1 (i + 1)) (g.2.2.1 (i + 2))) hB (Φ2 := fun w => KV g 211 806 [.ref g.1, .ref B, .ref (B + 24), .int (nI i)] [] [.int w] Φ) (fun w h1 hs7 hj => ?_) (fun w h2 hB2 hn => ?_)
  · simp only [KV_ap, s_L_law_778, s_L_law_779, s_L_law_780, s_L_law_781, s_L_law_782, s_L_law_783, s_L_law_784, s_L_law_785, s_L_law_786, s_L_law_787, s_L_law_788, s_L_law_789, s_L_law_792, s_L_law_793, s_L_law_794, s_L_law_795, s_L_law_796, s_L_law_797, s_L_law_798, s_L_law_799, s_L_law_800, s_L_law_801, s_L_law_802, s_L_law_803, s_L_law_806, s_L_law_809, s_L_law_810, ib 1 (by decide), ib 2 (by decide), cl_nI (show i + 1 < 2147483648 by omega), cl_nI (show i + 2 < 2147483648 by omega), a1, j2, j3, j4, hs7]
    exact hj
  · simp only [KV_ap, s_L_law_778, s_L_law_779, s_L_law_780, s_L_law_781, s_L_law_782, s_L_law_783, s_L_law_784, s_L_law_785, s_L_law_786, s_L_law_787, s_L_law_788, s_L_law_789, s_L_law_792, s_L_law_793, s_L_law_794, s_L_law_795, s_L_law_796, s_L_law_797, s_L_law_798, s_L_law_799, s_L_law_800, s_L_law_801, s_L_law_802, s_L_law_803, s_L_law_806, s_L_law_809, s_L_law_810, if_true]
    exact K h2 _ hB2 hn
theorem iv_rain (v0 v1 : Int32) (u : XS) : ∃ w, (aRain v0 v1 u).1 = .int w := by
  unfold aRain
  repeat' split
  all_goals exact ⟨_, rfl⟩
theorem lw_rain (hB : bth h B u) (hi : i + 4 < g.2.1) (hL : g.2.1 ≤ 320) (K : ∀ h2 u2, bth h2 B u2 → hN h2 ≤ hN h + 8 → J g 211 1007 [.ref g.1, .ref B, .ref (B + 24), .int (nI i)] [] [] h2 Φ) : J g 211 811 [.ref g.1, .ref B, .ref (B + 24), .int (nI i)] [] [] h Φ := by
  have ib : ∀ j, j < 5 → m_inb (nI (i + j)) g.2.1 = true := fun j hj => by rw [inb_nI (by omega)]; simpa using (show i + j < g.2.1 by omega)
  have j2 : nI i + (2 : Int32) = nI (i + 2) := i_add i 2
  have j3 : nI i + (3 : Int32) = nI (i + 3) := i_add i 3
  have j4 : nI i + (4 : Int32) = nI (i + 4) := i_add i 4
  simp only [s_L_law_811, s_L_law_812, s_L_law_813, s_L_law_814, s_L_law_815, s_L_law_816, s_L_law_817, s_L_law_818, s_L_law_819, s_L_law_820, s_L_law_821, s_L_law_822, s_L_law_825, s_L_law_826, s_L_law_827, s_L_law_828, s_L_law_829, s_L_law_830, s_L_law_831, s_L_law_832, s_L_law_833, s_L_law_834, s_L_law_835, s_L_law_836, s_L_law_839, s_L_law_842, s_L_law_843, ib 1 (by decide), ib 2 (by decide), cl_nI (show i + 1 < 2147483648 by omega), cl_nI (show i + 2 < 2147483648 by omega), a1, j2, j3, j4, hB.1.1.1]
  refine pr_i (x_rain (g.2.2.1 (i + 1)) (g.2.2.1 (i + 2))) (m_rain (g.2.2.1 (i + 1)) (g.2.2.1 (i + 2))) (iv_rain (g.2.2.1 (i + 1)) (g.2.2.1 (i + 2))) hB (Φ2 := fun w => KV g 211 839 [.ref g.1, .ref B, .ref (B + 24), .int (nI i)] [] [.int w] Φ) (fun w h1 hs7 hj => ?_) (fun w h2 hB2 hn => ?_)
  · simp only [KV_ap, s_L_law_811, s_L_law_812, s_L_law_813, s_L_law_814, s_L_law_815, s_L_law_816, s_L_law_817, s_L_law_818, s_L_law_819, s_L_law_820, s_L_law_821, s_L_law_822, s_L_law_825, s_L_law_826, s_L_law_827, s_L_law_828, s_L_law_829, s_L_law_830, s_L_law_831, s_L_law_832, s_L_law_833, s_L_law_834, s_L_law_835, s_L_law_836, s_L_law_839, s_L_law_842, s_L_law_843, ib 1 (by decide), ib 2 (by decide), cl_nI (show i + 1 < 2147483648 by omega), cl_nI (show i + 2 < 2147483648 by omega), a1, j2, j3, j4, hs7]
    exact hj
  · simp only [KV_ap, s_L_law_811, s_L_law_812, s_L_law_813, s_L_law_814, s_L_law_815, s_L_law_816, s_L_law_817, s_L_law_818, s_L_law_819, s_L_law_820, s_L_law_821, s_L_law_822, s_L_law_825, s_L_law_826, s_L_law_827, s_L_law_828, s_L_law_829, s_L_law_830, s_L_law_831, s_L_law_832, s_L_law_833, s_L_law_834, s_L_law_835, s_L_law_836, s_L_law_839, s_L_law_842, s_L_law_843, if_true]
    exact K h2 _ hB2 hn
theorem iv_years (v0 v1 : Int32) (u : XS) : ∃ w, (aYears v0 v1 u).1 = .int w := by
  unfold aYears
  repeat' split
  all_goals exact ⟨_, rfl⟩
theorem lw_years (hB : bth h B u) (hi : i + 4 < g.2.1) (hL : g.2.1 ≤ 320) (K : ∀ h2 u2, bth h2 B u2 → hN h2 ≤ hN h + 8 → J g 211 1007 [.ref g.1, .ref B, .ref (B + 24), .int (nI i)] [] [] h2 Φ) : J g 211 844 [.ref g.1, .ref B, .ref (B + 24), .int (nI i)] [] [] h Φ := by
  have ib : ∀ j, j < 5 → m_inb (nI (i + j)) g.2.1 = true := fun j hj => by rw [inb_nI (by omega)]; simpa using (show i + j < g.2.1 by omega)
  have j2 : nI i + (2 : Int32) = nI (i + 2) := i_add i 2
  have j3 : nI i + (3 : Int32) = nI (i + 3) := i_add i 3
  have j4 : nI i + (4 : Int32) = nI (i + 4) := i_add i 4
  simp only [s_L_law_844, s_L_law_845, s_L_law_846, s_L_law_847, s_L_law_848, s_L_law_849, s_L_law_850, s_L_law_851, s_L_law_852, s_L_law_853, s_L_law_854, s_L_law_855, s_L_law_858, s_L_law_859, s_L_law_860, s_L_law_861, s_L_law_862, s_L_law_863, s_L_law_864, s_L_law_865, s_L_law_866, s_L_law_867, s_L_law_868, s_L_law_869, s_L_law_872, s_L_law_875, s_L_law_876, ib 1 (by decide), ib 2 (by decide), cl_nI (show i + 1 < 2147483648 by omega), cl_nI (show i + 2 < 2147483648 by omega), a1, j2, j3, j4, hB.1.1.1]
  refine pr_i (x_years (g.2.2.1 (i + 1)) (g.2.2.1 (i + 2))) (m_years (g.2.2.1 (i + 1)) (g.2.2.1 (i + 2))) (iv_years (g.2.2.1 (i + 1)) (g.2.2.1 (i + 2))) hB (Φ2 := fun w => KV g 211 872 [.ref g.1, .ref B, .ref (B + 24), .int (nI i)] [] [.int w] Φ) (fun w h1 hs7 hj => ?_) (fun w h2 hB2 hn => ?_)
  · simp only [KV_ap, s_L_law_844, s_L_law_845, s_L_law_846, s_L_law_847, s_L_law_848, s_L_law_849, s_L_law_850, s_L_law_851, s_L_law_852, s_L_law_853, s_L_law_854, s_L_law_855, s_L_law_858, s_L_law_859, s_L_law_860, s_L_law_861, s_L_law_862, s_L_law_863, s_L_law_864, s_L_law_865, s_L_law_866, s_L_law_867, s_L_law_868, s_L_law_869, s_L_law_872, s_L_law_875, s_L_law_876, ib 1 (by decide), ib 2 (by decide), cl_nI (show i + 1 < 2147483648 by omega), cl_nI (show i + 2 < 2147483648 by omega), a1, j2, j3, j4, hs7]
    exact hj
  · simp only [KV_ap, s_L_law_844, s_L_law_845, s_L_law_846, s_L_law_847, s_L_law_848, s_L_law_849, s_L_law_850, s_L_law_851, s_L_law_852, s_L_law_853, s_L_law_854, s_L_law_855, s_L_law_858, s_L_law_859, s_L_law_860, s_L_law_861, s_L_law_862, s_L_law_863, s_L_law_864, s_L_law_865, s_L_law_866, s_L_law_867, s_L_law_868, s_L_law_869, s_L_law_872, s_L_law_875, s_L_law_876, if_true]
    exact K h2 _ hB2 hn
theorem iv_part (v0 : Int32) (u : XS) : ∃ w, (aPart v0 u).1 = .long w := by
  unfold aPart
  repeat' split
  all_goals exact ⟨_, rfl⟩
theorem lw_part (hB : bth h B u) (hi : i + 4 < g.2.1) (hL : g.2.1 ≤ 320) (K : ∀ h2 u2, bth h2 B u2 → hN h2 ≤ hN h + 8 → J g 211 1007 [.ref g.1, .ref B, .ref (B + 24), .int (nI i)] [] [] h2 Φ) : J g 211 877 [.ref g.1, .ref B, .ref (B + 24), .int (nI i)] [] [] h Φ := by
  have ib : ∀ j, j < 5 → m_inb (nI (i + j)) g.2.1 = true := fun j hj => by rw [inb_nI (by omega)]; simpa using (show i + j < g.2.1 by omega)
  have j2 : nI i + (2 : Int32) = nI (i + 2) := i_add i 2
  have j3 : nI i + (3 : Int32) = nI (i + 3) := i_add i 3
  have j4 : nI i + (4 : Int32) = nI (i + 4) := i_add i 4
  simp only [s_L_law_877, s_L_law_878, s_L_law_879, s_L_law_880, s_L_law_881, s_L_law_882, s_L_law_883, s_L_law_886, s_L_law_887, s_L_law_888, s_L_law_889, s_L_law_890, s_L_law_891, s_L_law_892, s_L_law_895, s_L_law_896, s_L_law_899, s_L_law_900, ib 1 (by decide), cl_nI (show i + 1 < 2147483648 by omega), a1, j2, j3, j4, hB.1.1.1]
  refine pr_l (x_part (g.2.2.1 (i + 1))) (m_part (g.2.2.1 (i + 1))) (iv_part (g.2.2.1 (i + 1))) hB (Φ2 := fun w => KV g 211 895 [.ref g.1, .ref B, .ref (B + 24), .int (nI i)] [] [.long w] Φ) (fun w h1 hs7 hj => ?_) (fun w h2 hB2 hn => ?_)
  · simp only [KV_ap, s_L_law_877, s_L_law_878, s_L_law_879, s_L_law_880, s_L_law_881, s_L_law_882, s_L_law_883, s_L_law_886, s_L_law_887, s_L_law_888, s_L_law_889, s_L_law_890, s_L_law_891, s_L_law_892, s_L_law_895, s_L_law_896, s_L_law_899, s_L_law_900, ib 1 (by decide), cl_nI (show i + 1 < 2147483648 by omega), a1, j2, j3, j4, hs7]
    exact hj
  · simp only [KV_ap, s_L_law_877, s_L_law_878, s_L_law_879, s_L_law_880, s_L_law_881, s_L_law_882, s_L_law_883, s_L_law_886, s_L_law_887, s_L_law_888, s_L_law_889, s_L_law_890, s_L_law_891, s_L_law_892, s_L_law_895, s_L_law_896, s_L_law_899, s_L_law_900, lg0, if_true]
    exact K h2 _ hB2 hn
theorem iv_image (v0 : Int32) (u : XS) : ∃ w, (aImage v0 u).1 = .int w := by
  unfold aImage
  repeat' split
  all_goals exact ⟨_, rfl⟩
theorem lw_image (hB : bth h B u) (hi : i + 4 < g.2.1) (hL : g.2.1 ≤ 320) (K : ∀ h2 u2, bth h2 B u2 → hN h2 ≤ hN h + 8 → J g 211 1007 [.ref g.1, .ref B, .ref (B + 24), .int (nI i)] [] [] h2 Φ) : J g 211 901 [.ref g.1, .ref B, .ref (B + 24), .int (nI i)] [] [] h Φ := by
  have ib : ∀ j, j < 5 → m_inb (nI (i + j)) g.2.1 = true := fun j hj => by rw [inb_nI (by omega)]; simpa using (show i + j < g.2.1 by omega)
  have j2 : nI i + (2 : Int32) = nI (i + 2) := i_add i 2
  have j3 : nI i + (3 : Int32) = nI (i + 3) := i_add i 3
  have j4 : nI i + (4 : Int32) = nI (i + 4) := i_add i 4
  simp only [s_L_law_901, s_L_law_902, s_L_law_903, s_L_law_904, s_L_law_905, s_L_law_906, s_L_law_907, s_L_law_910, s_L_law_911, s_L_law_912, s_L_law_913, s_L_law_914, s_L_law_915, s_L_law_916, s_L_law_919, s_L_law_922, s_L_law_923, ib 1 (by decide), cl_nI (show i + 1 < 2147483648 by omega), a1, j2, j3, j4, hB.1.1.1]
  refine pr_i (x_image (g.2.2.1 (i + 1))) (m_image (g.2.2.1 (i + 1))) (iv_image (g.2.2.1 (i + 1))) hB (Φ2 := fun w => KV g 211 919 [.ref g.1, .ref B, .ref (B + 24), .int (nI i)] [] [.int w] Φ) (fun w h1 hs7 hj => ?_) (fun w h2 hB2 hn => ?_)
  · simp only [KV_ap, s_L_law_901, s_L_law_902, s_L_law_903, s_L_law_904, s_L_law_905, s_L_law_906, s_L_law_907, s_L_law_910, s_L_law_911, s_L_law_912, s_L_law_913, s_L_law_914, s_L_law_915, s_L_law_916, s_L_law_919, s_L_law_922, s_L_law_923, ib 1 (by decide), cl_nI (show i + 1 < 2147483648 by omega), a1, j2, j3, j4, hs7]
    exact hj
  · simp only [KV_ap, s_L_law_901, s_L_law_902, s_L_law_903, s_L_law_904, s_L_law_905, s_L_law_906, s_L_law_907, s_L_law_910, s_L_law_911, s_L_law_912, s_L_law_913, s_L_law_914, s_L_law_915, s_L_law_916, s_L_law_919, s_L_law_922, s_L_law_923, if_true]
    exact K h2 _ hB2 hn
theorem iv_from (v0 : Int32) (u : XS) : ∃ w, (aFrom v0 u).1 = .int w := by
  unfold aFrom
  repeat' split
  all_goals exact ⟨_, rfl⟩
theorem lw_from (hB : bth h B u) (hi : i + 4 < g.2.1) (hL : g.2.1 ≤ 320) (K : ∀ h2 u2, bth h2 B u2 → hN h2 ≤ hN h + 8 → J g 211 1007 [.ref g.1, .ref B, .ref (B + 24), .int (nI i)] [] [] h2 Φ) : J g 211 924 [.ref g.1, .ref B, .ref (B + 24), .int (nI i)] [] [] h Φ := by
  have ib : ∀ j, j < 5 → m_inb (nI (i + j)) g.2.1 = true := fun j hj => by rw [inb_nI (by omega)]; simpa using (show i + j < g.2.1 by omega)
  have j2 : nI i + (2 : Int32) = nI (i + 2) := i_add i 2
  have j3 : nI i + (3 : Int32) = nI (i + 3) := i_add i 3
  have j4 : nI i + (4 : Int32) = nI (i + 4) := i_add i 4
  simp only [s_L_law_924, s_L_law_925, s_L_law_926, s_L_law_927, s_L_law_928, s_L_law_929, s_L_law_930, s_L_law_933, s_L_law_934, s_L_law_935, s_L_law_936, s_L_law_937, s_L_law_938, s_L_law_939, s_L_law_942, s_L_law_945, s_L_law_946, ib 1 (by decide), cl_nI (show i + 1 < 2147483648 by omega), a1, j2, j3, j4, hB.1.1.1]
  refine pr_i (x_from (g.2.2.1 (i + 1))) (m_from (g.2.2.1 (i + 1))) (iv_from (g.2.2.1 (i + 1))) hB (Φ2 := fun w => KV g 211 942 [.ref g.1, .ref B, .ref (B + 24), .int (nI i)] [] [.int w] Φ) (fun w h1 hs7 hj => ?_) (fun w h2 hB2 hn => ?_)
  · simp only [KV_ap, s_L_law_924, s_L_law_925, s_L_law_926, s_L_law_927, s_L_law_928, s_L_law_929, s_L_law_930, s_L_law_933, s_L_law_934, s_L_law_935, s_L_law_936, s_L_law_937, s_L_law_938, s_L_law_939, s_L_law_942, s_L_law_945, s_L_law_946, ib 1 (by decide), cl_nI (show i + 1 < 2147483648 by omega), a1, j2, j3, j4, hs7]
    exact hj
  · simp only [KV_ap, s_L_law_924, s_L_law_925, s_L_law_926, s_L_law_927, s_L_law_928, s_L_law_929, s_L_law_930, s_L_law_933, s_L_law_934, s_L_law_935, s_L_law_936, s_L_law_937, s_L_law_938, s_L_law_939, s_L_law_942, s_L_law_945, s_L_law_946, if_true]
    exact K h2 _ hB2 hn
theorem iv_status (v0 : Int32) (u : XS) : ∃ w, (aStatus v0 u).1 = .int w := by
  unfold aStatus
  repeat' split
  all_goals exact ⟨_, rfl⟩
theorem lw_status (hB : bth h B u) (hi : i + 4 < g.2.1) (hL : g.2.1 ≤ 320) (K : ∀ h2 u2, bth h2 B u2 → hN h2 ≤ hN h + 8 → J g 211 1007 [.ref g.1, .ref B, .ref (B + 24), .int (nI i)] [] [] h2 Φ) : J g 211 947 [.ref g.1, .ref B, .ref (B + 24), .int (nI i)] [] [] h Φ := by
  have ib : ∀ j, j < 5 → m_inb (nI (i + j)) g.2.1 = true := fun j hj => by rw [inb_nI (by omega)]; simpa using (show i + j < g.2.1 by omega)
  have j2 : nI i + (2 : Int32) = nI (i + 2) := i_add i 2
  have j3 : nI i + (3 : Int32) = nI (i + 3) := i_add i 3
  have j4 : nI i + (4 : Int32) = nI (i + 4) := i_add i 4
  simp only [s_L_law_947, s_L_law_948, s_L_law_949, s_L_law_950, s_L_law_951, s_L_law_952, s_L_law_953, s_L_law_956, s_L_law_957, s_L_law_958, s_L_law_959, s_L_law_960, s_L_law_961, s_L_law_962, s_L_law_965, s_L_law_968, s_L_law_969, ib 1 (by decide), cl_nI (show i + 1 < 2147483648 by omega), a1, j2, j3, j4, hB.1.1.1]
  refine pr_i (x_status (g.2.2.1 (i + 1))) (m_status (g.2.2.1 (i + 1))) (iv_status (g.2.2.1 (i + 1))) hB (Φ2 := fun w => KV g 211 965 [.ref g.1, .ref B, .ref (B + 24), .int (nI i)] [] [.int w] Φ) (fun w h1 hs7 hj => ?_) (fun w h2 hB2 hn => ?_)
  · simp only [KV_ap, s_L_law_947, s_L_law_948, s_L_law_949, s_L_law_950, s_L_law_951, s_L_law_952, s_L_law_953, s_L_law_956, s_L_law_957, s_L_law_958, s_L_law_959, s_L_law_960, s_L_law_961, s_L_law_962, s_L_law_965, s_L_law_968, s_L_law_969, ib 1 (by decide), cl_nI (show i + 1 < 2147483648 by omega), a1, j2, j3, j4, hs7]
    exact hj
  · simp only [KV_ap, s_L_law_947, s_L_law_948, s_L_law_949, s_L_law_950, s_L_law_951, s_L_law_952, s_L_law_953, s_L_law_956, s_L_law_957, s_L_law_958, s_L_law_959, s_L_law_960, s_L_law_961, s_L_law_962, s_L_law_965, s_L_law_968, s_L_law_969, if_true]
    exact K h2 _ hB2 hn
theorem iv_count (v0 : Int32) (u : XS) : ∃ w, (aCount v0 u).1 = .int w := by
  unfold aCount
  repeat' split
  all_goals exact ⟨_, rfl⟩
theorem lw_count (hB : bth h B u) (hi : i + 4 < g.2.1) (hL : g.2.1 ≤ 320) (K : ∀ h2 u2, bth h2 B u2 → hN h2 ≤ hN h + 8 → J g 211 1007 [.ref g.1, .ref B, .ref (B + 24), .int (nI i)] [] [] h2 Φ) : J g 211 970 [.ref g.1, .ref B, .ref (B + 24), .int (nI i)] [] [] h Φ := by
  have ib : ∀ j, j < 5 → m_inb (nI (i + j)) g.2.1 = true := fun j hj => by rw [inb_nI (by omega)]; simpa using (show i + j < g.2.1 by omega)
  have j2 : nI i + (2 : Int32) = nI (i + 2) := i_add i 2
  have j3 : nI i + (3 : Int32) = nI (i + 3) := i_add i 3
  have j4 : nI i + (4 : Int32) = nI (i + 4) := i_add i 4
  simp only [s_L_law_970, s_L_law_971, s_L_law_972, s_L_law_973, s_L_law_974, s_L_law_975, s_L_law_976, s_L_law_979, s_L_law_980, s_L_law_981, s_L_law_982, s_L_law_983, s_L_law_984, s_L_law_985, s_L_law_988, s_L_law_991, s_L_law_992, ib 1 (by decide), cl_nI (show i + 1 < 2147483648 by omega), a1, j2, j3, j4, hB.1.1.1]
  refine pr_i (x_count (g.2.2.1 (i + 1))) (m_count (g.2.2.1 (i + 1))) (iv_count (g.2.2.1 (i + 1))) hB (Φ2 := fun w => KV g 211 988 [.ref g.1, .ref B, .ref (B + 24), .int (nI i)] [] [.int w] Φ) (fun w h1 hs7 hj => ?_) (fun w h2 hB2 hn => ?_)
  · simp only [KV_ap, s_L_law_970, s_L_law_971, s_L_law_972, s_L_law_973, s_L_law_974, s_L_law_975, s_L_law_976, s_L_law_979, s_L_law_980, s_L_law_981, s_L_law_982, s_L_law_983, s_L_law_984, s_L_law_985, s_L_law_988, s_L_law_991, s_L_law_992, ib 1 (by decide), cl_nI (show i + 1 < 2147483648 by omega), a1, j2, j3, j4, hs7]
    exact hj
  · simp only [KV_ap, s_L_law_970, s_L_law_971, s_L_law_972, s_L_law_973, s_L_law_974, s_L_law_975, s_L_law_976, s_L_law_979, s_L_law_980, s_L_law_981, s_L_law_982, s_L_law_983, s_L_law_984, s_L_law_985, s_L_law_988, s_L_law_991, s_L_law_992, if_true]
    exact K h2 _ hB2 hn
theorem iv_digest (u : XS) : ∃ w, (aDigest  u).1 = .long w := by
  unfold aDigest
  repeat' split
  all_goals exact ⟨_, rfl⟩
theorem lw_digest (hB : bth h B u) (hi : i + 4 < g.2.1) (hL : g.2.1 ≤ 320) (K : ∀ h2 u2, bth h2 B u2 → hN h2 ≤ hN h + 8 → J g 211 1007 [.ref g.1, .ref B, .ref (B + 24), .int (nI i)] [] [] h2 Φ) : J g 211 993 [.ref g.1, .ref B, .ref (B + 24), .int (nI i)] [] [] h Φ := by
  simp only [s_L_law_993, s_L_law_994, s_L_law_997, s_L_law_998, s_L_law_1001, s_L_law_1002, s_L_law_1005, s_L_law_1006, hB.1.1.1]
  refine pr_l (x_digest) (m_digest) (iv_digest ) hB (Φ2 := fun w => KV g 211 1001 [.ref g.1, .ref B, .ref (B + 24), .int (nI i)] [] [.long w] Φ) (fun w h1 hs7 hj => ?_) (fun w h2 hB2 hn => ?_)
  · simp only [KV_ap, s_L_law_993, s_L_law_994, s_L_law_997, s_L_law_998, s_L_law_1001, s_L_law_1002, s_L_law_1005, s_L_law_1006, hs7]
    exact hj
  · simp only [KV_ap, s_L_law_993, s_L_law_994, s_L_law_997, s_L_law_998, s_L_law_1001, s_L_law_1002, s_L_law_1005, s_L_law_1006, lg0, if_true]
    exact K h2 _ hB2 hn
end LW

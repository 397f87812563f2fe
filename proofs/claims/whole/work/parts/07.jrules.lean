/-! one law of J for each kind of instruction; part 08, written by program, has one for each instruction -/
section JR
variable {g : GL} {k pc : Nat} {cc : ByteArray} {len : Nat} {ls : List Value} {ll : List (Nat × Int64)} {st : List Value} {h : HP} {Φ : Value → HP → Prop}
theorem J_iconst {n : Int} {v : Int32} (hc : m_cd k = cc) (hd : decode cc pc = .ok (.iconst n, len)) (hl : m_lok (.iconst n) len = true) (hv : Int32.ofInt n = v) : J g k pc ls ll st h Φ = J g k (pc + 1) ls ll (.int v :: st) h Φ := by
  subst hv; exact J_nx hc hd hl rfl
theorem J_bipush {n : Int} {v : Int32} (hc : m_cd k = cc) (hd : decode cc pc = .ok (.bipush n, len)) (hl : m_lok (.bipush n) len = true) (hv : (Int8.ofInt n).toInt32 = v) : J g k pc ls ll st h Φ = J g k (pc + 2) ls ll (.int v :: st) h Φ := by
  subst hv; exact J_nx hc hd hl rfl
theorem J_sipush {n : Int} {v : Int32} (hc : m_cd k = cc) (hd : decode cc pc = .ok (.sipush n, len)) (hl : m_lok (.sipush n) len = true) (hv : (Int16.ofInt n).toInt32 = v) : J g k pc ls ll st h Φ = J g k (pc + 3) ls ll (.int v :: st) h Φ := by
  subst hv; exact J_nx hc hd hl rfl
theorem J_lconst {n : Fin 2} {v : Int64} (hc : m_cd k = cc) (hd : decode cc pc = .ok (.lconst n, len)) (hl : m_lok (.lconst n) len = true) (hv : Int64.ofNat (n : Nat) = v) : J g k pc ls ll st h Φ = J g k (pc + 1) ls ll (.long v :: st) h Φ := by
  subst hv; exact J_nx hc hd hl rfl
theorem J_ldc {idx : Nat} {e : Nat × Int32 × Nat} {v : Int32} (hc : m_cd k = cc) (hd : decode cc pc = .ok (.ldc idx, len)) (hl : m_lok (.ldc idx) len = true) (he : m_kiT k idx = some e) (hv : e.2.1 = v) : J g k pc ls ll st h Φ = J g k (pc + 2) ls ll (.int v :: st) h Φ := by
  subst hv; exact J_nx hc hd hl (by simp only [stepI, he])
theorem J_ldcS {idx : Nat} {e : Nat × Nat} (hc : m_cd k = cc) (hd : decode cc pc = .ok (.ldc idx, len)) (hl : m_lok (.ldc idx) len = true) (he : m_kiT k idx = none) (he2 : m_ksT k idx = some e) : J g k pc ls ll st h Φ = J g k (pc + 2) ls ll (.ref (g.2.2.2 e.2) :: st) h Φ :=
  J_nx hc hd hl (by simp only [stepI, he, he2])
theorem J_ldcw {idx : Nat} {e : Nat × Int32 × Nat} {v : Int32} (hc : m_cd k = cc) (hd : decode cc pc = .ok (.ldc_w idx, len)) (hl : m_lok (.ldc_w idx) len = true) (he : m_kiT k idx = some e) (hv : e.2.1 = v) : J g k pc ls ll st h Φ = J g k (pc + 3) ls ll (.int v :: st) h Φ := by
  subst hv; exact J_nx hc hd hl (by simp only [stepI, he])
theorem J_ldc2 {idx : Nat} {e : Nat × Int64 × Nat} {v : Int64} (hc : m_cd k = cc) (hd : decode cc pc = .ok (.ldc2_w idx, len)) (hl : m_lok (.ldc2_w idx) len = true) (he : m_klT k idx = some e) (hv : e.2.1 = v) : J g k pc ls ll st h Φ = J g k (pc + 3) ls ll (.long v :: st) h Φ := by
  subst hv; exact J_nx hc hd hl (by simp only [stepI, he])
theorem J_lload {i pc' : Nat} {ins : Instr} {x : Int64} (hc : m_cd k = cc) (hd : decode cc pc = .ok (ins, len)) (hl : m_lok (ins) len = true) (hi : stepI g k pc ins ls ll st h = m_ldl pc' i ls ll st h) (hx : ll.lookup i = some x) : J g k pc ls ll st h Φ = J g k pc' ls ll (.long x :: st) h Φ :=
  J_nx hc hd hl (by rw [hi]; simp only [m_ldl, hx])
theorem J_iinc {j : Nat} {n : Int} {x v : Int32} (hc : m_cd k = cc) (hd : decode cc pc = .ok (.iinc j n, len)) (hl : m_lok (.iinc j n) len = true) (hx : ls[j]? = some (.int x)) (hv : Int32.ofInt n = v) : J g k pc ls ll st h Φ = J g k (pc + 3) (ls.set j (.int (x + v))) (dropL j ll) st h Φ := by
  subst hv; exact J_nx hc hd hl (by simp only [stepI, hx])
theorem J_idiv {x y : Int32} (hc : m_cd k = cc) (hd : decode cc pc = .ok (.idiv, len)) (hl : m_lok (.idiv) len = true) (hy : ¬ y = 0) : J g k pc ls ll (.int y :: .int x :: st) h Φ = J g k (pc + 1) ls ll (.int (x / y) :: st) h Φ :=
  J_nx hc hd hl (by simp only [stepI, if_neg hy])
theorem J_irem {x y : Int32} (hc : m_cd k = cc) (hd : decode cc pc = .ok (.irem, len)) (hl : m_lok (.irem) len = true) (hy : ¬ y = 0) : J g k pc ls ll (.int y :: .int x :: st) h Φ = J g k (pc + 1) ls ll (.int (x - x / y * y) :: st) h Φ :=
  J_nx hc hd hl (by simp only [stepI, if_neg hy])
theorem J_ldiv {x y : Int64} (hc : m_cd k = cc) (hd : decode cc pc = .ok (.ldiv, len)) (hl : m_lok (.ldiv) len = true) (hy : ¬ y = 0) : J g k pc ls ll (.long y :: .long x :: st) h Φ = J g k (pc + 1) ls ll (.long (x / y) :: st) h Φ :=
  J_nx hc hd hl (by simp only [stepI, if_neg hy])
theorem J_lrem {x y : Int64} (hc : m_cd k = cc) (hd : decode cc pc = .ok (.lrem, len)) (hl : m_lok (.lrem) len = true) (hy : ¬ y = 0) : J g k pc ls ll (.long y :: .long x :: st) h Φ = J g k (pc + 1) ls ll (.long (x - x / y * y) :: st) h Φ :=
  J_nx hc hd hl (by simp only [stepI, if_neg hy])
theorem J_go {o : Int} {t : Nat} (hc : m_cd k = cc) (hd : decode cc pc = .ok (.goto o, len)) (hl : m_lok (.goto o) len = true) (ht : (pc : Int) + o = (t : Int)) : J g k pc ls ll st h Φ = J g k t ls ll st h Φ :=
  J_nx hc hd hl (by simp only [stepI, m_goto, ht]; rw [if_pos (Int.natCast_nonneg t), Int.toNat_natCast])
theorem J_c1 {c : ClassFile.Cond} {o : Int} {t : Nat} {x : Int32} {P : Prop} [Decidable P] (hc : m_cd k = cc) (hd : decode cc pc = .ok (.ifCond c o, len)) (hl : m_lok (.ifCond c o) len = true) (ht : (pc : Int) + o = (t : Int)) (hp : m_c1 c x = decide P) : J g k pc ls ll (.int x :: st) h Φ = if P then J g k t ls ll st h Φ else J g k (pc + 3) ls ll st h Φ :=
  J_br hc hd hl (by simp only [stepI, ht, hp, decide_eq_true_eq]; rw [if_pos (Int.natCast_nonneg t), Int.toNat_natCast])
theorem J_c2 {c : ClassFile.Cond} {o : Int} {t : Nat} {x y : Int32} {P : Prop} [Decidable P] (hc : m_cd k = cc) (hd : decode cc pc = .ok (.if_icmp c o, len)) (hl : m_lok (.if_icmp c o) len = true) (ht : (pc : Int) + o = (t : Int)) (hp : m_c2 c x y = decide P) : J g k pc ls ll (.int y :: .int x :: st) h Φ = if P then J g k t ls ll st h Φ else J g k (pc + 3) ls ll st h Φ :=
  J_br hc hd hl (by simp only [stepI, ht, hp, decide_eq_true_eq]; rw [if_pos (Int.natCast_nonneg t), Int.toNat_natCast])
theorem J_nonnull {o : Int} {t a : Nat} (hc : m_cd k = cc) (hd : decode cc pc = .ok (.ifnonnull o, len)) (hl : m_lok (.ifnonnull o) len = true) (ht : (pc : Int) + o = (t : Int)) : J g k pc ls ll (.ref a :: st) h Φ = J g k t ls ll st h Φ :=
  J_nx hc hd hl (by simp only [stepI, m_goto, ht]; rw [if_pos (Int.natCast_nonneg t), Int.toNat_natCast])
theorem J_swIn {df lo hi : Int} {os : Array Int} {t : Nat} {x : Int32} {o : Int} (hc : m_cd k = cc) (hd : decode cc pc = .ok (.tableswitch df lo hi os, len)) (hl : m_lok (.tableswitch df lo hi os) len = true) (h1 : ¬ (x.toInt < lo ∨ hi < x.toInt)) (ho : os[(x.toInt - lo).toNat]? = some o) (ht : (pc : Int) + o = (t : Int)) : J g k pc ls ll (.int x :: st) h Φ = J g k t ls ll st h Φ :=
  J_nx hc hd hl (by simp only [stepI, m_sw, if_neg h1, ho, m_goto, ht]; rw [if_pos (Int.natCast_nonneg t), Int.toNat_natCast])
theorem J_swOut {df lo hi : Int} {os : Array Int} {t : Nat} {x : Int32} (hc : m_cd k = cc) (hd : decode cc pc = .ok (.tableswitch df lo hi os, len)) (hl : m_lok (.tableswitch df lo hi os) len = true) (h1 : x.toInt < lo ∨ hi < x.toInt) (ht : (pc : Int) + df = (t : Int)) : J g k pc ls ll (.int x :: st) h Φ = J g k t ls ll st h Φ :=
  J_nx hc hd hl (by simp only [stepI, m_sw, if_pos h1, m_goto, ht]; rw [if_pos (Int.natCast_nonneg t), Int.toNat_natCast])
theorem J_getf {idx a j : Nat} {s : Nat × Nat} {e : m_fe} (hc : m_cd k = cc) (hd : decode cc pc = .ok (.getfield idx, len)) (hl : m_lok (.getfield idx) len = true) (hq : hS h a = s) (he : m_fT k idx s = some e) (hj : e.2.2.1 = j) : J g k pc ls ll (.ref a :: st) h Φ = J g k (pc + 3) ls ll (hF h a j :: st) h Φ := by
  subst hj; exact J_nx hc hd hl (by simp only [stepI, hq, he])
theorem J_putf {idx a j : Nat} {s : Nat × Nat} {e : m_fe} {v : Value} (hc : m_cd k = cc) (hd : decode cc pc = .ok (.putfield idx, len)) (hl : m_lok (.putfield idx) len = true) (hq : hS h a = s) (he : m_fT k idx s = some e) (hj : e.2.2.1 = j) (h1 : m_fit e.2.2.2.1 v = true) (h2 : e.2.2.2.2.1 = false ∨ ((m_y k).name = "<init>" ∧ (m_y k).cls = e.2.2.2.2.2.1)) : J g k pc ls ll (v :: .ref a :: st) h Φ = J g k (pc + 3) ls ll st (pF h a j v) Φ := by
  subst hj; exact J_nx hc hd hl (by simp only [stepI, hq, he]; rw [if_pos ⟨h1, h2⟩])
theorem J_iald {a : Nat} {i : Int32} (hc : m_cd k = cc) (hd : decode cc pc = .ok (.iaload, len)) (hl : m_lok (.iaload) len = true) (hk : ¬ k = m_law) (hq : (hS h a).1 = 1) (hi : m_inb i (hS h a).2 = true) : J g k pc ls ll (.int i :: .ref a :: st) h Φ = J g k (pc + 1) ls ll (.int (hI h a i.toNatClampNeg) :: st) h Φ :=
  J_nx hc hd hl (by simp only [stepI, if_neg hk]; rw [if_pos ⟨hq, hi⟩])
theorem J_sld {i : Int32} (hc : m_cd k = cc) (hd : decode cc pc = .ok (.iaload, len)) (hl : m_lok (.iaload) len = true) (hk : k = m_law) (hi : m_inb i g.2.1 = true) : J g k pc ls ll (.int i :: .ref g.1 :: st) h Φ = J g k (pc + 1) ls ll (.int (g.2.2.1 i.toNatClampNeg) :: st) h Φ :=
  J_nx hc hd hl (by simp only [stepI, if_pos hk]; rw [if_pos ⟨trivial, hi⟩])
theorem J_bald {a : Nat} {i : Int32} (hc : m_cd k = cc) (hd : decode cc pc = .ok (.baload, len)) (hl : m_lok (.baload) len = true) (hq : (hS h a).1 = 2) (hi : m_inb i (hS h a).2 = true) : J g k pc ls ll (.int i :: .ref a :: st) h Φ = J g k (pc + 1) ls ll (.int (hI h a i.toNatClampNeg) :: st) h Φ :=
  J_nx hc hd hl (by simp only [stepI]; rw [if_pos ⟨hq, hi⟩])
theorem J_aald {a : Nat} {i : Int32} (hc : m_cd k = cc) (hd : decode cc pc = .ok (.aaload, len)) (hl : m_lok (.aaload) len = true) (hq : (hS h a).1 = 3) (hi : m_inb i (hS h a).2 = true) : J g k pc ls ll (.int i :: .ref a :: st) h Φ = J g k (pc + 1) ls ll (va_rf (rfO (hF h a i.toNatClampNeg)) :: st) h Φ :=
  J_nx hc hd hl (by simp only [stepI]; rw [if_pos ⟨hq, hi⟩])
theorem J_iast {a : Nat} {i x : Int32} (hc : m_cd k = cc) (hd : decode cc pc = .ok (.iastore, len)) (hl : m_lok (.iastore) len = true) (hq : (hS h a).1 = 1) (hi : m_inb i (hS h a).2 = true) : J g k pc ls ll (.int x :: .int i :: .ref a :: st) h Φ = J g k (pc + 1) ls ll st (pI h a (upd (hI h a) i.toNatClampNeg x)) Φ :=
  J_nx hc hd hl (by simp only [stepI]; rw [if_pos ⟨hq, hi⟩])
theorem J_bast {a : Nat} {i x : Int32} (hc : m_cd k = cc) (hd : decode cc pc = .ok (.bastore, len)) (hl : m_lok (.bastore) len = true) (hq : (hS h a).1 = 2) (hi : m_inb i (hS h a).2 = true) : J g k pc ls ll (.int x :: .int i :: .ref a :: st) h Φ = J g k (pc + 1) ls ll st (pI h a (upd (hI h a) i.toNatClampNeg (vp_nar .byte x))) Φ :=
  J_nx hc hd hl (by simp only [stepI]; rw [if_pos ⟨hq, hi⟩])
theorem J_aast {a v : Nat} {i : Int32} (hc : m_cd k = cc) (hd : decode cc pc = .ok (.aastore, len)) (hl : m_lok (.aastore) len = true) (hq : (hS h a).1 = 3) (hi : m_inb i (hS h a).2 = true) (hv : hS h v = (0, 4)) : J g k pc ls ll (.ref v :: .int i :: .ref a :: st) h Φ = J g k (pc + 1) ls ll st (pF h a i.toNatClampNeg (.ref v)) Φ :=
  J_nx hc hd hl (by simp only [stepI]; rw [if_pos ⟨hq, hi, hv⟩])
theorem J_alen {a : Nat} (hc : m_cd k = cc) (hd : decode cc pc = .ok (.arraylength, len)) (hl : m_lok (.arraylength) len = true) (hk : ¬ k = m_law) (hq : (hS h a).1 = 1 ∨ (hS h a).1 = 2) : J g k pc ls ll (.ref a :: st) h Φ = J g k (pc + 1) ls ll (.int (Int32.ofNat (hS h a).2) :: st) h Φ :=
  J_nx hc hd hl (by simp only [stepI, if_neg hk]; rw [if_pos hq])
theorem J_slen (hc : m_cd k = cc) (hd : decode cc pc = .ok (.arraylength, len)) (hl : m_lok (.arraylength) len = true) (hk : k = m_law) : J g k pc ls ll (.ref g.1 :: st) h Φ = J g k (pc + 1) ls ll (.int (Int32.ofNat g.2.1) :: st) h Φ :=
  J_nx hc hd hl (by simp only [stepI, if_pos hk]; rw [if_pos trivial])
theorem J_newi {n : Int32} {N : Nat} (hc : m_cd k = cc) (hd : decode cc pc = .ok (.newarray .int, len)) (hl : m_lok (.newarray .int) len = true) (h0 : ¬ n < 0) (hn2 : n.toNatClampNeg = N) (h1 : N ≤ 512) : J g k pc ls ll (.int n :: st) h Φ = J g k (pc + 2) ls ll (.ref (hN h) :: st) (nwA h 1 N) Φ := by
  subst hn2; exact J_nx hc hd hl (by simp only [stepI]; rw [if_pos ⟨h0, h1⟩])
theorem J_newb {n : Int32} {N : Nat} (hc : m_cd k = cc) (hd : decode cc pc = .ok (.newarray .byte, len)) (hl : m_lok (.newarray .byte) len = true) (h0 : ¬ n < 0) (hn2 : n.toNatClampNeg = N) (h1 : N ≤ 512) : J g k pc ls ll (.int n :: st) h Φ = J g k (pc + 2) ls ll (.ref (hN h) :: st) (nwA h 2 N) Φ := by
  subst hn2; exact J_nx hc hd hl (by simp only [stepI]; rw [if_pos ⟨h0, h1⟩])
theorem J_newq {n : Int32} {N idx : Nat} {e : m_ne} (hc : m_cd k = cc) (hd : decode cc pc = .ok (.anewarray idx, len)) (hl : m_lok (.anewarray idx) len = true) (he : m_nT k idx = some e) (h4 : e.2.1 = 4) (h0 : ¬ n < 0) (hn2 : n.toNatClampNeg = N) (h1 : N ≤ 512) : J g k pc ls ll (.int n :: st) h Φ = J g k (pc + 3) ls ll (.ref (hN h) :: st) (nwA h 3 N) Φ := by
  subst hn2; exact J_nx hc hd hl (by simp only [stepI, he]; rw [if_pos ⟨h0, h1, h4⟩])
theorem J_new {idx ci : Nat} {e : m_ne} (hc : m_cd k = cc) (hd : decode cc pc = .ok (.new idx, len)) (hl : m_lok (.new idx) len = true) (he : m_nT k idx = some e) (h4 : e.2.1 = ci) : J g k pc ls ll st h Φ = J g k (pc + 3) ls ll (.ref (hN h) :: st) (nwO h ci) Φ := by
  subst h4; exact J_nx hc hd hl (by simp only [stepI, he])
theorem J_max {idx : Nat} {e : m_ce} {x y : Int32} (hc : m_cd k = cc) (hd : decode cc pc = .ok (.invokestatic idx, len)) (hl : m_lok (.invokestatic idx) len = true) (he : m_cT k pc 99 idx = some e) (h8 : e.2.2.1 = 8) (hr : st.length ≤ 4) : J g k pc ls ll (.int y :: .int x :: st) h Φ = J g k (pc + 3) ls ll (.int (if x < y then y else x) :: st) h Φ :=
  J_nx hc hd hl (by simp only [stepI, m_static, he, h8]; rw [if_pos hr])
theorem J_min {idx : Nat} {e : m_ce} {x y : Int32} (hc : m_cd k = cc) (hd : decode cc pc = .ok (.invokestatic idx, len)) (hl : m_lok (.invokestatic idx) len = true) (he : m_cT k pc 99 idx = some e) (h8 : e.2.2.1 = 9) (hr : st.length ≤ 4) : J g k pc ls ll (.int y :: .int x :: st) h Φ = J g k (pc + 3) ls ll (.int (if y < x then y else x) :: st) h Φ :=
  J_nx hc hd hl (by simp only [stepI, m_static, he, h8]; rw [if_pos hr])
theorem J_copy {idx a b : Nat} {e : m_ce} {sp dp n : Int32} (hc : m_cd k = cc) (hd : decode cc pc = .ok (.invokestatic idx, len)) (hl : m_lok (.invokestatic idx) len = true) (he : m_cT k pc 99 idx = some e) (h8 : e.2.2.1 = 10) (hr : st.length ≤ 4)
    (h1 : (hS h a).1 = 1) (h2 : (hS h b).1 = 1) (h3 : ¬ sp < 0) (h4 : ¬ dp < 0) (h5 : ¬ n < 0) (h6 : sp.toNatClampNeg + n.toNatClampNeg ≤ (hS h a).2) (h7 : dp.toNatClampNeg + n.toNatClampNeg ≤ (hS h b).2) :
    J g k pc ls ll (.int n :: .int dp :: .ref b :: .int sp :: .ref a :: st) h Φ = J g k (pc + 3) ls ll st (pI h b (va_cpy (hI h a) (hI h b) sp.toNatClampNeg dp.toNatClampNeg n.toNatClampNeg)) Φ :=
  J_nx hc hd hl (by simp only [stepI, m_static, he, h8, m_copy]; rw [if_pos ⟨h1, h2, h3, h4, h5, h6, h7, hr⟩])
theorem J_oi {idx a : Nat} {e : m_ce} (hc : m_cd k = cc) (hd : decode cc pc = .ok (.invokespecial idx, len)) (hl : m_lok (.invokespecial idx) len = true) (he : m_cT k pc 99 idx = some e) (h8 : e.2.2.1 = 7) (hr : st.length ≤ 4) : J g k pc ls ll (.ref a :: st) h Φ = J g k (pc + 3) ls ll st h Φ :=
  J_nx hc hd hl (by simp only [stepI, m_special, he, h8]; rw [if_pos hr])
theorem J_slength {idx : Nat} {e : m_ce} {v : Int32} (hc : m_cd k = cc) (hd : decode cc pc = .ok (.invokevirtual idx, len)) (hl : m_lok (.invokevirtual idx) len = true) (he : m_c0 k pc idx = some e) (h8 : e.2.2.1 = 11) (h3 : m_tj k < 3) (hr : st.length ≤ 4) (hv : nI (m_tx (m_tj k)).length = v) : J g k pc ls ll (.ref (g.2.2.2 (m_tj k)) :: st) h Φ = J g k (pc + 3) ls ll (.int v :: st) h Φ := by
  subst hv; exact J_nx hc hd hl (by simp only [stepI, m_virtual, he, h8]; rw [if_pos ⟨h3, trivial, hr⟩])
theorem J_scharAt {idx : Nat} {e : m_ce} {i : Int32} (hc : m_cd k = cc) (hd : decode cc pc = .ok (.invokevirtual idx, len)) (hl : m_lok (.invokevirtual idx) len = true) (he : m_c0 k pc idx = some e) (h8 : e.2.2.1 = 12) (h3 : m_tj k < 3) (hr : st.length ≤ 4) (hi : m_inb i (m_tx (m_tj k)).length = true) : J g k pc ls ll (.int i :: .ref (g.2.2.2 (m_tj k)) :: st) h Φ = J g k (pc + 3) ls ll (.int ((m_tx (m_tj k)).getD i.toNatClampNeg 0) :: st) h Φ :=
  J_nx hc hd hl (by simp only [stepI, m_virtual, he, h8]; rw [if_pos ⟨h3, trivial, hr, hi⟩])
theorem m_call_of {k' n : Nat} {as rest : List Value} (hst : st = as.reverse ++ rest) (hn : as.length = n) (hr : rest.length ≤ 4) : m_call pc k' n ls ll st h = some (.inr (.inr (k', as, (pc + 3, ls, ll, rest, h)))) := by
  subst hst; subst hn
  have h1 : (as.reverse ++ rest).drop as.length = rest := by
    rw [← List.length_reverse (as := as), List.drop_left]
  have h2 : (as.reverse ++ rest).take as.length = as.reverse := by
    rw [← List.length_reverse (as := as), List.take_left]
  unfold m_call
  rw [h1, h2, if_pos ⟨by simp, hr⟩, List.reverse_reverse]
theorem J_csV {idx k' : Nat} {e : m_ce} {as rest ls0 : List Value} {ll0 : List (Nat × Int64)} {ty : FieldType} (hc : m_cd k = cc) (hd : decode cc pc = .ok (.invokestatic idx, len)) (hl : m_lok (.invokestatic idx) len = true) (he : m_cT k pc 99 idx = some e) (h8 : e.2.2.1 = 3 ∨ e.2.2.1 = 4) (hk : e.2.2.2.1 = k') (hst : st = as.reverse ++ rest) (hn : as.length = e.2.2.2.2.2.1) (hr : rest.length ≤ 4) (ha : m_okA k' as = true) (hrt : m_rt k' = some ty) (h1 : m_ent k' as = ls0) (h2 : m_ell 0 as = ll0) :
    J g k pc ls ll st h Φ = J g k' 0 ls0 ll0 [] h (KV g k (pc + 3) ls ll rest Φ) := by
  refine J_clV hc hd hl ?_ ha hrt h1 h2
  rw [← m_call_of (k' := k') (pc := pc) (ls := ls) (ll := ll) (h := h) hst hn hr, ← hk]
  rcases h8 with h8 | h8 <;> simp only [stepI, m_static, he, h8]
theorem J_csU {idx k' : Nat} {e : m_ce} {as rest ls0 : List Value} {ll0 : List (Nat × Int64)} (hc : m_cd k = cc) (hd : decode cc pc = .ok (.invokestatic idx, len)) (hl : m_lok (.invokestatic idx) len = true) (he : m_cT k pc 99 idx = some e) (h8 : e.2.2.1 = 3 ∨ e.2.2.1 = 4) (hk : e.2.2.2.1 = k') (hst : st = as.reverse ++ rest) (hn : as.length = e.2.2.2.2.2.1) (hr : rest.length ≤ 4) (ha : m_okA k' as = true) (hrt : m_rt k' = none) (h1 : m_ent k' as = ls0) (h2 : m_ell 0 as = ll0) :
    J g k pc ls ll st h Φ = J g k' 0 ls0 ll0 [] h (KU g k (pc + 3) ls ll rest Φ) := by
  refine J_clU hc hd hl ?_ ha hrt h1 h2
  rw [← m_call_of (k' := k') (pc := pc) (ls := ls) (ll := ll) (h := h) hst hn hr, ← hk]
  rcases h8 with h8 | h8 <;> simp only [stepI, m_static, he, h8]
theorem J_ciU {idx k' a : Nat} {e : m_ce} {as rest ls0 : List Value} {ll0 : List (Nat × Int64)} (hc : m_cd k = cc) (hd : decode cc pc = .ok (.invokespecial idx, len)) (hl : m_lok (.invokespecial idx) len = true) (he : m_cT k pc 99 idx = some e) (h8 : e.2.2.1 = 5 ∨ e.2.2.1 = 6) (hk : e.2.2.2.1 = k') (hst : st = as.reverse ++ rest) (hra : st[e.2.2.2.2.2.1]? = some (.ref a)) (hn : as.length = e.2.2.2.2.2.1 + 1) (hr : rest.length ≤ 4) (ha : m_okA k' as = true) (hrt : m_rt k' = none) (h1 : m_ent k' as = ls0) (h2 : m_ell 0 as = ll0) :
    J g k pc ls ll st h Φ = J g k' 0 ls0 ll0 [] h (KU g k (pc + 3) ls ll rest Φ) := by
  refine J_clU hc hd hl ?_ ha hrt h1 h2
  rw [← m_call_of (k' := k') (pc := pc) (ls := ls) (ll := ll) (h := h) hst hn hr, ← hk]
  rcases h8 with h8 | h8 <;> simp only [stepI, m_special, he, h8, hra]
theorem m_virt_of {idx k' a ci : Nat} {e f : m_ce} {as rest : List Value} (he : m_c0 k pc idx = some e) (h8 : e.2.2.1 = 1 ∨ e.2.2.1 = 2) (ha : st[e.2.2.2.2.2.1]? = some (.ref a)) (hq : hS h a = (0, ci)) (hf : m_cT k pc ci idx = some f) (hf8 : (f.2.2.1 = 1 ∨ f.2.2.1 = 2) ∧ f.2.2.2.2.2.1 = e.2.2.2.2.2.1) (hk : f.2.2.2.1 = k') (hst : st = as.reverse ++ rest) (hn : as.length = f.2.2.2.2.2.1 + 1) (hr : rest.length ≤ 4) :
    stepI g k pc (.invokevirtual idx) ls ll st h = some (.inr (.inr (k', as, (pc + 3, ls, ll, rest, h)))) := by
  rw [← m_call_of (k' := k') (pc := pc) (ls := ls) (ll := ll) (h := h) hst hn hr, ← hk]
  rcases h8 with h8 | h8 <;> (simp only [stepI, m_virtual, he, h8, ha, hq, if_true, hf]; rw [if_pos hf8])
theorem J_cvV {idx k' a ci : Nat} {e f : m_ce} {as rest ls0 : List Value} {ll0 : List (Nat × Int64)} {ty : FieldType} (hc : m_cd k = cc) (hd : decode cc pc = .ok (.invokevirtual idx, len)) (hl : m_lok (.invokevirtual idx) len = true) (hq : hS h a = (0, ci)) (he : m_c0 k pc idx = some e) (h8 : e.2.2.1 = 1 ∨ e.2.2.1 = 2) (hf : m_cT k pc ci idx = some f) (hf8 : (f.2.2.1 = 1 ∨ f.2.2.1 = 2) ∧ f.2.2.2.2.2.1 = e.2.2.2.2.2.1) (hk : f.2.2.2.1 = k') (hst : st = as.reverse ++ rest) (ha : st[e.2.2.2.2.2.1]? = some (.ref a)) (hn : as.length = f.2.2.2.2.2.1 + 1) (hr : rest.length ≤ 4) (hA : m_okA k' as = true) (hrt : m_rt k' = some ty) (h1 : m_ent k' as = ls0) (h2 : m_ell 0 as = ll0) :
    J g k pc ls ll st h Φ = J g k' 0 ls0 ll0 [] h (KV g k (pc + 3) ls ll rest Φ) :=
  J_clV hc hd hl (m_virt_of he h8 ha hq hf hf8 hk hst hn hr) hA hrt h1 h2
theorem J_cvU {idx k' a ci : Nat} {e f : m_ce} {as rest ls0 : List Value} {ll0 : List (Nat × Int64)} (hc : m_cd k = cc) (hd : decode cc pc = .ok (.invokevirtual idx, len)) (hl : m_lok (.invokevirtual idx) len = true) (hq : hS h a = (0, ci)) (he : m_c0 k pc idx = some e) (h8 : e.2.2.1 = 1 ∨ e.2.2.1 = 2) (hf : m_cT k pc ci idx = some f) (hf8 : (f.2.2.1 = 1 ∨ f.2.2.1 = 2) ∧ f.2.2.2.2.2.1 = e.2.2.2.2.2.1) (hk : f.2.2.2.1 = k') (hst : st = as.reverse ++ rest) (ha : st[e.2.2.2.2.2.1]? = some (.ref a)) (hn : as.length = f.2.2.2.2.2.1 + 1) (hr : rest.length ≤ 4) (hA : m_okA k' as = true) (hrt : m_rt k' = none) (h1 : m_ent k' as = ls0) (h2 : m_ell 0 as = ll0) :
    J g k pc ls ll st h Φ = J g k' 0 ls0 ll0 [] h (KU g k (pc + 3) ls ll rest Φ) :=
  J_clU hc hd hl (m_virt_of he h8 ha hq hf hf8 hk hst hn hr) hA hrt h1 h2
theorem J_iret {v : Int32} (hc : m_cd k = cc) (hd : decode cc pc = .ok (.ireturn, len)) (hl : m_lok (.ireturn) len = true) (hr : m_rt k = some .int) : J g k pc ls ll [.int v] h Φ = Φ (.int v) h :=
  J_rt hc hd hl (by simp only [stepI, hr]; exact if_pos ⟨rfl, rfl⟩)
theorem J_zret {v : Int32} (hc : m_cd k = cc) (hd : decode cc pc = .ok (.ireturn, len)) (hl : m_lok (.ireturn) len = true) (hr : m_rt k = some .boolean) (hv : v = 0 ∨ v = 1) : J g k pc ls ll [.int v] h Φ = Φ (.int v) h :=
  J_rt hc hd hl (by simp only [stepI, hr]; rcases hv with rfl | rfl <;> exact if_pos ⟨rfl, rfl⟩)
theorem J_lret {v : Int64} (hc : m_cd k = cc) (hd : decode cc pc = .ok (.lreturn, len)) (hl : m_lok (.lreturn) len = true) (hr : m_rt k = some .long) : J g k pc ls ll [.long v] h Φ = Φ (.long v) h :=
  J_rt hc hd hl (by simp only [stepI]; exact if_pos hr)
theorem J_vret (hc : m_cd k = cc) (hd : decode cc pc = .ok (.return_, len)) (hl : m_lok (.return_) len = true) (hr : m_rt k = none) : J g k pc ls ll [] h Φ = Φ .null h :=
  J_rt hc hd hl (by simp only [stepI]; exact if_pos hr)
end JR

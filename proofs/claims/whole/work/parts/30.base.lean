/-! plain facts for the walks over the small machine -/
theorem dropL_nil (i : Nat) : dropL i [] = [] := rfl
theorem dropLL_nil (i : Nat) : dropLL i [] = [] := rfl
def zI (b : Bool) : Int32 := if b then 1 else 0
theorem zI_t : zI true = 1 := rfl
theorem zI_f : zI false = 0 := rfl
theorem zI_0 (b : Bool) : (zI b = 0) = (b = false) := by cases b <;> simp [zI]
theorem zI_n0 (b : Bool) : (¬ zI b = 0) = (b = true) := by cases b <;> simp [zI]
theorem zI_01 (b : Bool) : (zI b = 0 ∨ zI b = 1) = True := by cases b <;> simp [zI]
theorem i01 : ((0 : Int32) = 0 ∨ (0 : Int32) = 1) = True := by decide
theorem i11 : ((1 : Int32) = 0 ∨ (1 : Int32) = 1) = True := by decide
/-- numbers that stand in the code, as nI -/
theorem c0 : (0 : Int32) = nI 0 := rfl
theorem c1 : (1 : Int32) = nI 1 := rfl
theorem c2 : (2 : Int32) = nI 2 := rfl
theorem c3 : (3 : Int32) = nI 3 := rfl
theorem c4 : (4 : Int32) = nI 4 := rfl
theorem c5 : (5 : Int32) = nI 5 := rfl
theorem c6 : (6 : Int32) = nI 6 := rfl
theorem c8 : (8 : Int32) = nI 8 := rfl
theorem c9 : (9 : Int32) = nI 9 := rfl
theorem c10 : (10 : Int32) = nI 10 := rfl
theorem n10 : ((10 : Int32) = 0) = False := by decide
theorem n4 : ((4 : Int32) = 0) = False := by decide
theorem n3 : ((3 : Int32) = 0) = False := by decide
theorem n2 : ((2 : Int32) = 0) = False := by decide
theorem i_div {a d : Nat} (ha : a < 2147483648) (h0 : 0 < d) (hd : d < 2147483648) : nI a / nI d = nI (a / d) := pk_div ha h0 hd
theorem d10 {a : Nat} (ha : a < 2147483648) : nI a / 10 = nI (a / 10) := pk_div ha (by decide) (by decide)
theorem d4 {a : Nat} (ha : a < 2147483648) : nI a / 4 = nI (a / 4) := pk_div ha (by decide) (by decide)
theorem d3 {a : Nat} (ha : a < 2147483648) : nI a / 3 = nI (a / 3) := pk_div ha (by decide) (by decide)
theorem d2 {a : Nat} (ha : a < 2147483648) : nI a / 2 = nI (a / 2) := pk_div ha (by decide) (by decide)
theorem le_nI {a b : Nat} (ha : a < 2147483648) (hb : b < 2147483648) : (nI a ≤ nI b) = (a ≤ b) := propext (nI_leI ha hb)
theorem lt_nI {a b : Nat} (ha : a < 2147483648) (hb : b < 2147483648) : (nI a < nI b) = (a < b) := propext (nI_ltI ha hb)
theorem eq_nI {a b : Nat} (ha : a < 2147483648) (hb : b < 2147483648) : (nI a = nI b) = (a = b) := propext (nI_eq ha hb)
theorem le0 {a : Nat} (ha : a < 2147483648) : (nI a ≤ 0) = (a = 0) := by rw [c0, le_nI ha (by decide)]; simp
theorem lt0 {a : Nat} (ha : a < 2147483648) : (nI a < 0) = False := by rw [c0, lt_nI ha (by decide)]; simp
theorem gt0 {a : Nat} (ha : a < 2147483648) : (0 < nI a) = (0 < a) := by rw [c0, lt_nI (by decide) ha]
theorem ge0 {a : Nat} (ha : a < 2147483648) : (0 ≤ nI a) = True := by rw [c0, le_nI (by decide) ha]; simp
theorem eq0 {a : Nat} (ha : a < 2147483648) : (nI a = 0) = (a = 0) := by rw [c0, eq_nI ha (by decide)]
theorem i_add (a b : Nat) : nI a + nI b = nI (a + b) := nI_add a b
theorem i_mul (a b : Nat) : nI a * nI b = nI (a * b) := pk_mul a b
theorem i_sub {a b : Nat} (h : b ≤ a) : nI a - nI b = nI (a - b) := pk_sub h
theorem m10 (a : Nat) : nI a * 10 = nI (a * 10) := i_mul a 10
theorem a1 (a : Nat) : nI a + 1 = nI (a + 1) := i_add a 1
theorem s1 {a : Nat} (h : 1 ≤ a) : nI a - 1 = nI (a - 1) := i_sub h
theorem i_rem (a d : Nat) : nI a - nI (a / d * d) = nI (a % d) := by
  have h := Nat.div_add_mod a d
  have h2 : a / d * d ≤ a := Nat.div_mul_le_self a d
  rw [i_sub h2]
  congr 1
  rw [Nat.mul_comm] at h2 ⊢
  omega
theorem r10 (a : Nat) : nI a - nI (a / 10 * 10) = nI (a % 10) := i_rem a 10
theorem r4 (a : Nat) : nI a - nI (a / 4 * 4) = nI (a % 4) := i_rem a 4
theorem r2 (a : Nat) : nI a - nI (a / 2 * 2) = nI (a % 2) := i_rem a 2
theorem m4 (a : Nat) : nI a * 4 = nI (a * 4) := i_mul a 4
theorem m2 (a : Nat) : nI a * 2 = nI (a * 2) := i_mul a 2
theorem cl_nI {a : Nat} (ha : a < 2147483648) : (nI a).toNatClampNeg = a := nI_clamp ha
theorem inb_nI {a n : Nat} (ha : a < 2147483648) : m_inb (nI a) n = decide (a < n) := by
  simp [m_inb, lt0 ha, cl_nI ha]
/-- a loop over the figures of a number, the last first -/
def dl {α : Type} (f : Nat → α → α) : Nat → Nat → α → α
  | 0, _, a => a
  | F + 1, r, a => if r = 0 then a else dl f F (r / 10) (f r a)
theorem J_dl {α : Type} (JJ : Nat → α → Prop) (f : Nat → α → α) (hs : ∀ r a, 0 < r → r < 2147483648 → JJ r a = JJ (r / 10) (f r a)) : ∀ F r a, r < 10 ^ F → r < 2147483648 → JJ r a = JJ 0 (dl f F r a) := by
  intro F
  induction F with
  | zero =>
    intro r a h _
    have : r = 0 := by simpa using h
    subst this
    rfl
  | succ F ih =>
    intro r a h h2
    rw [dl]
    by_cases h0 : r = 0
    · subst h0; rw [if_pos rfl]
    · rw [if_neg h0, hs r a (by omega) h2]
      exact ih _ _ (by rw [Nat.pow_succ] at h; omega) (by omega)
/-- a loop that counts up -/
def it {α : Type} (f : Nat → α → α) : Nat → Nat → α → α
  | 0, _, a => a
  | m + 1, i, a => it f m (i + 1) (f i a)
theorem J_it {α : Type} (JJ : Nat → α → Prop) (f : Nat → α → α) (n : Nat) (I : Nat → α → Prop) (hI : ∀ i a, i < n → I i a → I (i + 1) (f i a)) (hs : ∀ i a, i < n → I i a → JJ i a = JJ (i + 1) (f i a)) : ∀ m i a, i + m = n → I i a → JJ i a = JJ n (it f m i a) ∧ I n (it f m i a) := by
  intro m
  induction m with
  | zero => intro i a h hi; have : i = n := h; subst this; exact ⟨rfl, hi⟩
  | succ m ih =>
    intro i a h hi
    rw [hs i a (by omega) hi]
    exact ih (i + 1) (f i a) (by omega) (hI i a (by omega) hi)
theorem J_it0 {α : Type} (JJ : Nat → α → Prop) (f : Nat → α → α) (n : Nat) (hs : ∀ i a, i < n → JJ i a = JJ (i + 1) (f i a)) (a : α) : JJ 0 a = JJ n (it f n 0 a) :=
  (J_it JJ f n (fun _ _ => True) (fun _ _ _ _ => trivial) (fun i a h _ => hs i a h) n 0 a (Nat.zero_add n) trivial).1
theorem p10 (r : Nat) (h : r < 2147483648) : r < 10 ^ 10 := by
  have : (10 : Nat) ^ 10 = 10000000000 := by decide
  omega

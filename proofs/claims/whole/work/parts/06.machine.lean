/-! THE SMALL MACHINE: one method's frame over a heap of plain functions; a method's run is a function of fuel. Everything later is said of it; 07 ties it to the claim's own machine. -/
/-- a heap: the shape of each cell ((0, class), (1, length) ints, (2, length) bytes, (3, length) towns), fields, rows, the next address -/
abbrev HP : Type := (Nat → Nat × Nat) × (Nat → Nat → Value) × (Nat → Nat → Int32) × Nat
def hS (h : HP) (a : Nat) : Nat × Nat := h.1 a
def hF (h : HP) (a j : Nat) : Value := h.2.1 a j
def hI (h : HP) (a : Nat) : Nat → Int32 := h.2.2.1 a
def hN (h : HP) : Nat := h.2.2.2
def pF (h : HP) (a j : Nat) (v : Value) : HP := (h.1, (fun x y => if x = a ∧ y = j then v else h.2.1 x y), h.2.2.1, h.2.2.2)
def pI (h : HP) (a : Nat) (f : Nat → Int32) : HP := (h.1, h.2.1, (fun x => if x = a then f else h.2.2.1 x), h.2.2.2)
/-- how many fields the objects of a class have; what they hold at first -/
def m_nf (ci : Nat) : Nat := match vwCl[ci]? with | some q => q.2.2 | none => 0
def m_df (ci j : Nat) : Value := match vwCl[ci]? with | some q => defaultValue ((parseFieldDescriptor (q.2.1 j).2.2.1).getD .int) | none => .null
def nwO (h : HP) (ci : Nat) : HP := ((fun x => if x = h.2.2.2 then (0, ci) else h.1 x), (fun x y => if x = h.2.2.2 then m_df ci y else h.2.1 x y), h.2.2.1, h.2.2.2 + 1)
def nwA (h : HP) (t n : Nat) : HP := ((fun x => if x = h.2.2.2 then (t, n) else h.1 x), (fun x y => if x = h.2.2.2 then .null else h.2.1 x y), (fun x => if x = h.2.2.2 then (fun _ => 0) else h.2.2.1 x), h.2.2.2 + 1)
/-- the script's address, length and ints; where the texts lie -/
abbrev GL : Type := Nat × Nat × (Nat → Int32) × (Nat → Nat)
abbrev CF : Type := Nat × List Value × List (Nat × Int64) × List Value × HP
abbrev OU : Type := CF ⊕ ((Value × HP) ⊕ (Nat × List Value × CF))
def nx_ (pc : Nat) (ls : List Value) (ll : List (Nat × Int64)) (st : List Value) (h : HP) : Option OU := some (.inl (pc, ls, ll, st, h))
/-- a local that holds nothing that may be read -/
def m_D : Value := .float 0
def dropL (i : Nat) (ll : List (Nat × Int64)) : List (Nat × Int64) := ll.filter (fun q => !(q.1 == i) && !(q.1 + 1 == i))
def dropLL (i : Nat) (ll : List (Nat × Int64)) : List (Nat × Int64) := ll.filter (fun q => !(q.1 == i) && (!(q.1 == i + 1) && !(q.1 + 1 == i)))
def m_is1 : Value → Bool
  | .int _ => true
  | .ref _ => true
  | .null => true
  | _ => false
def m_isR : Value → Bool
  | .ref _ => true
  | .null => true
  | _ => false
def rfO : Value → Option Nat
  | .ref x => some x
  | _ => none
/-- does a value go into a field of this sort (0 int, 1 long, 2 reference) -/
def m_fit : Nat → Value → Bool
  | 0, .int _ => true
  | 1, .long _ => true
  | 2, .ref _ => true
  | 2, .null => true
  | _, _ => false
def m_goto (pc : Nat) (off : Int) (ls : List Value) (ll : List (Nat × Int64)) (st : List Value) (h : HP) : Option OU := if 0 ≤ (pc : Int) + off then nx_ ((pc : Int) + off).toNat ls ll st h else none
def m_ldi (pc' i : Nat) (ls : List Value) (ll : List (Nat × Int64)) (st : List Value) (h : HP) : Option OU := match ls[i]? with
  | some (.int x) => nx_ pc' ls ll (.int x :: st) h
  | _ => none
def m_lda (pc' i : Nat) (ls : List Value) (ll : List (Nat × Int64)) (st : List Value) (h : HP) : Option OU := match ls[i]? with
  | some (.ref x) => nx_ pc' ls ll (.ref x :: st) h
  | some .null => nx_ pc' ls ll (.null :: st) h
  | _ => none
def m_ldl (pc' i : Nat) (ls : List Value) (ll : List (Nat × Int64)) (st : List Value) (h : HP) : Option OU := match ll.lookup i with
  | some x => nx_ pc' ls ll (.long x :: st) h
  | none => none
def m_sti (pc' i : Nat) (ls : List Value) (ll : List (Nat × Int64)) (st : List Value) (h : HP) : Option OU := match st with
  | .int x :: r => if i < ls.length then nx_ pc' (ls.set i (.int x)) (dropL i ll) r h else none
  | _ => none
def m_sta (pc' i : Nat) (ls : List Value) (ll : List (Nat × Int64)) (st : List Value) (h : HP) : Option OU := match st with
  | .ref x :: r => if i < ls.length then nx_ pc' (ls.set i (.ref x)) (dropL i ll) r h else none
  | .null :: r => if i < ls.length then nx_ pc' (ls.set i .null) (dropL i ll) r h else none
  | _ => none
def m_stl (pc' i : Nat) (ls : List Value) (ll : List (Nat × Int64)) (st : List Value) (h : HP) : Option OU := match st with
  | .long x :: r => if i + 1 < ls.length then nx_ pc' ((ls.set i m_D).set (i + 1) m_D) ((i, x) :: dropLL i ll) r h else none
  | _ => none
def m_bi (f : Int32 → Int32 → Int32) (pc : Nat) (ls : List Value) (ll : List (Nat × Int64)) (st : List Value) (h : HP) : Option OU := match st with
  | .int y :: .int x :: r => nx_ (pc + 1) ls ll (.int (f x y) :: r) h
  | _ => none
def m_bl (f : Int64 → Int64 → Int64) (pc : Nat) (ls : List Value) (ll : List (Nat × Int64)) (st : List Value) (h : HP) : Option OU := match st with
  | .long y :: .long x :: r => nx_ (pc + 1) ls ll (.long (f x y) :: r) h
  | _ => none
def m_c1 (c : ClassFile.Cond) (x : Int32) : Bool := match c with
  | .eq => decide (x = 0)
  | .ne => decide (¬ x = 0)
  | .lt => decide (x < 0)
  | .ge => decide (0 ≤ x)
  | .gt => decide (0 < x)
  | .le => decide (x ≤ 0)
def m_c2 (c : ClassFile.Cond) (x y : Int32) : Bool := match c with
  | .eq => decide (x = y)
  | .ne => decide (¬ x = y)
  | .lt => decide (x < y)
  | .ge => decide (y ≤ x)
  | .gt => decide (y < x)
  | .le => decide (x ≤ y)
def m_inb (i : Int32) (n : Nat) : Bool := !(decide (i < 0)) && decide (i.toNatClampNeg < n)
/-- which field a link names, in an object of a shape -/
def m_fT (k idx : Nat) (s : Nat × Nat) : Option m_fe := if s.1 = 0 then (m_fl (m_oc k)).find? (fun e => e.1 == idx && e.2.1 == s.2) else none
def m_nT (k idx : Nat) : Option m_ne := (m_nl (m_oc k)).find? (fun e => e.1 == idx)
def m_cT (k pc ci idx : Nat) : Option m_ce := (m_cl k).find? (fun e => e.1 == pc && (e.2.1 == ci && e.2.2.2.2.1 == idx))
def m_c0 (k pc idx : Nat) : Option m_ce := (m_cl k).find? (fun e => e.1 == pc && e.2.2.2.2.1 == idx)
def m_kiT (k idx : Nat) : Option (Nat × Int32 × Nat) := (m_ki (m_oc k)).find? (fun e => e.1 == idx)
def m_klT (k idx : Nat) : Option (Nat × Int64 × Nat) := (m_kl (m_oc k)).find? (fun e => e.1 == idx)
def m_ksT (k idx : Nat) : Option (Nat × Nat) := (m_ks (m_oc k)).find? (fun e => e.1 == idx)
/-- the texts: town, stick, suck -/
def m_tx : Nat → List Int32
  | 0 => [116, 111, 119, 110]
  | 1 => [115, 116, 105, 99, 107]
  | _ => [115, 117, 99, 107]
/-- which text a copy of takesWord asks -/
def m_tj : Nat → Nat := fun k => k - m_tw
def m_call (pc k' n : Nat) (ls : List Value) (ll : List (Nat × Int64)) (st : List Value) (h : HP) : Option OU :=
  if n ≤ st.length ∧ (st.drop n).length ≤ 4 then some (.inr (.inr (k', (st.take n).reverse, (pc + 3, ls, ll, st.drop n, h)))) else none
def m_copy (pc : Nat) (ls : List Value) (ll : List (Nat × Int64)) (st : List Value) (h : HP) : Option OU := match st with
  | .int n :: .int dp :: .ref b :: .int sp :: .ref a :: r =>
    if (hS h a).1 = 1 ∧ (hS h b).1 = 1 ∧ ¬ sp < 0 ∧ ¬ dp < 0 ∧ ¬ n < 0 ∧ sp.toNatClampNeg + n.toNatClampNeg ≤ (hS h a).2 ∧ dp.toNatClampNeg + n.toNatClampNeg ≤ (hS h b).2 ∧ r.length ≤ 4 then
      nx_ (pc + 3) ls ll r (pI h b (va_cpy (hI h a) (hI h b) sp.toNatClampNeg dp.toNatClampNeg n.toNatClampNeg)) else none
  | _ => none
def m_static (g : GL) (k pc idx : Nat) (ls : List Value) (ll : List (Nat × Int64)) (st : List Value) (h : HP) : Option OU := match m_cT k pc 99 idx with
  | none => none
  | some e => match e.2.2.1 with
    | 3 => m_call pc e.2.2.2.1 e.2.2.2.2.2.1 ls ll st h
    | 4 => m_call pc e.2.2.2.1 e.2.2.2.2.2.1 ls ll st h
    | 8 => match st with
      | .int y :: .int x :: r => if r.length ≤ 4 then nx_ (pc + 3) ls ll (.int (if x < y then y else x) :: r) h else none
      | _ => none
    | 9 => match st with
      | .int y :: .int x :: r => if r.length ≤ 4 then nx_ (pc + 3) ls ll (.int (if y < x then y else x) :: r) h else none
      | _ => none
    | 10 => m_copy pc ls ll st h
    | _ => none
def m_special (k pc idx : Nat) (ls : List Value) (ll : List (Nat × Int64)) (st : List Value) (h : HP) : Option OU := match m_cT k pc 99 idx with
  | none => none
  | some e => match e.2.2.1 with
    | 7 => match st with
      | .ref _ :: r => if r.length ≤ 4 then nx_ (pc + 3) ls ll r h else none
      | _ => none
    | 5 => match st[e.2.2.2.2.2.1]? with
      | some (.ref _) => m_call pc e.2.2.2.1 (e.2.2.2.2.2.1 + 1) ls ll st h
      | _ => none
    | 6 => match st[e.2.2.2.2.2.1]? with
      | some (.ref _) => m_call pc e.2.2.2.1 (e.2.2.2.2.2.1 + 1) ls ll st h
      | _ => none
    | _ => none
def m_virtual (g : GL) (k pc idx : Nat) (ls : List Value) (ll : List (Nat × Int64)) (st : List Value) (h : HP) : Option OU := match m_c0 k pc idx with
  | none => none
  | some e => match e.2.2.1 with
    | 11 => match st with
      | .ref a :: r => if m_tj k < 3 ∧ a = g.2.2.2 (m_tj k) ∧ r.length ≤ 4 then nx_ (pc + 3) ls ll (.int (nI (m_tx (m_tj k)).length) :: r) h else none
      | _ => none
    | 12 => match st with
      | .int i :: .ref a :: r => if m_tj k < 3 ∧ a = g.2.2.2 (m_tj k) ∧ r.length ≤ 4 ∧ m_inb i (m_tx (m_tj k)).length = true then nx_ (pc + 3) ls ll (.int ((m_tx (m_tj k)).getD i.toNatClampNeg 0) :: r) h else none
      | _ => none
    | _ => match st[e.2.2.2.2.2.1]? with
      | some (.ref a) => if (hS h a).1 = 0 then match m_cT k pc (hS h a).2 idx with
          | some f => if (f.2.2.1 = 1 ∨ f.2.2.1 = 2) ∧ f.2.2.2.2.2.1 = e.2.2.2.2.2.1 then m_call pc f.2.2.2.1 (f.2.2.2.2.2.1 + 1) ls ll st h else none
          | none => none else none
      | _ => none
def m_sw (pc : Nat) (df lo hi : Int) (os : Array Int) (ls : List Value) (ll : List (Nat × Int64)) (st : List Value) (h : HP) : Option OU := match st with
  | .int x :: r => if x.toInt < lo ∨ hi < x.toInt then m_goto pc df ls ll r h else match os[(x.toInt - lo).toNat]? with
    | some o => m_goto pc o ls ll r h
    | none => none
  | _ => none
def stepI (g : GL) (k pc : Nat) (i : Instr) (ls : List Value) (ll : List (Nat × Int64)) (st : List Value) (h : HP) : Option OU := match i with
  | .iconst n => nx_ (pc + 1) ls ll (.int (Int32.ofInt n) :: st) h
  | .bipush n => nx_ (pc + 2) ls ll (.int ((Int8.ofInt n).toInt32) :: st) h
  | .sipush n => nx_ (pc + 3) ls ll (.int ((Int16.ofInt n).toInt32) :: st) h
  | .lconst n => nx_ (pc + 1) ls ll (.long (Int64.ofNat (n : Nat)) :: st) h
  | .ldc idx => match m_kiT k idx with
    | some e => nx_ (pc + 2) ls ll (.int e.2.1 :: st) h
    | none => match m_ksT k idx with
      | some e => nx_ (pc + 2) ls ll (.ref (g.2.2.2 e.2) :: st) h
      | none => none
  | .ldc_w idx => match m_kiT k idx with
    | some e => nx_ (pc + 3) ls ll (.int e.2.1 :: st) h
    | none => none
  | .ldc2_w idx => match m_klT k idx with
    | some e => nx_ (pc + 3) ls ll (.long e.2.1 :: st) h
    | none => none
  | .iload_n j => m_ldi (pc + 1) (j : Nat) ls ll st h
  | .iload j => m_ldi (pc + 2) j ls ll st h
  | .aload_n j => m_lda (pc + 1) (j : Nat) ls ll st h
  | .lload_n j => m_ldl (pc + 1) (j : Nat) ls ll st h
  | .lload j => m_ldl (pc + 2) j ls ll st h
  | .istore_n j => m_sti (pc + 1) (j : Nat) ls ll st h
  | .istore j => m_sti (pc + 2) j ls ll st h
  | .astore_n j => m_sta (pc + 1) (j : Nat) ls ll st h
  | .lstore_n j => m_stl (pc + 1) (j : Nat) ls ll st h
  | .lstore j => m_stl (pc + 2) j ls ll st h
  | .iinc j n => match ls[j]? with
    | some (.int x) => nx_ (pc + 3) (ls.set j (.int (x + Int32.ofInt n))) (dropL j ll) st h
    | _ => none
  | .iadd => m_bi (fun x y => x + y) pc ls ll st h
  | .isub => m_bi (fun x y => x - y) pc ls ll st h
  | .imul => m_bi (fun x y => x * y) pc ls ll st h
  | .iand => m_bi (fun x y => x &&& y) pc ls ll st h
  | .ior => m_bi (fun x y => x ||| y) pc ls ll st h
  | .ixor => m_bi (fun x y => x ^^^ y) pc ls ll st h
  | .ishl => m_bi (fun x y => x <<< (y &&& 31)) pc ls ll st h
  | .ishr => m_bi (fun x y => x >>> (y &&& 31)) pc ls ll st h
  | .iushr => m_bi (fun x y => (x.toUInt32 >>> (y.toUInt32 &&& Int32.toUInt32 31)).toInt32) pc ls ll st h
  | .idiv => match st with
    | .int y :: .int x :: r => if y = 0 then none else nx_ (pc + 1) ls ll (.int (x / y) :: r) h
    | _ => none
  | .irem => match st with
    | .int y :: .int x :: r => if y = 0 then none else nx_ (pc + 1) ls ll (.int (x - x / y * y) :: r) h
    | _ => none
  | .ladd => m_bl (fun x y => x + y) pc ls ll st h
  | .lmul => m_bl (fun x y => x * y) pc ls ll st h
  | .ldiv => match st with
    | .long y :: .long x :: r => if y = 0 then none else nx_ (pc + 1) ls ll (.long (x / y) :: r) h
    | _ => none
  | .lrem => match st with
    | .long y :: .long x :: r => if y = 0 then none else nx_ (pc + 1) ls ll (.long (x - x / y * y) :: r) h
    | _ => none
  | .lcmp => match st with
    | .long y :: .long x :: r => nx_ (pc + 1) ls ll (.int (lg_cmp x y) :: r) h
    | _ => none
  | .i2l => match st with
    | .int x :: r => nx_ (pc + 1) ls ll (.long x.toInt64 :: r) h
    | _ => none
  | .l2i => match st with
    | .long x :: r => nx_ (pc + 1) ls ll (.int x.toInt32 :: r) h
    | _ => none
  | .i2b => match st with
    | .int x :: r => nx_ (pc + 1) ls ll (.int x.toInt8.toInt32 :: r) h
    | _ => none
  | .dup => match st with
    | v :: r => if m_is1 v = true then nx_ (pc + 1) ls ll (v :: v :: r) h else none
    | _ => none
  | .pop => match st with
    | v :: r => if m_is1 v = true then nx_ (pc + 1) ls ll r h else none
    | _ => none
  | .dup2 => match st with
    | v :: w :: r => if m_is1 v = true ∧ m_is1 w = true then nx_ (pc + 1) ls ll (v :: w :: v :: w :: r) h else none
    | _ => none
  | .goto o => m_goto pc o ls ll st h
  | .ifCond c o => match st with
    | .int x :: r => if 0 ≤ (pc : Int) + o then (if m_c1 c x = true then nx_ ((pc : Int) + o).toNat ls ll r h else nx_ (pc + 3) ls ll r h) else none
    | _ => none
  | .if_icmp c o => match st with
    | .int y :: .int x :: r => if 0 ≤ (pc : Int) + o then (if m_c2 c x y = true then nx_ ((pc : Int) + o).toNat ls ll r h else nx_ (pc + 3) ls ll r h) else none
    | _ => none
  | .ifnonnull o => match st with
    | .ref _ :: r => m_goto pc o ls ll r h
    | .null :: r => nx_ (pc + 3) ls ll r h
    | _ => none
  | .tableswitch df lo hi os => m_sw pc df lo hi os ls ll st h
  | .getfield idx => match st with
    | .ref a :: r => match m_fT k idx (hS h a) with
      | some e => nx_ (pc + 3) ls ll (hF h a e.2.2.1 :: r) h
      | none => none
    | _ => none
  | .putfield idx => match st with
    | v :: .ref a :: r => match m_fT k idx (hS h a) with
      | some e => if m_fit e.2.2.2.1 v = true ∧ (e.2.2.2.2.1 = false ∨ ((m_y k).name = "<init>" ∧ (m_y k).cls = e.2.2.2.2.2.1)) then nx_ (pc + 3) ls ll r (pF h a e.2.2.1 v) else none
      | none => none
    | _ => none
  | .iaload => match st with
    | .int i :: .ref a :: r =>
      if k = m_law then (if a = g.1 ∧ m_inb i g.2.1 = true then nx_ (pc + 1) ls ll (.int (g.2.2.1 i.toNatClampNeg) :: r) h else none)
      else if (hS h a).1 = 1 ∧ m_inb i (hS h a).2 = true then nx_ (pc + 1) ls ll (.int (hI h a i.toNatClampNeg) :: r) h else none
    | _ => none
  | .baload => match st with
    | .int i :: .ref a :: r => if (hS h a).1 = 2 ∧ m_inb i (hS h a).2 = true then nx_ (pc + 1) ls ll (.int (hI h a i.toNatClampNeg) :: r) h else none
    | _ => none
  | .aaload => match st with
    | .int i :: .ref a :: r => if (hS h a).1 = 3 ∧ m_inb i (hS h a).2 = true then nx_ (pc + 1) ls ll (va_rf (rfO (hF h a i.toNatClampNeg)) :: r) h else none
    | _ => none
  | .iastore => match st with
    | .int x :: .int i :: .ref a :: r => if (hS h a).1 = 1 ∧ m_inb i (hS h a).2 = true then nx_ (pc + 1) ls ll r (pI h a (upd (hI h a) i.toNatClampNeg x)) else none
    | _ => none
  | .bastore => match st with
    | .int x :: .int i :: .ref a :: r => if (hS h a).1 = 2 ∧ m_inb i (hS h a).2 = true then nx_ (pc + 1) ls ll r (pI h a (upd (hI h a) i.toNatClampNeg (vp_nar .byte x))) else none
    | _ => none
  | .aastore => match st with
    | .ref v :: .int i :: .ref a :: r => if (hS h a).1 = 3 ∧ m_inb i (hS h a).2 = true ∧ hS h v = (0, 4) then nx_ (pc + 1) ls ll r (pF h a i.toNatClampNeg (.ref v)) else none
    | _ => none
  | .arraylength => match st with
    | .ref a :: r => if k = m_law then (if a = g.1 then nx_ (pc + 1) ls ll (.int (Int32.ofNat g.2.1) :: r) h else none)
      else if (hS h a).1 = 1 ∨ (hS h a).1 = 2 then nx_ (pc + 1) ls ll (.int (Int32.ofNat (hS h a).2) :: r) h else none
    | _ => none
  | .newarray .int => match st with
    | .int n :: r => if ¬ n < 0 ∧ n.toNatClampNeg ≤ 512 then nx_ (pc + 2) ls ll (.ref (hN h) :: r) (nwA h 1 n.toNatClampNeg) else none
    | _ => none
  | .newarray .byte => match st with
    | .int n :: r => if ¬ n < 0 ∧ n.toNatClampNeg ≤ 512 then nx_ (pc + 2) ls ll (.ref (hN h) :: r) (nwA h 2 n.toNatClampNeg) else none
    | _ => none
  | .anewarray idx => match st with
    | .int n :: r => match m_nT k idx with
      | some e => if ¬ n < 0 ∧ n.toNatClampNeg ≤ 512 ∧ e.2.1 = 4 then nx_ (pc + 3) ls ll (.ref (hN h) :: r) (nwA h 3 n.toNatClampNeg) else none
      | none => none
    | _ => none
  | .new idx => match m_nT k idx with
    | some e => nx_ (pc + 3) ls ll (.ref (hN h) :: st) (nwO h e.2.1)
    | none => none
  | .invokestatic idx => m_static g k pc idx ls ll st h
  | .invokespecial idx => m_special k pc idx ls ll st h
  | .invokevirtual idx => m_virtual g k pc idx ls ll st h
  | .ireturn => match st with
    | [.int v] => match m_rt k with
      | some ty => if narrow ty (.int v) = .int v ∧ fits ty (.int v) = true then some (.inr (.inl (.int v, h))) else none
      | none => none
    | _ => none
  | .lreturn => match st with
    | [.long v] => if m_rt k = some .long then some (.inr (.inl (.long v, h))) else none
    | _ => none
  | .return_ => match st with
    | [] => if m_rt k = none then some (.inr (.inl (.null, h))) else none
    | _ => none
  | _ => none
/-- a method's entry: its arguments, a long in two places -/
def m_enl : List Value → List Value
  | [] => []
  | .long _ :: vs => m_D :: m_D :: m_enl vs
  | v :: vs => v :: m_enl vs
def m_ell : Nat → List Value → List (Nat × Int64)
  | _, [] => []
  | i, .long x :: vs => (i, x) :: m_ell (i + 2) vs
  | i, _ :: vs => m_ell (i + 1) vs
def m_ent (k : Nat) (as : List Value) : List Value := m_enl as ++ List.replicate (m_ml k - (m_enl as).length) m_D
def m_okA (k : Nat) (as : List Value) : Bool := decide ((m_enl as).length ≤ m_ml k) && as.all (fun v => match v with | .long _ => true | w => m_is1 w)
def m_push (k : Nat) (v : Value) (st : List Value) : List Value := match m_rt k with
  | none => st
  | some _ => v :: st
/-- how many bytes an instruction has -/
def m_len : Instr → Nat
  | .bipush _ => 2
  | .sipush _ => 3
  | .ldc _ => 2
  | .ldc_w _ => 3
  | .ldc2_w _ => 3
  | .iload _ => 2
  | .lload _ => 2
  | .istore _ => 2
  | .lstore _ => 2
  | .iinc _ _ => 3
  | .goto _ => 3
  | .ifCond _ _ => 3
  | .if_icmp _ _ => 3
  | .ifnonnull _ => 3
  | .getfield _ => 3
  | .putfield _ => 3
  | .newarray _ => 2
  | .anewarray _ => 3
  | .new _ => 3
  | .invokestatic _ => 3
  | .invokespecial _ => 3
  | .invokevirtual _ => 3
  | .tableswitch _ _ _ _ => 0
  | _ => 1
def m_lok (i : Instr) (len : Nat) : Bool := m_len i == 0 || m_len i == len
def stp (g : GL) (k : Nat) (c : CF) : Option OU := match decode (m_cd k) c.1 with
  | .ok (i, len) => if m_lok i len = true then stepI g k c.1 i c.2.1 c.2.2.1 c.2.2.2.1 c.2.2.2.2 else none
  | .error _ => none
def run (g : GL) : Nat → Nat → CF → Option (Value × HP)
  | 0, _, _ => none
  | n + 1, k, c => match stp g k c with
    | none => none
    | some (.inl c') => run g n k c'
    | some (.inr (.inl r)) => some r
    | some (.inr (.inr (k', as, c'))) => if m_okA k' as = true then match run g n k' (0, m_ent k' as, m_ell 0 as, [], c'.2.2.2.2) with
      | none => none
      | some (v, h') => run g n k (c'.1, c'.2.1, c'.2.2.1, m_push k' v c'.2.2.2.1, h') else none
/-- from here on the method comes to its end, and there Φ holds of its answer and the heap -/
def J (g : GL) (k pc : Nat) (ls : List Value) (ll : List (Nat × Int64)) (st : List Value) (h : HP) (Φ : Value → HP → Prop) : Prop := ∃ (n : Nat) (v : Value) (h' : HP), run g n k (pc, ls, ll, st, h) = some (v, h') ∧ Φ v h'
def KV (g : GL) (k pc : Nat) (ls : List Value) (ll : List (Nat × Int64)) (st : List Value) (Φ : Value → HP → Prop) : Value → HP → Prop := fun v h => J g k pc ls ll (v :: st) h Φ
def KU (g : GL) (k pc : Nat) (ls : List Value) (ll : List (Nat × Int64)) (st : List Value) (Φ : Value → HP → Prop) : Value → HP → Prop := fun _ h => J g k pc ls ll st h Φ
theorem run_mono1 (g : GL) : ∀ (n k : Nat) (c : CF) (r : Value × HP), run g n k c = some r → run g (n + 1) k c = some r := by
  intro n
  induction n with
  | zero => intro k c r h; simp [run] at h
  | succ n ih =>
    intro k c r h
    rw [run] at h ⊢
    cases hs : stp g k c with
    | none => rw [hs] at h; simp at h
    | some o =>
      rw [hs] at h
      rcases o with c' | r' | ⟨k', as, c'⟩
      · exact ih k c' r h
      · exact h
      · dsimp only at h ⊢
        by_cases ha : m_okA k' as = true
        · rw [if_pos ha] at h ⊢
          cases hr : run g n k' (0, m_ent k' as, m_ell 0 as, [], c'.2.2.2.2) with
          | none => rw [hr] at h; simp at h
          | some q =>
            obtain ⟨v, h'⟩ := q
            rw [hr] at h
            rw [ih _ _ _ hr]
            exact ih _ _ _ h
        · rw [if_neg ha] at h; simp at h
theorem run_mono (g : GL) {n m k : Nat} {c : CF} {r : Value × HP} (hnm : n ≤ m) (h : run g n k c = some r) : run g m k c = some r := by
  induction hnm with
  | refl => exact h
  | step _ ih => exact run_mono1 g _ _ _ _ ih
section JL
variable {g : GL} {k pc pc' : Nat} {cc : ByteArray} {i : Instr} {len : Nat} {ls ls' : List Value} {ll ll' : List (Nat × Int64)} {st st' : List Value} {h h' : HP} {Φ : Value → HP → Prop}
theorem stp_of (hc : m_cd k = cc) (hd : decode cc pc = .ok (i, len)) (hl : m_lok i len = true) : stp g k (pc, ls, ll, st, h) = stepI g k pc i ls ll st h := by
  simp only [stp, hc, hd]
  rw [if_pos hl]
theorem J_nx (hc : m_cd k = cc) (hd : decode cc pc = .ok (i, len)) (hl : m_lok i len = true) (hs : stepI g k pc i ls ll st h = nx_ pc' ls' ll' st' h') : J g k pc ls ll st h Φ = J g k pc' ls' ll' st' h' Φ := by
  have hs' : stp g k (pc, ls, ll, st, h) = some (.inl (pc', ls', ll', st', h')) := (stp_of hc hd hl).trans hs
  refine propext ⟨?_, ?_⟩
  · rintro ⟨n, v, w, hr, hw⟩
    cases n with
    | zero => simp [run] at hr
    | succ n =>
      rw [run, hs'] at hr
      exact ⟨n, v, w, hr, hw⟩
  · rintro ⟨n, v, w, hr, hw⟩
    exact ⟨n + 1, v, w, by rw [run, hs']; exact hr, hw⟩
theorem J_rt {v : Value} (hc : m_cd k = cc) (hd : decode cc pc = .ok (i, len)) (hl : m_lok i len = true) (hs : stepI g k pc i ls ll st h = some (.inr (.inl (v, h')))) : J g k pc ls ll st h Φ = Φ v h' := by
  have hs' : stp g k (pc, ls, ll, st, h) = some (.inr (.inl (v, h'))) := (stp_of hc hd hl).trans hs
  refine propext ⟨?_, ?_⟩
  · rintro ⟨n, w, u, hr, hw⟩
    cases n with
    | zero => simp [run] at hr
    | succ n =>
      rw [run, hs'] at hr
      simp only [Option.some.injEq, Prod.mk.injEq] at hr
      obtain ⟨rfl, rfl⟩ := hr
      exact hw
  · intro hw
    exact ⟨1, v, h', by rw [run, hs'], hw⟩
theorem J_cl {k' : Nat} {as : List Value} (hc : m_cd k = cc) (hd : decode cc pc = .ok (i, len)) (hl : m_lok i len = true) (hs : stepI g k pc i ls ll st h = some (.inr (.inr (k', as, (pc', ls', ll', st', h'))))) (ha : m_okA k' as = true) :
    J g k pc ls ll st h Φ = J g k' 0 (m_ent k' as) (m_ell 0 as) [] h' (fun v w => J g k pc' ls' ll' (m_push k' v st') w Φ) := by
  have hs' : stp g k (pc, ls, ll, st, h) = some (.inr (.inr (k', as, (pc', ls', ll', st', h')))) := (stp_of hc hd hl).trans hs
  refine propext ⟨?_, ?_⟩
  · rintro ⟨n, v, w, hr, hw⟩
    cases n with
    | zero => simp [run] at hr
    | succ n =>
      rw [run, hs'] at hr
      dsimp only at hr
      rw [if_pos ha] at hr
      cases hq : run g n k' (0, m_ent k' as, m_ell 0 as, [], h') with
      | none => rw [hq] at hr; simp at hr
      | some q =>
        obtain ⟨v1, w1⟩ := q
        rw [hq] at hr
        exact ⟨n, v1, w1, hq, n, v, w, hr, hw⟩
  · rintro ⟨n1, v1, w1, h1, n2, v, w, h2, hw⟩
    refine ⟨max n1 n2 + 1, v, w, ?_, hw⟩
    rw [run, hs']
    dsimp only
    rw [if_pos ha, run_mono g (Nat.le_max_left n1 n2) h1]
    exact run_mono g (Nat.le_max_right n1 n2) h2
theorem J_clV {k' : Nat} {as : List Value} {ty : FieldType} {ls0 : List Value} {ll0 : List (Nat × Int64)} (hc : m_cd k = cc) (hd : decode cc pc = .ok (i, len)) (hl : m_lok i len = true) (hs : stepI g k pc i ls ll st h = some (.inr (.inr (k', as, (pc', ls', ll', st', h'))))) (ha : m_okA k' as = true) (hr : m_rt k' = some ty) (h1 : m_ent k' as = ls0) (h2 : m_ell 0 as = ll0) :
    J g k pc ls ll st h Φ = J g k' 0 ls0 ll0 [] h' (KV g k pc' ls' ll' st' Φ) := by
  rw [J_cl hc hd hl hs ha, h1, h2]
  simp only [m_push, hr]
  rfl
theorem J_clU {k' : Nat} {as : List Value} {ls0 : List Value} {ll0 : List (Nat × Int64)} (hc : m_cd k = cc) (hd : decode cc pc = .ok (i, len)) (hl : m_lok i len = true) (hs : stepI g k pc i ls ll st h = some (.inr (.inr (k', as, (pc', ls', ll', st', h'))))) (ha : m_okA k' as = true) (hr : m_rt k' = none) (h1 : m_ent k' as = ls0) (h2 : m_ell 0 as = ll0) :
    J g k pc ls ll st h Φ = J g k' 0 ls0 ll0 [] h' (KU g k pc' ls' ll' st' Φ) := by
  rw [J_cl hc hd hl hs ha, h1, h2]
  simp only [m_push, hr]
  rfl
theorem J_br {c : Prop} [Decidable c] {pc2 : Nat} {ls2 : List Value} {ll2 : List (Nat × Int64)} {st2 : List Value} {h2 : HP} (hc : m_cd k = cc) (hd : decode cc pc = .ok (i, len)) (hl : m_lok i len = true) (hs : stepI g k pc i ls ll st h = if c then nx_ pc' ls' ll' st' h' else nx_ pc2 ls2 ll2 st2 h2) : J g k pc ls ll st h Φ = if c then J g k pc' ls' ll' st' h' Φ else J g k pc2 ls2 ll2 st2 h2 Φ := by
  by_cases hq : c
  · rw [if_pos hq] at hs ⊢
    exact J_nx hc hd hl hs
  · rw [if_neg hq] at hs ⊢
    exact J_nx hc hd hl hs
end JL
theorem KV_ap (g : GL) (k pc : Nat) (ls : List Value) (ll : List (Nat × Int64)) (st : List Value) (Φ : Value → HP → Prop) (v : Value) (h : HP) : KV g k pc ls ll st Φ v h = J g k pc ls ll (v :: st) h Φ := rfl
theorem KU_ap (g : GL) (k pc : Nat) (ls : List Value) (ll : List (Nat × Int64)) (st : List Value) (Φ : Value → HP → Prop) (v : Value) (h : HP) : KU g k pc ls ll st Φ v h = J g k pc ls ll st h Φ := rfl

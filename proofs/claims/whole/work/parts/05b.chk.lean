/-! the tables of part 05 held against the tables' words, by the kernel -/
def m_GW : List Cond := lw_tbl.filter goodWord
def lwi (i : Nat) (w : Cond) : Bool := decide (lw_tbl[i]? = some w) && goodWord w
theorem lwi_in {i : Nat} {w : Cond} (h : lwi i w = true) : w ∈ m_GW := by
  simp only [lwi, Bool.and_eq_true, decide_eq_true_eq] at h
  exact List.mem_filter.mpr ⟨List.mem_of_getElem? h.1, h.2⟩
def m_ws (k : Nat) : List Cond := .code (m_y k) (m_cd k) (m_ml k) (m_rt k) :: m_GW
def hh (l : List Nat) (i : Nat) : Nat := l.getD i 9999
/-- sort of a field's type -/
def m_ty : FieldType → Nat
  | .int => 0
  | .long => 1
  | .object _ => 2
  | .array _ => 2
  | _ => 9
def m_chF (o : Nat) (e : m_fe) : Bool := match vwCl[e.2.1]? with
  | none => false
  | some q => decide (e.2.2.1 < q.2.2) && (lwi (hh e.2.2.2.2.2.2 0) (.fieldLink (m_on o) e.1 e.2.2.2.2.2.1 (q.2.1 e.2.2.1).2.1 (q.2.1 e.2.2.1).2.2.1)
    && ((decide ((q.2.1 e.2.2.1).1 = e.2.2.2.2.2.1) || lwi (hh e.2.2.2.2.2.2 1) (.sameField e.2.2.2.2.2.1 (q.2.1 e.2.2.1).1 (q.2.1 e.2.2.1).2.1 (q.2.1 e.2.2.1).2.2.1))
    && ((q.2.1 e.2.2.1).2.2.2 == e.2.2.2.2.1 && ((!e.2.2.2.2.1 || decide ((q.2.1 e.2.2.1).1 = e.2.2.2.2.2.1) || decide (e.2.2.2.2.2.1 ≠ m_on o)) && (match parseFieldDescriptor (q.2.1 e.2.2.1).2.2.1 with | some t => m_ty t == e.2.2.2.1 && decide (e.2.2.2.1 < 3) | none => false)))))
theorem fl_ok : ∀ o, o < 12 → (m_fl o).all (m_chF o) = true := by decide +kernel
def m_chN (o : Nat) (e : m_ne) : Bool := match vwCl[e.2.1]? with
  | none => false
  | some q => lwi (hh e.2.2 0) (.classLink (m_on o) e.1 q.1) && (lwi (hh e.2.2 1) (.instantiable q.1 q.2.2) && lwi (hh e.2.2 2) (.initialized q.1))
theorem nl_ok : ∀ o, o < 12 → (m_nl o).all (m_chN o) = true := by decide +kernel
theorem ki_ok : ∀ o, o < 12 → (m_ki o).all (fun e => lwi e.2.2 (.constant (m_on o) e.1 e.2.1)) = true := by decide +kernel
theorem kl_ok : ∀ o, o < 12 → (m_kl o).all (fun e => lwi e.2.2 (.constantLong (m_on o) e.1 e.2.1)) = true := by decide +kernel
theorem oc_ok : ∀ k, k < m_K → m_oc k < 12 ∧ (m_y k).cls = m_on (m_oc k) := by decide +kernel
/-- the classes -/
def m_chC0 (q : vw_C) : Bool := (u_ws q.1 q.2.1 q.2.2).all (fun w => decide (w ∈ lw_tbl) && goodWord w) && (List.range q.2.2).all (fun a => (parseFieldDescriptor (q.2.1 a).2.2.1).isSome && (List.range q.2.2).all (fun b => decide (a = b) || decide ((q.2.1 a).2.1 ≠ (q.2.1 b).2.1)))
theorem vw_ok : vwCl.all m_chC0 = true := by decide +kernel
def m_chM (k : Nat) : Bool := lwi (m_ic k) (.code (m_y k) (m_cd k) (m_ml k) (m_rt k)) && (plainName (m_y k).cls && (decide (m_ml k ≤ 20) && (decide ((m_y k).cls ≠ "java/lang/invoke/MethodHandle" ∧ (m_y k).cls ≠ "java/lang/invoke/VarHandle") && decide (m_rt k = none ∨ m_rt k = some .int ∨ m_rt k = some .boolean ∨ m_rt k = some .long))))
theorem md_ok1 : ∀ k, k < 60 → m_chM k = true := by decide +kernel
theorem md_ok2 : ∀ k, k < 60 → m_chM (k + 60) = true := by decide +kernel
theorem md_ok3 : ∀ k, k < 60 → m_chM (k + 120) = true := by decide +kernel
theorem md_ok4 : ∀ k, k < m_law - 180 → m_chM (k + 180) = true := by decide +kernel
def m_np (y : MethodName) (n : Nat) : Bool := decide ((parseMethodDescriptor y.desc).map (fun d => d.parameters.length) = some n)
def m_ch1 (k ci k' idx n : Nat) (hs : List Nat) : Bool := match vwCl[ci]? with
  | none => false
  | some q => (decide (k' < m_law) && decide (m_rk k' < m_rk k)) && (decide ((m_y k').cls = q.1) && (lwi (hh hs 0) (.methodLink (m_y k).cls idx (m_y k')) && (lwi (hh hs 1) (.instanceMethod (m_y k')) && (lwi (hh hs 2) (.selects q.1 (m_y k') (m_y k')) && (lwi (hh hs 3) (.initialized q.1) && m_np (m_y k') n)))))
def m_ch2 (k ci k' idx n : Nat) (x : MethodName) (hs : List Nat) : Bool := match vwCl[ci]? with
  | none => false
  | some q => (decide (k' < m_law) && decide (m_rk k' < m_rk k)) && (decide ((m_y k').name = x.name ∧ (m_y k').desc = x.desc) && (lwi (hh hs 0) (.methodLink (m_y k).cls idx x) && (lwi (hh hs 1) (.sameMethod x.cls (m_y k').cls x.name x.desc) && (lwi (hh hs 2) (.selects q.1 x (m_y k')) && (lwi (hh hs 3) (.instanceMethod (m_y k')) && (lwi (hh hs 4) (.initialized (m_y k').cls) && m_np x n))))))
def m_chC (k : Nat) (e : m_ce) : Bool :=
  match e with
  | (_, ci, kd, k', idx, n, x, hs) =>
    match kd with
    | 1 => m_ch1 k ci k' idx n hs
    | 2 => m_ch2 k ci k' idx n x hs
    | 3 => (decide (k' < m_law) && decide (m_rk k' < m_rk k)) && (lwi (hh hs 0) (.methodLink (m_y k).cls idx (m_y k')) && (lwi (hh hs 1) (.static (m_y k')) && (lwi (hh hs 2) (.initialized (m_y k').cls) && m_np (m_y k') n)))
    | 4 => (decide (k' < m_law) && decide (m_rk k' < m_rk k)) && (decide (m_nw[hh hs 0]? = some (.methodLinkNest (m_y k).cls idx (m_y k') "RockName")) && (lwi (hh hs 1) (.static (m_y k')) && (lwi (hh hs 2) (.initialized (m_y k').cls) && m_np (m_y k') n)))
    | 5 => (decide (k' < m_law) && decide (m_rk k' < m_rk k)) && (lwi (hh hs 0) (.methodLink (m_y k).cls idx (m_y k')) && (lwi (hh hs 1) (.instanceMethod (m_y k')) && (lwi (hh hs 2) (.initialized (m_y k').cls) && (decide ((m_y k').name = "<init>" ∧ m_rt k' = none) && m_np (m_y k') n))))
    | 6 => (decide (k' < m_law) && decide (m_rk k' < m_rk k)) && (decide (m_nw[hh hs 0]? = some (.methodLinkNest (m_y k).cls idx (m_y k') "RockName")) && (lwi (hh hs 1) (.instanceMethod (m_y k')) && (lwi (hh hs 2) (.initialized (m_y k').cls) && (decide ((m_y k').name = "<init>" ∧ m_rt k' = none) && m_np (m_y k') n))))
    | 7 => decide (1 ≤ m_rk k) && (lwi (hh hs 0) (.methodLink (m_y k).cls idx Lib.objectInit) && (lwi (hh hs 1) (.instanceMethod Lib.objectInit) && lwi (hh hs 2) (.code Lib.objectInit ⟨#[0xb1]⟩ 1 none)))
    | 8 => decide (1 ≤ m_rk k) && (lwi (hh hs 0) (.methodLink (m_y k).cls idx Lib.Math.max.name) && (lwi (hh hs 1) (.static Lib.Math.max.name) && (lwi (hh hs 2) (.initialized "java/lang/Math") && lwi (hh hs 3) (.code Lib.Math.max.name Lib.Math.max.code 2 (some .int)))))
    | 9 => decide (1 ≤ m_rk k) && (lwi (hh hs 0) (.methodLink (m_y k).cls idx Lib.Math.min.name) && (lwi (hh hs 1) (.static Lib.Math.min.name) && (lwi (hh hs 2) (.initialized "java/lang/Math") && lwi (hh hs 3) (.code Lib.Math.min.name Lib.Math.min.code 2 (some .int)))))
    | 10 => decide (1 ≤ m_rk k) && (lwi (hh hs 0) (.methodLink (m_y k).cls idx arraycopyName) && (lwi (hh hs 1) (.native arraycopyName) && (lwi (hh hs 2) (.static arraycopyName) && lwi (hh hs 3) (.initialized "java/lang/System"))))
    | 11 => decide (5 ≤ m_rk k) && (lwi (hh hs 0) (.methodLink (m_y k).cls idx yJ0_length_8abf5) && (lwi (hh hs 1) (.instanceMethod yJ0_length_8abf5) && (lwi (hh hs 2) (.selects "java/lang/String" yJ0_length_8abf5 yJ0_length_8abf5) && lwi (hh hs 3) (.initialized "java/lang/String"))))
    | 12 => decide (5 ≤ m_rk k) && (lwi (hh hs 0) (.methodLink (m_y k).cls idx yJ0_charAt_5068e) && (lwi (hh hs 1) (.instanceMethod yJ0_charAt_5068e) && (lwi (hh hs 2) (.selects "java/lang/String" yJ0_charAt_5068e yJ0_charAt_5068e) && lwi (hh hs 3) (.initialized "java/lang/String"))))
    | _ => false
theorem cl_ok1 : ∀ k, k < 40 → (m_cl k).all (m_chC k) = true := by decide +kernel
theorem cl_ok2 : ∀ k, k < 40 → (m_cl (k + 40)).all (m_chC (k + 40)) = true := by decide +kernel
theorem cl_ok3 : ∀ k, k < 40 → (m_cl (k + 80)).all (m_chC (k + 80)) = true := by decide +kernel
theorem cl_ok4 : ∀ k, k < 40 → (m_cl (k + 120)).all (m_chC (k + 120)) = true := by decide +kernel
theorem cl_ok5 : ∀ k, k < m_K - 160 → (m_cl (k + 160)).all (m_chC (k + 160)) = true := by decide +kernel
theorem cl_ok {k : Nat} (hk : k < m_K) {e : m_ce} (he : e ∈ m_cl k) : m_chC k e = true := by
  have h : (m_cl k).all (m_chC k) = true := by
    by_cases h1 : k < 40
    · exact cl_ok1 k h1
    by_cases h2 : k < 80
    · have := cl_ok2 (k - 40) (by omega)
      rwa [show k - 40 + 40 = k by omega] at this
    by_cases h3 : k < 120
    · have := cl_ok3 (k - 80) (by omega)
      rwa [show k - 80 + 80 = k by omega] at this
    by_cases h4 : k < 160
    · have := cl_ok4 (k - 120) (by omega)
      rwa [show k - 120 + 120 = k by omega] at this
    · have := cl_ok5 (k - 160) (by omega)
      rwa [show k - 160 + 160 = k by omega] at this
  exact List.all_eq_true.mp h e he
theorem md_ok {k : Nat} (hk : k < m_law) : m_chM k = true := by
  by_cases h1 : k < 60
  · exact md_ok1 k h1
  by_cases h2 : k < 120
  · have := md_ok2 (k - 60) (by omega)
    rwa [show k - 60 + 60 = k by omega] at this
  by_cases h3 : k < 180
  · have := md_ok3 (k - 120) (by omega)
    rwa [show k - 120 + 120 = k by omega] at this
  · have := md_ok4 (k - 180) (by omega)
    rwa [show k - 180 + 180 = k by omega] at this

/-! ===== our memory, and the judgement PW: a method's frame over it ===== -/
abbrev GE : Type := (Nat → ClassId) × (Nat → Nat → Nat) × (Nat → ClassId) × (Nat → Nat) × Nat × (Nat × Nat × (Nat → Int32))
abbrev g_D (G : GE) : va_G := (G.1, G.2.1)
abbrev g_A (G : GE) : Nat → ClassId := G.2.2.1
abbrev g_s (G : GE) : Nat → Nat := G.2.2.2.1
abbrev g_b (G : GE) : Nat := G.2.2.2.2.1
abbrev g_x (G : GE) : Nat × Nat × (Nat → Int32) := G.2.2.2.2.2
abbrev Mm : Type := (Nat → Nat → Int32) × (Nat → Nat → Int64) × (Nat → Nat → Option Nat) × (Nat → Nat × Nat) × Nat
def mi (M : Mm) : Nat → Nat → Int32 := M.1
def ml (M : Mm) : Nat → Nat → Int64 := M.2.1
def mr (M : Mm) : Nat → Nat → Option Nat := M.2.2.1
def mt (M : Mm) : Nat → Nat × Nat := M.2.2.2.1
def mn (M : Mm) : Nat := M.2.2.2.2
def wI (M : Mm) (a k : Nat) (v : Int32) : Mm := (va_up M.1 a (upd (M.1 a) k v), M.2)
def wL (M : Mm) (a k : Nat) (v : Int64) : Mm := (M.1, va_up M.2.1 a (vp_updL (M.2.1 a) k v), M.2.2)
def wR (M : Mm) (a k : Nat) (v : Option Nat) : Mm := (M.1, M.2.1, va_up M.2.2.1 a (va_up (M.2.2.1 a) k v), M.2.2.2)
def wA (M : Mm) (a : Nat) (f : Nat → Int32) : Mm := (va_up M.1 a f, M.2)
def wN (M : Mm) (t : Nat × Nat) : Mm := (va_up M.1 M.2.2.2.2 (fun _ => 0), va_up M.2.1 M.2.2.2.2 (fun _ => 0), va_up M.2.2.1 M.2.2.2.2 (fun _ => none), va_up M.2.2.2.1 M.2.2.2.2 t, M.2.2.2.2 + 1)
/-- the kinds of a class's fields: 0 int, 1 long, 2 a reference -/
def fks : Nat → List Nat := fun c => match c with
  | 3 => [2, 2, 2]
  | 4 => [2, 2, 2, 2, 0, 0, 0, 0]
  | 6 => [2, 2, 2, 0, 0, 0]
  | 9 => [2, 0, 0, 0, 0, 0, 0]
  | 10 => [2, 2, 2, 2, 2, 0, 0, 0]
  | 11 => [2, 2, 2, 2, 2, 2, 2, 2, 0, 0, 0, 0, 0]
  | 12 => [2, 0, 0, 0, 0, 0, 2, 2, 2, 2, 2, 2, 2, 2, 0, 0, 0, 0, 2, 2, 0, 2, 0, 2, 2, 2, 2, 2, 1, 1, 2, 2, 1]
  | _ => []
def fv (M : Mm) (a : Nat) (ks : List Nat) (k : Nat) : Value := match ks.getD k 2 with
  | 0 => .int (mi M a k)
  | 1 => .long (ml M a k)
  | _ => va_rf (mr M a k)
def avl (M : Mm) (a j : Nat) : Value := if (mt M a).1 < 15 then .int (mi M a j) else va_rf (mr M a j)
def cellOk (G : GE) (M : Mm) (a : Nat) (H : Heap) : Prop :=
  ((mt M a).1 < 13 → t_OB a (G.1 (mt M a).1) (fks (mt M a).1).length (G.2.1 (mt M a).1) H (fv M a (fks (mt M a).1))) ∧
  (¬ (mt M a).1 < 13 → H[a]? = some (arrV (g_A G (mt M a).1) (mt M a).2 (avl M a)))
def Sim (G : GE) (M : Mm) (H : Heap) : Prop := H.size = mn M ∧ g_b G ≤ mn M ∧ ∀ a : Nat, (mt M a).1 < 18 → g_b G ≤ a ∧ a < mn M ∧ cellOk G M a H
/-- the tables' words that may be handed on, and the nest's -/
def wsG : List Cond := lw_tbl.filter goodWord
def isNw : Cond → Bool
  | .fieldLinkNest _ _ _ _ _ _ => true
  | .methodLinkNest _ _ _ _ => true
  | .castable _ _ => true
  | _ => false
def wsN : List Cond := lw_tbl.filter isNw
theorem mgG {w : Cond} (i : Nat) (h : lw_tbl[i]? = some w) (hg : goodWord w = true) : w ∈ wsG := List.mem_filter.mpr ⟨List.mem_of_getElem? h, hg⟩
theorem mgN {w : Cond} (i : Nat) (h : lw_tbl[i]? = some w) (hg : isNw w = true) : w ∈ wsN := List.mem_filter.mpr ⟨List.mem_of_getElem? h, hg⟩
theorem wsG_good : ∀ w ∈ wsG, (w.onTables && w.keeps) = true ∨ ∃ ty, w = .arrayClass ty := fun w h => good_of_word (List.mem_filter.mp h).2
abbrev tysG (G : GE) : List (ClassId × FieldType) := [(g_A G 13, .int), (g_A G 14, .boolean), (g_A G 15, .object "SleepyHelm$Helm"), (g_A G 16, .object "SleepyHelm$Plain"), (g_A G 17, .object "SleepyHelm$Voyage")]
/-- the five String constants -/
def sBy : List (List Int32) := [[115, 104, 105, 112], [114, 111, 99, 107], [114, 101, 101, 102], [104, 97, 110, 100], [108, 101, 97, 110]]
abbrev sIx : List (Nat × String) := [(33, "ship"), (52, "rock"), (58, "reef"), (60, "hand"), (65, "lean")]
def EnvS (G : GE) (U : State) : Prop := vk_S 5 [4, 4, 4, 4, 4] sBy (g_s G) (fun i => g_s G (i + 5)) (fun q => g_b G ≤ q) U U.heap ∧ (∀ i : Nat, i < 5 → vk_R "SleepyHelm$Text" (sIx.getD i (0, "")).1 (sIx.getD i (0, "")).2 (g_s G i) U) ∧ va_Z "java/lang/String" "COMPACT_STRINGS" "Z" (.int 1) (fun q => g_b G ≤ q) U U.heap ∧ va_Zq "jdk/internal/util/Preconditions" "SIOOBE_FORMATTER" "Ljava/util/function/BiFunction;" (fun q => g_b G ≤ q) U U.heap ∧ va_X (g_x G).1 (g_x G).2.1 (g_x G).2.2 U U.heap ∧ (g_x G).1 < g_b G
def EnvK (G : GE) (U : State) : Prop := va_K (g_D G) vwCl (tysG G) U ∧ (∀ w ∈ wsN, va_Nw w U) ∧ va_AO "SleepyHelm$Helm" U ∧ va_AO "SleepyHelm$Plain" U ∧ va_AO "SleepyHelm$Voyage" U
def EnvOk (G : GE) (U : State) : Prop := EnvK G U ∧ EnvS G U
abbrev MI : Type := MethodName × ByteArray × Nat × Option FieldType × Nat × Nat
def rmOf (d mc ms : Nat) : Room := { frames := d + 1, cells := mc, slots := ms, locals := 64 * (d + 1) }
def wsM (I : MI) : List Cond := Cond.code I.1 I.2.1 I.2.2.1 I.2.2.2.1 :: wsG
def QQ (G : GE) (Post : Option Value → Mm → Prop) : Array Value → State → Outcome → State → Prop := fun _ st oc t => (∃ (v : Option Value) (M' : Mm), oc = .returned v ∧ Post v M' ∧ Sim G M' t.heap) ∧ va_F (fun q => g_b G ≤ q) st t
/-- a method's contract at these arguments and this memory -/
def Mt (G : GE) (I : MI) (d : Nat) (args : List Value) (M : Mm) (Post : Option Value → Mm → Prop) : Prop :=
  ∀ l : Launch, Met l I.1 (wsM I) (rmOf d I.2.2.2.2.1 I.2.2.2.2.2) (va_Pc args (fun U => EnvOk G U ∧ Sim G M U.heap)) (QQ G Post) I.2.2.2.2.1 I.2.2.2.2.2 (fun q => g_b G ≤ q)
def CX (G : GE) (I : MI) (p : Program) (s : State) (m : MethodId) (args : Array Value) (meth : Method) (c : Code) : Prop :=
  p.tables.exec = Jvm.exec ∧ c.code = I.2.1 ∧ c.maxLocals = I.2.2.1 ∧ meth.sig.returnType = I.2.2.2.1 ∧ meth.locks = false ∧ s.vm.findClass I.1.cls = some m.cls ∧ (∀ w ∈ wsG, w.before args s = true) ∧ meth.name = I.1.name ∧ EnvOk G s
def lok (la : Array Slot) (nL : Nat) (ls : List Value) : Prop := la.size = nL ∧ lv_wf la ∧ ∀ (i : Nat) (v : Value), ls[i]? = some v → v ≠ .null → la[i]? = some (.val v)
def PW (G : GE) (I : MI) (d : Nat) (Post : Option Value → Mm → Prop) (pc : Nat) (ls st : List Value) (M : Mm) (nc ns : Nat) : Prop :=
  ∀ (p : Program) (l : Launch) (e : Env) (s : State) (m : MethodId) (args : Array Value) (below : List Frame) (meth : Method) (c : Code), CX G I p s m args meth c → ∀ (H : Heap) (locs : List Loc) (la : Array Slot), Sim G M H → va_S (fun q => g_b G ≤ q) s.heap H locs → lok la I.2.2.1 ls →
    W p l e (rmOf d I.2.2.2.2.1 I.2.2.2.2.2) s m args below meth c H locs nc ns (MQ below (QQ G Post) args s I.2.2.2.2.1 I.2.2.2.2.2 (fun q => g_b G ≤ q)) (F0 m pc la st)
/-! ===== locals ===== -/
def lvl (ls : List Value) : List (Nat × Value) := (ls.zipIdx.filter (fun q => decide (q.1 ≠ .null))).map (fun q => (q.2, q.1))
theorem lvl_mem {ls : List Value} {q : Nat × Value} : q ∈ lvl ls ↔ ls[q.1]? = some q.2 ∧ q.2 ≠ .null := by
  obtain ⟨i, v⟩ := q
  simp only [lvl, List.mem_map, List.mem_filter, List.mem_zipIdx_iff_getElem?, decide_eq_true_eq, Prod.exists, Prod.mk.injEq]
  constructor
  · rintro ⟨a, b, ⟨h1, h2⟩, rfl, rfl⟩
    exact ⟨h1, h2⟩
  · rintro ⟨h1, h2⟩
    exact ⟨v, i, ⟨h1, h2⟩, rfl, rfl⟩
theorem lok_has {la : Array Slot} {nL : Nat} {ls : List Value} (h : lok la nL ls) : lv_has la nL (lvl ls) := ⟨h.1, h.2.1, fun q hq => h.2.2 q.1 q.2 (lvl_mem.mp hq).1 (lvl_mem.mp hq).2⟩
def okS (ls : List Value) (i : Nat) : Bool := match i with
  | 0 => true
  | j + 1 => match ls[j]? with
    | some w => w.category != 2
    | none => true
theorem okS_ne {ls : List Value} {i j : Nat} {w : Value} (h : okS ls i = true) (hj : j + 1 = i) (hw : ls[j]? = some w) : w.category ≠ 2 := by
  subst hj
  simp [okS, hw] at h
  exact h
theorem lok_set {la : Array Slot} {nL : Nat} {ls : List Value} {i : Nat} {v : Value} (h : lv_has la nL ((i, v) :: (lvl ls).filter (fun q => !(q.1 == i) && !(q.1 + 1 == i && q.2.category == 2)))) (hk : okS ls i = true) : lok la nL (ls.set i v) := by
  refine ⟨h.1, h.2.1, fun j w hw hn => ?_⟩
  by_cases hj : i = j
  · subst hj
    have hl : i < ls.length := by
      have := (List.getElem?_eq_some_iff.mp hw).1
      simpa using this
    rw [List.getElem?_set_self hl] at hw
    cases hw
    exact h.2.2 (i, v) List.mem_cons_self
  · rw [List.getElem?_set_ne hj] at hw
    refine h.2.2 (j, w) (List.mem_cons_of_mem _ (List.mem_filter.mpr ⟨lvl_mem.mpr ⟨hw, hn⟩, ?_⟩))
    have h2 : ¬ (j + 1 = i ∧ w.category = 2) := fun q => okS_ne hk q.1 hw q.2
    simp only [Bool.and_eq_true, Bool.not_eq_true', beq_eq_false_iff_ne, Bool.and_eq_false_iff, ne_eq]
    exact ⟨fun q => hj q.symm, by
      by_cases q : j + 1 = i
      · exact Or.inr (fun q2 => h2 ⟨q, q2⟩)
      · exact Or.inl q⟩
theorem lok_set2 {la : Array Slot} {nL : Nat} {ls : List Value} {i : Nat} {v : Value} (h : lv_has la nL ((i, v) :: (lvl ls).filter (fun q => !(q.1 == i) && (!(q.1 == i + 1) && !(q.1 + 1 == i && q.2.category == 2))))) (hk : okS ls i = true) : lok la nL ((ls.set i v).set (i + 1) .null) := by
  refine ⟨h.1, h.2.1, fun j w hw hn => ?_⟩
  by_cases h1 : i + 1 = j
  · subst h1
    have hl : i + 1 < (ls.set i v).length := by
      have := (List.getElem?_eq_some_iff.mp hw).1
      simpa using this
    rw [List.getElem?_set_self hl] at hw
    cases hw
    exact absurd rfl hn
  rw [List.getElem?_set_ne h1] at hw
  by_cases hj : i = j
  · subst hj
    have hl : i < ls.length := by
      have := (List.getElem?_eq_some_iff.mp hw).1
      simpa using this
    rw [List.getElem?_set_self hl] at hw
    cases hw
    exact h.2.2 (i, v) List.mem_cons_self
  · rw [List.getElem?_set_ne hj] at hw
    refine h.2.2 (j, w) (List.mem_cons_of_mem _ (List.mem_filter.mpr ⟨lvl_mem.mpr ⟨hw, hn⟩, ?_⟩))
    have h2 : ¬ (j + 1 = i ∧ w.category = 2) := fun q => okS_ne hk q.1 hw q.2
    simp only [Bool.and_eq_true, Bool.not_eq_true', beq_eq_false_iff_ne, Bool.and_eq_false_iff, ne_eq]
    exact ⟨fun q => hj q.symm, fun q => h1 q.symm, by
      by_cases q : j + 1 = i
      · exact Or.inr (fun q2 => h2 ⟨q, q2⟩)
      · exact Or.inl q⟩
section PWR
variable {G : GE} {I : MI} {d : Nat} {Post : Option Value → Mm → Prop} {pc : Nat} {ls st : List Value} {M : Mm} {nc ns : Nat}
theorem PW_eqM {M' : Mm} (h : M' = M) (k : PW G I d Post pc ls st M nc ns) : PW G I d Post pc ls st M' nc ns := h ▸ k
theorem PW_eqS {st' : List Value} (h : st' = st) (k : PW G I d Post pc ls st M nc ns) : PW G I d Post pc ls st' M nc ns := h ▸ k
theorem PW_eqL {ls' : List Value} (h : ls' = ls) (k : PW G I d Post pc ls st M nc ns) : PW G I d Post pc ls' st M nc ns := h ▸ k
theorem PW_eqi {x y : Int32} (h : x = y) (k : PW G I d Post pc ls (.int y :: st) M nc ns) : PW G I d Post pc ls (.int x :: st) M nc ns := h ▸ k
/-- some locals are forgotten -/
theorem PW_forget {ls' : List Value} (h : ∀ (i : Nat) (v : Value), ls'[i]? = some v → v ≠ .null → ls[i]? = some v) (k : PW G I d Post pc ls' st M nc ns) : PW G I d Post pc ls st M nc ns :=
  fun p l e s m args below meth c C H locs la hS hV hl => k p l e s m args below meth c C H locs la hS hV ⟨hl.1, hl.2.1, fun i v h1 h2 => hl.2.2 i v (h i v h1 h2) h2⟩
theorem PW_mono {Post' : Option Value → Mm → Prop} (h : ∀ v M', Post' v M' → Post v M') (k : PW G I d Post' pc ls st M nc ns) : PW G I d Post pc ls st M nc ns := by
  intro p l e s m args below meth c C H locs la hS hV hl T hT X
  obtain ⟨t, a, o, b1, b2, ⟨⟨v, M', h1, h2, h3⟩, h4⟩, b4⟩ := k p l e s m args below meth c C H locs la hS hV hl T hT X
  exact ⟨t, a, o, b1, b2, ⟨⟨v, M', h1, h _ _ h2, h3⟩, h4⟩, b4⟩
theorem PW_iadd {x y : Int32} (hd : decode I.2.1 pc = .ok (.iadd, 1)) (k : PW G I d Post (pc + 1) ls (.int (x + y) :: st) M nc ns) : PW G I d Post pc ls (.int y :: .int x :: st) M nc ns :=
  fun p l e s m args below meth c C H locs la hS hV hl => lv_iadd C.1 C.2.1 hd (k p l e s m args below meth c C H locs la hS hV hl)
theorem PW_isub {x y : Int32} (hd : decode I.2.1 pc = .ok (.isub, 1)) (k : PW G I d Post (pc + 1) ls (.int (x - y) :: st) M nc ns) : PW G I d Post pc ls (.int y :: .int x :: st) M nc ns :=
  fun p l e s m args below meth c C H locs la hS hV hl => lv_isub C.1 C.2.1 hd (k p l e s m args below meth c C H locs la hS hV hl)
theorem PW_imul {x y : Int32} (hd : decode I.2.1 pc = .ok (.imul, 1)) (k : PW G I d Post (pc + 1) ls (.int (x * y) :: st) M nc ns) : PW G I d Post pc ls (.int y :: .int x :: st) M nc ns :=
  fun p l e s m args below meth c C H locs la hS hV hl => lv_imul C.1 C.2.1 hd (k p l e s m args below meth c C H locs la hS hV hl)
theorem PW_iand {x y : Int32} (hd : decode I.2.1 pc = .ok (.iand, 1)) (k : PW G I d Post (pc + 1) ls (.int (x &&& y) :: st) M nc ns) : PW G I d Post pc ls (.int y :: .int x :: st) M nc ns :=
  fun p l e s m args below meth c C H locs la hS hV hl => lv_iand C.1 C.2.1 hd (k p l e s m args below meth c C H locs la hS hV hl)
theorem PW_ior {x y : Int32} (hd : decode I.2.1 pc = .ok (.ior, 1)) (k : PW G I d Post (pc + 1) ls (.int (x ||| y) :: st) M nc ns) : PW G I d Post pc ls (.int y :: .int x :: st) M nc ns :=
  fun p l e s m args below meth c C H locs la hS hV hl => lv_ior C.1 C.2.1 hd (k p l e s m args below meth c C H locs la hS hV hl)
theorem PW_ixor {x y : Int32} (hd : decode I.2.1 pc = .ok (.ixor, 1)) (k : PW G I d Post (pc + 1) ls (.int (x ^^^ y) :: st) M nc ns) : PW G I d Post pc ls (.int y :: .int x :: st) M nc ns :=
  fun p l e s m args below meth c C H locs la hS hV hl => lv_ixor C.1 C.2.1 hd (k p l e s m args below meth c C H locs la hS hV hl)
theorem PW_ishl {x y : Int32} (hd : decode I.2.1 pc = .ok (.ishl, 1)) (k : PW G I d Post (pc + 1) ls (.int (x <<< (y &&& 31)) :: st) M nc ns) : PW G I d Post pc ls (.int y :: .int x :: st) M nc ns :=
  fun p l e s m args below meth c C H locs la hS hV hl => lv_ishl C.1 C.2.1 hd (k p l e s m args below meth c C H locs la hS hV hl)
theorem PW_ishr {x y : Int32} (hd : decode I.2.1 pc = .ok (.ishr, 1)) (k : PW G I d Post (pc + 1) ls (.int (x >>> (y &&& 31)) :: st) M nc ns) : PW G I d Post pc ls (.int y :: .int x :: st) M nc ns :=
  fun p l e s m args below meth c C H locs la hS hV hl => lv_ishr C.1 C.2.1 hd (k p l e s m args below meth c C H locs la hS hV hl)
theorem PW_ladd {x y : Int64} (hd : decode I.2.1 pc = .ok (.ladd, 1)) (k : PW G I d Post (pc + 1) ls (.long (x + y) :: st) M nc ns) : PW G I d Post pc ls (.long y :: .long x :: st) M nc ns :=
  fun p l e s m args below meth c C H locs la hS hV hl => lv_ladd C.1 C.2.1 hd (k p l e s m args below meth c C H locs la hS hV hl)
theorem PW_lmul {x y : Int64} (hd : decode I.2.1 pc = .ok (.lmul, 1)) (k : PW G I d Post (pc + 1) ls (.long (x * y) :: st) M nc ns) : PW G I d Post pc ls (.long y :: .long x :: st) M nc ns :=
  fun p l e s m args below meth c C H locs la hS hV hl => lv_lmul C.1 C.2.1 hd (k p l e s m args below meth c C H locs la hS hV hl)
theorem PW_idiv {x y : Int32} (hd : decode I.2.1 pc = .ok (.idiv, 1)) (hn : ¬ y = 0) (k : PW G I d Post (pc + 1) ls (.int (x / y) :: st) M nc ns) : PW G I d Post pc ls (.int y :: .int x :: st) M nc ns :=
  fun p l e s m args below meth c C H locs la hS hV hl => lv_idiv C.1 C.2.1 hd hn (k p l e s m args below meth c C H locs la hS hV hl)
theorem PW_irem {x y : Int32} (hd : decode I.2.1 pc = .ok (.irem, 1)) (hn : ¬ y = 0) (k : PW G I d Post (pc + 1) ls (.int (x - x / y * y) :: st) M nc ns) : PW G I d Post pc ls (.int y :: .int x :: st) M nc ns :=
  fun p l e s m args below meth c C H locs la hS hV hl => lv_irem C.1 C.2.1 hd hn (k p l e s m args below meth c C H locs la hS hV hl)
theorem PW_ldiv {x y : Int64} (hd : decode I.2.1 pc = .ok (.ldiv, 1)) (hn : ¬ y = 0) (k : PW G I d Post (pc + 1) ls (.long (x / y) :: st) M nc ns) : PW G I d Post pc ls (.long y :: .long x :: st) M nc ns :=
  fun p l e s m args below meth c C H locs la hS hV hl => lv_ldiv C.1 C.2.1 hd hn (k p l e s m args below meth c C H locs la hS hV hl)
theorem PW_lrem {x y : Int64} (hd : decode I.2.1 pc = .ok (.lrem, 1)) (hn : ¬ y = 0) (k : PW G I d Post (pc + 1) ls (.long (x - x / y * y) :: st) M nc ns) : PW G I d Post pc ls (.long y :: .long x :: st) M nc ns :=
  fun p l e s m args below meth c C H locs la hS hV hl => lv_lrem C.1 C.2.1 hd hn (k p l e s m args below meth c C H locs la hS hV hl)
theorem PW_ineg {x : Int32} (hd : decode I.2.1 pc = .ok (.ineg, 1)) (k : PW G I d Post (pc + 1) ls (.int (-x) :: st) M nc ns) : PW G I d Post pc ls (.int x :: st) M nc ns :=
  fun p l e s m args below meth c C H locs la hS hV hl => lv_ineg C.1 C.2.1 hd (k p l e s m args below meth c C H locs la hS hV hl)
theorem PW_iushr {x y v : Int32} (hd : decode I.2.1 pc = .ok (.iushr, 1)) (hv : (x.toUInt32 >>> (y.toUInt32 &&& Int32.toUInt32 31)).toInt32 = v) (k : PW G I d Post (pc + 1) ls (.int v :: st) M nc ns) : PW G I d Post pc ls (.int y :: .int x :: st) M nc ns :=
  fun p l e s m args below meth c C H locs la hS hV hl => lv_iushr C.1 C.2.1 hd hv (k p l e s m args below meth c C H locs la hS hV hl)
theorem PW_i2l {x : Int32} (hd : decode I.2.1 pc = .ok (.i2l, 1)) (k : PW G I d Post (pc + 1) ls (.long x.toInt64 :: st) M nc ns) : PW G I d Post pc ls (.int x :: st) M nc ns :=
  fun p l e s m args below meth c C H locs la hS hV hl => lv_i2l C.1 C.2.1 hd rfl (k p l e s m args below meth c C H locs la hS hV hl)
theorem PW_l2i {x : Int64} (hd : decode I.2.1 pc = .ok (.l2i, 1)) (k : PW G I d Post (pc + 1) ls (.int x.toInt32 :: st) M nc ns) : PW G I d Post pc ls (.long x :: st) M nc ns :=
  fun p l e s m args below meth c C H locs la hS hV hl => lv_l2i C.1 C.2.1 hd rfl (k p l e s m args below meth c C H locs la hS hV hl)
theorem PW_lcmp {x y : Int64} (hd : decode I.2.1 pc = .ok (.lcmp, 1)) (k : PW G I d Post (pc + 1) ls (.int (lg_cmp x y) :: st) M nc ns) : PW G I d Post pc ls (.long y :: .long x :: st) M nc ns :=
  fun p l e s m args below meth c C H locs la hS hV hl => W.lcmp C.1 C.2.1 hd (k p l e s m args below meth c C H locs la hS hV hl)
theorem PW_dup {v : Value} (hd : decode I.2.1 pc = .ok (.dup, 1)) (hc : v.category = 1) (k : PW G I d Post (pc + 1) ls (v :: v :: st) M nc ns) : PW G I d Post pc ls (v :: st) M nc ns :=
  fun p l e s m args below meth c C H locs la hS hV hl => lv_dup C.1 C.2.1 hd hc (k p l e s m args below meth c C H locs la hS hV hl)
theorem PW_dup2 {v u : Value} (hd : decode I.2.1 pc = .ok (.dup2, 1)) (hc : v.category = 1) (hc2 : u.category = 1) (k : PW G I d Post (pc + 1) ls (v :: u :: v :: u :: st) M nc ns) : PW G I d Post pc ls (v :: u :: st) M nc ns :=
  fun p l e s m args below meth c C H locs la hS hV hl => lv_dup2_11 C.1 C.2.1 hd hc hc2 (k p l e s m args below meth c C H locs la hS hV hl)
theorem PW_pop {v : Value} (hd : decode I.2.1 pc = .ok (.pop, 1)) (hc : v.category = 1) (k : PW G I d Post (pc + 1) ls (st) M nc ns) : PW G I d Post pc ls (v :: st) M nc ns :=
  fun p l e s m args below meth c C H locs la hS hV hl => lv_pop C.1 C.2.1 hd hc (k p l e s m args below meth c C H locs la hS hV hl)
theorem PW_iconst {n : Int} {v : Int32} (hd : decode I.2.1 pc = .ok (.iconst n, 1)) (hv : Int32.ofInt n = v) (k : PW G I d Post (pc + 1) ls (.int v :: st) M nc ns) : PW G I d Post pc ls (st) M nc ns :=
  fun p l e s m args below meth c C H locs la hS hV hl => lv_iconst C.1 C.2.1 hd hv (k p l e s m args below meth c C H locs la hS hV hl)
theorem PW_lconst {n : Fin 2} {v : Int64} (hd : decode I.2.1 pc = .ok (.lconst n, 1)) (hv : Int64.ofNat (n : Nat) = v) (k : PW G I d Post (pc + 1) ls (.long v :: st) M nc ns) : PW G I d Post pc ls (st) M nc ns :=
  fun p l e s m args below meth c C H locs la hS hV hl => lv_lconst C.1 C.2.1 hd hv (k p l e s m args below meth c C H locs la hS hV hl)
theorem PW_bipush {n : Int} {v : Int32} (hd : decode I.2.1 pc = .ok (.bipush n, 2)) (hv : (Int8.ofInt n).toInt32 = v) (k : PW G I d Post (pc + 2) ls (.int v :: st) M nc ns) : PW G I d Post pc ls (st) M nc ns :=
  fun p l e s m args below meth c C H locs la hS hV hl => lv_bipush C.1 C.2.1 hd hv (k p l e s m args below meth c C H locs la hS hV hl)
theorem PW_sipush {n : Int} {v : Int32} (hd : decode I.2.1 pc = .ok (.sipush n, 3)) (hv : (Int16.ofInt n).toInt32 = v) (k : PW G I d Post (pc + 3) ls (.int v :: st) M nc ns) : PW G I d Post pc ls (st) M nc ns :=
  fun p l e s m args below meth c C H locs la hS hV hl => lv_sipush C.1 C.2.1 hd hv (k p l e s m args below meth c C H locs la hS hV hl)
theorem PW_iload {i : Nat} {x : Int32} (hd : decode I.2.1 pc = .ok (.iload i, 2)) (hx : ls[i]? = some (.int x)) (k : PW G I d Post (pc + 2) ls (.int x :: st) M nc ns) : PW G I d Post pc ls (st) M nc ns :=
  fun p l e s m args below meth c C H locs la hS hV hl => lv_iload C.1 C.2.1 hd (hl.2.2 i _ hx (fun h => by cases h)) (k p l e s m args below meth c C H locs la hS hV hl)
theorem PW_iload_n {q : Fin 4} {i : Nat} {x : Int32} (hd : decode I.2.1 pc = .ok (.iload_n q, 1)) (hq : (q : Nat) = i) (hx : ls[i]? = some (.int x)) (k : PW G I d Post (pc + 1) ls (.int x :: st) M nc ns) : PW G I d Post pc ls (st) M nc ns :=
  fun p l e s m args below meth c C H locs la hS hV hl => lv_iload_n C.1 C.2.1 hd hq (hl.2.2 i _ hx (fun h => by cases h)) (k p l e s m args below meth c C H locs la hS hV hl)
theorem PW_lload {i : Nat} {x : Int64} (hd : decode I.2.1 pc = .ok (.lload i, 2)) (hx : ls[i]? = some (.long x)) (k : PW G I d Post (pc + 2) ls (.long x :: st) M nc ns) : PW G I d Post pc ls (st) M nc ns :=
  fun p l e s m args below meth c C H locs la hS hV hl => lv_lload C.1 C.2.1 hd (hl.2.2 i _ hx (fun h => by cases h)) (k p l e s m args below meth c C H locs la hS hV hl)
theorem PW_lload_n {q : Fin 4} {i : Nat} {x : Int64} (hd : decode I.2.1 pc = .ok (.lload_n q, 1)) (hq : (q : Nat) = i) (hx : ls[i]? = some (.long x)) (k : PW G I d Post (pc + 1) ls (.long x :: st) M nc ns) : PW G I d Post pc ls (st) M nc ns :=
  fun p l e s m args below meth c C H locs la hS hV hl => lv_lload_n C.1 C.2.1 hd hq (hl.2.2 i _ hx (fun h => by cases h)) (k p l e s m args below meth c C H locs la hS hV hl)
theorem PW_aload {i : Nat} {x : Nat} (hd : decode I.2.1 pc = .ok (.aload i, 2)) (hx : ls[i]? = some (.ref x)) (k : PW G I d Post (pc + 2) ls (.ref x :: st) M nc ns) : PW G I d Post pc ls (st) M nc ns :=
  fun p l e s m args below meth c C H locs la hS hV hl => lv_aload C.1 C.2.1 hd (hl.2.2 i _ hx (fun h => by cases h)) (k p l e s m args below meth c C H locs la hS hV hl)
theorem PW_aload_n {q : Fin 4} {i : Nat} {x : Nat} (hd : decode I.2.1 pc = .ok (.aload_n q, 1)) (hq : (q : Nat) = i) (hx : ls[i]? = some (.ref x)) (k : PW G I d Post (pc + 1) ls (.ref x :: st) M nc ns) : PW G I d Post pc ls (st) M nc ns :=
  fun p l e s m args below meth c C H locs la hS hV hl => lv_aload_n C.1 C.2.1 hd hq (hl.2.2 i _ hx (fun h => by cases h)) (k p l e s m args below meth c C H locs la hS hV hl)
theorem PW_istore {i : Nat} {x : Int32} (hd : decode I.2.1 pc = .ok (.istore i, 2)) (hi : i < I.2.2.1) (hk : okS ls i = true) (k : PW G I d Post (pc + 2) (ls.set i (.int x)) st M nc ns) : PW G I d Post pc ls (.int x :: st) M nc ns :=
  fun p l e s m args below meth c C H locs la hS hV hl => lv_istore C.1 C.2.1 hd (lok_has hl) hi rfl (fun la' h' => k p l e s m args below meth c C H locs la' hS hV (lok_set h' hk))
theorem PW_istore_n {q : Fin 4} {i : Nat} {x : Int32} (hd : decode I.2.1 pc = .ok (.istore_n q, 1)) (hq : (q : Nat) = i) (hi : i < I.2.2.1) (hk : okS ls i = true) (k : PW G I d Post (pc + 1) (ls.set i (.int x)) st M nc ns) : PW G I d Post pc ls (.int x :: st) M nc ns :=
  fun p l e s m args below meth c C H locs la hS hV hl => lv_istore_n C.1 C.2.1 hd hq (lok_has hl) hi rfl (fun la' h' => k p l e s m args below meth c C H locs la' hS hV (lok_set h' hk))
theorem PW_astore {i : Nat} {x : Nat} (hd : decode I.2.1 pc = .ok (.astore i, 2)) (hi : i < I.2.2.1) (hk : okS ls i = true) (k : PW G I d Post (pc + 2) (ls.set i (.ref x)) st M nc ns) : PW G I d Post pc ls (.ref x :: st) M nc ns :=
  fun p l e s m args below meth c C H locs la hS hV hl => lv_astore C.1 C.2.1 hd (lok_has hl) hi rfl (fun la' h' => k p l e s m args below meth c C H locs la' hS hV (lok_set h' hk))
theorem PW_astore_n {q : Fin 4} {i : Nat} {x : Nat} (hd : decode I.2.1 pc = .ok (.astore_n q, 1)) (hq : (q : Nat) = i) (hi : i < I.2.2.1) (hk : okS ls i = true) (k : PW G I d Post (pc + 1) (ls.set i (.ref x)) st M nc ns) : PW G I d Post pc ls (.ref x :: st) M nc ns :=
  fun p l e s m args below meth c C H locs la hS hV hl => lv_astore_n C.1 C.2.1 hd hq (lok_has hl) hi rfl (fun la' h' => k p l e s m args below meth c C H locs la' hS hV (lok_set h' hk))
theorem PW_lstore {i : Nat} {x : Int64} (hd : decode I.2.1 pc = .ok (.lstore i, 2)) (hi : i + 1 < I.2.2.1) (hk : okS ls i = true) (k : PW G I d Post (pc + 2) ((ls.set i (.long x)).set (i + 1) .null) st M nc ns) : PW G I d Post pc ls (.long x :: st) M nc ns :=
  fun p l e s m args below meth c C H locs la hS hV hl => lv_lstore C.1 C.2.1 hd (lok_has hl) hi rfl (fun la' h' => k p l e s m args below meth c C H locs la' hS hV (lok_set2 h' hk))
theorem PW_lstore_n {q : Fin 4} {i : Nat} {x : Int64} (hd : decode I.2.1 pc = .ok (.lstore_n q, 1)) (hq : (q : Nat) = i) (hi : i + 1 < I.2.2.1) (hk : okS ls i = true) (k : PW G I d Post (pc + 1) ((ls.set i (.long x)).set (i + 1) .null) st M nc ns) : PW G I d Post pc ls (.long x :: st) M nc ns :=
  fun p l e s m args below meth c C H locs la hS hV hl => lv_lstore_n C.1 C.2.1 hd hq (lok_has hl) hi rfl (fun la' h' => k p l e s m args below meth c C H locs la' hS hV (lok_set2 h' hk))
theorem PW_iinc {i : Nat} {n : Int} {x : Int32} (hd : decode I.2.1 pc = .ok (.iinc i n, 3)) (hx : ls[i]? = some (.int x)) (hi : i < I.2.2.1) (hk : okS ls i = true) (k : PW G I d Post (pc + 3) (ls.set i (.int (x + Int32.ofInt n))) st M nc ns) : PW G I d Post pc ls st M nc ns := by
  intro p l e s m args below meth c C H locs la hS hV hl
  obtain ⟨j, hj⟩ := List.getElem?_of_mem (lvl_mem.mpr ⟨hx, fun h => by cases h⟩ : (i, Value.int x) ∈ lvl ls)
  exact lv_iinc C.1 C.2.1 hd (lok_has hl) hj rfl hi rfl (fun la' h' => k p l e s m args below meth c C H locs la' hS hV (lok_set h' hk))
theorem PW_if_eq {x : Int32} {off : Int} (tgt : Nat) (hd : decode I.2.1 pc = .ok (.ifCond .eq off, 3)) (ht : (pc : Int) + off = (tgt : Int)) (kt : x = 0 → PW G I d Post tgt ls st M nc ns) (kf : ¬ x = 0 → PW G I d Post (pc + 3) ls st M nc ns) : PW G I d Post pc ls (.int x :: st) M nc ns :=
  fun p l e s m args below meth c C H locs la hS hV hl => lv_if_eq C.1 C.2.1 hd ht (fun h => kt h p l e s m args below meth c C H locs la hS hV hl) (fun h => kf h p l e s m args below meth c C H locs la hS hV hl)
theorem PW_icmp_eq {x y : Int32} {off : Int} (tgt : Nat) (hd : decode I.2.1 pc = .ok (.if_icmp .eq off, 3)) (ht : (pc : Int) + off = (tgt : Int)) (kt : x = y → PW G I d Post tgt ls st M nc ns) (kf : ¬ x = y → PW G I d Post (pc + 3) ls st M nc ns) : PW G I d Post pc ls (.int y :: .int x :: st) M nc ns :=
  fun p l e s m args below meth c C H locs la hS hV hl => lv_icmp_eq C.1 C.2.1 hd ht (fun h => kt h p l e s m args below meth c C H locs la hS hV hl) (fun h => kf h p l e s m args below meth c C H locs la hS hV hl)
theorem PW_if_ne {x : Int32} {off : Int} (tgt : Nat) (hd : decode I.2.1 pc = .ok (.ifCond .ne off, 3)) (ht : (pc : Int) + off = (tgt : Int)) (kt : ¬ x = 0 → PW G I d Post tgt ls st M nc ns) (kf : x = 0 → PW G I d Post (pc + 3) ls st M nc ns) : PW G I d Post pc ls (.int x :: st) M nc ns :=
  fun p l e s m args below meth c C H locs la hS hV hl => lv_if_ne C.1 C.2.1 hd ht (fun h => kt h p l e s m args below meth c C H locs la hS hV hl) (fun h => kf h p l e s m args below meth c C H locs la hS hV hl)
theorem PW_icmp_ne {x y : Int32} {off : Int} (tgt : Nat) (hd : decode I.2.1 pc = .ok (.if_icmp .ne off, 3)) (ht : (pc : Int) + off = (tgt : Int)) (kt : ¬ x = y → PW G I d Post tgt ls st M nc ns) (kf : x = y → PW G I d Post (pc + 3) ls st M nc ns) : PW G I d Post pc ls (.int y :: .int x :: st) M nc ns :=
  fun p l e s m args below meth c C H locs la hS hV hl => lv_icmp_ne C.1 C.2.1 hd ht (fun h => kt h p l e s m args below meth c C H locs la hS hV hl) (fun h => kf h p l e s m args below meth c C H locs la hS hV hl)
theorem PW_if_lt {x : Int32} {off : Int} (tgt : Nat) (hd : decode I.2.1 pc = .ok (.ifCond .lt off, 3)) (ht : (pc : Int) + off = (tgt : Int)) (kt : x < 0 → PW G I d Post tgt ls st M nc ns) (kf : ¬ x < 0 → PW G I d Post (pc + 3) ls st M nc ns) : PW G I d Post pc ls (.int x :: st) M nc ns :=
  fun p l e s m args below meth c C H locs la hS hV hl => lv_if_lt C.1 C.2.1 hd ht (fun h => kt h p l e s m args below meth c C H locs la hS hV hl) (fun h => kf h p l e s m args below meth c C H locs la hS hV hl)
theorem PW_icmp_lt {x y : Int32} {off : Int} (tgt : Nat) (hd : decode I.2.1 pc = .ok (.if_icmp .lt off, 3)) (ht : (pc : Int) + off = (tgt : Int)) (kt : x < y → PW G I d Post tgt ls st M nc ns) (kf : ¬ x < y → PW G I d Post (pc + 3) ls st M nc ns) : PW G I d Post pc ls (.int y :: .int x :: st) M nc ns :=
  fun p l e s m args below meth c C H locs la hS hV hl => lv_icmp_lt C.1 C.2.1 hd ht (fun h => kt h p l e s m args below meth c C H locs la hS hV hl) (fun h => kf h p l e s m args below meth c C H locs la hS hV hl)
theorem PW_if_ge {x : Int32} {off : Int} (tgt : Nat) (hd : decode I.2.1 pc = .ok (.ifCond .ge off, 3)) (ht : (pc : Int) + off = (tgt : Int)) (kt : 0 ≤ x → PW G I d Post tgt ls st M nc ns) (kf : ¬ 0 ≤ x → PW G I d Post (pc + 3) ls st M nc ns) : PW G I d Post pc ls (.int x :: st) M nc ns :=
  fun p l e s m args below meth c C H locs la hS hV hl => lv_if_ge C.1 C.2.1 hd ht (fun h => kt h p l e s m args below meth c C H locs la hS hV hl) (fun h => kf h p l e s m args below meth c C H locs la hS hV hl)
theorem PW_icmp_ge {x y : Int32} {off : Int} (tgt : Nat) (hd : decode I.2.1 pc = .ok (.if_icmp .ge off, 3)) (ht : (pc : Int) + off = (tgt : Int)) (kt : y ≤ x → PW G I d Post tgt ls st M nc ns) (kf : ¬ y ≤ x → PW G I d Post (pc + 3) ls st M nc ns) : PW G I d Post pc ls (.int y :: .int x :: st) M nc ns :=
  fun p l e s m args below meth c C H locs la hS hV hl => lv_icmp_ge C.1 C.2.1 hd ht (fun h => kt h p l e s m args below meth c C H locs la hS hV hl) (fun h => kf h p l e s m args below meth c C H locs la hS hV hl)
theorem PW_if_gt {x : Int32} {off : Int} (tgt : Nat) (hd : decode I.2.1 pc = .ok (.ifCond .gt off, 3)) (ht : (pc : Int) + off = (tgt : Int)) (kt : 0 < x → PW G I d Post tgt ls st M nc ns) (kf : ¬ 0 < x → PW G I d Post (pc + 3) ls st M nc ns) : PW G I d Post pc ls (.int x :: st) M nc ns :=
  fun p l e s m args below meth c C H locs la hS hV hl => lv_if_gt C.1 C.2.1 hd ht (fun h => kt h p l e s m args below meth c C H locs la hS hV hl) (fun h => kf h p l e s m args below meth c C H locs la hS hV hl)
theorem PW_icmp_gt {x y : Int32} {off : Int} (tgt : Nat) (hd : decode I.2.1 pc = .ok (.if_icmp .gt off, 3)) (ht : (pc : Int) + off = (tgt : Int)) (kt : y < x → PW G I d Post tgt ls st M nc ns) (kf : ¬ y < x → PW G I d Post (pc + 3) ls st M nc ns) : PW G I d Post pc ls (.int y :: .int x :: st) M nc ns :=
  fun p l e s m args below meth c C H locs la hS hV hl => lv_icmp_gt C.1 C.2.1 hd ht (fun h => kt h p l e s m args below meth c C H locs la hS hV hl) (fun h => kf h p l e s m args below meth c C H locs la hS hV hl)
theorem PW_if_le {x : Int32} {off : Int} (tgt : Nat) (hd : decode I.2.1 pc = .ok (.ifCond .le off, 3)) (ht : (pc : Int) + off = (tgt : Int)) (kt : x ≤ 0 → PW G I d Post tgt ls st M nc ns) (kf : ¬ x ≤ 0 → PW G I d Post (pc + 3) ls st M nc ns) : PW G I d Post pc ls (.int x :: st) M nc ns :=
  fun p l e s m args below meth c C H locs la hS hV hl => lv_if_le C.1 C.2.1 hd ht (fun h => kt h p l e s m args below meth c C H locs la hS hV hl) (fun h => kf h p l e s m args below meth c C H locs la hS hV hl)
theorem PW_icmp_le {x y : Int32} {off : Int} (tgt : Nat) (hd : decode I.2.1 pc = .ok (.if_icmp .le off, 3)) (ht : (pc : Int) + off = (tgt : Int)) (kt : x ≤ y → PW G I d Post tgt ls st M nc ns) (kf : ¬ x ≤ y → PW G I d Post (pc + 3) ls st M nc ns) : PW G I d Post pc ls (.int y :: .int x :: st) M nc ns :=
  fun p l e s m args below meth c C H locs la hS hV hl => lv_icmp_le C.1 C.2.1 hd ht (fun h => kt h p l e s m args below meth c C H locs la hS hV hl) (fun h => kf h p l e s m args below meth c C H locs la hS hV hl)
theorem PW_goto {off : Int} (tgt : Nat) (hd : decode I.2.1 pc = .ok (.goto off, 3)) (ht : (pc : Int) + off = (tgt : Int)) (k : PW G I d Post tgt ls st M nc ns) : PW G I d Post pc ls st M nc ns :=
  fun p l e s m args below meth c C H locs la hS hV hl => lv_goto C.1 C.2.1 hd ht (k p l e s m args below meth c C H locs la hS hV hl)
theorem PW_tableIn {dflt lo hi : Int} {offs : Array Int} {len : Nat} {x : Int32} {off : Int} (tgt : Nat) (hd : decode I.2.1 pc = .ok (.tableswitch dflt lo hi offs, len)) (h1 : ¬ x.toInt < lo) (h2 : ¬ hi < x.toInt) (ho : offs[(x.toInt - lo).toNat]? = some off) (ht : (pc : Int) + off = (tgt : Int)) (k : PW G I d Post tgt ls st M nc ns) : PW G I d Post pc ls (.int x :: st) M nc ns :=
  fun p l e s m args below meth c C H locs la hS hV hl => lv_tableIn C.1 C.2.1 hd h1 h2 ho ht (k p l e s m args below meth c C H locs la hS hV hl)
theorem PW_tableOut {dflt lo hi : Int} {offs : Array Int} {len : Nat} {x : Int32} (tgt : Nat) (hd : decode I.2.1 pc = .ok (.tableswitch dflt lo hi offs, len)) (h : x.toInt < lo ∨ hi < x.toInt) (ht : (pc : Int) + dflt = (tgt : Int)) (k : PW G I d Post tgt ls st M nc ns) : PW G I d Post pc ls (.int x :: st) M nc ns :=
  fun p l e s m args below meth c C H locs la hS hV hl => lv_tableOut C.1 C.2.1 hd h ht (k p l e s m args below meth c C H locs la hS hV hl)
theorem PW_lookup {dflt : Int} {ps : Array (Int × Int)} {len : Nat} {x : Int32} {off : Int} (tgt : Nat) (hd : decode I.2.1 pc = .ok (.lookupswitch dflt ps, len)) (hp : (ps.toList.zip (ps.toList.drop 1)).all (fun (a, next) => a.1 < next.1) = true) (ho : Op.lookupswitch.offset ps.toList dflt x.toInt = off) (ht : (pc : Int) + off = (tgt : Int)) (k : PW G I d Post tgt ls st M nc ns) : PW G I d Post pc ls (.int x :: st) M nc ns :=
  fun p l e s m args below meth c C H locs la hS hV hl => lv_lookup C.1 C.2.1 hd hp ho ht (k p l e s m args below meth c C H locs la hS hV hl)
theorem PW_ldc {index : Nat} {v : Int32} (hd : decode I.2.1 pc = .ok (.ldc index, 2)) (hc : Cond.constant I.1.cls index v ∈ wsG) (k : PW G I d Post (pc + 2) ls (.int v :: st) M nc ns) : PW G I d Post pc ls st M nc ns :=
  fun p l e s m args below meth c C H locs la hS hV hl => lv_ldc C.1 C.2.1 C.2.2.2.2.2.1 (C.2.2.2.2.2.2.1 _ hc) hd (k p l e s m args below meth c C H locs la hS hV hl)
theorem PW_ldcw {index : Nat} {v : Int32} (hd : decode I.2.1 pc = .ok (.ldc_w index, 3)) (hc : Cond.constant I.1.cls index v ∈ wsG) (k : PW G I d Post (pc + 3) ls (.int v :: st) M nc ns) : PW G I d Post pc ls st M nc ns :=
  fun p l e s m args below meth c C H locs la hS hV hl => lv_ldcw C.1 C.2.1 C.2.2.2.2.2.1 (C.2.2.2.2.2.2.1 _ hc) hd (k p l e s m args below meth c C H locs la hS hV hl)
theorem PW_ldc2 {index : Nat} {v : Int64} (hd : decode I.2.1 pc = .ok (.ldc2_w index, 3)) (hc : Cond.constantLong I.1.cls index v ∈ wsG) (k : PW G I d Post (pc + 3) ls (.long v :: st) M nc ns) : PW G I d Post pc ls st M nc ns :=
  fun p l e s m args below meth c C H locs la hS hV hl => lv_ldc2 C.1 C.2.1 C.2.2.2.2.2.1 (C.2.2.2.2.2.2.1 _ hc) hd (k p l e s m args below meth c C H locs la hS hV hl)
theorem PW_ldcS {index : Nat} (i : Nat) (hi : i < 5) (hx : (sIx.getD i (0, "")).1 = index) (ho : I.1.cls = "SleepyHelm$Text") (hd : decode I.2.1 pc = .ok (.ldc index, 2)) (k : PW G I d Post (pc + 2) ls (.ref (g_s G i) :: st) M nc ns) : PW G I d Post pc ls st M nc ns := by
  intro p l e s m args below meth c C H locs la hS hV hl
  have hR := C.2.2.2.2.2.2.2.2.2.2.1 i hi
  rw [hx, ← ho] at hR
  exact va_ldcS C.1 C.2.1 C.2.2.2.2.2.1 hR hd (k p l e s m args below meth c C H locs la hS hV hl)
theorem PW_ireturn {v : Int32} {ty : FieldType} (hr : I.2.2.2.1 = some ty) (hn : narrow ty (.int v) = .int v) (hd : decode I.2.1 pc = .ok (.ireturn, 1)) (hc : nc ≤ I.2.2.2.2.1) (hs : ns ≤ I.2.2.2.2.2) (hp : Post (some (.int v)) M) : PW G I d Post pc ls [.int v] M nc ns := by
  intro p l e s m args below meth c C H locs la hS hV hl
  refine W.widen hc hs ?_
  exact W.zret C.1 C.2.1 (C.2.2.2.1.trans hr) hn (fun t ht hW => ⟨⟨_, M, rfl, hp, by rw [ht]; exact hS⟩, hV.F ht⟩) hV.2.2 hd C.2.2.2.2.1
theorem PW_lreturn {v : Int64} (hr : I.2.2.2.1 = some .long) (hd : decode I.2.1 pc = .ok (.lreturn, 1)) (hc : nc ≤ I.2.2.2.2.1) (hs : ns ≤ I.2.2.2.2.2) (hp : Post (some (.long v)) M) : PW G I d Post pc ls [.long v] M nc ns := by
  intro p l e s m args below meth c C H locs la hS hV hl
  refine W.widen hc hs ?_
  exact W.lret C.1 C.2.1 (C.2.2.2.1.trans hr) (fun t ht hW => ⟨⟨_, M, rfl, hp, by rw [ht]; exact hS⟩, hV.F ht⟩) hV.2.2 hd C.2.2.2.2.1
theorem PW_return (hr : I.2.2.2.1 = none) (hd : decode I.2.1 pc = .ok (.return_, 1)) (hc : nc ≤ I.2.2.2.2.1) (hs : ns ≤ I.2.2.2.2.2) (hp : Post none M) : PW G I d Post pc ls [] M nc ns := by
  intro p l e s m args below meth c C H locs la hS hV hl
  refine W.widen hc hs ?_
  exact W.vret C.1 C.2.1 (C.2.2.2.1.trans hr) (fun t ht hW => ⟨⟨_, M, rfl, hp, by rw [ht]; exact hS⟩, hV.F ht⟩) hV.2.2 hd C.2.2.2.2.1
end PWR

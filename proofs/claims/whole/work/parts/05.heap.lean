/-! ===== fields, arrays, new, calls over our memory ===== -/
def kTy (kd : Nat) (ty : FieldType) : Prop := match kd with
  | 0 => ty = .int
  | 1 => ty = .long
  | _ => (∃ n, ty = .object n) ∨ ∃ t, ty = .array t
/-- a class as the tables have it -/
def CO (ci : Nat) (C : String) (T : u_T) (N : Nat) (ty0 : Nat → FieldType) : Prop :=
  vwCl[ci]? = some (C, T, N) ∧ (fks ci).length = N ∧ ci < 13 ∧ (∀ w ∈ u_ws C T N, w ∈ wsG) ∧ (∀ k, k < N → parseFieldDescriptor (T k).2.2.1 = some (ty0 k)) ∧ (∀ a, a < N → ∀ b, b < N → a ≠ b → (T a).2.1 ≠ (T b).2.1) ∧ ∀ k, k < N → kTy ((fks ci).getD k 2) (ty0 k)
/-- a field by its link -/
def FR (own : String) (idx ci k kd : Nat) (fin : Bool) : Prop := ∃ (C : String) (T : u_T) (N : Nat) (ty0 : Nat → FieldType), CO ci C T N ty0 ∧ k < N ∧ (fks ci).getD k 2 = kd ∧ (T k).2.2.2 = fin ∧ (fin = true → (T k).1 = own) ∧
  (Cond.fieldLink own idx (T k).1 (T k).2.1 (T k).2.2.1 ∈ wsG ∨ ∃ host, fin = false ∧ Cond.fieldLinkNest own idx (T k).1 (T k).2.1 (T k).2.2.1 host ∈ wsN)
/-- a field by its link, read where it is final elsewhere -/
def FRr (own : String) (idx ci k kd : Nat) : Prop := ∃ (C : String) (T : u_T) (N : Nat) (ty0 : Nat → FieldType), CO ci C T N ty0 ∧ k < N ∧ (fks ci).getD k 2 = kd ∧
  (Cond.fieldLink own idx (T k).1 (T k).2.1 (T k).2.2.1 ∈ wsG ∨ ∃ host, Cond.fieldLinkNest own idx (T k).1 (T k).2.1 (T k).2.2.1 host ∈ wsN)
theorem sim_ob {G : GE} {M : Mm} {H : Heap} (hS : Sim G M H) {a ci z : Nat} (ht : mt M a = (ci, z)) (hc : ci < 13) : g_b G ≤ a ∧ a < mn M ∧ t_OB a (G.1 ci) (fks ci).length (G.2.1 ci) H (fv M a (fks ci)) := by
  have h := hS.2.2 a (by rw [ht]; show ci < 18; omega)
  have h2 := h.2.2.1 (by rw [ht]; exact hc)
  rw [ht] at h2
  exact ⟨h.1, h.2.1, h2⟩
theorem sim_ar {G : GE} {M : Mm} {H : Heap} (hS : Sim G M H) {a ci n : Nat} (ht : mt M a = (ci, n)) (hc : ¬ ci < 13) (hc2 : ci < 18) : g_b G ≤ a ∧ a < mn M ∧ H[a]? = some (arrV (g_A G ci) n (avl M a)) := by
  have h := hS.2.2 a (by rw [ht]; exact hc2)
  have h2 := h.2.2.2 (by rw [ht]; exact hc)
  rw [ht] at h2
  exact ⟨h.1, h.2.1, h2⟩
/-- one cell has changed, as told -/
theorem sim_put {G : GE} {M M' : Mm} {H H' : Heap} (hS : Sim G M H) {a : Nat} (hty : mt M' = mt M) (hnx : mn M' = mn M) (hz : H'.size = H.size) (ho : ∀ q, q ≠ a → H'[q]? = H[q]?) (hm : ∀ q, q ≠ a → mi M' q = mi M q ∧ ml M' q = ml M q ∧ mr M' q = mr M q) (ha : (mt M a).1 < 18 → cellOk G M' a H') : Sim G M' H' := by
  refine ⟨hz.trans (hS.1.trans hnx.symm), by rw [hnx]; exact hS.2.1, fun q hq => ?_⟩
  rw [hty] at hq
  obtain ⟨h1, h2, h3⟩ := hS.2.2 q hq
  refine ⟨h1, by rw [hnx]; exact h2, ?_⟩
  by_cases hqa : q = a
  · subst hqa
    exact ha hq
  · obtain ⟨m1, m2, m3⟩ := hm q hqa
    have e1 : fv M' q = fv M q := by funext ks k; simp only [fv, m1, m2, m3]
    have e2 : avl M' q = avl M q := by funext k; simp only [avl, hty, m1, m3]
    refine ⟨fun h => ?_, fun h => ?_⟩
    · rw [hty] at h ⊢
      rw [e1]
      exact (h3.1 h).kept (ho q hqa)
    · rw [hty] at h ⊢
      rw [e2, ho q hqa]
      exact h3.2 h
theorem va_Sput {A : Nat → Prop} {H0 H H1 : Heap} {locs : List Loc} {a i : Nat} (h : va_S A H0 H locs) (z : H1.size = H.size) (o : ∀ q : Nat, q ≠ a → H1[q]? = H[q]?) (ha : A a) : va_S A H0 H1 (locs ++ [⟨a, i⟩]) := by
  refine ⟨by rw [z]; exact h.1, fun q h1 h2 => ?_, fun l hl => ?_⟩
  · rw [o q (fun e => h2 (by rw [e]; exact ha))]
    exact h.2.1 q h1 h2
  · rcases List.mem_append.mp hl with q | q
    · exact h.2.2 l q
    · rw [List.mem_singleton.mp q]; exact ha
section PWF
variable {G : GE} {I : MI} {d : Nat} {Post : Option Value → Mm → Prop} {pc : Nat} {ls st : List Value} {M : Mm} {nc ns : Nat}
theorem PW_getV {a idx ci k kd : Nat} (hd : decode I.2.1 pc = .ok (.getfield idx, 3)) (hf : FRr I.1.cls idx ci k kd) (ht : mt M a = (ci, 0)) (kk : PW G I d Post (pc + 3) ls (fv M a (fks ci) k :: st) M nc ns) : PW G I d Post pc ls (.ref a :: st) M nc ns := by
  intro p l e s m args below meth c C H locs la hS hV hl
  obtain ⟨C', T, N, ty0, ⟨hcl, hN, hci, hin, hty, hnm, hkd⟩, hk, hkd', hlink⟩ := hf
  obtain ⟨hx, hb, hml, hr, hlk, hown, hts, hnme, hE⟩ := C
  have kk' := kk p l e s m args below meth c ⟨hx, hb, hml, hr, hlk, hown, hts, hnme, hE⟩ H locs la hS hV hl
  have hK := hE.1.1
  obtain ⟨-, -, cell, q1, q2, q3, q4⟩ := sim_ob hS ht hci
  obtain ⟨hSl, hfc, kC, hkC, hkind⟩ := hK.1 ci _ hcl
  obtain ⟨cf, kf, fi, f, hi, hsl⟩ := hSl k hk
  have hst := (u_facts hfc hkC (u_lays hts hin hk) hi).1
  have hslot : cell.slots[f.slot]? = some (fv M a (fks ci) k) := by
    rw [hsl]; exact q4 k (by rw [hN]; exact hk)
  rcases hlink with h | ⟨host, h⟩
  · exact W.getf hx hb hown (hts _ h) hi hst q1 (by rw [q3]; exact fun h => by cases h) hslot rfl rfl hd kk'
  · exact va_Wgetf hx hb hown (va_Nw.use rfl (hE.1.2.1 _ h)) hi hst q1 (by rw [q3]; exact fun h => by cases h) hslot rfl rfl hd kk'
theorem FR.rd {own : String} {idx ci k kd : Nat} {fin : Bool} (h : FR own idx ci k kd fin) : FRr own idx ci k kd := by
  obtain ⟨C', T, N, ty0, h1, h2, h3, h4, h5, h6⟩ := h
  exact ⟨C', T, N, ty0, h1, h2, h3, h6.elim Or.inl (fun ⟨host, _, h⟩ => Or.inr ⟨host, h⟩)⟩
theorem FRr.kd {own : String} {idx ci k kd : Nat} (h : FRr own idx ci k kd) : (fks ci).getD k 2 = kd := by
  obtain ⟨C', T, N, ty0, h1, h2, h3, h4⟩ := h
  exact h3
theorem PW_getI {a idx ci k : Nat} (hd : decode I.2.1 pc = .ok (.getfield idx, 3)) (hf : FRr I.1.cls idx ci k 0) (ht : mt M a = (ci, 0)) (kk : PW G I d Post (pc + 3) ls (.int (mi M a k) :: st) M nc ns) : PW G I d Post pc ls (.ref a :: st) M nc ns := by
  refine PW_getV hd hf ht ?_
  have e : fv M a (fks ci) k = .int (mi M a k) := by unfold fv; rw [hf.kd] <;> rfl
  rw [e]; exact kk
theorem PW_getL {a idx ci k : Nat} (hd : decode I.2.1 pc = .ok (.getfield idx, 3)) (hf : FRr I.1.cls idx ci k 1) (ht : mt M a = (ci, 0)) (kk : PW G I d Post (pc + 3) ls (.long (ml M a k) :: st) M nc ns) : PW G I d Post pc ls (.ref a :: st) M nc ns := by
  refine PW_getV hd hf ht ?_
  have e : fv M a (fks ci) k = .long (ml M a k) := by unfold fv; rw [hf.kd] <;> rfl
  rw [e]; exact kk
theorem PW_getR {a idx ci k b : Nat} (hd : decode I.2.1 pc = .ok (.getfield idx, 3)) (hf : FRr I.1.cls idx ci k 2) (ht : mt M a = (ci, 0)) (hr : mr M a k = some b) (kk : PW G I d Post (pc + 3) ls (.ref b :: st) M nc ns) : PW G I d Post pc ls (.ref a :: st) M nc ns := by
  refine PW_getV hd hf ht ?_
  have e : fv M a (fks ci) k = .ref b := by unfold fv; rw [hf.kd]; show va_rf (mr M a k) = _; rw [hr]; rfl
  rw [e]; exact kk
/-- the field's cell behind a write -/
theorem PW_putV {a idx ci k kd : Nat} {fin : Bool} {v : Value} {M' : Mm} (hd : decode I.2.1 pc = .ok (.putfield idx, 3)) (hf : FR I.1.cls idx ci k kd fin) (hini : fin = true → I.1.name = "<init>") (ht : mt M a = (ci, 0)) (hnf : ∀ ty, kTy kd ty → narrow ty v = v ∧ fits ty v = true)
    (hty : mt M' = mt M) (hnx : mn M' = mn M) (hm : ∀ q, q ≠ a → mi M' q = mi M q ∧ ml M' q = ml M q ∧ mr M' q = mr M q) (hfv : ∀ j, fv M' a (fks ci) j = updV (fv M a (fks ci)) k v j) (kk : PW G I d Post (pc + 3) ls st M' nc ns) : PW G I d Post pc ls (v :: .ref a :: st) M nc ns := by
  intro p l e s m args below meth c C H locs la hS hV hl
  obtain ⟨C', T, N, ty0, ⟨hcl, hN, hci, hin, htyp, hnm, hkd⟩, hk, hkd', hfin, hown2, hlink⟩ := hf
  have C0 := C
  obtain ⟨hx, hb, hml, hr, hlk, hown, hts, hnme, hE⟩ := C
  have hK := hE.1.1
  obtain ⟨hba, -, cell, q1, q2, q3, q4⟩ := sim_ob hS ht hci
  rw [hN] at q4
  obtain ⟨hSl, hfc, kC, hkC, hkind⟩ := hK.1 ci _ hcl
  obtain ⟨cf, kf, fi, f, hi, hsl⟩ := hSl k hk
  have hst := (u_facts hfc hkC (u_lays hts hin hk) hi).1
  have hap := va_apart (own := I.1.cls) hts hin ty0 htyp hnm hK hcl
  obtain ⟨hn, hfit⟩ := hnf (ty0 k) (hkd' ▸ hkd k hk)
  have fin' : ∀ H' : Heap, H'[a]? = some (cell.setSlot f.slot v) → H'.size = H.size → (∀ q, q ≠ a → H'[q]? = H[q]?) → W p l e (rmOf d I.2.2.2.2.1 I.2.2.2.2.2) s m args below meth c H' (locs ++ [⟨a, f.slot⟩]) nc ns (MQ below (QQ G Post) args s I.2.2.2.2.1 I.2.2.2.2.2 (fun q => g_b G ≤ q)) (F0 m (pc + 3) la st) := by
    intro H' e1 e2 e3
    refine kk p l e s m args below meth c C0 H' _ la (sim_put hS hty hnx e2 e3 hm (fun _ => ⟨fun _ => ?_, fun h => absurd (show (mt M' a).1 < 13 by rw [hty, ht]; exact hci) h⟩)) (va_Sput hV e2 e3 hba) hl
    rw [hty, ht]
    show t_OB a (G.1 ci) (fks ci).length (G.2.1 ci) H' (fv M' a (fks ci))
    rw [hN]
    rw [hsl] at e1
    exact t_OB.to (V := updV (fv M a (fks ci)) k v) ⟨_, e1, q2, q3, t_set q4 hap hk v⟩ (fun j _ => (hfv j).symm)
  have hlt : f.slot < cell.slots.size := by rw [hsl]; exact k2_hasslot (q4 k hk)
  have hlay := hts _ (hin _ (u_in_lay hk))
  unfold u_lay at hlay
  cases fin with
  | false =>
    rw [if_neg (by rw [hfin]; decide)] at hlay
    have h6 := u_store hfc hkC hkind hlay hi (htyp k hk) hn hfit
    rcases hlink with h | ⟨host, -, h⟩
    · exact W.putK hx hb (f := f) ⟨hown, hts _ h, ⟨_, _, _, hi⟩, hst⟩ (by rw [q2]; exact h6) q1 q3 hlt rfl rfl hd fin'
    · exact va_WputK hx hb hown (va_Nw.use rfl (hE.1.2.1 _ h)) hi hst (by rw [q2]; exact h6) q1 q3 hlt rfl rfl hd fin'
  | true =>
    rw [if_pos hfin] at hlay
    rcases hlink with h | ⟨host, h2, -⟩
    · have hcf : m.cls = cf := by
        obtain ⟨_, _, c', _, _, _, -, -, hf', -, -, -, hown3, -⟩ := Cond.laysFinal_spec hlay
        have e1 : c' = cf := by have := hi.symm.trans hf'; simp at this; exact this.1.symm
        rw [hown2 rfl] at hown3
        rw [← e1]; exact Option.some.inj (hown.symm.trans hown3)
      have h6 := u_fits hfc hkC hkind (Or.inr hlay) hi (htyp k hk) hn hfit
      exact W.putFinK hx hb hown (hts _ h) hi hst hcf (hnme.trans (hini rfl)) (by rw [q2]; exact h6) q1 q3 hlt rfl rfl hd fin'
    · cases h2
theorem up_ne {α : Type} {f : Nat → α} {a q : Nat} {v : α} (h : q ≠ a) : va_up f a v q = f q := by simp [va_up, h]
theorem up_eq {α : Type} {f : Nat → α} {a : Nat} {v : α} : va_up f a v a = v := by simp [va_up]
theorem PW_putI {a idx ci k : Nat} {fin : Bool} {v : Int32} (hd : decode I.2.1 pc = .ok (.putfield idx, 3)) (hf : FR I.1.cls idx ci k 0 fin) (hini : fin = true → I.1.name = "<init>") (ht : mt M a = (ci, 0)) (kk : PW G I d Post (pc + 3) ls st (wI M a k v) nc ns) : PW G I d Post pc ls (.int v :: .ref a :: st) M nc ns := by
  refine PW_putV (M' := wI M a k v) hd hf hini ht (fun ty h => by cases (show ty = .int from h); exact ⟨rfl, rfl⟩) rfl rfl (fun q hq => ⟨up_ne hq, rfl, rfl⟩) (fun j => ?_) kk
  have hk := hf.rd.kd
  by_cases hj : j = k
  · subst hj
    unfold updV
    rw [if_pos rfl]
    unfold fv
    rw [hk]
    simp [mi, wI, va_up, upd]
  · unfold updV
    rw [if_neg hj]
    simp [fv, mi, ml, mr, wI, va_up, upd, hj]
theorem PW_putL {a idx ci k : Nat} {fin : Bool} {v : Int64} (hd : decode I.2.1 pc = .ok (.putfield idx, 3)) (hf : FR I.1.cls idx ci k 1 fin) (hini : fin = true → I.1.name = "<init>") (ht : mt M a = (ci, 0)) (kk : PW G I d Post (pc + 3) ls st (wL M a k v) nc ns) : PW G I d Post pc ls (.long v :: .ref a :: st) M nc ns := by
  refine PW_putV (M' := wL M a k v) hd hf hini ht (fun ty h => by cases (show ty = .long from h); exact ⟨rfl, rfl⟩) rfl rfl (fun q hq => ⟨rfl, up_ne hq, rfl⟩) (fun j => ?_) kk
  have hk := hf.rd.kd
  by_cases hj : j = k
  · subst hj
    unfold updV
    rw [if_pos rfl]
    unfold fv
    rw [hk]
    simp [ml, wL, va_up, vp_updL]
  · unfold updV
    rw [if_neg hj]
    simp [fv, mi, ml, mr, wL, va_up, vp_updL, hj]
theorem PW_putR {a idx ci k b : Nat} {fin : Bool} (hd : decode I.2.1 pc = .ok (.putfield idx, 3)) (hf : FR I.1.cls idx ci k 2 fin) (hini : fin = true → I.1.name = "<init>") (ht : mt M a = (ci, 0)) (kk : PW G I d Post (pc + 3) ls st (wR M a k (some b)) nc ns) : PW G I d Post pc ls (.ref b :: .ref a :: st) M nc ns := by
  refine PW_putV (M' := wR M a k (some b)) hd hf hini ht (fun ty h => by rcases (show (∃ n, ty = .object n) ∨ ∃ t, ty = .array t from h) with ⟨n, rfl⟩ | ⟨n, rfl⟩ <;> exact ⟨rfl, rfl⟩) rfl rfl (fun q hq => ⟨rfl, rfl, up_ne hq⟩) (fun j => ?_) kk
  have hk := hf.rd.kd
  by_cases hj : j = k
  · subst hj
    unfold updV
    rw [if_pos rfl]
    unfold fv
    rw [hk]
    simp [mr, wR, va_up, va_rf]
  · unfold updV
    rw [if_neg hj]
    simp [fv, mi, ml, mr, wR, va_up, hj]
/-! arrays -/
theorem tysG_at (G : GE) : (tysG G)[0]? = some (g_A G 13, .int) ∧ (tysG G)[1]? = some (g_A G 14, .boolean) ∧ (tysG G)[2]? = some (g_A G 15, .object "SleepyHelm$Helm") ∧ (tysG G)[3]? = some (g_A G 16, .object "SleepyHelm$Plain") ∧ (tysG G)[4]? = some (g_A G 17, .object "SleepyHelm$Voyage") := ⟨rfl, rfl, rfl, rfl, rfl⟩
theorem PW_iaload {a n : Nat} {i : Int32} (hd : decode I.2.1 pc = .ok (.iaload, 1)) (ht : mt M a = (13, n)) (hin : vp_in i n) (kk : PW G I d Post (pc + 1) ls (.int (mi M a i.toNatClampNeg) :: st) M nc ns) : PW G I d Post pc ls (.int i :: .ref a :: st) M nc ns := by
  intro p l e s m args below meth c C H locs la hS hV hl
  have hlt : i.toNatClampNeg < n := Nat.not_le.mp fun q => hin (Or.inr q)
  have h1 := (sim_ar hS ht (by decide) (by decide)).2.2
  refine W.iald C.1 C.2.1 h1 ((C.2.2.2.2.2.2.2.2.1.1.2 0 _ rfl).1 n _) (fun q => by cases q) (by rw [arrV_size]; exact hin) (arrV_read _ _ hlt) rfl rfl hd ?_
  have ev : avl M a i.toNatClampNeg = .int (mi M a i.toNatClampNeg) := by unfold avl; rw [ht]; rfl
  rw [ev]
  exact kk p l e s m args below meth c C H locs la hS hV hl
theorem PW_baload {a n : Nat} {i : Int32} (hd : decode I.2.1 pc = .ok (.baload, 1)) (ht : mt M a = (14, n)) (hin : vp_in i n) (kk : PW G I d Post (pc + 1) ls (.int (mi M a i.toNatClampNeg) :: st) M nc ns) : PW G I d Post pc ls (.int i :: .ref a :: st) M nc ns := by
  intro p l e s m args below meth c C H locs la hS hV hl
  have hlt : i.toNatClampNeg < n := Nat.not_le.mp fun q => hin (Or.inr q)
  have h1 := (sim_ar hS ht (by decide) (by decide)).2.2
  refine W.zald C.1 C.2.1 h1 ((C.2.2.2.2.2.2.2.2.1.1.2 1 _ rfl).1 n _) (fun q => by cases q) (by rw [arrV_size]; exact hin) (arrV_read _ _ hlt) rfl rfl hd ?_
  have ev : avl M a i.toNatClampNeg = .int (mi M a i.toNatClampNeg) := by unfold avl; rw [ht]; rfl
  rw [ev]
  exact kk p l e s m args below meth c C H locs la hS hV hl
/-- an array of references: which class its places hold -/
def eCl (k : Nat) : String := if k = 15 then "SleepyHelm$Helm" else if k = 16 then "SleepyHelm$Plain" else "SleepyHelm$Voyage"
theorem tysG_r (G : GE) {k : Nat} (h : ¬ k < 15) (h2 : k < 18) : ∃ t0 : Nat, (tysG G)[t0]? = some (g_A G k, FieldType.object (eCl k)) := by
  have : k = 15 ∨ k = 16 ∨ k = 17 := by omega
  rcases this with rfl | rfl | rfl
  · exact ⟨2, rfl⟩
  · exact ⟨3, rfl⟩
  · exact ⟨4, rfl⟩
theorem PW_aaload {a ka n b : Nat} {i : Int32} (hd : decode I.2.1 pc = .ok (.aaload, 1)) (ht : mt M a = (ka, n)) (h15 : ¬ ka < 15) (h18 : ka < 18) (hin : vp_in i n) (hr : mr M a i.toNatClampNeg = some b) (kk : PW G I d Post (pc + 1) ls (.ref b :: st) M nc ns) : PW G I d Post pc ls (.int i :: .ref a :: st) M nc ns := by
  intro p l e s m args below meth c C H locs la hS hV hl
  have hlt : i.toNatClampNeg < n := Nat.not_le.mp fun q => hin (Or.inr q)
  have h1 := (sim_ar hS ht (by omega) h18).2.2
  obtain ⟨t0, ht0⟩ := tysG_r G h15 h18
  refine W.aald (ty := .object (eCl ka)) C.1 C.2.1 h1 ((C.2.2.2.2.2.2.2.2.1.1.2 t0 _ ht0).1 n _) rfl (fun q => by cases q) (by rw [arrV_size]; exact hin) (arrV_read _ _ hlt) rfl rfl hd ?_
  have ev : avl M a i.toNatClampNeg = .ref b := by unfold avl; rw [ht, if_neg h15, hr]; rfl
  rw [ev]
  exact kk p l e s m args below meth c C H locs la hS hV hl
theorem PW_alen {a ka n : Nat} {v : Int32} (hd : decode I.2.1 pc = .ok (.arraylength, 1)) (ht : mt M a = (13, n)) (hv : Int32.ofNat n = v) (kk : PW G I d Post (pc + 1) ls (.int v :: st) M nc ns) : PW G I d Post pc ls (.ref a :: st) M nc ns := by
  intro p l e s m args below meth c C H locs la hS hV hl
  subst hv
  have h1 := (sim_ar hS ht (by decide) (by decide)).2.2
  exact W.alen (n := Int32.ofNat n) C.1 C.2.1 h1 ((C.2.2.2.2.2.2.2.2.1.1.2 0 _ rfl).1 n _) (by rw [arrV_size]) rfl rfl hd (kk p l e s m args below meth c C H locs la hS hV hl)
theorem sim_arr {M M' : Mm} {G : GE} {a ka n : Nat} {H' : Heap} (ht : mt M a = (ka, n)) (h13 : ¬ ka < 13) (hty : mt M' = mt M) (h : H'[a]? = some (arrV (g_A G ka) n (avl M' a))) : cellOk G M' a H' := by
  refine ⟨fun q => absurd (show ka < 13 by rw [hty, ht] at q; exact q) h13, fun _ => ?_⟩
  rw [hty, ht]
  exact h
theorem PW_iastore {a n : Nat} {i x : Int32} (hd : decode I.2.1 pc = .ok (.iastore, 1)) (ht : mt M a = (13, n)) (hin : vp_in i n) (kk : PW G I d Post (pc + 1) ls st (wI M a i.toNatClampNeg x) nc ns) : PW G I d Post pc ls (.int x :: .int i :: .ref a :: st) M nc ns := by
  intro p l e s m args below meth c C H locs la hS hV hl
  obtain ⟨hb, -, h1⟩ := sim_ar hS ht (by decide) (by decide)
  refine W.iast C.1 C.2.1 h1 ((C.2.2.2.2.2.2.2.2.1.1.2 0 _ rfl).1 n _) (fun q => by cases q) (by rw [arrV_size]; exact hin) rfl rfl hd fun H1 e1 z oq => ?_
  refine kk p l e s m args below meth c C H1 _ la (sim_put (M' := wI M a i.toNatClampNeg x) (a := a) hS rfl rfl z oq (fun q hq => ⟨up_ne hq, rfl, rfl⟩) (fun _ => sim_arr ht (by decide) rfl ?_)) (va_Sput hV z oq hb) hl
  rw [e1, arrV_store]
  congr 2
  funext q
  have h15 : (mt M a).1 < 15 := by rw [ht]; exact (by decide : (13 : Nat) < 15)
  have h15' : (mt (wI M a i.toNatClampNeg x) a).1 < 15 := h15
  unfold avl
  rw [if_pos h15']
  by_cases hq : q = i.toNatClampNeg
  · subst hq
    simp [updV, mi, wI, va_up, upd]
  · simp [updV, mi, wI, va_up, upd, hq, h15]
theorem PW_bastore {a n : Nat} {i x : Int32} (hd : decode I.2.1 pc = .ok (.bastore, 1)) (ht : mt M a = (14, n)) (hin : vp_in i n) (hx : narrow .boolean (.int x) = .int x) (kk : PW G I d Post (pc + 1) ls st (wI M a i.toNatClampNeg x) nc ns) : PW G I d Post pc ls (.int x :: .int i :: .ref a :: st) M nc ns := by
  intro p l e s m args below meth c C H locs la hS hV hl
  obtain ⟨hb, -, h1⟩ := sim_ar hS ht (by decide) (by decide)
  refine W.zast C.1 C.2.1 h1 ((C.2.2.2.2.2.2.2.2.1.1.2 1 _ rfl).1 n _) (fun q => by cases q) (by rw [arrV_size]; exact hin) rfl rfl hd fun H1 e1 z oq => ?_
  refine kk p l e s m args below meth c C H1 _ la (sim_put (M' := wI M a i.toNatClampNeg x) (a := a) hS rfl rfl z oq (fun q hq => ⟨up_ne hq, rfl, rfl⟩) (fun _ => sim_arr ht (by decide) rfl ?_)) (va_Sput hV z oq hb) hl
  rw [e1, hx, arrV_store]
  congr 2
  funext q
  have h15 : (mt M a).1 < 15 := by rw [ht]; exact (by decide : (14 : Nat) < 15)
  have h15' : (mt (wI M a i.toNatClampNeg x) a).1 < 15 := h15
  unfold avl
  rw [if_pos h15']
  by_cases hq : q = i.toNatClampNeg
  · subst hq
    simp [updV, mi, wI, va_up, upd]
  · simp [updV, mi, wI, va_up, upd, hq, h15]
/-- an object of the array's own class, or (Plain's array) of a class under it -/
def eOk (ka ci : Nat) : Prop := ∃ (r : vw_C), vwCl[ci]? = some r ∧ ci < 13 ∧ (eCl ka = r.1 ∨ (ka = 16 ∧ Cond.castable r.1 "SleepyHelm$Plain" ∈ wsN))
theorem PW_aastore {a ka n b ci z0 : Nat} {i : Int32} (hd : decode I.2.1 pc = .ok (.aastore, 1)) (ht : mt M a = (ka, n)) (h15 : ¬ ka < 15) (h18 : ka < 18) (hin : vp_in i n) (htb : mt M b = (ci, z0)) (he : eOk ka ci) (kk : PW G I d Post (pc + 1) ls st (wR M a i.toNatClampNeg (some b)) nc ns) : PW G I d Post pc ls (.ref b :: .int i :: .ref a :: st) M nc ns := by
  intro p l e s m args below meth c C H locs la hS hV hl
  obtain ⟨hb, -, h1⟩ := sim_ar hS ht (by omega) h18
  obtain ⟨r, hr, hci, hcast⟩ := he
  obtain ⟨-, -, cellV, g1, g2, g3, -⟩ := sim_ob hS htb hci
  have hlt : i.toNatClampNeg < n := Nat.not_le.mp fun q => hin (Or.inr q)
  have h0 : ¬ i < 0 := fun q => hin (Or.inl q)
  have hK := C.2.2.2.2.2.2.2.2.1.1
  have hcls := (hK.1 ci r hr).2
  obtain ⟨t0, ht0⟩ := tysG_r G h15 h18
  obtain ⟨kA, comp, k1, k2, k3, -⟩ := (hK.2 t0 _ ht0).2
  obtain ⟨kC, hkC, -⟩ := hcls.2
  obtain ⟨kcomp, hkcomp⟩ : ∃ kcomp : Class, s.vm.classes[comp]? = some kcomp := by
    have h16 : ka = 15 ∨ ka = 16 ∨ ka = 17 := by omega
    rcases h16 with rfl | rfl | rfl
    · have h9 := (hK.1 4 _ rfl).2
      obtain ⟨k9, hk9, -⟩ := h9.2
      have e9 : comp = G.1 4 := Option.some.inj (k3.symm.trans h9.1)
      exact ⟨k9, by rw [e9]; exact hk9⟩
    · have h9 := (hK.1 7 _ rfl).2
      obtain ⟨k9, hk9, -⟩ := h9.2
      have e9 : comp = G.1 7 := Option.some.inj (k3.symm.trans h9.1)
      exact ⟨k9, by rw [e9]; exact hk9⟩
    · have h9 := (hK.1 10 _ rfl).2
      obtain ⟨k9, hk9, -⟩ := h9.2
      have e9 : comp = G.1 10 := Option.some.inj (k3.symm.trans h9.1)
      exact ⟨k9, by rw [e9]; exact hk9⟩
  have hasg : s.vm.assignable (G.1 ci) comp = true := by
    rcases hcast with hc | ⟨rfl, hc⟩
    · have hcomp : comp = G.1 ci := Option.some.inj (k3.symm.trans (by show s.vm.findClass (eCl ka) = _; rw [hc]; exact hcls.1))
      rw [hcomp]; exact va_assign hcls
    · obtain ⟨c1, c2, e1, e2, e3⟩ := Cond.castable_spec (va_Nw.use (A := args) rfl (C.2.2.2.2.2.2.2.2.1.2.1 _ hc))
      cases hcls.1.symm.trans e1
      cases k3.symm.trans e2
      exact e3
  refine W.aast C.1 C.2.1 h1 (fun q h => by cases h) (fun h => by cases h) k1 k2 rfl hkcomp ⟨h0, by rw [arrV_size]; exact hlt⟩ g1 (fun q h => by rw [g3] at h; cases h) (by rw [g2]; exact hkC) (by rw [g2]; exact hasg) rfl rfl hd fun H1 e1 z oq => ?_
  refine kk p l e s m args below meth c C H1 _ la (sim_put (M' := wR M a i.toNatClampNeg (some b)) (a := a) hS rfl rfl z oq (fun q hq => ⟨rfl, rfl, up_ne hq⟩) (fun _ => sim_arr ht (by omega) rfl ?_)) (va_Sput hV z oq hb) hl
  rw [e1, arrV_store]
  congr 2
  funext q
  have h15a : ¬ (mt M a).1 < 15 := by rw [ht]; exact h15
  have h15' : ¬ (mt (wR M a i.toNatClampNeg (some b)) a).1 < 15 := h15a
  unfold avl
  rw [if_neg h15']
  by_cases hq : q = i.toNatClampNeg
  · subst hq
    simp [updV, mr, wR, va_up, va_rf]
  · simp [updV, mr, wR, va_up, hq, h15a]
end PWF

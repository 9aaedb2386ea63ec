/-! ===== new cells, calls, a method's entry ===== -/
theorem env_same {G : GE} {u U : State} (hv : u.vm = U.vm) (hh : U.heap = u.heap) (h : EnvOk G u) : EnvOk G U := by
  have hvm : u.vm.Alike U.vm := by rw [hv]; exact Vm.Alike.refl _
  obtain ⟨⟨h1, h2, h3, h4, h5⟩, h6, h7, h8, h9, hx, hlx⟩ := h
  refine ⟨⟨va_K.moved hvm h1, fun w hw => va_Nw.same ?_ hv (h2 w hw), va_AO.moved hvm h3, va_AO.moved hvm h4, va_AO.moved hvm h5⟩, ?_, fun i hi => vk_R.same hv.symm (h7 i hi), ?_, ?_, ?_, hlx⟩
  · have hq := (List.mem_filter.mp hw).2
    cases w <;> first | rfl | cases hq
  · rw [hh]; exact vk_S.moved hvm h6
  · rw [hh]; exact va_Z.moved hvm h8
  · rw [hh]; exact va_Zq.moved hvm h9
  · rw [hh]; exact va_X.moved hvm hx
theorem env_warm {G : GE} {s U : State} {H : Heap} {locs : List Loc} (hW : s.WarmedH U.vm) (hh : U.heap = H) (hV : va_S (fun q => g_b G ≤ q) s.heap H locs) (h : EnvOk G s) : EnvOk G U := by
  have hvm : s.vm.Alike U.vm := hW.alike
  obtain ⟨⟨h1, h2, h3, h4, h5⟩, h6, h7, h8, h10, hx, hlx⟩ := h
  refine ⟨⟨va_K.moved hvm h1, fun w hw => ?_, va_AO.moved hvm h3, va_AO.moved hvm h4, va_AO.moved hvm h5⟩, ?_, fun i hi => vk_R.warm hW (h7 i hi), ?_, ?_, ?_, hlx⟩
  · have hq := (List.mem_filter.mp hw).2
    have h9 := h2 w hw
    cases w <;> first | exact va_Nw.warmF hW h9 | exact va_Nw.warmM hW h9 | exact va_Nw.warmC hW h9 | cases hq
  · rw [hh]; exact (vk_S.moved hvm h6).kept (fun a h1 h2 => hV.2.1 a h1 h2)
  · rw [hh]; exact (va_Z.moved hvm h8).kept (fun a h1 h2 => hV.2.1 a h1 h2)
  · rw [hh]; exact (va_Zq.moved hvm h10).kept (fun a h1 h2 => hV.2.1 a h1 h2)
  · rw [hh]
    have hsz : (g_x G).1 < s.heap.size := by obtain ⟨scr, hc, -⟩ := hx; exact (Array.getElem?_eq_some_iff.mp hc).1
    exact (va_X.moved hvm hx).kept (hV.2.1 _ hsz (Nat.not_le.mpr hlx))
theorem mt_blind (G : GE) (args : List Value) (M : Mm) : FrameBlind (va_Pc args (fun U => EnvOk G U ∧ Sim G M U.heap)) :=
  fun a U g mk h => ⟨h.1, env_same (u := U) rfl rfl h.2.1, h.2.2⟩
theorem wsM_warm {I : MI} {s : State} {args : Array Value} (hts : ∀ w ∈ wsG, w.before args s = true) (hc : Cond.code I.1 I.2.1 I.2.2.1 I.2.2.2.1 ∈ wsG) : ∀ w ∈ wsM I, ∀ (a' : Array Value) (U : State), s.WarmedH U.vm → w.before a' U = true := by
  intro w hw a' U hW
  have hm : w ∈ wsG := by
    rcases List.mem_cons.mp hw with h | h
    · rw [h]; exact hc
    · exact h
  exact word_at hW (wsG_good w hm) (hts w hm)
/-- a method as the tables have it -/
def MO (I : MI) (n : Nat) : Prop := plainName I.1.cls = true ∧ Cond.code I.1 I.2.1 I.2.2.1 I.2.2.2.1 ∈ wsG ∧ Cond.initialized I.1.cls ∈ wsG ∧ (I.1.cls ≠ "java/lang/invoke/MethodHandle" ∧ I.1.cls ≠ "java/lang/invoke/VarHandle") ∧ (parseMethodDescriptor I.1.desc).map (fun d => d.parameters.length) = some n ∧ I.2.2.1 ≤ 40
theorem MO.len {I : MI} {n : Nat} (h : MO I n) : ∀ sig, parseMethodDescriptor I.1.desc = some sig → n = sig.parameters.length := by
  intro sig hs
  have := h.2.2.2.2.1
  rw [hs] at this
  exact (Option.some.inj this).symm
def CSt (own : String) (idx : Nat) (J : MI) : Prop := Cond.methodLink own idx J.1 ∈ wsG ∧ Cond.static J.1 ∈ wsG
def CSn (own : String) (idx : Nat) (J : MI) : Prop := (∃ host, Cond.methodLinkNest own idx J.1 host ∈ wsN) ∧ Cond.static J.1 ∈ wsG
def CVi (own : String) (idx : Nat) (J : MI) (ci : Nat) : Prop := ∃ r : vw_C, vwCl[ci]? = some r ∧ ci < 13 ∧ Cond.methodLink own idx J.1 ∈ wsG ∧ Cond.instanceMethod J.1 ∈ wsG ∧ Cond.selects r.1 J.1 J.1 ∈ wsG
def CIn (own : String) (idx : Nat) (J : MI) : Prop := J.1.name = "<init>" ∧ J.2.2.2.1 = none ∧ Cond.instanceMethod J.1 ∈ wsG ∧ (Cond.methodLink own idx J.1 ∈ wsG ∨ ∃ host, Cond.methodLinkNest own idx J.1 host ∈ wsN)
def CSu (own : String) (idx : Nat) (J : MI) : Prop := Cond.methodLink own idx J.1 ∈ wsG ∧ Cond.sameMethod J.1.cls J.1.cls J.1.name J.1.desc ∈ wsG ∧ Cond.superclass own J.1.cls ∈ wsG ∧ Cond.instanceMethod J.1 ∈ wsG ∧ J.1.name ≠ "<init>"
def CVu (own : String) (idx : Nat) (x : MethodName) (J : MI) (ci : Nat) : Prop := ∃ (r : vw_C) (b0 : ByteArray) (m0 : Nat) (r0 : Option FieldType), vwCl[ci]? = some r ∧ ci < 13 ∧ Cond.methodLink own idx x ∈ wsG ∧ Cond.sameMethod x.cls x.cls x.name x.desc ∈ wsG ∧ Cond.instanceMethod x ∈ wsG ∧ Cond.selects r.1 x J.1 ∈ wsG ∧ Cond.instanceMethod J.1 ∈ wsG ∧ Cond.code x b0 m0 r0 ∈ wsG ∧ (x.cls ≠ "java/lang/invoke/MethodHandle" ∧ x.cls ≠ "java/lang/invoke/VarHandle") ∧ x.desc = J.1.desc
/-- a class's link, to be made -/
def NR (own : String) (idx ci N : Nat) : Prop := ∃ (C : String) (T : u_T) (ty0 : Nat → FieldType), CO ci C T N ty0 ∧ Cond.classLink own idx C ∈ wsG ∧ Cond.instantiable C N ∈ wsG ∧ Cond.initialized C ∈ wsG
theorem sim_new {G : GE} {M : Mm} {H H' : Heap} {t : Nat × Nat} (hS : Sim G M H) (hz : H'.size = mn M + 1) (ho : ∀ q, q < mn M → H'[q]? = H[q]?) (ha : cellOk G (wN M t) (mn M) H') : Sim G (wN M t) H' := by
  refine ⟨hz, Nat.le_trans hS.2.1 (Nat.le_succ _), fun q hq => ?_⟩
  by_cases hqa : q = mn M
  · subst hqa
    exact ⟨hS.2.1, Nat.lt_succ_self _, ha⟩
  · have et : mt (wN M t) q = mt M q := up_ne hqa
    rw [et] at hq
    obtain ⟨h1, h2, h3⟩ := hS.2.2 q hq
    have m1 : mi (wN M t) q = mi M q := up_ne hqa
    have m2 : ml (wN M t) q = ml M q := up_ne hqa
    have m3 : mr (wN M t) q = mr M q := up_ne hqa
    have e1 : fv (wN M t) q = fv M q := by funext ks k; simp only [fv, m1, m2, m3]
    have e2 : avl (wN M t) q = avl M q := by funext k; simp only [avl, et, m1, m3]
    refine ⟨h1, Nat.lt_succ_of_lt h2, fun h => ?_, fun h => ?_⟩
    · rw [et] at h ⊢
      rw [e1]
      exact (h3.1 h).kept (ho q h2)
    · rw [et] at h ⊢
      rw [e2, ho q h2]
      exact h3.2 h
theorem va_Snew {A : Nat → Prop} {H0 H H1 : Heap} {locs : List Loc} (h : va_S A H0 H locs) (z : H1.size = H.size + 1) (o : ∀ q : Nat, q < H.size → H1[q]? = H[q]?) : va_S A H0 H1 locs :=
  ⟨by rw [z]; exact Nat.le_succ_of_le h.1, fun q h1 h2 => (o q (Nat.lt_of_lt_of_le h1 h.1)).trans (h.2.1 q h1 h2), h.2.2⟩
section PWC
variable {G : GE} {I : MI} {d : Nat} {Post : Option Value → Mm → Prop} {pc : Nat} {ls st : List Value} {M : Mm} {nc ns : Nat}
theorem PW_new {idx ci N : Nat} (hd : decode I.2.1 pc = .ok (.new idx, 3)) (hn : NR I.1.cls idx ci N) (hc : nc + 1 ≤ I.2.2.2.2.1) (hs : ns + N ≤ I.2.2.2.2.2) (kk : PW G I d Post (pc + 3) ls (.ref (mn M) :: st) (wN M (ci, 0)) (nc + 1) (ns + N)) : PW G I d Post pc ls st M nc ns := by
  intro p l e s m args below meth c C H locs la hS hV hl
  obtain ⟨C', T, ty0, ⟨hcl, hN, hci, hin, hty, hnm, hkd⟩, w1, w2, w3⟩ := hn
  have C0 := C
  obtain ⟨hx, hb, hml, hr, hlk, hown, hts, hnme, hE⟩ := C
  have hKn := hE.1.1.1 ci _ hcl
  refine W.newcK hx hb hown (hts _ w1) (hts _ w2) (hts _ w3) rfl hd hc hs hKn.2.1 hS.1 fun H1 kC hkC e1 z1 o1 => ?_
  refine kk p l e s m args below meth c C0 H1 locs la (sim_new hS z1 o1 ⟨fun _ => ?_, fun h => absurd (show (mt (wN M (ci, 0)) (mn M)).1 < 13 by rw [show mt (wN M (ci, 0)) (mn M) = (ci, 0) from up_eq]; exact hci) h⟩) (va_Snew hV (by rw [z1, hS.1]) (fun q hq => o1 q (by rw [← hS.1]; exact hq))) hl
  rw [show mt (wN M (ci, 0)) (mn M) = (ci, 0) from up_eq]
  show t_OB (mn M) (G.1 ci) (fks ci).length (G.2.1 ci) H1 (fv (wN M (ci, 0)) (mn M) (fks ci))
  rw [hN]
  refine (u_born ty0 hts hin hKn hkC e1 hty).to (fun k hk => ?_)
  have hk2 := hkd k hk
  have f1 : mi (wN M (ci, 0)) (mn M) = fun _ => 0 := up_eq
  have f2 : ml (wN M (ci, 0)) (mn M) = fun _ => 0 := up_eq
  have f3 : mr (wN M (ci, 0)) (mn M) = fun _ => none := up_eq
  unfold fv
  rw [f1, f2, f3]
  generalize (fks ci).getD k 2 = kd at hk2 ⊢
  match kd, hk2 with
  | 0, h => rw [show ty0 k = .int from h]; rfl
  | 1, h => rw [show ty0 k = .long from h]; rfl
  | n + 2, h =>
    rcases (show (∃ n, ty0 k = .object n) ∨ ∃ t, ty0 k = .array t from h) with ⟨q, h⟩ | ⟨q, h⟩ <;> (rw [h]; rfl)
theorem newarr_ok {M : Mm} {G : GE} {k N : Nat} {H' : Heap} {cA : ClassId} {dv : Value} (hk : ¬ k < 13) (hA : cA = g_A G k) (hv : dv = if k < 15 then .int 0 else .null) (h : H'[mn M]? = some (arrV cA N (fun _ => dv))) : cellOk G (wN M (k, N)) (mn M) H' := by
  have et : mt (wN M (k, N)) (mn M) = (k, N) := up_eq
  have f1 : mi (wN M (k, N)) (mn M) = fun _ => 0 := up_eq
  have f3 : mr (wN M (k, N)) (mn M) = fun _ => none := up_eq
  refine ⟨fun q => absurd (show k < 13 by rw [et] at q; exact q) hk, fun _ => ?_⟩
  rw [et, h, hA]
  congr 2
  funext j
  unfold avl
  rw [et, f1, f3, hv]
  rfl
theorem PW_newI {n : Int32} {N : Nat} (hd : decode I.2.1 pc = .ok (.newarray .int, 2)) (hw : Cond.arrayClass .int ∈ wsG) (hn : ¬ n < 0) (hN : n.toNatClampNeg = N) (h4 : N ≤ 1000) (hc : nc + 1 ≤ I.2.2.2.2.1) (hs : ns + N ≤ I.2.2.2.2.2) (kk : PW G I d Post (pc + 2) ls (.ref (mn M) :: st) (wN M (13, N)) (nc + 1) (ns + N)) : PW G I d Post pc ls (.int n :: st) M nc ns := by
  intro p l e s m args below meth c C H locs la hS hV hl
  have hK := C.2.2.2.2.2.2.2.2.1.1
  refine va_newaK (atype := .int) C.1 C.2.1 (C.2.2.2.2.2.2.1 _ hw) rfl hd rfl hn hN (by show N * 4 ≤ _; omega) hc hs hS.1 fun H1 cA e1 z1 o1 hAr hfc => ?_
  have hA : cA = g_A G 13 := Option.some.inj (hfc.symm.trans (hK.2 0 _ rfl).2)
  exact kk p l e s m args below meth c C H1 locs la (sim_new hS z1 o1 (newarr_ok (by decide) hA rfl e1)) (va_Snew hV (by rw [z1, hS.1]) (fun q hq => o1 q (by rw [← hS.1]; exact hq))) hl
theorem PW_newZ {n : Int32} {N : Nat} (hd : decode I.2.1 pc = .ok (.newarray .boolean, 2)) (hw : Cond.arrayClass .boolean ∈ wsG) (hn : ¬ n < 0) (hN : n.toNatClampNeg = N) (h4 : N ≤ 1000) (hc : nc + 1 ≤ I.2.2.2.2.1) (hs : ns + N ≤ I.2.2.2.2.2) (kk : PW G I d Post (pc + 2) ls (.ref (mn M) :: st) (wN M (14, N)) (nc + 1) (ns + N)) : PW G I d Post pc ls (.int n :: st) M nc ns := by
  intro p l e s m args below meth c C H locs la hS hV hl
  have hK := C.2.2.2.2.2.2.2.2.1.1
  refine va_newaK (atype := .boolean) C.1 C.2.1 (C.2.2.2.2.2.2.1 _ hw) rfl hd rfl hn hN (by show N * 1 ≤ _; omega) hc hs hS.1 fun H1 cA e1 z1 o1 hAr hfc => ?_
  have hA : cA = g_A G 14 := Option.some.inj (hfc.symm.trans (hK.2 1 _ rfl).2)
  exact kk p l e s m args below meth c C H1 locs la (sim_new hS z1 o1 (newarr_ok (by decide) hA rfl e1)) (va_Snew hV (by rw [z1, hS.1]) (fun q hq => o1 q (by rw [← hS.1]; exact hq))) hl
theorem env_AO {G : GE} {s : State} (h : EnvOk G s) {k : Nat} (h15 : ¬ k < 15) (h18 : k < 18) : va_AO (eCl k) s := by
  have : k = 15 ∨ k = 16 ∨ k = 17 := by omega
  rcases this with rfl | rfl | rfl
  · exact h.1.2.2.1
  · exact h.1.2.2.2.1
  · exact h.1.2.2.2.2
theorem PW_anew {idx k : Nat} {n : Int32} {N : Nat} (hd : decode I.2.1 pc = .ok (.anewarray idx, 3)) (h15 : ¬ k < 15) (h18 : k < 18) (hw : Cond.classLink I.1.cls idx (eCl k) ∈ wsG) (hn : ¬ n < 0) (hN : n.toNatClampNeg = N) (h4 : N ≤ 1000) (hc : nc + 1 ≤ I.2.2.2.2.1) (hs : ns + N ≤ I.2.2.2.2.2) (kk : PW G I d Post (pc + 3) ls (.ref (mn M) :: st) (wN M (k, N)) (nc + 1) (ns + N)) : PW G I d Post pc ls (.int n :: st) M nc ns := by
  intro p l e s m args below meth c C H locs la hS hV hl
  have hK := C.2.2.2.2.2.2.2.2.1.1
  subst hN
  refine W.anew C.1 C.2.1 C.2.2.2.2.2.1 (C.2.2.2.2.2.2.1 _ hw) (va_AO.use (env_AO C.2.2.2.2.2.2.2.2 h15 h18)) rfl hd rfl hn (by omega) hc hs fun cA kA comp f1 f2 f3 f4 => ?_
  generalize hH1 : H.push ({ cls := cA, slots := Array.replicate n.toNatClampNeg .null, vm := .none } : Cell) = H1
  have z1 : H1.size = mn M + 1 := by rw [← hH1, Array.size_push, hS.1]
  have e1 : H1[mn M]? = some (arrV cA n.toNatClampNeg (fun _ => .null)) := by rw [← hS.1, ← hH1, Array.getElem?_push_size, ← arrV_new]
  have o1 : ∀ q : Nat, q < mn M → H1[q]? = H[q]? := fun q hq => by rw [← hH1, Array.getElem?_push, if_neg (by rw [hS.1]; exact Nat.ne_of_lt hq)]
  obtain ⟨t0, ht0⟩ := tysG_r G h15 h18
  obtain ⟨kB, compB, k1, k2, k3, k4⟩ := (hK.2 t0 _ ht0).2
  have hA : cA = g_A G k := Option.some.inj (f1.symm.trans k4)
  have r1 := kk p l e s m args below meth c C H1 locs la (sim_new hS z1 o1 (newarr_ok (by omega) hA (by rw [if_neg h15]) e1)) (va_Snew hV (by rw [z1, hS.1]) (fun q hq => o1 q (by rw [← hS.1]; exact hq))) hl
  rw [← hS.1] at r1
  exact r1
theorem PW_objInit {idx a : Nat} (hd : decode I.2.1 pc = .ok (.invokespecial idx, 3)) (h1 : Cond.methodLink I.1.cls idx objectInit ∈ wsG) (h2 : Cond.instanceMethod objectInit ∈ wsG) (h3 : Cond.code objectInit ⟨#[0xb1]⟩ 1 none ∈ wsG) (hw : (st.map fun v => v.category).sum ≤ 40) (kk : PW G I d Post (pc + 3) ls st M nc ns) : PW G I d Post pc ls (.ref a :: st) M nc ns := by
  intro p l e s m args below meth c C H locs la hS hV hl
  have hts := C.2.2.2.2.2.2.1
  refine W.objInit C.1 C.2.1 C.2.2.2.2.2.1 (hts _ h1) (hts _ h2) (hts _ h3) rfl (by rw [C.2.2.1]; exact hl.1) rfl hd (by show 1 ≤ d + 1; omega) (by show 2 * 0 + _ + 12 ≤ 64 * (d + 1); omega) ?_
  exact kk p l e s m args below meth c C H locs la hS hV hl
theorem PW_max {idx : Nat} {x y : Int32} (hd : decode I.2.1 pc = .ok (.invokestatic idx, 3)) (h1 : Cond.methodLink I.1.cls idx Lib.Math.max.name ∈ wsG) (h2 : Cond.static Lib.Math.max.name ∈ wsG ∧ Cond.initialized "java/lang/Math" ∈ wsG ∧ Cond.code Lib.Math.max.name Lib.Math.max.code 2 (some .int) ∈ wsG) (hw : (st.map fun v => v.category).sum ≤ 40) (hc : nc ≤ I.2.2.2.2.1) (hs : ns ≤ I.2.2.2.2.2) (kk : PW G I d Post (pc + 3) ls (.int (if x < y then y else x) :: st) M nc ns) : PW G I d Post pc ls (.int y :: .int x :: st) M nc ns := by
  intro p l e s m args below meth c C H locs la hS hV hl
  have hts := C.2.2.2.2.2.2.1
  exact va_mmax C.1 C.2.1 (by rw [C.2.2.1]; exact hl.1.symm) C.2.2.2.2.2.1 (hts _ h1) (hts _ h2.1) (hts _ h2.2.1) (hts _ h2.2.2) (by show 1 ≤ d + 1; omega) (by show _ + 13 ≤ 64 * (d + 1); omega) hc hs hd (kk p l e s m args below meth c C H locs la hS hV hl)
theorem PW_min {idx : Nat} {x y : Int32} (hd : decode I.2.1 pc = .ok (.invokestatic idx, 3)) (h1 : Cond.methodLink I.1.cls idx Lib.Math.min.name ∈ wsG) (h2 : Cond.static Lib.Math.min.name ∈ wsG ∧ Cond.initialized "java/lang/Math" ∈ wsG ∧ Cond.code Lib.Math.min.name Lib.Math.min.code 2 (some .int) ∈ wsG) (hw : (st.map fun v => v.category).sum ≤ 40) (hc : nc ≤ I.2.2.2.2.1) (hs : ns ≤ I.2.2.2.2.2) (kk : PW G I d Post (pc + 3) ls (.int (if y < x then y else x) :: st) M nc ns) : PW G I d Post pc ls (.int y :: .int x :: st) M nc ns := by
  intro p l e s m args below meth c C H locs la hS hV hl
  have hts := C.2.2.2.2.2.2.1
  exact va_mmin C.1 C.2.1 (by rw [C.2.2.1]; exact hl.1.symm) C.2.2.2.2.2.1 (hts _ h1) (hts _ h2.1) (hts _ h2.2.1) (hts _ h2.2.2) (by show 1 ≤ d + 1; omega) (by show _ + 13 ≤ 64 * (d + 1); omega) hc hs hd (kk p l e s m args below meth c C H locs la hS hV hl)
theorem PW_abs {idx : Nat} {x : Int32} (hd : decode I.2.1 pc = .ok (.invokestatic idx, 3)) (h1 : Cond.methodLink I.1.cls idx Lib.Math.abs.name ∈ wsG) (h2 : Cond.static Lib.Math.abs.name ∈ wsG ∧ Cond.initialized "java/lang/Math" ∈ wsG ∧ Cond.code Lib.Math.abs.name Lib.Math.abs.code 1 (some .int) ∈ wsG) (hw : (st.map fun v => v.category).sum ≤ 40) (hc : nc ≤ I.2.2.2.2.1) (hs : ns ≤ I.2.2.2.2.2) (kk : PW G I d Post (pc + 3) ls (.int (if 0 ≤ x then x else 0 - x) :: st) M nc ns) : PW G I d Post pc ls (.int x :: st) M nc ns := by
  intro p l e s m args below meth c C H locs la hS hV hl
  have hts := C.2.2.2.2.2.2.1
  exact va_mabs C.1 C.2.1 (by rw [C.2.2.1]; exact hl.1.symm) C.2.2.2.2.2.1 (hts _ h1) (hts _ h2.1) (hts _ h2.2.1) (hts _ h2.2.2) (by show 1 ≤ d + 1; omega) (by show _ + 13 ≤ 64 * (d + 1); omega) hc hs hd (kk p l e s m args below meth c C H locs la hS hV hl)
/-- a whole copy of ints -/
theorem PW_copy {idx a b n0 n1 : Nat} {n : Int32} (hd : decode I.2.1 pc = .ok (.invokestatic idx, 3)) (h1 : Cond.methodLink I.1.cls idx arraycopyName ∈ wsG) (h2 : Cond.native arraycopyName ∈ wsG ∧ Cond.static arraycopyName ∈ wsG ∧ Cond.initialized "java/lang/System" ∈ wsG) (ht0 : mt M b = (13, n0)) (ht1 : mt M a = (13, n1)) (h3 : ¬ n < 0) (h4 : n.toNatClampNeg ≤ n0) (h5 : n.toNatClampNeg ≤ n1) (hw : (st.map fun v => v.category).sum ≤ 8)
    (kk : PW G I d Post (pc + 3) ls st (wA M a (va_cpy (mi M b) (mi M a) 0 0 n.toNatClampNeg)) nc ns) : PW G I d Post pc ls (.int n :: .int 0 :: .ref a :: .int 0 :: .ref b :: st) M nc ns := by
  intro p l e s m args below meth c C H locs la hS hV hl
  have hts := C.2.2.2.2.2.2.1
  have hK := C.2.2.2.2.2.2.2.2.1.1
  obtain ⟨hbb, -, hc0'⟩ := sim_ar hS ht0 (by decide) (by decide)
  obtain ⟨hba, -, hc1'⟩ := sim_ar hS ht1 (by decide) (by decide)
  have ea : ∀ q, (mt M q).1 < 15 → avl M q = fun j => .int (mi M q j) := fun q hq => by funext j; unfold avl; rw [if_pos hq]
  have hc0 : H[b]? = some (vp_cell (g_A G 13) (n0, .inl (mi M b))) := by rw [hc0', ea b (by rw [ht0]; exact (by decide : (13 : Nat) < 15))]; rfl
  have hc1 : H[a]? = some (vp_cell (g_A G 13) (n1, .inl (mi M a))) := by rw [hc1', ea a (by rw [ht1]; exact (by decide : (13 : Nat) < 15))]; rfl
  have nn : ∀ z : Int32, ¬ z < 0 → z.toInt = (z.toNatClampNeg : Int) := by
    intro z hz
    have hz0 : (0 : Int) ≤ z.toInt := by
      have := Int32.not_lt.mp hz
      simpa using Int32.le_iff_toInt_le.mp this
    show z.toInt = ((z.toInt.toNat : Nat) : Int)
    omega
  intro T hT X
  obtain ⟨-, k0, hk0, cm0, hkk0⟩ := (hK.2 0 _ rfl).1 n0 (fun j => .int (mi M b j))
  obtain ⟨-, k1, hk1, cm1, hkk1⟩ := (hK.2 0 _ rfl).1 n1 (fun j => .int (mi M a j))
  have z0 : ((0 : Int32).toNatClampNeg) = 0 := rfl
  obtain ⟨vm', X', step⟩ := X.arraycopy C.1 C.2.2.2.2.2.1 (hts _ h1) (hts _ h2.1) (hts _ h2.2.1) (hts _ h2.2.2) (src := b) (dst := a) (cs := vp_cell (g_A G 13) (n0, .inl (mi M b))) (cd := vp_cell (g_A G 13) (n1, .inl (mi M a))) (srcPos := 0) (destPos := 0) (n := n) (by rw [hT]; exact hc0) (by rw [hT]; exact hc1)
    (fun _ h => by cases h) (fun _ h => by cases h) (fun h => by cases h) (fun h => by cases h) hk0 hk1 hkk0 hkk1 (by simp [refKind]) (by decide) (by decide) h3
    (by rw [nn 0 (by decide), nn n h3]; show ¬ _ > ((arrV (g_A G 13) n0 (fun j => .int (mi M b j))).slots.size : Int); rw [arrV_size, z0]; omega)
    (by rw [nn 0 (by decide), nn n h3]; show ¬ _ > ((arrV (g_A G 13) n1 (fun j => .int (mi M a j))).slots.size : Int); rw [arrV_size, z0]; omega)
    (fun vm₁ _ i hi => by
      have ev : (vp_cell (g_A G 13) (n0, .inl (mi M b))).slots.getD ((0 : Int32).toNatClampNeg + i) .null = .int (mi M b ((0 : Int32).toNatClampNeg + i)) := by
        show (arrV (g_A G 13) n0 (fun j => .int (mi M b j))).slots.getD _ _ = _
        rw [Array.getD_eq_getD_getElem?, arrV_read _ _ (by rw [z0]; omega)]
        rfl
      refine ⟨?_, ?_⟩
      · rw [ev]
        rfl
      · rw [ev]
        exact trivial)
    (g := F0 m pc la (.int n :: .int 0 :: .ref a :: .int 0 :: .ref b :: st)) rfl (by rw [C.2.2.1]; exact hl.1) (rest := st) rfl (by rw [C.2.1]; exact hd) (by show 1 ≤ d + 1; omega) (by
      have e9 : nativeFrameWords "java/lang/System" "arraycopy" 5 + 11 ≤ 50 := by decide +kernel
      show 2 * 0 + _ + _ ≤ 64 * (d + 1)
      omega)
  have e1 : copied (vp_cell (g_A G 13) (n0, .inl (mi M b))) (vp_cell (g_A G 13) (n1, .inl (mi M a))) 0 0 n = vp_cell (g_A G 13) (n1, .inl (va_cpy (mi M b) (mi M a) 0 0 n.toNatClampNeg)) := va_copied (fun z => .int z) (g_A G 13) (g_A G 13) (mi M b) (mi M a) (by rw [z0]; omega)
  rw [e1] at X' step
  generalize hc9 : vp_cell (g_A G 13) (n1, .inl (va_cpy (mi M b) (mi M a) 0 0 n.toNatClampNeg)) = c9 at X' step
  have hl9 : a < H.size := (Array.getElem?_eq_some_iff.mp hc1).1
  have hheap : ((T.setVm vm').setCell a c9).heap = H.setIfInBounds a c9 := by rw [← hT]; rfl
  have oq : ∀ q : Nat, q ≠ a → (H.setIfInBounds a c9)[q]? = H[q]? := fun q hq => by simp [Array.getElem?_setIfInBounds, Ne.symm hq]
  have oa : (H.setIfInBounds a c9)[a]? = some c9 := by simp [Array.getElem?_setIfInBounds, hl9]
  have ez : (H.setIfInBounds a c9).size = H.size := by simp
  obtain ⟨t, a1, b1⟩ := kk p l e s m args below meth c C (H.setIfInBounds a c9) _ la (sim_put (M' := wA M a (va_cpy (mi M b) (mi M a) 0 0 n.toNatClampNeg)) (a := a) hS rfl rfl ez oq (fun q hq => ⟨up_ne hq, rfl, rfl⟩) (fun _ => sim_arr ht1 (by decide) rfl (by
      rw [oa, ← hc9]
      show some (arrV (g_A G 13) n1 (fun j => .int (va_cpy (mi M b) (mi M a) 0 0 n.toNatClampNeg j))) = _
      congr 2
      funext j
      have h15 : (mt (wA M a (va_cpy (mi M b) (mi M a) 0 0 n.toNatClampNeg)) a).1 < 15 := by
        show (mt M a).1 < 15
        rw [ht1]; exact (by decide : (13 : Nat) < 15)
      unfold avl
      rw [if_pos h15]
      rw [show mi (wA M a (va_cpy (mi M b) (mi M a) 0 0 n.toNatClampNeg)) a = va_cpy (mi M b) (mi M a) 0 0 n.toNatClampNeg from up_eq]))) ⟨by rw [ez]; exact hV.1, fun q g1 g2 => by
      rw [oq q (fun e => g2 (by rw [e]; exact hba))]
      exact hV.2.1 q g1 g2, fun q hq => by
      rcases List.mem_append.mp hq with h | h
      · exact hV.2.2 q h
      · obtain ⟨z, -, hz⟩ := List.mem_map.mp h
        rw [← hz]
        exact hba⟩ hl _ hheap X'
  exact ⟨t, step t a1, b1⟩
/-- what comes behind a call -/
theorem run_go {p : Program} {l : Launch} {e : Env} {R : Room} {s : State} {m : MethodId} {args : Array Value} {below : List Frame} {meth : Method} {c : Code} {H : Heap} {locs : List Loc} {mc ms : Nat} {la : Array Slot} {st0 rest : List Value} {a : Array Value} {Q : State → Prop} {Post' : Option Value → Mm → Prop}
    (hr : va_Run p l e R s m args below meth c H locs nc ns mc ms (F0 m pc la st0) rest (QQ G Post' a) (fun q => g_b G ≤ q)) (hV : va_S (fun q => g_b G ≤ q) s.heap H locs)
    (kk : ∀ (v : Option Value) (M' : Mm) (H1 : Heap) (locs1 : List Loc), Post' v M' → Sim G M' H1 → va_S (fun q => g_b G ≤ q) s.heap H1 locs1 → W p l e R s m args below meth c H1 locs1 (nc + mc) (ns + ms) Q (F0 m (pc + 3) la (v.toList ++ rest))) : W p l e R s m args below meth c H locs nc ns Q (F0 m pc la st0) := by
  intro T hT X
  obtain ⟨v, st₀, t, T', L, h0, X', hL, e1, e2, ⟨⟨v', M', hv, hp, hb⟩, hz, hk⟩, st⟩ := hr T hT X
  cases hv
  rw [h0] at hz hk
  obtain ⟨t2, a1, b1⟩ := kk v M' T'.heap (locs ++ L) hp (by rw [e1]; exact hb)
    ⟨Nat.le_trans hV.1 (by rw [e1]; exact hz), fun q h1 h2 => by rw [e1, hk q (Nat.lt_of_lt_of_le h1 hV.1) h2]; exact hV.2.1 q h1 h2, fun q hq => by
      rcases List.mem_append.mp hq with h | h
      · exact hV.2.2 q h
      · exact hL q h⟩ T' rfl X'
  exact ⟨t2, st t2 a1, b1⟩
theorem room_ok {J : MI} {n d d' : Nat} {I : MI} (hJ : MO J n) (hd : d' < d) : (rmOf d' J.2.2.2.2.1 J.2.2.2.2.2).frames + 1 ≤ (rmOf d I.2.2.2.2.1 I.2.2.2.2.2).frames ∧ 8 + (J.2.2.1 + 11) + (rmOf d' J.2.2.2.2.1 J.2.2.2.2.2).locals ≤ (rmOf d I.2.2.2.2.1 I.2.2.2.2.2).locals := by
  have := hJ.2.2.2.2.2
  constructor
  · show d' + 1 + 1 ≤ d + 1
    omega
  · show 8 + (J.2.2.1 + 11) + 64 * (d' + 1) ≤ 64 * (d + 1)
    omega
theorem sim_recv {s : State} {H : Heap} {b ci z : Nat} {r : vw_C} (hE : EnvOk G s) (hS : Sim G M H) (ht : mt M b = (ci, z)) (hr : vwCl[ci]? = some r) (hci : ci < 13) : ∃ cellB : Cell, H[b]? = some cellB ∧ cellB.vm.isStatics = false ∧ s.vm.findClass r.1 = some cellB.cls := by
  obtain ⟨-, -, cell, g1, g2, g3, -⟩ := sim_ob hS ht hci
  exact ⟨cell, g1, by rw [g3]; rfl, by rw [g2]; exact (hE.1.1.1 ci r hr).2.1⟩
variable {J : MI} {n d' : Nat} {Post' : Option Value → Mm → Prop}
/-- static -/
theorem PW_callS {idx : Nat} {As : List Value} {st0 : List Value} (hd : decode I.2.1 pc = .ok (.invokestatic idx, 3)) (hJ : MO J n) (hC : CSt I.1.cls idx J) (hdd : d' < d) (hn : As.length = n) (hst : st0 = As.reverse ++ st) (hw : (st.map fun v => v.category).sum ≤ 8) (hc : nc + J.2.2.2.2.1 ≤ I.2.2.2.2.1) (hs : ns + J.2.2.2.2.2 ≤ I.2.2.2.2.2) (hM : Mt G J d' As M Post')
    (kk : ∀ v M', Post' v M' → PW G I d Post (pc + 3) ls (v.toList ++ st) M' (nc + J.2.2.2.2.1) (ns + J.2.2.2.2.2)) : PW G I d Post pc ls st0 M nc ns := by
  intro p l e s m args below meth c C H locs la hS hV hl
  have hts := C.2.2.2.2.2.2.1
  have hr := room_ok (I := I) hJ hdd
  refine run_go (va_runS (Ts := wsG) (n := n) (As := As) (rest := st) ⟨C.1, C.2.1, C.2.2.1, C.2.2.2.2.2.1, hts⟩ (hM l) ⟨⟨rfl, rfl, hr.1, hr.2, wsM_warm hts hJ.2.1, List.mem_cons_self, hts _ hJ.2.1, hts _ hJ.2.2.1, hJ.2.2.2.1, hJ.len, hts _ hC.1⟩, hts _ hC.2⟩ ⟨mt_blind G _ M, fun U hU hW => ⟨rfl, env_warm hW hU hV C.2.2.2.2.2.2.2.2, by rw [hU]; exact hS⟩⟩ rfl hn hl.1 hst (lv_room hw) hd ⟨hc, hs⟩) hV fun v M' H1 locs1 hp hS1 hV1 => ?_
  exact kk v M' hp p l e s m args below meth c C H1 locs1 la hS1 hV1 hl
theorem PW_callSN {idx : Nat} {As : List Value} {st0 : List Value} (hd : decode I.2.1 pc = .ok (.invokestatic idx, 3)) (hJ : MO J n) (hC : CSn I.1.cls idx J) (hdd : d' < d) (hn : As.length = n) (hst : st0 = As.reverse ++ st) (hw : (st.map fun v => v.category).sum ≤ 8) (hc : nc + J.2.2.2.2.1 ≤ I.2.2.2.2.1) (hs : ns + J.2.2.2.2.2 ≤ I.2.2.2.2.2) (hM : Mt G J d' As M Post')
    (kk : ∀ v M', Post' v M' → PW G I d Post (pc + 3) ls (v.toList ++ st) M' (nc + J.2.2.2.2.1) (ns + J.2.2.2.2.2)) : PW G I d Post pc ls st0 M nc ns := by
  intro p l e s m args below meth c C H locs la hS hV hl
  have hts := C.2.2.2.2.2.2.1
  have hr := room_ok (I := I) hJ hdd
  obtain ⟨⟨host, hN⟩, hstt⟩ := hC
  refine run_go (va_runSN (Ts := wsG) (host := host) (n := n) (As := As) (rest := st) ⟨C.1, C.2.1, C.2.2.1, C.2.2.2.2.2.1, hts⟩ (hM l) ⟨⟨⟨rfl, rfl, hr.1, hr.2, wsM_warm hts hJ.2.1, List.mem_cons_self⟩, hts _ hJ.2.1, hts _ hJ.2.2.1, hJ.2.2.2.1, hJ.len, va_Nw.use rfl (C.2.2.2.2.2.2.2.2.1.2.1 _ hN)⟩, hts _ hstt, trivial⟩ ⟨mt_blind G _ M, fun U hU hW => ⟨rfl, env_warm hW hU hV C.2.2.2.2.2.2.2.2, by rw [hU]; exact hS⟩⟩ rfl hn hl.1 hst (lv_room hw) hd ⟨hc, hs⟩) hV fun v M' H1 locs1 hp hS1 hV1 => ?_
  exact kk v M' hp p l e s m args below meth c C H1 locs1 la hS1 hV1 hl
/-- virtual, on an object of that class -/
theorem PW_callV {idx b ci z : Nat} {As : List Value} {st0 : List Value} (hd : decode I.2.1 pc = .ok (.invokevirtual idx, 3)) (hJ : MO J n) (hC : CVi I.1.cls idx J ci) (ht : mt M b = (ci, z)) (hdd : d' < d) (hn : As.length = n) (hst : st0 = As.reverse ++ .ref b :: st) (hw : (st.map fun v => v.category).sum ≤ 8) (hc : nc + J.2.2.2.2.1 ≤ I.2.2.2.2.1) (hs : ns + J.2.2.2.2.2 ≤ I.2.2.2.2.2) (hM : Mt G J d' (.ref b :: As) M Post')
    (kk : ∀ v M', Post' v M' → PW G I d Post (pc + 3) ls (v.toList ++ st) M' (nc + J.2.2.2.2.1) (ns + J.2.2.2.2.2)) : PW G I d Post pc ls st0 M nc ns := by
  intro p l e s m args below meth c C H locs la hS hV hl
  have hts := C.2.2.2.2.2.2.1
  have hr := room_ok (I := I) hJ hdd
  obtain ⟨r, hrc, hci, h1, h2, h3⟩ := hC
  refine run_go (va_runV (Ts := wsG) (C := r.1) (n := n) (As := As) (rest := st) ⟨C.1, C.2.1, C.2.2.1, C.2.2.2.2.2.1, hts⟩ (hM l) ⟨⟨rfl, rfl, hr.1, hr.2, wsM_warm hts hJ.2.1, List.mem_cons_self, hts _ hJ.2.1, hts _ hJ.2.2.1, hJ.2.2.2.1, hJ.len, hts _ h1⟩, hts _ h2, hts _ h3⟩ ⟨mt_blind G _ M, sim_recv C.2.2.2.2.2.2.2.2 hS ht hrc hci, fun U hU hW => ⟨rfl, env_warm hW hU hV C.2.2.2.2.2.2.2.2, by rw [hU]; exact hS⟩⟩ rfl hn hl.1 hst (lv_room hw) hd ⟨hc, hs⟩) hV fun v M' H1 locs1 hp hS1 hV1 => ?_
  exact kk v M' hp p l e s m args below meth c C H1 locs1 la hS1 hV1 hl
/-- virtual, chosen by the object's class -/
theorem PW_callU {idx b ci z : Nat} {x : MethodName} {As : List Value} {st0 : List Value} (hd : decode I.2.1 pc = .ok (.invokevirtual idx, 3)) (hJ : MO J n) (hC : CVu I.1.cls idx x J ci) (ht : mt M b = (ci, z)) (hdd : d' < d) (hn : As.length = n) (hst : st0 = As.reverse ++ .ref b :: st) (hw : (st.map fun v => v.category).sum ≤ 8) (hc : nc + J.2.2.2.2.1 ≤ I.2.2.2.2.1) (hs : ns + J.2.2.2.2.2 ≤ I.2.2.2.2.2) (hM : Mt G J d' (.ref b :: As) M Post')
    (kk : ∀ v M', Post' v M' → PW G I d Post (pc + 3) ls (v.toList ++ st) M' (nc + J.2.2.2.2.1) (ns + J.2.2.2.2.2)) : PW G I d Post pc ls st0 M nc ns := by
  intro p l e s m args below meth c C H locs la hS hV hl
  have hts := C.2.2.2.2.2.2.1
  have hr := room_ok (I := I) hJ hdd
  obtain ⟨r, b0, m0, r0, hrc, hci, h1, h2, h3, h4, h5, h6, h7, h8⟩ := hC
  refine run_go (va_runU (Ts := wsG) (C := r.1) (owner := x.cls) (x := x) (n := n) (As := As) (rest := st) ⟨C.1, C.2.1, C.2.2.1, C.2.2.2.2.2.1, hts⟩ (hM l) ⟨⟨rfl, rfl, hr.1, hr.2, wsM_warm hts hJ.2.1, List.mem_cons_self⟩, hts _ hJ.2.1, hts _ hJ.2.2.1, h7, (by rw [h8]; exact hJ.len), hts _ h1, hts _ h2, va_Decl.of (hts _ h3) (hts _ h6), hts _ h4, hts _ h5⟩ ⟨mt_blind G _ M, sim_recv C.2.2.2.2.2.2.2.2 hS ht hrc hci, fun U hU hW => ⟨rfl, env_warm hW hU hV C.2.2.2.2.2.2.2.2, by rw [hU]; exact hS⟩⟩ rfl hn hl.1 hst (lv_room hw) hd ⟨hc, hs⟩) hV fun v M' H1 locs1 hp hS1 hV1 => ?_
  exact kk v M' hp p l e s m args below meth c C H1 locs1 la hS1 hV1 hl
/-- a constructor -/
theorem PW_callI {idx b : Nat} {As : List Value} {st0 : List Value} (hd : decode I.2.1 pc = .ok (.invokespecial idx, 3)) (hJ : MO J n) (hC : CIn I.1.cls idx J) (hdd : d' < d) (hn : As.length = n) (hst : st0 = As.reverse ++ .ref b :: st) (hw : (st.map fun v => v.category).sum ≤ 8) (hc : nc + J.2.2.2.2.1 ≤ I.2.2.2.2.1) (hs : ns + J.2.2.2.2.2 ≤ I.2.2.2.2.2) (hM : Mt G J d' (.ref b :: As) M Post')
    (kk : ∀ v M', Post' v M' → PW G I d Post (pc + 3) ls (v.toList ++ st) M' (nc + J.2.2.2.2.1) (ns + J.2.2.2.2.2)) : PW G I d Post pc ls st0 M nc ns := by
  intro p l e s m args below meth c C H locs la hS hV hl
  have hts := C.2.2.2.2.2.2.1
  have hr := room_ok (I := I) hJ hdd
  obtain ⟨hini, hret, hin, hlink⟩ := hC
  have hcd := hJ.2.1
  have hwm := wsM_warm (I := J) hts hJ.2.1
  have hMl := hM l
  rw [hret] at hcd
  have hpre : PreS s H (va_Pc (.ref b :: As) (fun U => EnvOk G U ∧ Sim G M U.heap)) (.ref b :: As) := ⟨mt_blind G _ M, fun U hU hW => ⟨rfl, env_warm hW hU hV C.2.2.2.2.2.2.2.2, by rw [hU]; exact hS⟩⟩
  have hmem : Cond.code J.1 J.2.1 J.2.2.1 none ∈ wsM J := by rw [← hret]; exact List.mem_cons_self
  rcases hlink with h | ⟨host, h⟩
  · refine run_go (va_runI (Ts := wsG) (n := n) (As := As) (rest := st) ⟨C.1, C.2.1, C.2.2.1, C.2.2.2.2.2.1, hts⟩ hMl ⟨⟨rfl, rfl, hr.1, hr.2, hwm, hmem, hts _ hcd, hts _ hJ.2.2.1, hJ.2.2.2.1, hJ.len, hts _ h⟩, hini, hts _ hin⟩ hpre rfl hn hl.1 hst (lv_room hw) hd ⟨hc, hs⟩) hV fun v M' H1 locs1 hp hS1 hV1 => ?_
    exact kk v M' hp p l e s m args below meth c C H1 locs1 la hS1 hV1 hl
  · refine run_go (va_runIN (Ts := wsG) (host := host) (n := n) (As := As) (rest := st) ⟨C.1, C.2.1, C.2.2.1, C.2.2.2.2.2.1, hts⟩ hMl ⟨⟨⟨rfl, rfl, hr.1, hr.2, hwm, hmem⟩, hts _ hcd, hts _ hJ.2.2.1, hJ.2.2.2.1, hJ.len, va_Nw.use rfl (C.2.2.2.2.2.2.2.2.1.2.1 _ h)⟩, hini, hts _ hin⟩ hpre rfl hn hl.1 hst (lv_room hw) hd ⟨hc, hs⟩) hV fun v M' H1 locs1 hp hS1 hV1 => ?_
    exact kk v M' hp p l e s m args below meth c C H1 locs1 la hS1 hV1 hl
/-- super's method -/
theorem PW_callSU {idx b ci z : Nat} {As : List Value} {st0 : List Value} (hd : decode I.2.1 pc = .ok (.invokespecial idx, 3)) (hJ : MO J n) (hC : CSu I.1.cls idx J) (hcl : ∃ r : vw_C, vwCl[ci]? = some r ∧ ci < 13) (ht : mt M b = (ci, z)) (hdd : d' < d) (hn : As.length = n) (hst : st0 = As.reverse ++ .ref b :: st) (hw : (st.map fun v => v.category).sum ≤ 8) (hc : nc + J.2.2.2.2.1 ≤ I.2.2.2.2.1) (hs : ns + J.2.2.2.2.2 ≤ I.2.2.2.2.2) (hM : Mt G J d' (.ref b :: As) M Post')
    (kk : ∀ v M', Post' v M' → PW G I d Post (pc + 3) ls (v.toList ++ st) M' (nc + J.2.2.2.2.1) (ns + J.2.2.2.2.2)) : PW G I d Post pc ls st0 M nc ns := by
  intro p l e s m args below meth c C H locs la hS hV hl
  have hts := C.2.2.2.2.2.2.1
  have hr := room_ok (I := I) hJ hdd
  obtain ⟨r, hrc, hci⟩ := hcl
  obtain ⟨h1, h2, h3, h4, h5⟩ := hC
  refine run_go (va_runSU (Ts := wsG) (C := r.1) (n := n) (As := As) (rest := st) ((C.2.2.2.2.2.2.2.2.1.1.1 ci r hrc).2) ⟨C.1, C.2.1, C.2.2.1, C.2.2.2.2.2.1, hts⟩ (hM l) ⟨⟨rfl, rfl, hr.1, hr.2, wsM_warm hts hJ.2.1, List.mem_cons_self⟩, hts _ h1, hts _ h2, hts _ h3, hts _ h4, hts _ hJ.2.2.1, hts _ hJ.2.1, h5, hJ.len⟩ ⟨mt_blind G _ M, sim_recv C.2.2.2.2.2.2.2.2 hS ht hrc hci, fun U hU hW => ⟨rfl, env_warm hW hU hV C.2.2.2.2.2.2.2.2, by rw [hU]; exact hS⟩⟩ rfl hn hl.1 hst (lv_room hw) hd ⟨hc, hs⟩) hV fun v M' H1 locs1 hp hS1 hV1 => ?_
  exact kk v M' hp p l e s m args below meth c C H1 locs1 la hS1 hV1 hl
end PWC
/-- the locals at a method's entry -/
def lent : List Value → List Value
  | [] => []
  | v :: vs => if v.category = 2 then v :: .null :: lent vs else v :: lent vs
theorem lent_args : ∀ (vs : List Value) (i j : Nat) (v : Value), (lent vs)[j]? = some v → v ≠ .null → (i + j, v) ∈ lv_args i vs := by
  intro vs
  induction vs with
  | nil => intro i j v h; simp [lent] at h
  | cons u us ih =>
    intro i j v h hn
    unfold lent at h
    unfold lv_args
    by_cases hc : u.category = 2
    · rw [if_pos hc] at h
      match j, h with
      | 0, h => cases h; exact List.mem_cons_self
      | 1, h => cases h; exact absurd rfl hn
      | j + 2, h =>
        refine List.mem_cons_of_mem _ ?_
        have := ih (i + u.category) j v h hn
        rw [hc] at this ⊢
        rw [show i + (j + 2) = i + 2 + j by omega]
        exact this
    · have hc1 : u.category = 1 := by
        cases u <;> first | rfl | exact absurd rfl hc
      rw [if_neg hc] at h
      match j, h with
      | 0, h => cases h; exact List.mem_cons_self
      | j + 1, h =>
        refine List.mem_cons_of_mem _ ?_
        have := ih (i + u.category) j v h hn
        rw [hc1] at this ⊢
        rw [show i + (j + 1) = i + 1 + j by omega]
        exact this
theorem Mt_of {G : GE} {I : MI} {d n : Nat} {args ls : List Value} {M : Mm} {Post : Option Value → Mm → Prop} (hI : MO I n) (hlen : (lg_sl args).length ≤ I.2.2.1) (hls : ∀ (j : Nat) (v : Value), ls[j]? = some v → v ≠ .null → (lent args)[j]? = some v) (h : PW G I d Post 0 ls [] M 0 0) : Mt G I d args M Post := by
  intro l
  refine Met.ofW (cc := I.2.1) (maxL := I.2.2.1) (ret := I.2.2.2.1) hI.1 rfl ?_
  intro p e s m as below meth c s₁ B hml hv
  obtain ⟨rfl, hE, hS⟩ := hv
  have hts0 := atoms_spec (ws := wsM I) B.pre
  have hts : ∀ w ∈ wsG, w.before args.toArray s = true := fun w hw => hts0 w (List.mem_cons_of_mem _ hw)
  have hown : s.vm.findClass I.1.cls = some m.cls := findClass_of_methodNamed B.named
  have hnm : meth.name = I.1.name := (name_of_methodNamed B.named B.method).1
  have hl := lv_entry args (n := I.2.2.1) hlen
  rw [lg_entry_eq]
  generalize (lg_sl args ++ List.replicate (I.2.2.1 - (lg_sl args).length) Slot.unset).toArray = la at hl ⊢
  refine h p l e s m args.toArray below meth c ⟨B.exec, B.bytes, hml, B.returns, B.notSynchronized, hown, hts, hnm, hE⟩ s.heap [] la hS va_S.rf ⟨hl.1, hl.2.1, fun i v h1 h2 => ?_⟩
  have := lent_args args 0 i v (hls i v h1 h2) h2
  rw [Nat.zero_add] at this
  exact hl.2.2 (i, v) this
theorem Mt_mono {G : GE} {I : MI} {d : Nat} {args : List Value} {M : Mm} {Post Post' : Option Value → Mm → Prop} (h : ∀ v M', Post' v M' → Post v M') (k : Mt G I d args M Post') : Mt G I d args M Post := by
  intro l
  have k1 := k l
  unfold Met at k1 ⊢
  exact MetFree.mono k1 (fun _ _ h => h) (fun _ _ _ _ _ h => h) (fun a st o t _ hq => ⟨⟨by obtain ⟨⟨⟨v, M', h1, h2, h3⟩, h4⟩, h5⟩ := hq; exact ⟨v, M', h1, h _ _ h2, h3⟩, hq.1.2⟩, hq.2⟩)

/-! ===== making: voyage, course, search, text ===== -/
theorem PW_ge {G : GE} {I : MI} {d : Nat} {Post : Option Value → Mm → Prop} {pc : Nat} {ls st : List Value} {M : Mm} {nc ns : Nat} (k : ∀ Mx, Mx = M → PW G I d Post pc ls st Mx nc ns) : PW G I d Post pc ls st M nc ns := k M rfl
set_option maxRecDepth 100000 in
set_option maxHeartbeats 4000000 in
theorem spX10_init {G : GE} {d : Nat} {M : Mm} {X v : Nat} (hn : mn M = v + 1) (ht : mt M v = (10, 0)) (hd : 1 ≤ d) : Mt G iX10_init d [.ref v, .ref (X + 1)] M (Nw (fun M' => Gr v M M' 40 ∧ VS M'.2 X v ∧ PV M'.2 v (fun u => u))) := by
  refine Mt_in 1 (ls := [.ref v, .ref (X + 1), .null]) moX10_init (Nat.le_of_ble_eq_true rfl) rfl ?_
  refine PW_aload_n (i := 0) dX10_init_0 rfl rfl ?_
  refine PW_objInit dX10_init_1 oi10_3 oiI oiC (Nat.le_of_ble_eq_true rfl) ?_
  refine PW_aload_n (i := 0) dX10_init_4 rfl rfl ?_
  refine PW_bipush (v := 6) dX10_init_5 (by decide) ?_
  refine PW_newIA (N := 6) (a := v + 1) dX10_init_7 arI (by decide) rfl (by decide) (by first | rfl | exact hn) (Nat.le_of_ble_eq_true rfl) (Nat.le_of_ble_eq_true rfl) ?_
  refine PW_putR dX10_init_9 fr10_9 (fun _ => rfl) (by first | (simp (disch := omega) only [tW, tI, tL, tNs, tNn, iW, iL, iNs, iNn, lW, lI, lNs, lNn, rWs, rWk, rWa, rWf, rNs, rNn, rI_, rL_, ne_eq, not_false_eq_true, ht]; done) | exact (hG.2.1 v (by omega)).1.trans T0.1) ?_
  refine PW_aload_n (i := 0) dX10_init_12 rfl rfl ?_
  refine PW_bipush (v := 6) dX10_init_13 (by decide) ?_
  refine PW_newIA (N := 6) (a := v + 2) dX10_init_15 arI (by decide) rfl (by decide) (by first | rfl | exact hn) (Nat.le_of_ble_eq_true rfl) (Nat.le_of_ble_eq_true rfl) ?_
  refine PW_putR dX10_init_17 fr10_15 (fun _ => rfl) (by first | (simp (disch := omega) only [tW, tI, tL, tNs, tNn, iW, iL, iNs, iNn, lW, lI, lNs, lNn, rWs, rWk, rWa, rWf, rNs, rNn, rI_, rL_, ne_eq, not_false_eq_true, ht]; done) | exact (hG.2.1 v (by omega)).1.trans T0.1) ?_
  refine PW_aload_n (i := 0) dX10_init_20 rfl rfl ?_
  refine PW_bipush (v := 6) dX10_init_21 (by decide) ?_
  refine PW_newIA (N := 6) (a := v + 3) dX10_init_23 arI (by decide) rfl (by decide) (by first | rfl | exact hn) (Nat.le_of_ble_eq_true rfl) (Nat.le_of_ble_eq_true rfl) ?_
  refine PW_putR dX10_init_25 fr10_18 (fun _ => rfl) (by first | (simp (disch := omega) only [tW, tI, tL, tNs, tNn, iW, iL, iNs, iNn, lW, lI, lNs, lNn, rWs, rWk, rWa, rWf, rNs, rNn, rI_, rL_, ne_eq, not_false_eq_true, ht]; done) | exact (hG.2.1 v (by omega)).1.trans T0.1) ?_
  refine PW_aload_n (i := 0) dX10_init_28 rfl rfl ?_
  refine PW_bipush (v := 8) dX10_init_29 (by decide) ?_
  refine PW_anewA (k := 15) (N := 8) (a := v + 4) dX10_init_31 (by decide) (by decide) cl10_21 (by decide) rfl (by decide) (by first | rfl | exact hn) (Nat.le_of_ble_eq_true rfl) (Nat.le_of_ble_eq_true rfl) ?_
  refine PW_putR dX10_init_34 fr10_23 (fun _ => rfl) (by first | (simp (disch := omega) only [tW, tI, tL, tNs, tNn, iW, iL, iNs, iNn, lW, lI, lNs, lNn, rWs, rWk, rWa, rWf, rNs, rNn, rI_, rL_, ne_eq, not_false_eq_true, ht]; done) | exact (hG.2.1 v (by omega)).1.trans T0.1) ?_
  refine PW_aload_n (i := 0) dX10_init_37 rfl rfl ?_
  refine PW_newA (a := v + 5) dX10_init_38 nr10_21 (by first | rfl | exact hn) (Nat.le_of_ble_eq_true rfl) (Nat.le_of_ble_eq_true rfl) ?_
  refine PW_dup dX10_init_41 rfl ?_
  refine PW_aload_n (i := 1) dX10_init_42 rfl rfl ?_
  refine PW_ge (fun Mx eM => ?_)
  have hx : mn Mx = v + 6 := by rw [eM]; rfl
  have T5 : mt Mx (v + 5) = (4, 0) := by rw [eM]; exact tNs _ _ _
  have T0 : mt Mx v = (10, 0) ∧ mt Mx (v + 1) = (13, 6) ∧ mt Mx (v + 2) = (13, 6) ∧ mt Mx (v + 3) = (13, 6) ∧ mt Mx (v + 4) = (15, 8) := by rw [eM]; refine ⟨?_, ?_, ?_, ?_, ?_⟩ <;> simp (disch := omega) only [tW, tI, tL, tNs, tNn, iW, iL, iNs, iNn, lW, lI, lNs, lNn, rWs, rWk, rWa, rWf, rNs, rNn, rI_, rL_, ne_eq, not_false_eq_true, ht]
  have R0 : mr Mx v 1 = some (v + 1) ∧ mr Mx v 2 = some (v + 2) ∧ mr Mx v 3 = some (v + 3) ∧ mr Mx v 4 = some (v + 4) := by rw [eM]; refine ⟨?_, ?_, ?_, ?_⟩ <;> simp (disch := omega) only [tW, tI, tL, tNs, tNn, iW, iL, iNs, iNn, lW, lI, lNs, lNn, rWs, rWk, rWa, rWf, rNs, rNn, rI_, rL_, ne_eq, not_false_eq_true]
  have Z0 : ∀ q, v + 1 ≤ q → q < v + 6 → mi Mx q = fun _ => 0 := fun q h1 h2 => by rw [eM]; rcases (by omega : q = v + 1 ∨ q = v + 2 ∨ q = v + 3 ∨ q = v + 4 ∨ q = v + 5) with rfl | rfl | rfl | rfl | rfl <;> simp (disch := omega) only [tW, tI, tL, tNs, tNn, iW, iL, iNs, iNn, lW, lI, lNs, lNn, rWs, rWk, rWa, rWf, rNs, rNn, rI_, rL_, ne_eq, not_false_eq_true]
  have B0 : ∀ q, q < v + 1 → mt Mx q = mt M q ∧ mi Mx q = mi M q ∧ ml Mx q = ml M q := fun q hq => by rw [eM]; refine ⟨?_, ?_, ?_⟩ <;> simp (disch := omega) only [tW, tI, tL, tNs, tNn, iW, iL, iNs, iNn, lW, lI, lNs, lNn, rWs, rWk, rWa, rWf, rNs, rNn, rI_, rL_, ne_eq, not_false_eq_true]
  have C0 : ∀ q, q < v → mr Mx q = mr M q := fun q hq => by rw [eM]; simp (disch := omega) only [tW, tI, tL, tNs, tNn, iW, iL, iNs, iNn, lW, lI, lNs, lNn, rWs, rWk, rWa, rWf, rNs, rNn, rI_, rL_, ne_eq, not_false_eq_true]
  clear eM
  refine PW_callI dX10_init_43 moX4_init ct10_27 (by omega) rfl rfl (Nat.le_of_ble_eq_true rfl) (Nat.le_of_ble_eq_true rfl) (Nat.le_of_ble_eq_true rfl) (spX4_init (d := d - 1) (X := X) (a := v + 5) hx (T5)) (fun v0 M3 hq => ?_)
  obtain ⟨rfl, hG, hH⟩ := hq
  refine PW_putR dX10_init_46 fr10_30 (fun _ => rfl) (by first | (simp (disch := omega) only [tW, tI, tL, tNs, tNn, iW, iL, iNs, iNn, lW, lI, lNs, lNn, rWs, rWk, rWa, rWf, rNs, rNn, rI_, rL_, ne_eq, not_false_eq_true, ht]; done) | exact (hG.2.1 v (by omega)).1.trans T0.1) ?_
  refine PW_iconst (v := 0) dX10_init_49 (by decide) ?_
  refine PW_istore_n (i := 2) dX10_init_50 rfl (Nat.le_of_ble_eq_true rfl) rfl ?_
  refine PW_nn (nc' := 8 + 4 * 0) (ns' := 52 + 26 * 0) rfl rfl ?_
  have TX : ∀ q, q < v + 6 → mt M3 q = mt Mx q := fun q hq => (hG.2.1 q (by omega)).1
  refine lpX10_init (M0 := wR M3 v 0 (some (v + 5))) (X := X) ((TX v (by omega)).trans T0.1) ((TX (v + 4) (by omega)).trans T0.2.2.2.2) ((rWk _ _ _ _ (by decide)).trans ((congrFun (hG.2.2.1 v (by omega) (by omega)) 4).trans R0.2.2.2)) hd (fun M1 hL => ?_) 9 0 (by decide) (by decide) _ (LG_0 (by show mn M3 = v + 9; rw [hG.1]; omega))
  have ET : ∀ q, q < v + 6 → mt M1 q = mt Mx q := fun q hq => (hL.2.1 q (by omega)).1.trans (hG.2.1 q (by omega)).1
  have EI : ∀ q, q < v + 6 → mi M1 q = mi Mx q ∧ ml M1 q = ml Mx q := fun q hq => ⟨(hL.2.1 q (by omega)).2.1.trans (hG.2.1 q (by omega)).2.1, (hL.2.1 q (by omega)).2.2.1.trans (hG.2.1 q (by omega)).2.2⟩
  have EV : ∀ k, k ≠ 0 → mr M1 v k = mr Mx v k := fun k hk => (congrFun ((hL.2.1 v (by omega)).2.2.2 (by omega)) k).trans ((rWk _ _ _ _ hk).trans (congrFun (hG.2.2.1 v (by omega) (by omega)) k))
  refine ⟨rfl, ⟨by rw [hL.1, hn], fun q hq => ?_, fun q hq hne => ?_, fun q h1 h2 => ?_⟩, ⟨(ET v (by omega)).trans T0.1, (ET _ (by omega)).trans T0.2.1, (ET _ (by omega)).trans T0.2.2.1, (ET _ (by omega)).trans T0.2.2.2.1, (ET _ (by omega)).trans T0.2.2.2.2, (congrFun ((hL.2.1 v (by omega)).2.2.2 (by omega)) 0).trans (rWs _ _ _ _), (EV 1 (by decide)).trans R0.1, (EV 2 (by decide)).trans R0.2.1, (EV 3 (by decide)).trans R0.2.2.1, (EV 4 (by decide)).trans R0.2.2.2, hH.kq (fun q h1 h2 => (hL.2.1 q (by omega)).1) (((hL.2.1 (v + 5) (by omega)).2.2.2 (by omega)).trans (rWf _ _ _ (by omega))), fun u hu => (hL.2.2.2 u hu).2⟩, fun u hu => ⟨hu, (hL.2.2.2 u hu).1⟩, fun u w _ _ e => e⟩
  · exact ⟨(ET q (by omega)).trans (B0 q (by omega)).1, (EI q (by omega)).1.trans (B0 q (by omega)).2.1, (EI q (by omega)).2.trans (B0 q (by omega)).2.2⟩
  · exact ((hL.2.1 q (by omega)).2.2.2 (by omega)).trans ((rWf _ _ _ hne).trans ((hG.2.2.1 q (by omega) (by omega)).trans (C0 q (by omega))))
  · by_cases c1 : q < v + 6
    · exact (EI q c1).1.trans (Z0 q (by omega) c1)
    · by_cases c2 : q < v + 9
      · exact (hL.2.1 q c2).2.1.trans (hG.2.2.2 q (by omega) (by omega))
      · exact hL.2.2.1 q (by omega) (by omega)
set_option maxRecDepth 100000 in
set_option maxHeartbeats 4000000 in
theorem spX3_init {G : GE} {d : Nat} {M : Mm} {X c : Nat} (hn : mn M = c + 1) (ht : mt M c = (3, 0)) (hd : 1 ≤ d) : Mt G iX3_init d [.ref c, .ref (X + 1)] M (Nw (fun M' => Gr c M M' 6 ∧ CU M'.2 X c)) := by
  refine Mt_in 0 (ls := [.ref c, .ref (X + 1)]) moX3_init (Nat.le_of_ble_eq_true rfl) rfl ?_
  refine PW_aload_n (i := 0) dX3_init_0 rfl rfl ?_
  refine PW_objInit dX3_init_1 oi3_3 oiI oiC (Nat.le_of_ble_eq_true rfl) ?_
  refine PW_aload_n (i := 0) dX3_init_4 rfl rfl ?_
  refine PW_bipush (v := 61) dX3_init_5 (by decide) ?_
  refine PW_newIA (N := 61) (a := c + 1) dX3_init_7 arI (by decide) rfl (by decide) (by first | rfl | exact hn) (Nat.le_of_ble_eq_true rfl) (Nat.le_of_ble_eq_true rfl) ?_
  refine PW_putR dX3_init_9 fr3_9 (fun _ => rfl) (by first | (simp (disch := omega) only [tW, tI, tL, tNs, tNn, iW, iL, iNs, iNn, lW, lI, lNs, lNn, rWs, rWk, rWa, rWf, rNs, rNn, rI_, rL_, ne_eq, not_false_eq_true, ht]; done) | exact (hG.2.1 c (by omega)).1.trans T0.1) ?_
  refine PW_aload_n (i := 0) dX3_init_12 rfl rfl ?_
  refine PW_bipush (v := 61) dX3_init_13 (by decide) ?_
  refine PW_newIA (N := 61) (a := c + 2) dX3_init_15 arI (by decide) rfl (by decide) (by first | rfl | exact hn) (Nat.le_of_ble_eq_true rfl) (Nat.le_of_ble_eq_true rfl) ?_
  refine PW_putR dX3_init_17 fr3_15 (fun _ => rfl) (by first | (simp (disch := omega) only [tW, tI, tL, tNs, tNn, iW, iL, iNs, iNn, lW, lI, lNs, lNn, rWs, rWk, rWa, rWf, rNs, rNn, rI_, rL_, ne_eq, not_false_eq_true, ht]; done) | exact (hG.2.1 c (by omega)).1.trans T0.1) ?_
  refine PW_aload_n (i := 0) dX3_init_20 rfl rfl ?_
  refine PW_newA (a := c + 3) dX3_init_21 nr3_18 (by first | rfl | exact hn) (Nat.le_of_ble_eq_true rfl) (Nat.le_of_ble_eq_true rfl) ?_
  refine PW_dup dX3_init_24 rfl ?_
  refine PW_aload_n (i := 1) dX3_init_25 rfl rfl ?_
  refine PW_ge (fun Mx eM => ?_)
  have hx : mn Mx = c + 4 := by rw [eM]; rfl
  have T5 : mt Mx (c + 3) = (4, 0) := by rw [eM]; exact tNs _ _ _
  have T0 : mt Mx c = (3, 0) ∧ mt Mx (c + 1) = (13, 61) ∧ mt Mx (c + 2) = (13, 61) := by rw [eM]; refine ⟨?_, ?_, ?_⟩ <;> simp (disch := omega) only [tW, tI, tL, tNs, tNn, iW, iL, iNs, iNn, lW, lI, lNs, lNn, rWs, rWk, rWa, rWf, rNs, rNn, rI_, rL_, ne_eq, not_false_eq_true, ht]
  have R0 : mr Mx c 1 = some (c + 1) ∧ mr Mx c 2 = some (c + 2) := by rw [eM]; refine ⟨?_, ?_⟩ <;> simp (disch := omega) only [tW, tI, tL, tNs, tNn, iW, iL, iNs, iNn, lW, lI, lNs, lNn, rWs, rWk, rWa, rWf, rNs, rNn, rI_, rL_, ne_eq, not_false_eq_true]
  have Z0 : ∀ q, c + 1 ≤ q → q < c + 4 → mi Mx q = fun _ => 0 := fun q h1 h2 => by rw [eM]; rcases (by omega : q = c + 1 ∨ q = c + 2 ∨ q = c + 3) with rfl | rfl | rfl <;> simp (disch := omega) only [tW, tI, tL, tNs, tNn, iW, iL, iNs, iNn, lW, lI, lNs, lNn, rWs, rWk, rWa, rWf, rNs, rNn, rI_, rL_, ne_eq, not_false_eq_true]
  have B0 : ∀ q, q < c + 1 → mt Mx q = mt M q ∧ mi Mx q = mi M q ∧ ml Mx q = ml M q := fun q hq => by rw [eM]; refine ⟨?_, ?_, ?_⟩ <;> simp (disch := omega) only [tW, tI, tL, tNs, tNn, iW, iL, iNs, iNn, lW, lI, lNs, lNn, rWs, rWk, rWa, rWf, rNs, rNn, rI_, rL_, ne_eq, not_false_eq_true]
  have C0 : ∀ q, q < c → mr Mx q = mr M q := fun q hq => by rw [eM]; simp (disch := omega) only [tW, tI, tL, tNs, tNn, iW, iL, iNs, iNn, lW, lI, lNs, lNn, rWs, rWk, rWa, rWf, rNs, rNn, rI_, rL_, ne_eq, not_false_eq_true]
  clear eM
  refine PW_callI dX3_init_26 moX4_init ct3_20 (by omega) rfl rfl (Nat.le_of_ble_eq_true rfl) (Nat.le_of_ble_eq_true rfl) (Nat.le_of_ble_eq_true rfl) (spX4_init (d := d - 1) (X := X) (a := c + 3) hx (T5)) (fun v0 M3 hq => ?_)
  obtain ⟨rfl, hG, hH⟩ := hq
  refine PW_putR dX3_init_29 fr3_23 (fun _ => rfl) (by first | (simp (disch := omega) only [tW, tI, tL, tNs, tNn, iW, iL, iNs, iNn, lW, lI, lNs, lNn, rWs, rWk, rWa, rWf, rNs, rNn, rI_, rL_, ne_eq, not_false_eq_true, ht]; done) | exact (hG.2.1 c (by omega)).1.trans T0.1) ?_
  refine PW_return rfl dX3_init_32 (Nat.le_of_ble_eq_true rfl) (Nat.le_of_ble_eq_true rfl) ?_
  have ET : ∀ q, q < c + 4 → mt M3 q = mt Mx q := fun q hq => (hG.2.1 q (by omega)).1
  have EV : ∀ k, k ≠ 0 → mr (wR M3 c 0 (some (c + 3))) c k = mr Mx c k := fun k hk => (rWk _ _ _ _ hk).trans (congrFun (hG.2.2.1 c (by omega) (by omega)) k)
  refine ⟨rfl, ⟨by show mn M3 = _; rw [hG.1, hn]; omega, fun q hq => ?_, fun q hq hne => ?_, fun q h1 h2 => ?_⟩, ⟨(ET c (by omega)).trans T0.1, (ET _ (by omega)).trans T0.2.1, (ET _ (by omega)).trans T0.2.2, rWs _ _ _ _, (EV 1 (by decide)).trans R0.1, (EV 2 (by decide)).trans R0.2, hH.kq (fun q h1 h2 => rfl) (rWf _ _ _ (by omega))⟩⟩
  · exact ⟨(ET q (by omega)).trans (B0 q (by omega)).1, (hG.2.1 q (by omega)).2.1.trans (B0 q (by omega)).2.1, (hG.2.1 q (by omega)).2.2.trans (B0 q (by omega)).2.2⟩
  · exact (rWf _ _ _ hne).trans ((hG.2.2.1 q (by omega) (by omega)).trans (C0 q (by omega)))
  · by_cases c1 : q < c + 4
    · exact (hG.2.1 q (by omega)).2.1.trans (Z0 q (by omega) c1)
    · exact hG.2.2.2 q (by omega) (by omega)
set_option maxRecDepth 100000 in
set_option maxHeartbeats 4000000 in
theorem spX6_init {G : GE} {d : Nat} {M : Mm} {X p : Nat} (hn : mn M = p + 1) (ht : mt M p = (6, 0)) (hd : 1 ≤ d) : Mt G iX6_init d [.ref p, .ref (X + 1)] M (Nw (fun M' => Gr p M M' 23 ∧ PS M'.2 X p)) := by
  refine Mt_in 1 (ls := [.ref p, .ref (X + 1), .null]) moX6_init (Nat.le_of_ble_eq_true rfl) rfl ?_
  refine PW_aload_n (i := 0) dX6_init_0 rfl rfl ?_
  refine PW_objInit dX6_init_1 oi6_3 oiI oiC (Nat.le_of_ble_eq_true rfl) ?_
  refine PW_aload_n (i := 0) dX6_init_4 rfl rfl ?_
  refine PW_iconst (v := 5) dX6_init_5 (by decide) ?_
  refine PW_anewA (k := 15) (N := 5) (a := p + 1) dX6_init_6 (by decide) (by decide) cl6_9 (by decide) rfl (by decide) (by first | rfl | exact hn) (Nat.le_of_ble_eq_true rfl) (Nat.le_of_ble_eq_true rfl) ?_
  refine PW_putR dX6_init_9 fr6_11 (fun _ => rfl) (by simp (disch := omega) only [tW, tI, tL, tNs, tNn, iW, iL, iNs, iNn, lW, lI, lNs, lNn, rWs, rWk, rWa, rWf, rNs, rNn, rI_, rL_, ne_eq, not_false_eq_true, ht]) ?_
  refine PW_aload_n (i := 0) dX6_init_12 rfl rfl ?_
  refine PW_iconst (v := 4) dX6_init_13 (by decide) ?_
  refine PW_newIA (N := 4) (a := p + 2) dX6_init_14 arI (by decide) rfl (by decide) (by first | rfl | exact hn) (Nat.le_of_ble_eq_true rfl) (Nat.le_of_ble_eq_true rfl) ?_
  refine PW_putR dX6_init_16 fr6_17 (fun _ => rfl) (by simp (disch := omega) only [tW, tI, tL, tNs, tNn, iW, iL, iNs, iNn, lW, lI, lNs, lNn, rWs, rWk, rWa, rWf, rNs, rNn, rI_, rL_, ne_eq, not_false_eq_true, ht]) ?_
  refine PW_aload_n (i := 0) dX6_init_19 rfl rfl ?_
  refine PW_iconst (v := 4) dX6_init_20 (by decide) ?_
  refine PW_newIA (N := 4) (a := p + 3) dX6_init_21 arI (by decide) rfl (by decide) (by first | rfl | exact hn) (Nat.le_of_ble_eq_true rfl) (Nat.le_of_ble_eq_true rfl) ?_
  refine PW_putR dX6_init_23 fr6_21 (fun _ => rfl) (by simp (disch := omega) only [tW, tI, tL, tNs, tNn, iW, iL, iNs, iNn, lW, lI, lNs, lNn, rWs, rWk, rWa, rWf, rNs, rNn, rI_, rL_, ne_eq, not_false_eq_true, ht]) ?_
  refine PW_iconst (v := 0) dX6_init_26 (by decide) ?_
  refine PW_istore_n (i := 2) dX6_init_27 rfl (Nat.le_of_ble_eq_true rfl) rfl ?_
  refine PW_ge (fun Mx eM => ?_)
  have hx : mn Mx = p + 4 := by rw [eM]; rfl
  have T0 : mt Mx p = (6, 0) ∧ mt Mx (p + 1) = (15, 5) ∧ mt Mx (p + 2) = (13, 4) ∧ mt Mx (p + 3) = (13, 4) := by rw [eM]; refine ⟨?_, ?_, ?_, ?_⟩ <;> simp (disch := omega) only [tW, tI, tL, tNs, tNn, iW, iL, iNs, iNn, lW, lI, lNs, lNn, rWs, rWk, rWa, rWf, rNs, rNn, rI_, rL_, ne_eq, not_false_eq_true, ht]
  have R0 : mr Mx p 0 = some (p + 1) ∧ mr Mx p 1 = some (p + 2) ∧ mr Mx p 2 = some (p + 3) := by rw [eM]; refine ⟨?_, ?_, ?_⟩ <;> simp (disch := omega) only [tW, tI, tL, tNs, tNn, iW, iL, iNs, iNn, lW, lI, lNs, lNn, rWs, rWk, rWa, rWf, rNs, rNn, rI_, rL_, ne_eq, not_false_eq_true]
  have Z0 : ∀ q, p + 1 ≤ q → q < p + 4 → mi Mx q = fun _ => 0 := fun q h1 h2 => by rw [eM]; rcases (by omega : q = p + 1 ∨ q = p + 2 ∨ q = p + 3) with rfl | rfl | rfl <;> simp (disch := omega) only [tW, tI, tL, tNs, tNn, iW, iL, iNs, iNn, lW, lI, lNs, lNn, rWs, rWk, rWa, rWf, rNs, rNn, rI_, rL_, ne_eq, not_false_eq_true]
  have B0 : ∀ q, q < p + 1 → mt Mx q = mt M q ∧ mi Mx q = mi M q ∧ ml Mx q = ml M q := fun q hq => by rw [eM]; refine ⟨?_, ?_, ?_⟩ <;> simp (disch := omega) only [tW, tI, tL, tNs, tNn, iW, iL, iNs, iNn, lW, lI, lNs, lNn, rWs, rWk, rWa, rWf, rNs, rNn, rI_, rL_, ne_eq, not_false_eq_true]
  have C0 : ∀ q, q < p → mr Mx q = mr M q := fun q hq => by rw [eM]; simp (disch := omega) only [tW, tI, tL, tNs, tNn, iW, iL, iNs, iNn, lW, lI, lNs, lNn, rWs, rWk, rWa, rWf, rNs, rNn, rI_, rL_, ne_eq, not_false_eq_true]
  clear eM
  refine PW_nn (nc' := 3 + 4 * 0) (ns' := 13 + 26 * 0) rfl rfl ?_
  refine lpX6_init (M0 := Mx) (X := X) T0.1 T0.2.1 R0.1 hd (fun M1 hL => ?_) 6 0 (by decide) (by decide) _ (LG_0 hx)
  have ET : ∀ q, q < p + 4 → mt M1 q = mt Mx q := fun q hq => (hL.2.1 q (by omega)).1
  have EV : ∀ k, mr M1 p k = mr Mx p k := fun k => congrFun ((hL.2.1 p (by omega)).2.2.2 (by omega)) k
  refine ⟨rfl, ⟨by rw [hL.1, hn], fun q hq => ?_, fun q hq hne => ?_, fun q h1 h2 => ?_⟩, ⟨(ET p (by omega)).trans T0.1, (ET _ (by omega)).trans T0.2.1, (ET _ (by omega)).trans T0.2.2.1, (ET _ (by omega)).trans T0.2.2.2, (EV 0).trans R0.1, (EV 1).trans R0.2.1, (EV 2).trans R0.2.2, fun u hu => hL.2.2.2 u hu⟩⟩
  · exact ⟨(ET q (by omega)).trans (B0 q (by omega)).1, (hL.2.1 q (by omega)).2.1.trans (B0 q (by omega)).2.1, (hL.2.1 q (by omega)).2.2.1.trans (B0 q (by omega)).2.2⟩
  · exact ((hL.2.1 q (by omega)).2.2.2 (by omega)).trans (C0 q (by omega))
  · by_cases c1 : q < p + 4
    · exact (hL.2.1 q c1).2.1.trans (Z0 q (by omega) c1)
    · exact hL.2.2.1 q (by omega) (by omega)
set_option maxRecDepth 100000 in
set_option maxHeartbeats 4000000 in
theorem spX9_init {G : GE} {d : Nat} {M : Mm} {t : Nat} (hn : mn M = t + 1) (ht : mt M t = (9, 0)) : Mt G iX9_init d [.ref t] M (Nw (fun M' => Gr t M M' 1 ∧ TS M'.2 t)) := by
  refine Mt_in 0 (ls := [.ref t]) moX9_init (Nat.le_of_ble_eq_true rfl) rfl ?_
  refine PW_aload_n (i := 0) dX9_init_0 rfl rfl ?_
  refine PW_objInit dX9_init_1 oi9_3 oiI oiC (Nat.le_of_ble_eq_true rfl) ?_
  refine PW_aload_n (i := 0) dX9_init_4 rfl rfl ?_
  refine PW_sipush (v := 150) dX9_init_5 (by decide) ?_
  refine PW_newIA (N := 150) (a := t + 1) dX9_init_8 arI (by decide) rfl (by decide) (by first | rfl | exact hn) (Nat.le_of_ble_eq_true rfl) (Nat.le_of_ble_eq_true rfl) ?_
  refine PW_putR dX9_init_10 fr9_9 (fun _ => rfl) (by simp (disch := omega) only [tW, tI, tL, tNs, tNn, iW, iL, iNs, iNn, lW, lI, lNs, lNn, rWs, rWk, rWa, rWf, rNs, rNn, rI_, rL_, ne_eq, not_false_eq_true, ht]) ?_
  refine PW_return rfl dX9_init_13 (Nat.le_of_ble_eq_true rfl) (Nat.le_of_ble_eq_true rfl) ?_
  refine ⟨rfl, ⟨by rw [hn]; rfl, fun q hq => ?_, fun q hq hne => ?_, fun q h1 h2 => ?_⟩, ?_⟩
  · refine ⟨?_, ?_, ?_⟩ <;> simp (disch := omega) only [tW, tI, tL, tNs, tNn, iW, iL, iNs, iNn, lW, lI, lNs, lNn, rWs, rWk, rWa, rWf, rNs, rNn, rI_, rL_, ne_eq, not_false_eq_true]
  · simp (disch := omega) only [tW, tI, tL, tNs, tNn, iW, iL, iNs, iNn, lW, lI, lNs, lNn, rWs, rWk, rWa, rWf, rNs, rNn, rI_, rL_, ne_eq, not_false_eq_true]
  · rcases (by omega : q = t + 1) with rfl; simp (disch := omega) only [tW, tI, tL, tNs, tNn, iW, iL, iNs, iNn, lW, lI, lNs, lNn, rWs, rWk, rWa, rWf, rNs, rNn, rI_, rL_, ne_eq, not_false_eq_true]
  · refine ⟨?_, ?_, ?_⟩ <;> simp (disch := omega) only [sT_mt, sR_mr, tW, tI, tL, tNs, tNn, iW, iL, iNs, iNn, lW, lI, lNs, lNn, rWs, rWk, rWa, rWf, rNs, rNn, rI_, rL_, ne_eq, not_false_eq_true, ht]

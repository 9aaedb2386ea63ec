/-! ===== making: the class ===== -/
def SB (X : Nat) (M Mj Mb Mc : Mm) (e o k n : Nat) : Prop := Iv X M Mc ∧ mn Mc = e + 1 + n ∧ (∀ q, q < e → mt Mc q = mt Mj q ∧ (q ≠ o → mr Mc q = mr Mj q)) ∧ mr Mc o k = some e ∧ (∀ j, j ≠ k → mr Mc o j = mr Mj o j) ∧ ∀ q, e ≤ q → mt Mc q = mt Mb q ∧ mr Mc q = mr Mb q
set_option maxRecDepth 100000 in
set_option maxHeartbeats 4000000 in
theorem X11_end {X : Nat} {M M0 M1 M2 M3 M4 M5 M6 M7 M8 M9 M10 B1 B2 B4 B5 B7 B8 B9 B10 : Mm} (KS0 : KS M0.2 X) (b1 : SB X M M0 B1 M1 (X + 8) X 0 40) (b2 : SB X M M1 B2 M2 (X + 49) X 1 40) (b3 : SB X M M2 (wNa M2 (X + 90) (17, 2)) M3 (X + 90) X 2 0) (b4 : SB X M M3 B4 M4 (X + 91) (X + 90) 0 40) (b5 : SB X M M4 B5 M5 (X + 132) (X + 90) 1 40) (b6 : SB X M M5 (wNa M5 (X + 173) (14, 2)) M6 (X + 173) X 3 0) (b7 : SB X M M6 B7 M7 (X + 174) X 4 3) (b8 : SB X M M7 B8 M8 (X + 178) X 5 6) (b9 : SB X M M8 B9 M9 (X + 185) X 6 23) (b10 : SB X M M9 B10 M10 (X + 209) X 7 1) (A5 : mt M5 (X + 90) = (17, 2)) (hS1 : VS B1.2 X (X + 8)) (hS2 : VS B2.2 X (X + 49)) (hS4 : VS B4.2 X (X + 91)) (hS5 : VS B5.2 X (X + 132)) (hS7 : HS B7.2 X (X + 174)) (hS8 : CU B8.2 X (X + 178)) (hS9 : PS B9.2 X (X + 185)) (hS10 : TS B10.2 (X + 209)) (hP1 : PV B1.2 (X + 8) (fun u => u)) (hP2 : PV B2.2 (X + 49) (fun u => u)) (hP4 : PV B4.2 (X + 91) (fun u => u)) (hP5 : PV B5.2 (X + 132) (fun u => u)) : Nw (fun M' => CI M' X ab0 ∧ mn M' = X + 211 ∧ Bl X M M') none (wI (wI M10 X 8 0) X 9 1) := by
  obtain ⟨-, -, K1, r1, s1, u1⟩ := b1
  obtain ⟨-, -, K2, r2, s2, u2⟩ := b2
  obtain ⟨-, -, K3, r3, s3, u3⟩ := b3
  obtain ⟨-, -, K4, r4, s4, u4⟩ := b4
  obtain ⟨-, -, K5, r5, s5, u5⟩ := b5
  obtain ⟨-, -, K6, r6, s6, u6⟩ := b6
  obtain ⟨-, -, K7, r7, s7, u7⟩ := b7
  obtain ⟨-, -, K8, r8, s8, u8⟩ := b8
  obtain ⟨-, -, K9, r9, s9, u9⟩ := b9
  obtain ⟨I10, n10, K10, r10, s10, u10⟩ := b10
  have Q10 : ∀ q, X < q → q < X + 211 → q ≠ X + 90 → mt M10 q = mt M10 q ∧ mr M10 q = mr M10 q := fun _ _ _ _ => ⟨rfl, rfl⟩
  have Q9 : ∀ q, X < q → q < X + 209 → q ≠ X + 90 → mt M10 q = mt M9 q ∧ mr M10 q = mr M9 q := fun q h1 h2 h3 => ⟨(Q10 q h1 (by omega) h3).1.trans (K10 q (by omega)).1, (Q10 q h1 (by omega) h3).2.trans ((K10 q (by omega)).2 (by omega))⟩
  have Q8 : ∀ q, X < q → q < X + 185 → q ≠ X + 90 → mt M10 q = mt M8 q ∧ mr M10 q = mr M8 q := fun q h1 h2 h3 => ⟨(Q9 q h1 (by omega) h3).1.trans (K9 q (by omega)).1, (Q9 q h1 (by omega) h3).2.trans ((K9 q (by omega)).2 (by omega))⟩
  have Q7 : ∀ q, X < q → q < X + 178 → q ≠ X + 90 → mt M10 q = mt M7 q ∧ mr M10 q = mr M7 q := fun q h1 h2 h3 => ⟨(Q8 q h1 (by omega) h3).1.trans (K8 q (by omega)).1, (Q8 q h1 (by omega) h3).2.trans ((K8 q (by omega)).2 (by omega))⟩
  have Q6 : ∀ q, X < q → q < X + 174 → q ≠ X + 90 → mt M10 q = mt M6 q ∧ mr M10 q = mr M6 q := fun q h1 h2 h3 => ⟨(Q7 q h1 (by omega) h3).1.trans (K7 q (by omega)).1, (Q7 q h1 (by omega) h3).2.trans ((K7 q (by omega)).2 (by omega))⟩
  have Q5 : ∀ q, X < q → q < X + 173 → q ≠ X + 90 → mt M10 q = mt M5 q ∧ mr M10 q = mr M5 q := fun q h1 h2 h3 => ⟨(Q6 q h1 (by omega) h3).1.trans (K6 q (by omega)).1, (Q6 q h1 (by omega) h3).2.trans ((K6 q (by omega)).2 (by omega))⟩
  have Q4 : ∀ q, X < q → q < X + 132 → q ≠ X + 90 → mt M10 q = mt M4 q ∧ mr M10 q = mr M4 q := fun q h1 h2 h3 => ⟨(Q5 q h1 (by omega) h3).1.trans (K5 q (by omega)).1, (Q5 q h1 (by omega) h3).2.trans ((K5 q (by omega)).2 (by omega))⟩
  have Q3 : ∀ q, X < q → q < X + 91 → q ≠ X + 90 → mt M10 q = mt M3 q ∧ mr M10 q = mr M3 q := fun q h1 h2 h3 => ⟨(Q4 q h1 (by omega) h3).1.trans (K4 q (by omega)).1, (Q4 q h1 (by omega) h3).2.trans ((K4 q (by omega)).2 (by omega))⟩
  have Q2 : ∀ q, X < q → q < X + 90 → q ≠ X + 90 → mt M10 q = mt M2 q ∧ mr M10 q = mr M2 q := fun q h1 h2 h3 => ⟨(Q3 q h1 (by omega) h3).1.trans (K3 q (by omega)).1, (Q3 q h1 (by omega) h3).2.trans ((K3 q (by omega)).2 (by omega))⟩
  have Q1 : ∀ q, X < q → q < X + 49 → q ≠ X + 90 → mt M10 q = mt M1 q ∧ mr M10 q = mr M1 q := fun q h1 h2 h3 => ⟨(Q2 q h1 (by omega) h3).1.trans (K2 q (by omega)).1, (Q2 q h1 (by omega) h3).2.trans ((K2 q (by omega)).2 (by omega))⟩
  have Q0 : ∀ q, X < q → q < X + 8 → q ≠ X + 90 → mt M10 q = mt M0 q ∧ mr M10 q = mr M0 q := fun q h1 h2 h3 => ⟨(Q1 q h1 (by omega) h3).1.trans (K1 q (by omega)).1, (Q1 q h1 (by omega) h3).2.trans ((K1 q (by omega)).2 (by omega))⟩
  have a90 : mt M10 (X + 90) = (17, 2) := (K10 (X + 90) (by omega)).1.trans ((K9 (X + 90) (by omega)).1.trans ((K8 (X + 90) (by omega)).1.trans ((K7 (X + 90) (by omega)).1.trans ((K6 (X + 90) (by omega)).1.trans A5))))
  have b90 : ∀ k, mr M10 (X + 90) k = mr M5 (X + 90) k := fun k => (congrFun ((K10 (X + 90) (by omega)).2 (by omega)) k).trans ((congrFun ((K9 (X + 90) (by omega)).2 (by omega)) k).trans ((congrFun ((K8 (X + 90) (by omega)).2 (by omega)) k).trans ((congrFun ((K7 (X + 90) (by omega)).2 (by omega)) k).trans ((congrFun ((K6 (X + 90) (by omega)).2 (by omega)) k)))))
  have hCS : CS M10.2 X := ⟨I10.2.1, ⟨(s10 0 (by decide)).trans ((s9 0 (by decide)).trans ((s8 0 (by decide)).trans ((s7 0 (by decide)).trans ((s6 0 (by decide)).trans ((congrFun ((K5 X (by omega)).2 (by omega)) 0).trans ((congrFun ((K4 X (by omega)).2 (by omega)) 0).trans ((s3 0 (by decide)).trans ((s2 0 (by decide)).trans (r1))))))))), (s10 1 (by decide)).trans ((s9 1 (by decide)).trans ((s8 1 (by decide)).trans ((s7 1 (by decide)).trans ((s6 1 (by decide)).trans ((congrFun ((K5 X (by omega)).2 (by omega)) 1).trans ((congrFun ((K4 X (by omega)).2 (by omega)) 1).trans ((s3 1 (by decide)).trans (r2)))))))), (s10 2 (by decide)).trans ((s9 2 (by decide)).trans ((s8 2 (by decide)).trans ((s7 2 (by decide)).trans ((s6 2 (by decide)).trans ((congrFun ((K5 X (by omega)).2 (by omega)) 2).trans ((congrFun ((K4 X (by omega)).2 (by omega)) 2).trans (r3))))))), (s10 3 (by decide)).trans ((s9 3 (by decide)).trans ((s8 3 (by decide)).trans ((s7 3 (by decide)).trans (r6)))), (s10 4 (by decide)).trans ((s9 4 (by decide)).trans ((s8 4 (by decide)).trans (r7))), (s10 5 (by decide)).trans ((s9 5 (by decide)).trans (r8)), (s10 6 (by decide)).trans (r9), r10⟩, KS0.k2 (fun q h1 h2 => Q0 q (by omega) (by omega) (by omega)), ⟨hS1.k2 (fun q h1 h2 => ⟨(Q1 q (by omega) (by omega) (by omega)).1.trans (u1 q (by omega)).1, (Q1 q (by omega) (by omega) (by omega)).2.trans (u1 q (by omega)).2⟩), hS2.k2 (fun q h1 h2 => ⟨(Q2 q (by omega) (by omega) (by omega)).1.trans (u2 q (by omega)).1, (Q2 q (by omega) (by omega) (by omega)).2.trans (u2 q (by omega)).2⟩), hS4.k2 (fun q h1 h2 => ⟨(Q4 q (by omega) (by omega) (by omega)).1.trans (u4 q (by omega)).1, (Q4 q (by omega) (by omega) (by omega)).2.trans (u4 q (by omega)).2⟩), hS5.k2 (fun q h1 h2 => ⟨(Q5 q (by omega) (by omega) (by omega)).1.trans (u5 q (by omega)).1, (Q5 q (by omega) (by omega) (by omega)).2.trans (u5 q (by omega)).2⟩)⟩, ⟨a90, (b90 0).trans ((s5 0 (by decide)).trans r4), (b90 1).trans r5⟩, ((Q6 (X + 173) (by omega) (by omega) (by omega)).1.trans (u6 _ (by omega)).1).trans (tNs _ _ _), hS7.k2 (fun q h1 h2 => ⟨(Q7 q (by omega) (by omega) (by omega)).1.trans (u7 q (by omega)).1, (Q7 q (by omega) (by omega) (by omega)).2.trans (u7 q (by omega)).2⟩), hS8.k2 (fun q h1 h2 => ⟨(Q8 q (by omega) (by omega) (by omega)).1.trans (u8 q (by omega)).1, (Q8 q (by omega) (by omega) (by omega)).2.trans (u8 q (by omega)).2⟩), hS9.k2 (fun q h1 h2 => ⟨(Q9 q (by omega) (by omega) (by omega)).1.trans (u9 q (by omega)).1, (Q9 q (by omega) (by omega) (by omega)).2.trans (u9 q (by omega)).2⟩), hS10.k2 (fun q h1 h2 => ⟨(Q10 q (by omega) (by omega) (by omega)).1.trans (u10 q (by omega)).1, (Q10 q (by omega) (by omega) (by omega)).2.trans (u10 q (by omega)).2⟩)⟩
  have hZ : ∀ q, X < q → q < X + 211 → mi (wI (wI M10 X 8 0) X 9 1) q = fun _ => 0 := fun q h1 h2 => by rw [rI_f _ _ (by omega), rI_f _ _ (by omega)]; exact I10.2.2 q (by omega) (by omega)
  have z0 := I10.2.2 X (by omega) (by omega)
  refine ⟨rfl, ⟨fun _ u => u, ⟨hCS, hP1.k2 (fun q h1 h2 => ⟨(Q1 q (by omega) (by omega) (by omega)).1.trans (u1 q (by omega)).1, (Q1 q (by omega) (by omega) (by omega)).2.trans (u1 q (by omega)).2⟩), hP2.k2 (fun q h1 h2 => ⟨(Q2 q (by omega) (by omega) (by omega)).1.trans (u2 q (by omega)).1, (Q2 q (by omega) (by omega) (by omega)).2.trans (u2 q (by omega)).2⟩), hP4.k2 (fun q h1 h2 => ⟨(Q4 q (by omega) (by omega) (by omega)).1.trans (u4 q (by omega)).1, (Q4 q (by omega) (by omega) (by omega)).2.trans (u4 q (by omega)).2⟩), hP5.k2 (fun q h1 h2 => ⟨(Q5 q (by omega) (by omega) (by omega)).1.trans (u5 q (by omega)).1, (Q5 q (by omega) (by omega) (by omega)).2.trans (u5 q (by omega)).2⟩)⟩, VR0 (fun q h1 h2 => hZ q (by omega) (by omega)), (fun h => by cases h), (fun h => by cases h), ⟨?_, ?_⟩, ⟨?_, ?_, ?_, ?_, ?_⟩, ?_, fun j hj => absurd hj (Nat.not_lt_zero j)⟩, n10, fun q hq => ?_⟩
  · rw [hZ _ (by omega) (by omega)]; rfl
  · rw [hZ _ (by omega) (by omega)]; rfl
  · rw [rI_k _ _ _ (by decide), rI_s]; rfl
  · rw [rI_s]; rfl
  · rw [rI_k _ _ _ (by decide), rI_k _ _ _ (by decide), z0]; rfl
  · rw [rI_k _ _ _ (by decide), rI_k _ _ _ (by decide), z0]; rfl
  · rw [rI_k _ _ _ (by decide), rI_k _ _ _ (by decide), z0]; rfl
  · rw [hZ _ (by omega) (by omega)]; rfl
  · obtain ⟨a1, a2, a3, a4⟩ := I10.1 q hq
    exact ⟨a1, by rw [rI_f _ _ (by omega), rI_f _ _ (by omega)]; exact a2, a3, a4⟩
set_option maxRecDepth 100000 in
set_option maxHeartbeats 4000000 in
theorem spX11_init {G : GE} {d : Nat} {M : Mm} {X : Nat} (hn : mn M = X + 1) (ht : mt M X = (11, 0)) (hz : mi M X = fun _ => 0) (hd : 4 ≤ d) : Mt G iX11_init d [.ref X] M (Nw (fun M' => CI M' X ab0 ∧ mn M' = X + 211 ∧ Bl X M M')) := by
  refine Mt_in 2 (ls := [.ref X, .null, .null]) moX11_init (Nat.le_of_ble_eq_true rfl) rfl ?_
  refine PW_aload_n (i := 0) dX11_init_0 rfl rfl ?_
  refine PW_objInit dX11_init_1 oi11_1 oiI oiC (Nat.le_of_ble_eq_true rfl) ?_
  refine PW_bipush (v := 6) dX11_init_4 (by decide) ?_
  refine PW_anewA (k := 16) (N := 6) (a := X + 1) dX11_init_6 (by decide) (by decide) cl11_9 (by decide) rfl (by decide) (by first | rfl | exact hn) (Nat.le_of_ble_eq_true rfl) (Nat.le_of_ble_eq_true rfl) ?_
  refine PW_astore_n (i := 1) dX11_init_9 rfl (Nat.le_of_ble_eq_true rfl) rfl ?_
  refine PW_aload_n (i := 1) dX11_init_10 rfl rfl ?_
  refine PW_iconst (v := 0) dX11_init_11 (by decide) ?_
  refine PW_newA (a := X + 2) dX11_init_12 nr11_9 (by first | rfl | exact hn) (Nat.le_of_ble_eq_true rfl) (Nat.le_of_ble_eq_true rfl) ?_
  refine PW_dup dX11_init_15 rfl ?_
  refine PW_callI dX11_init_16 moX7_init ct11_11 (by omega) rfl rfl (Nat.le_of_ble_eq_true rfl) (Nat.le_of_ble_eq_true rfl) (Nat.le_of_ble_eq_true rfl) (spX7_init (d := d - 1)) (fun v0 M1 hq => ?_)
  obtain ⟨rfl, rfl⟩ := hq
  refine PW_aas (j := 0) dX11_init_19 (show mt _ (X + 1) = (16, 6) from by simp (disch := omega) only [tW, tI, tL, tNs, tNn, iW, iL, iNs, iNn, lW, lI, lNs, lNn, rWs, rWk, rWa, rWf, rNs, rNn, rI_, rL_, ne_eq, not_false_eq_true, ht]) (by decide) (by decide) (by decide) (by decide) (show mt _ (X + 2) = (7, 0) from by simp (disch := omega) only [tW, tI, tL, tNs, tNn, iW, iL, iNs, iNn, lW, lI, lNs, lNn, rWs, rWk, rWa, rWf, rNs, rNn, rI_, rL_, ne_eq, not_false_eq_true, ht]) eo16_7 ?_
  refine PW_aload_n (i := 1) dX11_init_20 rfl rfl ?_
  refine PW_iconst (v := 1) dX11_init_21 (by decide) ?_
  refine PW_newA (a := X + 3) dX11_init_22 nr11_12 (by first | rfl | exact hn) (Nat.le_of_ble_eq_true rfl) (Nat.le_of_ble_eq_true rfl) ?_
  refine PW_dup dX11_init_25 rfl ?_
  refine PW_callI dX11_init_26 moX1_init ct11_14 (by omega) rfl rfl (Nat.le_of_ble_eq_true rfl) (Nat.le_of_ble_eq_true rfl) (Nat.le_of_ble_eq_true rfl) (spX1_init (d := d - 1) (by omega)) (fun v0 M1 hq => ?_)
  obtain ⟨rfl, rfl⟩ := hq
  refine PW_aas (j := 1) dX11_init_29 (show mt _ (X + 1) = (16, 6) from by simp (disch := omega) only [tW, tI, tL, tNs, tNn, iW, iL, iNs, iNn, lW, lI, lNs, lNn, rWs, rWk, rWa, rWf, rNs, rNn, rI_, rL_, ne_eq, not_false_eq_true, ht]) (by decide) (by decide) (by decide) (by decide) (show mt _ (X + 3) = (1, 0) from by simp (disch := omega) only [tW, tI, tL, tNs, tNn, iW, iL, iNs, iNn, lW, lI, lNs, lNn, rWs, rWk, rWa, rWf, rNs, rNn, rI_, rL_, ne_eq, not_false_eq_true, ht]) eo16_1 ?_
  refine PW_aload_n (i := 1) dX11_init_30 rfl rfl ?_
  refine PW_iconst (v := 2) dX11_init_31 (by decide) ?_
  refine PW_newA (a := X + 4) dX11_init_32 nr11_15 (by first | rfl | exact hn) (Nat.le_of_ble_eq_true rfl) (Nat.le_of_ble_eq_true rfl) ?_
  refine PW_dup dX11_init_35 rfl ?_
  refine PW_callI dX11_init_36 moX8_init ct11_17 (by omega) rfl rfl (Nat.le_of_ble_eq_true rfl) (Nat.le_of_ble_eq_true rfl) (Nat.le_of_ble_eq_true rfl) (spX8_init (d := d - 1) (by omega)) (fun v0 M1 hq => ?_)
  obtain ⟨rfl, rfl⟩ := hq
  refine PW_aas (j := 2) dX11_init_39 (show mt _ (X + 1) = (16, 6) from by simp (disch := omega) only [tW, tI, tL, tNs, tNn, iW, iL, iNs, iNn, lW, lI, lNs, lNn, rWs, rWk, rWa, rWf, rNs, rNn, rI_, rL_, ne_eq, not_false_eq_true, ht]) (by decide) (by decide) (by decide) (by decide) (show mt _ (X + 4) = (8, 0) from by simp (disch := omega) only [tW, tI, tL, tNs, tNn, iW, iL, iNs, iNn, lW, lI, lNs, lNn, rWs, rWk, rWa, rWf, rNs, rNn, rI_, rL_, ne_eq, not_false_eq_true, ht]) eo16_8 ?_
  refine PW_aload_n (i := 1) dX11_init_40 rfl rfl ?_
  refine PW_iconst (v := 3) dX11_init_41 (by decide) ?_
  refine PW_newA (a := X + 5) dX11_init_42 nr11_18 (by first | rfl | exact hn) (Nat.le_of_ble_eq_true rfl) (Nat.le_of_ble_eq_true rfl) ?_
  refine PW_dup dX11_init_45 rfl ?_
  refine PW_callI dX11_init_46 moX2_init ct11_20 (by omega) rfl rfl (Nat.le_of_ble_eq_true rfl) (Nat.le_of_ble_eq_true rfl) (Nat.le_of_ble_eq_true rfl) (spX2_init (d := d - 1) (by omega)) (fun v0 M1 hq => ?_)
  obtain ⟨rfl, rfl⟩ := hq
  refine PW_aas (j := 3) dX11_init_49 (show mt _ (X + 1) = (16, 6) from by simp (disch := omega) only [tW, tI, tL, tNs, tNn, iW, iL, iNs, iNn, lW, lI, lNs, lNn, rWs, rWk, rWa, rWf, rNs, rNn, rI_, rL_, ne_eq, not_false_eq_true, ht]) (by decide) (by decide) (by decide) (by decide) (show mt _ (X + 5) = (2, 0) from by simp (disch := omega) only [tW, tI, tL, tNs, tNn, iW, iL, iNs, iNn, lW, lI, lNs, lNn, rWs, rWk, rWa, rWf, rNs, rNn, rI_, rL_, ne_eq, not_false_eq_true, ht]) eo16_2 ?_
  refine PW_aload_n (i := 1) dX11_init_50 rfl rfl ?_
  refine PW_iconst (v := 4) dX11_init_51 (by decide) ?_
  refine PW_newA (a := X + 6) dX11_init_52 nr11_21 (by first | rfl | exact hn) (Nat.le_of_ble_eq_true rfl) (Nat.le_of_ble_eq_true rfl) ?_
  refine PW_dup dX11_init_55 rfl ?_
  refine PW_callI dX11_init_56 moX5_init ct11_23 (by omega) rfl rfl (Nat.le_of_ble_eq_true rfl) (Nat.le_of_ble_eq_true rfl) (Nat.le_of_ble_eq_true rfl) (spX5_init (d := d - 1) (by omega)) (fun v0 M1 hq => ?_)
  obtain ⟨rfl, rfl⟩ := hq
  refine PW_aas (j := 4) dX11_init_59 (show mt _ (X + 1) = (16, 6) from by simp (disch := omega) only [tW, tI, tL, tNs, tNn, iW, iL, iNs, iNn, lW, lI, lNs, lNn, rWs, rWk, rWa, rWf, rNs, rNn, rI_, rL_, ne_eq, not_false_eq_true, ht]) (by decide) (by decide) (by decide) (by decide) (show mt _ (X + 6) = (5, 0) from by simp (disch := omega) only [tW, tI, tL, tNs, tNn, iW, iL, iNs, iNn, lW, lI, lNs, lNn, rWs, rWk, rWa, rWf, rNs, rNn, rI_, rL_, ne_eq, not_false_eq_true, ht]) eo16_5 ?_
  refine PW_aload_n (i := 1) dX11_init_60 rfl rfl ?_
  refine PW_iconst (v := 5) dX11_init_61 (by decide) ?_
  refine PW_newA (a := X + 7) dX11_init_62 nr11_24 (by first | rfl | exact hn) (Nat.le_of_ble_eq_true rfl) (Nat.le_of_ble_eq_true rfl) ?_
  refine PW_dup dX11_init_65 rfl ?_
  refine PW_callI dX11_init_66 moX0_init ct11_26 (by omega) rfl rfl (Nat.le_of_ble_eq_true rfl) (Nat.le_of_ble_eq_true rfl) (Nat.le_of_ble_eq_true rfl) (spX0_init (d := d - 1) (by omega)) (fun v0 M1 hq => ?_)
  obtain ⟨rfl, rfl⟩ := hq
  refine PW_aas (j := 5) dX11_init_69 (show mt _ (X + 1) = (16, 6) from by simp (disch := omega) only [tW, tI, tL, tNs, tNn, iW, iL, iNs, iNn, lW, lI, lNs, lNn, rWs, rWk, rWa, rWf, rNs, rNn, rI_, rL_, ne_eq, not_false_eq_true, ht]) (by decide) (by decide) (by decide) (by decide) (show mt _ (X + 7) = (0, 0) from by simp (disch := omega) only [tW, tI, tL, tNs, tNn, iW, iL, iNs, iNn, lW, lI, lNs, lNn, rWs, rWk, rWa, rWf, rNs, rNn, rI_, rL_, ne_eq, not_false_eq_true, ht]) eo16_0 ?_
  refine PW_aload_n (i := 0) dX11_init_70 rfl rfl ?_
  refine PW_ge (fun M0 e0 => ?_)
  have n0 : mn M0 = X + 8 := by rw [e0]; rfl
  have hn := n0
  have KS0 : KS M0.2 X := by
    rw [e0]
    refine ⟨?_, ⟨?_, ?_, ?_, ?_, ?_, ?_⟩, ?_, ?_, ?_, ?_, ?_, ?_⟩ <;> simp (disch := omega) only [sT_mt, sR_mr, tW, tI, tL, tNs, tNn, iW, iL, iNs, iNn, lW, lI, lNs, lNn, rWs, rWk, rWa, rWf, rNs, rNn, rI_, rL_, ne_eq, not_false_eq_true, ht]
  have I0 : Iv X M M0 := by
    rw [e0]
    refine ⟨fun q hq => ⟨?_, ?_, ?_, ?_⟩, ?_, fun q h1 h2 => ?_⟩
    · simp (disch := omega) only [tW, tI, tL, tNs, tNn, iW, iL, iNs, iNn, lW, lI, lNs, lNn, rWs, rWk, rWa, rWf, rNs, rNn, rI_, rL_, ne_eq, not_false_eq_true]
    · simp (disch := omega) only [tW, tI, tL, tNs, tNn, iW, iL, iNs, iNn, lW, lI, lNs, lNn, rWs, rWk, rWa, rWf, rNs, rNn, rI_, rL_, ne_eq, not_false_eq_true]
    · simp (disch := omega) only [tW, tI, tL, tNs, tNn, iW, iL, iNs, iNn, lW, lI, lNs, lNn, rWs, rWk, rWa, rWf, rNs, rNn, rI_, rL_, ne_eq, not_false_eq_true]
    · simp (disch := omega) only [tW, tI, tL, tNs, tNn, iW, iL, iNs, iNn, lW, lI, lNs, lNn, rWs, rWk, rWa, rWf, rNs, rNn, rI_, rL_, ne_eq, not_false_eq_true]
    · simp (disch := omega) only [tW, tI, tL, tNs, tNn, iW, iL, iNs, iNn, lW, lI, lNs, lNn, rWs, rWk, rWa, rWf, rNs, rNn, rI_, rL_, ne_eq, not_false_eq_true, ht]
    · replace h2 : q < X + 8 := h2
      rcases (by omega : q = X ∨ q = X + 1 ∨ q = X + 2 ∨ q = X + 3 ∨ q = X + 4 ∨ q = X + 5 ∨ q = X + 6 ∨ q = X + 7) with rfl | rfl | rfl | rfl | rfl | rfl | rfl | rfl <;> simp (disch := omega) only [tW, tI, tL, tNs, tNn, iW, iL, iNs, iNn, lW, lI, lNs, lNn, rWs, rWk, rWa, rWf, rNs, rNn, rI_, rL_, ne_eq, not_false_eq_true, hz]
  clear e0
  refine PW_newA (a := X + 8) dX11_init_71 nr11_27 (by first | rfl | exact hn) (Nat.le_of_ble_eq_true rfl) (Nat.le_of_ble_eq_true rfl) ?_
  refine PW_dup dX11_init_74 rfl ?_
  refine PW_aload_n (i := 1) dX11_init_75 rfl rfl ?_
  refine PW_callI dX11_init_76 moX10_init ct11_29 (by omega) rfl rfl (Nat.le_of_ble_eq_true rfl) (Nat.le_of_ble_eq_true rfl) (Nat.le_of_ble_eq_true rfl) (spX10_init (d := d - 1) (X := X) (v := X + 8) rfl (tNs _ _ _) (by omega)) (fun v0 B1 hq => ?_)
  obtain ⟨rfl, hG1, hS1, hP1⟩ := hq
  refine PW_putR dX11_init_79 fr11_32 (fun _ => rfl) (by first | exact (hG1.2.1 X (show X < X + 8 + 1 by omega)).1.trans ((tNn _ _ (by omega)).trans I0.2.1) | exact (hG2.2.1 X (show X < X + 49 + 1 by omega)).1.trans ((tNn _ _ (by omega)).trans I1.2.1) | exact (tNn _ _ (by omega)).trans I2.2.1 | (simp (disch := omega) only [tW, tI, tL, tNs, tNn, iW, iL, iNs, iNn, lW, lI, lNs, lNn, rWs, rWk, rWa, rWf, rNs, rNn, rI_, rL_, ne_eq, not_false_eq_true, ht]; done)) ?_
  refine PW_ge (fun M1 e1 => ?_)
  have b1 : SB X M M0 B1 M1 (X + 8) X 0 40 := Sb (e := X + 8) I0 n0 (Nat.lt_add_of_pos_right (by decide)) hG1 (Nat.le_refl _) (Nat.lt_add_of_pos_right (by decide)) e1
  clear e1
  have I1 := b1.1
  have n1 := b1.2.1
  have hn := n1
  refine PW_aload_n (i := 0) dX11_init_82 rfl rfl ?_
  refine PW_newA (a := X + 49) dX11_init_83 nr11_27 (by first | rfl | exact hn) (Nat.le_of_ble_eq_true rfl) (Nat.le_of_ble_eq_true rfl) ?_
  refine PW_dup dX11_init_86 rfl ?_
  refine PW_aload_n (i := 1) dX11_init_87 rfl rfl ?_
  refine PW_callI dX11_init_88 moX10_init ct11_29 (by omega) rfl rfl (Nat.le_of_ble_eq_true rfl) (Nat.le_of_ble_eq_true rfl) (Nat.le_of_ble_eq_true rfl) (spX10_init (d := d - 1) (X := X) (v := X + 49) rfl (tNs _ _ _) (by omega)) (fun v0 B2 hq => ?_)
  obtain ⟨rfl, hG2, hS2, hP2⟩ := hq
  refine PW_putR dX11_init_91 fr11_36 (fun _ => rfl) (by first | exact (hG1.2.1 X (show X < X + 8 + 1 by omega)).1.trans ((tNn _ _ (by omega)).trans I0.2.1) | exact (hG2.2.1 X (show X < X + 49 + 1 by omega)).1.trans ((tNn _ _ (by omega)).trans I1.2.1) | exact (tNn _ _ (by omega)).trans I2.2.1 | (simp (disch := omega) only [tW, tI, tL, tNs, tNn, iW, iL, iNs, iNn, lW, lI, lNs, lNn, rWs, rWk, rWa, rWf, rNs, rNn, rI_, rL_, ne_eq, not_false_eq_true, ht]; done)) ?_
  refine PW_ge (fun M2 e2 => ?_)
  have b2 : SB X M M1 B2 M2 (X + 49) X 1 40 := Sb (e := X + 49) I1 n1 (Nat.lt_add_of_pos_right (by decide)) hG2 (Nat.le_refl _) (Nat.lt_add_of_pos_right (by decide)) e2
  clear e2
  have I2 := b2.1
  have n2 := b2.2.1
  have hn := n2
  refine PW_aload_n (i := 0) dX11_init_94 rfl rfl ?_
  refine PW_iconst (v := 2) dX11_init_95 (by decide) ?_
  refine PW_anewA (k := 17) (N := 2) (a := X + 90) dX11_init_96 (by decide) (by decide) cl11_27 (by decide) rfl (by decide) (by first | rfl | exact hn) (Nat.le_of_ble_eq_true rfl) (Nat.le_of_ble_eq_true rfl) ?_
  refine PW_putR dX11_init_99 fr11_39 (fun _ => rfl) (by first | exact (hG1.2.1 X (show X < X + 8 + 1 by omega)).1.trans ((tNn _ _ (by omega)).trans I0.2.1) | exact (hG2.2.1 X (show X < X + 49 + 1 by omega)).1.trans ((tNn _ _ (by omega)).trans I1.2.1) | exact (tNn _ _ (by omega)).trans I2.2.1 | (simp (disch := omega) only [tW, tI, tL, tNs, tNn, iW, iL, iNs, iNn, lW, lI, lNs, lNn, rWs, rWk, rWa, rWf, rNs, rNn, rI_, rL_, ne_eq, not_false_eq_true, ht]; done)) ?_
  refine PW_ge (fun M3 e3 => ?_)
  have b3 : SB X M M2 (wNa M2 (X + 90) (17, 2)) M3 (X + 90) X 2 0 := Sb (e := X + 90) I2 n2 (Nat.lt_add_of_pos_right (by decide)) (Gr_0 _ _) (Nat.le_refl _) (Nat.lt_add_of_pos_right (by decide)) e3
  clear e3
  have I3 := b3.1
  have n3 := b3.2.1
  have hn := n3
  have A3 : mt M3 (X + 90) = (17, 2) := (b3.2.2.2.2.2 _ (by omega)).1.trans (tNs _ _ _)
  refine PW_iconst (v := 0) dX11_init_102 (by decide) ?_
  refine PW_istore_n (i := 2) dX11_init_103 rfl (Nat.le_of_ble_eq_true rfl) rfl ?_
  refine PW_iload_n (i := 2) dX11_init_104 rfl rfl ?_
  refine PW_iconst (v := 2) dX11_init_105 (by decide) ?_
  refine PW_icmp_ge 129 dX11_init_106 (by decide) (fun q => absurd q (by decide)) (fun _ => ?_)
  refine PW_aload_n (i := 0) dX11_init_109 rfl rfl ?_
  refine PW_getR dX11_init_110 fg11_39 (I3.2.1) (b3.2.2.2.1) ?_
  refine PW_iload_n (i := 2) dX11_init_113 rfl rfl ?_
  refine PW_newA (a := X + 91) dX11_init_114 nr11_27 (by first | rfl | exact hn) (Nat.le_of_ble_eq_true rfl) (Nat.le_of_ble_eq_true rfl) ?_
  refine PW_dup dX11_init_117 rfl ?_
  refine PW_aload_n (i := 1) dX11_init_118 rfl rfl ?_
  refine PW_callI dX11_init_119 moX10_init ct11_29 (by omega) rfl rfl (Nat.le_of_ble_eq_true rfl) (Nat.le_of_ble_eq_true rfl) (Nat.le_of_ble_eq_true rfl) (spX10_init (d := d - 1) (X := X) (v := X + 91) rfl (tNs _ _ _) (by omega)) (fun v0 B4 hq => ?_)
  obtain ⟨rfl, hG4, hS4, hP4⟩ := hq
  refine PW_aas (j := 0) dX11_init_122 ((hG4.2.1 (X + 90) (show X + 90 < X + 91 + 1 by omega)).1.trans ((tNn _ _ (by omega)).trans A3)) (by decide) (by decide) (by decide) (by decide) (hS4.1) eo17_10 ?_
  refine PW_ge (fun M4 e4 => ?_)
  have b4 : SB X M M3 B4 M4 (X + 91) (X + 90) 0 40 := Sb (e := X + 91) I3 n3 (Nat.lt_add_of_pos_right (by decide)) hG4 (Nat.le_add_right _ _) (Nat.add_lt_add_left (by decide) _) e4
  clear e4
  have I4 := b4.1
  have n4 := b4.2.1
  have hn := n4
  have A4 : mt M4 (X + 90) = (17, 2) := (b4.2.2.1 (X + 90) (by omega)).1.trans A3
  refine PW_iinc dX11_init_123 rfl (Nat.le_of_ble_eq_true rfl) rfl ?_
  refine PW_eqL (ls := [.ref X, .ref (X + 1), .int 1]) rfl ?_
  refine PW_goto 104 dX11_init_126 (by decide) ?_
  refine PW_iload_n (i := 2) dX11_init_104 rfl rfl ?_
  refine PW_iconst (v := 2) dX11_init_105 (by decide) ?_
  refine PW_icmp_ge 129 dX11_init_106 (by decide) (fun q => absurd q (by decide)) (fun _ => ?_)
  refine PW_aload_n (i := 0) dX11_init_109 rfl rfl ?_
  refine PW_getR dX11_init_110 fg11_39 (I4.2.1) ((congrFun ((b4.2.2.1 X (by omega)).2 (by omega)) 2).trans b3.2.2.2.1) ?_
  refine PW_iload_n (i := 2) dX11_init_113 rfl rfl ?_
  refine PW_newA (a := X + 132) dX11_init_114 nr11_27 (by first | rfl | exact hn) (Nat.le_of_ble_eq_true rfl) (Nat.le_of_ble_eq_true rfl) ?_
  refine PW_dup dX11_init_117 rfl ?_
  refine PW_aload_n (i := 1) dX11_init_118 rfl rfl ?_
  refine PW_callI dX11_init_119 moX10_init ct11_29 (by omega) rfl rfl (Nat.le_of_ble_eq_true rfl) (Nat.le_of_ble_eq_true rfl) (Nat.le_of_ble_eq_true rfl) (spX10_init (d := d - 1) (X := X) (v := X + 132) rfl (tNs _ _ _) (by omega)) (fun v0 B5 hq => ?_)
  obtain ⟨rfl, hG5, hS5, hP5⟩ := hq
  refine PW_aas (j := 1) dX11_init_122 ((hG5.2.1 (X + 90) (show X + 90 < X + 132 + 1 by omega)).1.trans ((tNn _ _ (by omega)).trans A4)) (by decide) (by decide) (by decide) (by decide) (hS5.1) eo17_10 ?_
  refine PW_ge (fun M5 e5 => ?_)
  have b5 : SB X M M4 B5 M5 (X + 132) (X + 90) 1 40 := Sb (e := X + 132) I4 n4 (Nat.lt_add_of_pos_right (by decide)) hG5 (Nat.le_add_right _ _) (Nat.add_lt_add_left (by decide) _) e5
  clear e5
  have I5 := b5.1
  have n5 := b5.2.1
  have hn := n5
  have A5 : mt M5 (X + 90) = (17, 2) := (b5.2.2.1 (X + 90) (by omega)).1.trans A4
  refine PW_iinc dX11_init_123 rfl (Nat.le_of_ble_eq_true rfl) rfl ?_
  refine PW_eqL (ls := [.ref X, .ref (X + 1), .int 2]) rfl ?_
  refine PW_goto 104 dX11_init_126 (by decide) ?_
  refine PW_iload_n (i := 2) dX11_init_104 rfl rfl ?_
  refine PW_iconst (v := 2) dX11_init_105 (by decide) ?_
  refine PW_icmp_ge 129 dX11_init_106 (by decide) (fun _ => ?_) (fun q => absurd q (by decide))
  refine PW_aload_n (i := 0) dX11_init_129 rfl rfl ?_
  refine PW_iconst (v := 2) dX11_init_130 (by decide) ?_
  refine PW_newZA (N := 2) (a := X + 173) dX11_init_131 arZ (by decide) rfl (by decide) (by first | rfl | exact hn) (Nat.le_of_ble_eq_true rfl) (Nat.le_of_ble_eq_true rfl) ?_
  refine PW_putR dX11_init_133 fr11_43 (fun _ => rfl) ((tNn _ _ (by omega)).trans I5.2.1) ?_
  refine PW_ge (fun M6 e6 => ?_)
  have b6 : SB X M M5 (wNa M5 (X + 173) (14, 2)) M6 (X + 173) X 3 0 := Sb (e := X + 173) I5 n5 (Nat.lt_add_of_pos_right (by decide)) (Gr_0 _ _) (Nat.le_refl _) (Nat.lt_add_of_pos_right (by decide)) e6
  clear e6
  have I6 := b6.1
  have n6 := b6.2.1
  have hn := n6
  refine PW_aload_n (i := 0) dX11_init_136 rfl rfl ?_
  refine PW_newA (a := X + 174) dX11_init_137 nr11_47 (by first | rfl | exact hn) (Nat.le_of_ble_eq_true rfl) (Nat.le_of_ble_eq_true rfl) ?_
  refine PW_dup dX11_init_140 rfl ?_
  refine PW_aload_n (i := 1) dX11_init_141 rfl rfl ?_
  refine PW_callI dX11_init_142 moX4_init ct11_49 (by omega) rfl rfl (Nat.le_of_ble_eq_true rfl) (Nat.le_of_ble_eq_true rfl) (Nat.le_of_ble_eq_true rfl) (spX4_init (d := d - 1) (X := X) (a := X + 174) rfl (tNs _ _ _)) (fun v0 B7 hq => ?_)
  obtain ⟨rfl, hG7, hS7⟩ := hq
  refine PW_putR dX11_init_145 fr11_50 (fun _ => rfl) ((hG7.2.1 X (show X < X + 174 + 1 by omega)).1.trans ((tNn _ _ (by omega)).trans I6.2.1)) ?_
  refine PW_ge (fun M7 e7 => ?_)
  have b7 : SB X M M6 B7 M7 (X + 174) X 4 3 := Sb (e := X + 174) I6 n6 (Nat.lt_add_of_pos_right (by decide)) hG7 (Nat.le_refl _) (Nat.lt_add_of_pos_right (by decide)) e7
  clear e7
  have I7 := b7.1
  have n7 := b7.2.1
  have hn := n7
  refine PW_aload_n (i := 0) dX11_init_148 rfl rfl ?_
  refine PW_newA (a := X + 178) dX11_init_149 nr11_54 (by first | rfl | exact hn) (Nat.le_of_ble_eq_true rfl) (Nat.le_of_ble_eq_true rfl) ?_
  refine PW_dup dX11_init_152 rfl ?_
  refine PW_aload_n (i := 1) dX11_init_153 rfl rfl ?_
  refine PW_callI dX11_init_154 moX3_init ct11_56 (by omega) rfl rfl (Nat.le_of_ble_eq_true rfl) (Nat.le_of_ble_eq_true rfl) (Nat.le_of_ble_eq_true rfl) (spX3_init (d := d - 1) (X := X) (c := X + 178) rfl (tNs _ _ _) (by omega)) (fun v0 B8 hq => ?_)
  obtain ⟨rfl, hG8, hS8⟩ := hq
  refine PW_putR dX11_init_157 fr11_57 (fun _ => rfl) ((hG8.2.1 X (show X < X + 178 + 1 by omega)).1.trans ((tNn _ _ (by omega)).trans I7.2.1)) ?_
  refine PW_ge (fun M8 e8 => ?_)
  have b8 : SB X M M7 B8 M8 (X + 178) X 5 6 := Sb (e := X + 178) I7 n7 (Nat.lt_add_of_pos_right (by decide)) hG8 (Nat.le_refl _) (Nat.lt_add_of_pos_right (by decide)) e8
  clear e8
  have I8 := b8.1
  have n8 := b8.2.1
  have hn := n8
  refine PW_aload_n (i := 0) dX11_init_160 rfl rfl ?_
  refine PW_newA (a := X + 185) dX11_init_161 nr11_61 (by first | rfl | exact hn) (Nat.le_of_ble_eq_true rfl) (Nat.le_of_ble_eq_true rfl) ?_
  refine PW_dup dX11_init_164 rfl ?_
  refine PW_aload_n (i := 1) dX11_init_165 rfl rfl ?_
  refine PW_callI dX11_init_166 moX6_init ct11_63 (by omega) rfl rfl (Nat.le_of_ble_eq_true rfl) (Nat.le_of_ble_eq_true rfl) (Nat.le_of_ble_eq_true rfl) (spX6_init (d := d - 1) (X := X) (p := X + 185) rfl (tNs _ _ _) (by omega)) (fun v0 B9 hq => ?_)
  obtain ⟨rfl, hG9, hS9⟩ := hq
  refine PW_putR dX11_init_169 fr11_64 (fun _ => rfl) ((hG9.2.1 X (show X < X + 185 + 1 by omega)).1.trans ((tNn _ _ (by omega)).trans I8.2.1)) ?_
  refine PW_ge (fun M9 e9 => ?_)
  have b9 : SB X M M8 B9 M9 (X + 185) X 6 23 := Sb (e := X + 185) I8 n8 (Nat.lt_add_of_pos_right (by decide)) hG9 (Nat.le_refl _) (Nat.lt_add_of_pos_right (by decide)) e9
  clear e9
  have I9 := b9.1
  have n9 := b9.2.1
  have hn := n9
  refine PW_aload_n (i := 0) dX11_init_172 rfl rfl ?_
  refine PW_newA (a := X + 209) dX11_init_173 nr11_68 (by first | rfl | exact hn) (Nat.le_of_ble_eq_true rfl) (Nat.le_of_ble_eq_true rfl) ?_
  refine PW_dup dX11_init_176 rfl ?_
  refine PW_callI dX11_init_177 moX9_init ct11_70 (by omega) rfl rfl (Nat.le_of_ble_eq_true rfl) (Nat.le_of_ble_eq_true rfl) (Nat.le_of_ble_eq_true rfl) (spX9_init (d := d - 1) (t := X + 209) rfl (tNs _ _ _)) (fun v0 B10 hq => ?_)
  obtain ⟨rfl, hG10, hS10⟩ := hq
  refine PW_putR dX11_init_180 fr11_71 (fun _ => rfl) ((hG10.2.1 X (show X < X + 209 + 1 by omega)).1.trans ((tNn _ _ (by omega)).trans I9.2.1)) ?_
  refine PW_ge (fun M10 e10 => ?_)
  have b10 : SB X M M9 B10 M10 (X + 209) X 7 1 := Sb (e := X + 209) I9 n9 (Nat.lt_add_of_pos_right (by decide)) hG10 (Nat.le_refl _) (Nat.lt_add_of_pos_right (by decide)) e10
  clear e10
  have I10 := b10.1
  have n10 := b10.2.1
  have hn := n10
  refine PW_aload_n (i := 0) dX11_init_183 rfl rfl ?_
  refine PW_iconst (v := 0) dX11_init_184 (by decide) ?_
  refine PW_putI dX11_init_185 fr11_75 (fun h => by cases h) (I10.2.1) ?_
  refine PW_aload_n (i := 0) dX11_init_188 rfl rfl ?_
  refine PW_iconst (v := 1) dX11_init_189 (by decide) ?_
  refine PW_putI dX11_init_190 fr11_79 (fun h => by cases h) (I10.2.1) ?_
  refine PW_return rfl dX11_init_193 (Nat.le_of_ble_eq_true rfl) (Nat.le_of_ble_eq_true rfl) ?_
  exact X11_end KS0 b1 b2 b3 b4 b5 b6 b7 b8 b9 b10 A5 hS1 hS2 hS4 hS5 hS7 hS8 hS9 hS10 hP1 hP2 hP4 hP5

/-! ===== the reference: read ===== -/
def yRq (y : Vy) (j : Nat) : Vy := (hm0, j, vR y, 0, fun _ => 0, fun _ => 0, 0, fun _ => hm0)
def yHq (y : Vy) (j : Nat) : Vy := ((j, hK (vh y), hT (vh y), hN (vh y), 0, 0, 0), vr y, vR y, 0, fun _ => 0, fun _ => 0, 0, fun _ => hm0)
theorem yRq_s (y : Vy) (j : Nat) : adR (yRq y j) (vR y j) = yRq y (j + 1) := by
  have e : (fun k => if k = j then vR y j else vR y k) = vR y := by
    funext k
    by_cases h : k = j
    · rw [if_pos h, h]
    · rw [if_neg h]
  show (hm0, j + 1, (fun k => if k = j then vR y j else vR y k), 0, _, _, 0, _) = _
  rw [e]; rfl
theorem yHq_s (y : Vy) (j : Nat) : adV (yHq y j) (hK (vh y) j) (hT (vh y) j) (hN (vh y) j) = yHq y (j + 1) := by
  have e : ∀ {α : Type} (f : Nat → α), (fun k => if k = j then f j else f k) = f := by
    intro α f
    funext k
    by_cases h : k = j
    · rw [if_pos h, h]
    · rw [if_neg h]
  show ((j + 1, (fun k => if k = j then hK (vh y) j else hK (vh y) k), (fun k => if k = j then hT (vh y) j else hT (vh y) k), (fun k => if k = j then hN (vh y) j else hN (vh y) k), 0, 0, 0), vr y, vR y, 0, _, _, 0, _) = _
  rw [e (hK (vh y)), e (hT (vh y)), e (hN (vh y))]; rfl
theorem yRq_V {b : Nat} {y : Vy} {j : Nat} (hj : j ≤ 6) : VV b (yRq y j) := by
  have h := vy0_V b
  exact ⟨h.1, hj, Nat.zero_le _, Nat.zero_le _, fun j hj => absurd hj (Nat.not_lt_zero j), fun j hj => absurd hj (Nat.not_lt_zero j)⟩
theorem yHq_V {b : Nat} {y : Vy} {j : Nat} (hV : VV b y) (hj : j ≤ hn (vh y)) : VV b (yHq y j) := by
  have h := vy0_V b
  refine ⟨⟨Nat.le_trans hj hV.1.1, Nat.two_pow_pos _, Nat.zero_le _, h.1.2.2.2.1, h.1.2.2.2.2.1, fun k hk => hV.1.2.2.2.2.2 k (Nat.lt_of_lt_of_le hk hj)⟩, hV.2.1, Nat.zero_le _, Nat.zero_le _, fun j hj => absurd hj (Nat.not_lt_zero j), fun j hj => absurd hj (Nat.not_lt_zero j)⟩
theorem MV_RH {i : MI0} {Y : Nat} {y : Vy} (h : MV i Y (yRq y (vr y))) : MV i Y (yHq y 0) := by
  obtain ⟨m1, m2, m3, m4, m5, m6, m7⟩ := h
  exact ⟨⟨m1.1, m1.2.1, m1.2.2.1, fun j hj => absurd hj (Nat.not_lt_zero j)⟩, m2, m3, m4, m5, fun j hj => absurd hj (Nat.not_lt_zero j), fun j hj => absurd hj (Nat.not_lt_zero j)⟩
theorem MV_0 {i : MI0} {Y : Nat} {y : Vy} (h : MV i Y vy0) : MV i Y (yRq y 0) := by
  obtain ⟨m1, m2, m3, m4, m5, m6, m7⟩ := h
  exact ⟨m1, m2, m3, m4, fun j hj => absurd hj (Nat.not_lt_zero j), fun j hj => absurd hj (Nat.not_lt_zero j), fun j hj => absurd hj (Nat.not_lt_zero j)⟩
theorem MV_H {i : MI0} {Y : Nat} {y : Vy} (h : MV i Y (yHq y (hn (vh y)))) (hz : YZq y) : MV i Y y := by
  obtain ⟨m1, m2, m3, m4, m5, m6, m7⟩ := h
  obtain ⟨z1, z2, z3, z4, z5⟩ := hz
  refine ⟨⟨m1.1, by rw [z1]; exact m1.2.1, by rw [z2]; exact m1.2.2.1, fun j hj => ?_⟩, m2, by rw [z4]; exact m3, by rw [z5]; exact m4, m5, fun j hj => ?_, fun u hu => ?_⟩
  · have := m1.2.2.2 j hj
    rw [z3]
    exact this
  · rw [z4] at hj; exact absurd hj (Nat.not_lt_zero j)
  · rw [z5] at hu; exact absurd hu (Nat.not_lt_zero u)
/-- what the reading laid aside is still there -/
def KPq (i i' : MI0) (Y : Nat) : Prop := (∀ k, k ≠ 1 → k ≠ 2 → k ≠ 3 → k ≠ 4 → k ≠ 5 → k ≠ 22 → i' Y k = i Y k) ∧ ∀ q, q ≠ Y → (q < Y + 2 ∨ Y + 6 < q) → i' q = i q
theorem RDf.eq2 {i i' : MI0} {Y : Nat} (h : RDf i i' Y) : EQ2 i i' Y := ⟨h.1, fun j hj => ⟨congrFun (h.2 _ (by omega) (by omega) (by omega)) j, congrFun (h.2 _ (by omega) (by omega) (by omega)) j⟩, fun q a b c e f g => h.2 q a e f⟩
set_option maxRecDepth 100000 in
set_option maxHeartbeats 4000000 in
theorem lpX12_read2 {G : GE} {d : Nat} {i : MI0} {S : MS} {Y : Nat} (hY : YS S Y) {s : Ab} {b : Nat} (hR : MR i S Y s) (hV : AV b s) (hb : b ≤ 100) (hd : 12 ≤ d) {y : Vy} (hz : YZq y) (hVy : VV b y) {i1 : MI0} (f1 : RDf i i1 Y) (z1 : ZRq i1 Y y) {n : Nat} : ∀ (n0 j : Nat), j ≤ hn (vh y) → hn (vh y) < j + n0 → ∀ (i' : MI0), MV i' Y (yHq y j) → KPq i1 i' Y → PW G iX12_read d (Wi (nI n) S (fun i' => MV i' Y y ∧ KPq i1 i' Y)) 50 [.ref Y, .int (nI n), .int (nI j)] [] (i', S) 0 0 := by
  have hY' := hY
  obtain ⟨Yt, ⟨Yt1, Yr1⟩, ⟨Yt2, Yr2⟩, ⟨Yt3, Yr3⟩, ⟨Yt4, Yr4⟩, ⟨Yt5, Yr5⟩, ⟨Yt6, Yr6⟩, ⟨Yt7, Yr7⟩, ⟨Yt8, Yr8⟩, ⟨Yt9, Yr9⟩, ⟨Yt10, Yr10⟩, ⟨Yt11, Yr11⟩, ⟨Yt12, Yr12⟩, ⟨Yt13, Yr13⟩, ⟨Yt14, Yr14⟩, ⟨Yt15, Yr15⟩, ⟨Yt16, Yr16⟩, ⟨Yt17, Yr17⟩, ⟨Yt18, Yr18⟩, ⟨Yt19, Yr19⟩⟩ := hY
  have hR' := hR
  have hV' := hV
  obtain ⟨Rm, Ri0, Ri1, Rk, Rx, Rt, Rl⟩ := hR
  have Rh := Rm.1
  obtain ⟨Av, Ai, At, Ab', Aa, Aw⟩ := hV
  have Ah := Av.1
  have Ah1 := Ah.1
  have Av1 := Av.2.1
  have Av2 := Av.2.2.1
  have Av3 := Av.2.2.2.1
  intro n0
  induction n0 with
  | zero => intro j h1 h2; exact absurd h2 (by omega)
  | succ n0 ih =>
    intro j hj1 hj2 i' v1 v2
    refine PW_iload_n (i := 2) dX12_read_50 rfl rfl ?_
    refine PW_aload_n (i := 0) dX12_read_51 rfl rfl ?_
    refine PW_giv (v := nI (hn (vh y))) dX12_read_52 fg12_161 (Yt) ((v2.1 17 (by decide) (by decide) (by decide) (by decide) (by decide) (by decide)).trans z1.2.2.1) ?_
    have hy6 := hVy.1.1
    refine PW_icmp_ge 97 dX12_read_55 (by decide) (fun h55 => ?_) (fun h55 => ?_)
    · have h55 := jle h55
      have ej : j = hn (vh y) := by omega
      subst ej
      refine PW_iload_n (i := 1) dX12_read_97 rfl rfl ?_
      refine PW_ireturn rfl (rfl) dX12_read_98 (Nat.le_of_ble_eq_true rfl) (Nat.le_of_ble_eq_true rfl) ?_
      exact Wi_mk rfl rfl ⟨MV_H v1 hz, v2⟩
    · have h55 := jnle h55
      refine PW_aload_n (i := 0) dX12_read_58 rfl rfl ?_
      refine PW_aload_n (i := 0) dX12_read_59 rfl rfl ?_
      refine PW_getR dX12_read_60 fg12_40 (Yt) (Yr11) ?_
      refine PW_iconst (v := 3) dX12_read_63 (by decide) ?_
      refine PW_iload_n (i := 2) dX12_read_64 rfl rfl ?_
      refine PW_imul dX12_read_65 ?_
      refine PW_eqi (pk_mul 3 j) ?_
      refine PW_ial (v := nI (hK (vh y) j)) dX12_read_66 (Yt11) (by omega) (by omega) ((congrFun (v2.2 (Y + 11) (by omega) (by omega)) _).trans (z1.2.2.2 j h55).1) ?_
      refine PW_aload_n (i := 0) dX12_read_67 rfl rfl ?_
      refine PW_getR dX12_read_68 fg12_40 (Yt) (Yr11) ?_
      refine PW_iconst (v := 3) dX12_read_71 (by decide) ?_
      refine PW_iload_n (i := 2) dX12_read_72 rfl rfl ?_
      refine PW_imul dX12_read_73 ?_
      refine PW_eqi (pk_mul 3 j) ?_
      refine PW_iconst (v := 1) dX12_read_74 (by decide) ?_
      refine PW_iadd dX12_read_75 ?_
      refine PW_eqi (nI_1 _) ?_
      refine PW_ial (v := nI (hT (vh y) j)) dX12_read_76 (Yt11) (by omega) (by omega) ((congrFun (v2.2 (Y + 11) (by omega) (by omega)) _).trans (z1.2.2.2 j h55).2.1) ?_
      refine PW_aload_n (i := 0) dX12_read_77 rfl rfl ?_
      refine PW_getR dX12_read_78 fg12_40 (Yt) (Yr11) ?_
      refine PW_iconst (v := 3) dX12_read_81 (by decide) ?_
      refine PW_iload_n (i := 2) dX12_read_82 rfl rfl ?_
      refine PW_imul dX12_read_83 ?_
      refine PW_eqi (pk_mul 3 j) ?_
      refine PW_iconst (v := 2) dX12_read_84 (by decide) ?_
      refine PW_iadd dX12_read_85 ?_
      refine PW_eqi (nI_add _ 2) ?_
      refine PW_ial (v := iN (hN (vh y) j)) dX12_read_86 (Yt11) (by omega) (by omega) ((congrFun (v2.2 (Y + 11) (by omega) (by omega)) _).trans (z1.2.2.2 j h55).2.2) ?_
      refine PW_callV dX12_read_87 moX12_addHand cv12_115 (Yt) (by omega) rfl rfl (Nat.le_of_ble_eq_true rfl) (Nat.le_of_ble_eq_true rfl) (Nat.le_of_ble_eq_true rfl) (spX12_addHand (d := d - 1) (y := yHq y j) hY' v1 (yHq_V (b := b) hVy hj1) (by show j < 6; omega) _ _ _) (fun v M1 hq => ?_)
      obtain ⟨rfl, i3, rfl, a1, a2, a3⟩ := hq
      rw [yHq_s] at a1
      refine PW_pop dX12_read_90 rfl ?_
      refine PW_inc1 dX12_read_91 rfl (Nat.le_of_ble_eq_true rfl) rfl ?_
      refine PW_goto 50 dX12_read_94 (by decide) ?_
      exact ih (j + 1) (by omega) (by omega) i3 a1 ⟨fun k h1 h2 h3 h4 h5 h6 => (a2 k h1 h6).trans (v2.1 k h1 h2 h3 h4 h5 h6), fun q h1 h2 => (a3 q h1 (by omega) (by omega) (by omega) (by omega)).trans (v2.2 q h1 h2)⟩
set_option maxRecDepth 100000 in
set_option maxHeartbeats 4000000 in
theorem lpX12_read1 {G : GE} {d : Nat} {i : MI0} {S : MS} {Y : Nat} (hY : YS S Y) {s : Ab} {b : Nat} (hR : MR i S Y s) (hV : AV b s) (hb : b ≤ 100) (hd : 12 ≤ d) {y : Vy} (hz : YZq y) (hVy : VV b y) {i1 : MI0} (f1 : RDf i i1 Y) (z1 : ZRq i1 Y y) {n : Nat} : ∀ (n0 j : Nat), j ≤ vr y → vr y < j + n0 → ∀ (i' : MI0), MV i' Y (yRq y j) → KPq i1 i' Y → PW G iX12_read d (Wi (nI n) S (fun i' => MV i' Y y ∧ KPq i1 i' Y)) 23 [.ref Y, .int (nI n), .int (nI j)] [] (i', S) 0 0 := by
  have hY' := hY
  obtain ⟨Yt, ⟨Yt1, Yr1⟩, ⟨Yt2, Yr2⟩, ⟨Yt3, Yr3⟩, ⟨Yt4, Yr4⟩, ⟨Yt5, Yr5⟩, ⟨Yt6, Yr6⟩, ⟨Yt7, Yr7⟩, ⟨Yt8, Yr8⟩, ⟨Yt9, Yr9⟩, ⟨Yt10, Yr10⟩, ⟨Yt11, Yr11⟩, ⟨Yt12, Yr12⟩, ⟨Yt13, Yr13⟩, ⟨Yt14, Yr14⟩, ⟨Yt15, Yr15⟩, ⟨Yt16, Yr16⟩, ⟨Yt17, Yr17⟩, ⟨Yt18, Yr18⟩, ⟨Yt19, Yr19⟩⟩ := hY
  have hR' := hR
  have hV' := hV
  obtain ⟨Rm, Ri0, Ri1, Rk, Rx, Rt, Rl⟩ := hR
  have Rh := Rm.1
  obtain ⟨Av, Ai, At, Ab', Aa, Aw⟩ := hV
  have Ah := Av.1
  have Ah1 := Ah.1
  have Av1 := Av.2.1
  have Av2 := Av.2.2.1
  have Av3 := Av.2.2.2.1
  intro n0
  induction n0 with
  | zero => intro j h1 h2; exact absurd h2 (by omega)
  | succ n0 ih =>
    intro j hj1 hj2 i' v1 v2
    refine PW_iload_n (i := 2) dX12_read_23 rfl rfl ?_
    refine PW_aload_n (i := 0) dX12_read_24 rfl rfl ?_
    refine PW_giv (v := nI (vr y)) dX12_read_25 fg12_154 (Yt) ((v2.1 16 (by decide) (by decide) (by decide) (by decide) (by decide) (by decide)).trans z1.1) ?_
    have hy6 := hVy.2.1
    refine PW_icmp_ge 48 dX12_read_28 (by decide) (fun h28 => ?_) (fun h28 => ?_)
    · have h28 := jle h28
      have ej : j = vr y := by omega
      subst ej
      refine PW_iconst (v := 0) dX12_read_48 (by decide) ?_
      refine PW_istore_n (i := 2) dX12_read_49 rfl (Nat.le_of_ble_eq_true rfl) rfl ?_
      exact lpX12_read2 hY' hR' hV' hb hd hz hVy f1 z1 (hn (vh y) + 1) 0 (by omega) (by omega) i' (MV_RH v1) v2
    · have h28 := jnle h28
      refine PW_aload_n (i := 0) dX12_read_31 rfl rfl ?_
      refine PW_aload_n (i := 0) dX12_read_32 rfl rfl ?_
      refine PW_getR dX12_read_33 fg12_37 (Yt) (Yr10) ?_
      refine PW_iload_n (i := 2) dX12_read_36 rfl rfl ?_
      refine PW_ial (v := vR y j) dX12_read_37 (Yt10) (by omega) (by omega) ((congrFun (v2.2 (Y + 10) (by omega) (by omega)) _).trans (z1.2.1 j h28)) ?_
      refine PW_callV dX12_read_38 moX12_addRock cv12_111 (Yt) (by omega) rfl rfl (Nat.le_of_ble_eq_true rfl) (Nat.le_of_ble_eq_true rfl) (Nat.le_of_ble_eq_true rfl) (spX12_addRock (d := d - 1) (y := yRq y j) hY' v1 (yRq_V (b := b) (by omega)) (by show j < 6; omega) _) (fun v M1 hq => ?_)
      obtain ⟨rfl, i3, rfl, a1, a2, a3⟩ := hq
      rw [yRq_s] at a1
      refine PW_pop dX12_read_41 rfl ?_
      refine PW_inc1 dX12_read_42 rfl (Nat.le_of_ble_eq_true rfl) rfl ?_
      refine PW_goto 23 dX12_read_45 (by decide) ?_
      exact ih (j + 1) (by omega) (by omega) i3 a1 ⟨fun k h1 h2 h3 h4 h5 h6 => (a2 k h4).trans (v2.1 k h1 h2 h3 h4 h5 h6), fun q h1 h2 => (a3 q h1 (by omega)).trans (v2.2 q h1 h2)⟩
set_option maxRecDepth 100000 in
set_option maxHeartbeats 4000000 in
theorem spX12_read {G : GE} {d : Nat} {i : MI0} {S : MS} {Y : Nat} (hY : YS S Y) {s : Ab} {b : Nat} (hR : MR i S Y s) (hV : AV b s) (hb : b ≤ 100) (hd : 16 ≤ d) : Mt G iX12_read d [.ref Y] (i, S) (OpM Y (i, S) (.int (oRead s).1) (oRead s).2) := by
  have hY' := hY
  obtain ⟨Yt, ⟨Yt1, Yr1⟩, ⟨Yt2, Yr2⟩, ⟨Yt3, Yr3⟩, ⟨Yt4, Yr4⟩, ⟨Yt5, Yr5⟩, ⟨Yt6, Yr6⟩, ⟨Yt7, Yr7⟩, ⟨Yt8, Yr8⟩, ⟨Yt9, Yr9⟩, ⟨Yt10, Yr10⟩, ⟨Yt11, Yr11⟩, ⟨Yt12, Yr12⟩, ⟨Yt13, Yr13⟩, ⟨Yt14, Yr14⟩, ⟨Yt15, Yr15⟩, ⟨Yt16, Yr16⟩, ⟨Yt17, Yr17⟩, ⟨Yt18, Yr18⟩, ⟨Yt19, Yr19⟩⟩ := hY
  have hR' := hR
  have hV' := hV
  obtain ⟨Rm, Ri0, Ri1, Rk, Rx, Rt, Rl⟩ := hR
  have Rh := Rm.1
  obtain ⟨Av, Ai, At, Ab', Aa, Aw⟩ := hV
  have Ah := Av.1
  have Ah1 := Ah.1
  have Av1 := Av.2.1
  have Av2 := Av.2.2.1
  have Av3 := Av.2.2.2.1
  refine Mt_in 2 (ls := [.ref Y, .null, .null]) moX12_read (Nat.le_of_ble_eq_true rfl) rfl ?_
  refine PW_aload_n (i := 0) dX12_read_0 rfl rfl ?_
  refine PW_callV dX12_read_1 moX12_readsShip cv12_176 (Yt) (by omega) rfl rfl (Nat.le_of_ble_eq_true rfl) (Nat.le_of_ble_eq_true rfl) (Nat.le_of_ble_eq_true rfl) (spX12_readsShip (d := d - 1) hY' Rt At Ab' b (by omega)) (fun v M1 hq => ?_)
  obtain ⟨rfl, i1, rfl, rr⟩ := hq
  have zo := pAll_ok b (aL s) (aB s)
  have hlen : (pAll (aL s) (aB s)).1 ≤ 150 := pLoop_len 149 1 _
  refine PW_istore_n (i := 1) dX12_read_4 rfl (Nat.le_of_ble_eq_true rfl) rfl ?_
  refine PW_iload_n (i := 1) dX12_read_5 rfl rfl ?_
  refine PW_if_ge 17 dX12_read_6 (by decide) (fun h6 => ?_) (fun h6 => ?_)
  · have h6 : (pAll (aL s) (aB s)).2.2.1 = none := by
      by_cases q : (pAll (aL s) (aB s)).2.2.1 = none
      · exact q
      · rw [show REa (pAll (aL s) (aB s)) = -1 from if_neg q] at h6; exact absurd h6 (by decide)
    rw [show REa (pAll (aL s) (aB s)) = nI (pAll (aL s) (aB s)).1 from if_pos h6]
    refine PW_aload_n (i := 0) dX12_read_17 rfl rfl ?_
    refine PW_callV dX12_read_18 moX12_begin cv12_71 (Yt) (by omega) rfl rfl (Nat.le_of_ble_eq_true rfl) (Nat.le_of_ble_eq_true rfl) (Nat.le_of_ble_eq_true rfl) (spX12_begin (d := d - 1) hY') (fun v M1 hq => ?_)
    obtain ⟨rfl, i2, rfl, p1, p2, p3⟩ := hq
    refine PW_iconst (v := 0) dX12_read_21 (by decide) ?_
    refine PW_istore_n (i := 2) dX12_read_22 rfl (Nat.le_of_ble_eq_true rfl) rfl ?_
    refine PW_mono (fun v M' hq => ?_) (lpX12_read1 hY' hR' hV' hb (by omega) (pAll_z (aL s) (aB s)) zo.2.2 rr.2.2 (rr.1 h6) (n := (pAll (aL s) (aB s)).1) (vr (pAll (aL s) (aB s)).2.2.2 + 1) 0 (by omega) (by omega) i2 (MV_0 p1) ⟨p2, fun q h1 h2 => p3 q h1⟩)
    obtain ⟨rfl, i4, rfl, w1, w2⟩ := hq
    have g : ∀ q, q ≠ Y → (q < Y + 2 ∨ Y + 6 < q) → q ≠ Y + 10 → q ≠ Y + 11 → i4 q = i q := fun q h1 h2 h3 h4 => (w2.2 q h1 h2).trans (rr.2.2.2 q h1 h3 h4)
    exact OpM_i (by unfold oRead; rw [if_pos h6]) hY' (hR'.mv w1 ((w2.1 14 (by decide) (by decide) (by decide) (by decide) (by decide) (by decide)).trans (rr.2.2.1 14 (by decide) (by decide) (by decide) (by decide))) (fun q hq => g q (by omega) (by omega) (by omega) (by omega))) (fun q hq => g q (by omega) (by omega) (by omega) (by omega))
  · have h6 : ¬ (pAll (aL s) (aB s)).2.2.1 = none := fun q => h6 (by rw [show REa (pAll (aL s) (aB s)) = nI (pAll (aL s) (aB s)).1 from if_pos q]; exact nI_pos' (by omega))
    obtain ⟨p, hp⟩ : ∃ p, (pAll (aL s) (aB s)).2.2.1 = some p := Option.ne_none_iff_exists'.mp h6
    refine PW_bipush (v := -10) dX12_read_9 (by decide) ?_
    refine PW_aload_n (i := 0) dX12_read_11 rfl rfl ?_
    refine PW_giv (v := nI p) dX12_read_12 fg12_122 (Yt) (rr.2.1 p hp) ?_
    refine PW_isub dX12_read_15 ?_
    refine PW_ireturn rfl (rfl) dX12_read_16 (Nat.le_of_ble_eq_true rfl) (Nat.le_of_ble_eq_true rfl) ?_
    have eq := rr.2.2.eq2
    exact OpM_i (by unfold oRead; rw [if_neg h6, hp]; rfl) hY' (eq.mr hR' hV') eq.fr

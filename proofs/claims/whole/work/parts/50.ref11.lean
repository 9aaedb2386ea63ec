/-! ===== the reference: voyages ===== -/
theorem pas_wfh (h : Hm) (g : Nat) : pas (wfh h g) = goH h (stw h g) := by
  unfold pas
  rw [wfh_stw]
  rfl
theorem vyg_s (h : Hm) (x m : Nat) : vyg h x (m + 1) = goH (vyg h x m) (stw (vyg h x m) (2 ^ lcw x m)) := by rw [vyg]
theorem vyg_n (h : Hm) (x : Nat) : ∀ j, hn (vyg h x j) = hn h
  | 0 => rfl
  | j + 1 => vyg_n h x j
set_option maxRecDepth 100000 in
set_option maxHeartbeats 4000000 in
theorem lpX12_voyages2 {G : GE} {d : Nat} {i : MI0} {S : MS} {Y : Nat} (hY : YS S Y) {s : Ab} {b : Nat} (hR : MR i S Y s) (hV : AV b s) (hb : b ≤ 100) (hd : 12 ≤ d) {x n : Nat} (hx : x < 2147483648) (hn9 : n ≤ 60) (z1 : Value) {i0 : MI0} (p1 : SVd (i0 (Y + 13)) 0 i Y) (p2 : ∀ q, q ≠ Y + 13 → i0 q = i q) {m : Nat} (hm : m < 60) {i' : MI0} (v1 : MH i' Y (vyg (vh (aV s)) x m)) (v2 : CQ i0 i' Y) (ko : ∀ i3, MH i3 Y (vyg (vh (aV s)) x (m + 1)) → CQ i0 i3 Y → ∀ z6 z7, PW G iX12_voyages d (Wi (iN (hp (vyg (vh (aV s)) x n))) S (fun i' => EQ2 i i' Y)) 36 [.ref Y, z1, .int (nI n), .long (lN (lcgN x (m + 1))), .null, .int (nI (m + 1)), z6, z7] [] (i3, S) 0 0) : ∀ (n0 j : Nat), j ≤ hn (vh (aV s)) → hn (vh (aV s)) < j + n0 → ∀ (i2 : MI0), (∀ q, q ≠ Y + 5 → i2 q = i' q) → (∀ q, q < j → i2 (Y + 5) q = b2i ((2 ^ lcw x m).testBit q)) → PW G iX12_voyages d (Wi (iN (hp (vyg (vh (aV s)) x n))) S (fun i' => EQ2 i i' Y)) 71 [.ref Y, z1, .int (nI n), .long (lN (lcgN x (m + 1))), .null, .int (nI m), .int (nI (lcw x m)), .int (nI j)] [] (i2, S) 0 0 := by
  have hY' := hY
  obtain ⟨Yt, ⟨Yt1, Yr1⟩, ⟨Yt2, Yr2⟩, ⟨Yt3, Yr3⟩, ⟨Yt4, Yr4⟩, ⟨Yt5, Yr5⟩, ⟨Yt6, Yr6⟩, ⟨Yt7, Yr7⟩, ⟨Yt8, Yr8⟩, ⟨Yt9, Yr9⟩, ⟨Yt10, Yr10⟩, ⟨Yt11, Yr11⟩, ⟨Yt12, Yr12⟩, ⟨Yt13, Yr13⟩, ⟨Yt14, Yr14⟩, ⟨Yt15, Yr15⟩, ⟨Yt16, Yr16⟩, ⟨Yt17, Yr17⟩, ⟨Yt18, Yr18⟩, ⟨Yt19, Yr19⟩⟩ := hY
  have hR' := hR
  have hV' := hV
  obtain ⟨Rm, Ri0, Ri1, Rk, Rx, Rt, Rl⟩ := hR
  have Rh := Rm.1
  obtain ⟨Av, Ai, At, Ab', Aa, Aw⟩ := hV
  have Ah := Av.1
  have Ah1 := Ah.1
  have Av1 := Av.2.1
  have Av2 := Av.2.2.1
  have Av3 := Av.2.2.2.1
  intro n0
  induction n0 with
  | zero => intro j h1 h2; exact absurd h2 (by omega)
  | succ n0 ih =>
    intro j hj1 hj2 i2 w1 w2
    refine PW_iload dX12_voyages_71 rfl ?_
    refine PW_aload_n (i := 0) dX12_voyages_73 rfl rfl ?_
    refine PW_giv (v := nI (hn (vh (aV s)))) dX12_voyages_74 fg12_74 (Yt) ((congrFun (w1 Y (by omega)) 1).trans (v1.1.trans (by rw [vyg_n]))) ?_
    have Fv := vyg_V Ah x m
    have hw7 : lcw x m < 7 := Nat.mod_lt _ (by decide)
    refine PW_icmp_ge 105 dX12_voyages_77 (by decide) (fun h77 => ?_) (fun h77 => ?_)
    · have h77 := jle h77
      have ej : j = hn (vh (aV s)) := by omega
      subst ej
      have r1 : MH i2 Y (wfh (vyg (vh (aV s)) x m) (2 ^ lcw x m)) := v1.f w1 (fun q hq => w2 q (by rw [vyg_n] at hq; exact hq))
      refine PW_aload_n (i := 0) dX12_voyages_105 rfl rfl ?_
      refine PW_callV dX12_voyages_106 moX12_pass cv12_205 (Yt) (by omega) rfl rfl (Nat.le_of_ble_eq_true rfl) (Nat.le_of_ble_eq_true rfl) (Nat.le_of_ble_eq_true rfl) (spX12_pass (d := d - 1) hY' r1 (wfh_V Fv _) (by omega) (by omega)) (fun v M1 hq => ?_)
      obtain ⟨rfl, i3, rfl, a1, a2⟩ := hq
      rw [pas_wfh, ← vyg_s] at a1
      refine PW_pop dX12_voyages_109 rfl ?_
      refine PW_inc1 dX12_voyages_110 rfl (Nat.le_of_ble_eq_true rfl) rfl ?_
      refine PW_goto 36 dX12_voyages_113 (by decide) ?_
      exact ko i3 a1 ((v2.trans (⟨fun k h1 h2 => by rw [w1 Y (by omega)], fun q h1 h2 h3 => w1 q h3⟩ : CQ i' i2 Y)).trans a2) _ _
    · have h77 := jnle h77
      refine PW_aload_n (i := 0) dX12_voyages_80 rfl rfl ?_
      refine PW_getR dX12_voyages_81 fg12_22 (Yt) (Yr5) ?_
      refine PW_iload dX12_voyages_84 rfl ?_
      refine PW_iload dX12_voyages_86 rfl ?_
      refine PW_iload dX12_voyages_88 rfl ?_
      refine PW_icmp_ne 97 dX12_voyages_90 (by decide) (fun h90 => ?_) (fun h90 => ?_)
      · have h90 := jne h90
        refine PW_iconst (v := 0) dX12_voyages_97 (by decide) ?_
        refine PW_ias dX12_voyages_98 (Yt5) (by omega) (by omega) ?_
        refine PW_inc1 dX12_voyages_99 rfl (Nat.le_of_ble_eq_true rfl) rfl ?_
        refine PW_goto 71 dX12_voyages_102 (by decide) ?_
        refine PW_nm rfl (fun i4 e4 => ?_)
        refine ih (j + 1) (by omega) (by omega) i4 (fun q hq => by rw [e4, rI_f _ _ hq]; exact w1 q hq) (fun q hq => ?_)
        by_cases e : q = j
        · rw [e, e4, rI_s, Nat.testBit_two_pow]
          first | (rw [decide_eq_true h90.symm]; rfl) | (rw [decide_eq_false (fun z => h90 z.symm)]; rfl)
        · rw [e4, rI_k _ _ _ e]; exact w2 q (by omega)
      · have h90 := jeq h90
        refine PW_iconst (v := 1) dX12_voyages_93 (by decide) ?_
        refine PW_goto 98 dX12_voyages_94 (by decide) ?_
        refine PW_ias dX12_voyages_98 (Yt5) (by omega) (by omega) ?_
        refine PW_inc1 dX12_voyages_99 rfl (Nat.le_of_ble_eq_true rfl) rfl ?_
        refine PW_goto 71 dX12_voyages_102 (by decide) ?_
        refine PW_nm rfl (fun i4 e4 => ?_)
        refine ih (j + 1) (by omega) (by omega) i4 (fun q hq => by rw [e4, rI_f _ _ hq]; exact w1 q hq) (fun q hq => ?_)
        by_cases e : q = j
        · rw [e, e4, rI_s, Nat.testBit_two_pow]
          first | (rw [decide_eq_true h90.symm]; rfl) | (rw [decide_eq_false (fun z => h90 z.symm)]; rfl)
        · rw [e4, rI_k _ _ _ e]; exact w2 q (by omega)
set_option maxRecDepth 100000 in
set_option maxHeartbeats 4000000 in
theorem lpX12_voyages {G : GE} {d : Nat} {i : MI0} {S : MS} {Y : Nat} (hY : YS S Y) {s : Ab} {b : Nat} (hR : MR i S Y s) (hV : AV b s) (hb : b ≤ 100) (hd : 12 ≤ d) {x n : Nat} (hx : x < 2147483648) (hn9 : n ≤ 60) (z1 : Value) {i0 : MI0} (p1 : SVd (i0 (Y + 13)) 0 i Y) (p2 : ∀ q, q ≠ Y + 13 → i0 q = i q) : ∀ (n0 j : Nat), j ≤ n → n < j + n0 → ∀ (i' : MI0) (z6 z7 : Value), MH i' Y (vyg (vh (aV s)) x j) → CQ i0 i' Y → PW G iX12_voyages d (Wi (iN (hp (vyg (vh (aV s)) x n))) S (fun i' => EQ2 i i' Y)) 36 [.ref Y, z1, .int (nI n), .long (lN (lcgN x j)), .null, .int (nI j), z6, z7] [] (i', S) 0 0 := by
  have hY' := hY
  obtain ⟨Yt, ⟨Yt1, Yr1⟩, ⟨Yt2, Yr2⟩, ⟨Yt3, Yr3⟩, ⟨Yt4, Yr4⟩, ⟨Yt5, Yr5⟩, ⟨Yt6, Yr6⟩, ⟨Yt7, Yr7⟩, ⟨Yt8, Yr8⟩, ⟨Yt9, Yr9⟩, ⟨Yt10, Yr10⟩, ⟨Yt11, Yr11⟩, ⟨Yt12, Yr12⟩, ⟨Yt13, Yr13⟩, ⟨Yt14, Yr14⟩, ⟨Yt15, Yr15⟩, ⟨Yt16, Yr16⟩, ⟨Yt17, Yr17⟩, ⟨Yt18, Yr18⟩, ⟨Yt19, Yr19⟩⟩ := hY
  have hR' := hR
  have hV' := hV
  obtain ⟨Rm, Ri0, Ri1, Rk, Rx, Rt, Rl⟩ := hR
  have Rh := Rm.1
  obtain ⟨Av, Ai, At, Ab', Aa, Aw⟩ := hV
  have Ah := Av.1
  have Ah1 := Ah.1
  have Av1 := Av.2.1
  have Av2 := Av.2.2.1
  have Av3 := Av.2.2.2.1
  intro n0
  induction n0 with
  | zero => intro j h1 h2; exact absurd h2 (by omega)
  | succ n0 ih =>
    intro j hj1 hj2 i' z6 z7 v1 v2
    refine PW_iload dX12_voyages_36 rfl ?_
    refine PW_iload_n (i := 2) dX12_voyages_38 rfl rfl ?_
    have Fl := lcgN_lt hx j
    have Fl2 := lcgN_lt hx (j + 1)
    refine PW_icmp_ge 116 dX12_voyages_39 (by decide) (fun h39 => ?_) (fun h39 => ?_)
    · have h39 := jle h39
      have ej : j = n := by omega
      subst ej
      refine PW_aload_n (i := 0) dX12_voyages_116 rfl rfl ?_
      refine PW_giv (v := iN (hp (vyg (vh (aV s)) x j))) dX12_voyages_117 fg12_78 (Yt) (v1.2.1) ?_
      refine PW_istore dX12_voyages_120 (Nat.le_of_ble_eq_true rfl) rfl ?_
      refine PW_aload_n (i := 0) dX12_voyages_122 rfl rfl ?_
      refine PW_callV dX12_voyages_123 moX12_back cv12_221 (Yt) (by omega) rfl rfl (Nat.le_of_ble_eq_true rfl) (Nat.le_of_ble_eq_true rfl) (Nat.le_of_ble_eq_true rfl) (spX12_back (d := d - 1) hY' (by omega) p1 p2 (v2.t)) (fun v M1 hq => ?_)
      obtain ⟨rfl, i4, rfl, eq, ex⟩ := hq
      refine PW_iload dX12_voyages_126 rfl ?_
      refine PW_ireturn rfl (rfl) dX12_voyages_128 (Nat.le_of_ble_eq_true rfl) (Nat.le_of_ble_eq_true rfl) ?_
      exact Wi_mk rfl rfl eq
    · have h39 := jnle h39
      refine PW_lload_n (i := 3) dX12_voyages_42 rfl rfl ?_
      refine PW_ldc2 dX12_voyages_43 kc12_259 ?_
      refine PW_lmul dX12_voyages_46 ?_
      refine PW_ldc2 dX12_voyages_47 kc12_261 ?_
      refine PW_ladd dX12_voyages_50 ?_
      refine PW_ldc2 dX12_voyages_51 kc12_263 ?_
      refine PW_lrem dX12_voyages_54 (by decide) ?_
      refine PW_eql (show _ = lN (lcgN x (j + 1)) from lcg_ok Fl) ?_
      refine PW_lstore_n (i := 3) dX12_voyages_55 rfl (Nat.le_of_ble_eq_true rfl) rfl ?_
      refine PW_lload_n (i := 3) dX12_voyages_56 rfl rfl ?_
      refine PW_ldc2 dX12_voyages_57 kc12_265 ?_
      refine PW_ldiv dX12_voyages_60 (by decide) ?_
      refine PW_ldc2 dX12_voyages_61 kc12_267 ?_
      refine PW_lrem dX12_voyages_64 (by decide) ?_
      refine PW_eql (lcg_w Fl2) ?_
      refine PW_l2i dX12_voyages_65 ?_
      refine PW_eqi (lN_i (lcw x j)) ?_
      refine PW_istore dX12_voyages_66 (Nat.le_of_ble_eq_true rfl) rfl ?_
      refine PW_iconst (v := 0) dX12_voyages_68 (by decide) ?_
      refine PW_istore dX12_voyages_69 (Nat.le_of_ble_eq_true rfl) rfl ?_
      exact lpX12_voyages2 hY' hR' hV' hb hd hx hn9 z1 p1 p2 (m := j) (by omega) v1 v2 (fun i3 b1 b2 z6 z7 => ih (j + 1) (by omega) (by omega) i3 z6 z7 b1 b2) (hn (vh (aV s)) + 1) 0 (by omega) (by omega) i' (fun _ _ => rfl) (fun q hq => absurd hq (Nat.not_lt_zero q))
set_option maxRecDepth 100000 in
set_option maxHeartbeats 4000000 in
theorem spX12_voyages {G : GE} {d : Nat} {i : MI0} {S : MS} {Y : Nat} (hY : YS S Y) {s : Ab} {b : Nat} (hR : MR i S Y s) (hV : AV b s) (hb : b ≤ 100) (hd : 12 ≤ d) (k l : Int32) : Mt G iX12_voyages d [.ref Y, .int k, .int l] (i, S) (OpM Y (i, S) (.int (oVoyages s k l).1) (oVoyages s k l).2) := by
  have hY' := hY
  obtain ⟨Yt, ⟨Yt1, Yr1⟩, ⟨Yt2, Yr2⟩, ⟨Yt3, Yr3⟩, ⟨Yt4, Yr4⟩, ⟨Yt5, Yr5⟩, ⟨Yt6, Yr6⟩, ⟨Yt7, Yr7⟩, ⟨Yt8, Yr8⟩, ⟨Yt9, Yr9⟩, ⟨Yt10, Yr10⟩, ⟨Yt11, Yr11⟩, ⟨Yt12, Yr12⟩, ⟨Yt13, Yr13⟩, ⟨Yt14, Yr14⟩, ⟨Yt15, Yr15⟩, ⟨Yt16, Yr16⟩, ⟨Yt17, Yr17⟩, ⟨Yt18, Yr18⟩, ⟨Yt19, Yr19⟩⟩ := hY
  have hR' := hR
  have hV' := hV
  obtain ⟨Rm, Ri0, Ri1, Rk, Rx, Rt, Rl⟩ := hR
  have Rh := Rm.1
  obtain ⟨Av, Ai, At, Ab', Aa, Aw⟩ := hV
  have Ah := Av.1
  have Ah1 := Ah.1
  have Av1 := Av.2.1
  have Av2 := Av.2.2.1
  have Av3 := Av.2.2.2.1
  refine Mt_in 5 (ls := [.ref Y, .int k, .int l, .null, .null, .null, .null, .null]) moX12_voyages (Nat.le_of_ble_eq_true rfl) rfl ?_
  refine PW_iload_n (i := 1) dX12_voyages_0 rfl rfl ?_
  refine PW_iconst (v := 0) dX12_voyages_1 (by decide) ?_
  refine PW_ldcw dX12_voyages_2 kc12_258 ?_
  refine PW_callS dX12_voyages_5 moX12_in cs12_93 (by omega) rfl rfl (Nat.le_of_ble_eq_true rfl) (Nat.le_of_ble_eq_true rfl) (Nat.le_of_ble_eq_true rfl) (spX12_in (d := d - 1) _ _ _) (fun v M1 hq => ?_)
  obtain ⟨rfl, rfl⟩ := hq
  refine PW_if_eq 21 dX12_voyages_8 (by decide) (fun h8 => ?_) (fun h8 => ?_)
  · have h8 := b1_0.mp h8
    refine PW_aload_n (i := 0) dX12_voyages_21 rfl rfl ?_
    refine PW_callV dX12_voyages_22 moX12_manyBad cv12_211 (Yt) (by omega) rfl rfl (Nat.le_of_ble_eq_true rfl) (Nat.le_of_ble_eq_true rfl) (Nat.le_of_ble_eq_true rfl) (spX12_manyBad (d := d - 1) hY' hR') (fun v M1 hq => ?_)
    obtain ⟨rfl, i1, rfl, c1, c2⟩ := hq
    refine PW_ireturn rfl (rfl) dX12_voyages_25 (Nat.le_of_ble_eq_true rfl) (Nat.le_of_ble_eq_true rfl) ?_
    exact OpM_i (by unfold oVoyages; rw [if_neg (fun q => by first | exact h8 q.1 | exact h18 q.2)]) hY' c1 (fun q hq => c2 q (by omega))
  · have h8 := b1_1.mp h8
    refine PW_iload_n (i := 2) dX12_voyages_11 rfl rfl ?_
    refine PW_iconst (v := 0) dX12_voyages_12 (by decide) ?_
    refine PW_bipush (v := 60) dX12_voyages_13 (by decide) ?_
    refine PW_callS dX12_voyages_15 moX12_in cs12_93 (by omega) rfl rfl (Nat.le_of_ble_eq_true rfl) (Nat.le_of_ble_eq_true rfl) (Nat.le_of_ble_eq_true rfl) (spX12_in (d := d - 1) _ _ _) (fun v M1 hq => ?_)
    obtain ⟨rfl, rfl⟩ := hq
    refine PW_if_ne 26 dX12_voyages_18 (by decide) (fun h18 => ?_) (fun h18 => ?_)
    · have h18 := b1_1.mp h18
      obtain ⟨x, hx, rfl⟩ := within_of (n := 999999) h8 rfl rfl (by decide)
      obtain ⟨n, hn9, rfl⟩ := within_of (n := 60) h18 rfl rfl (by decide)
      have ek : (nI x).toNatClampNeg = x := cln (by omega)
      have el : (nI n).toNatClampNeg = n := cln (by omega)
      refine PW_aload_n (i := 0) dX12_voyages_26 rfl rfl ?_
      refine PW_callV dX12_voyages_27 moX12_puts cv12_214 (Yt) (by omega) rfl rfl (Nat.le_of_ble_eq_true rfl) (Nat.le_of_ble_eq_true rfl) (Nat.le_of_ble_eq_true rfl) (spX12_puts (d := d - 1) hY' (by omega)) (fun v M1 hq => ?_)
      obtain ⟨rfl, i1, rfl, p1, p2⟩ := hq
      have Rh1 : MH i1 Y (vh (aV s)) := Rh.kp Ah1 (by rw [p2 Y (by omega)]) (by rw [p2 Y (by omega)]) (by rw [p2 Y (by omega)]) (fun j hj => ⟨by rw [p2 _ (by omega)], by rw [p2 _ (by omega)], by rw [p2 _ (by omega)], by rw [p2 _ (by omega)]⟩)
      refine PW_iload_n (i := 1) dX12_voyages_30 rfl rfl ?_
      refine PW_i2l dX12_voyages_31 ?_
      refine PW_eql (nI_l (by omega)) ?_
      refine PW_lstore_n (i := 3) dX12_voyages_32 rfl (Nat.le_of_ble_eq_true rfl) rfl ?_
      refine PW_iconst (v := 0) dX12_voyages_33 (by decide) ?_
      refine PW_istore dX12_voyages_34 (Nat.le_of_ble_eq_true rfl) rfl ?_
      refine PW_mono (fun v M' hq => ?_) (lpX12_voyages hY' hR' hV' hb hd (x := x) (n := n) (by omega) hn9 _ p1 p2 (n + 1) 0 (by omega) (by omega) i1 _ _ Rh1 (CQ.rfl' i1 Y))
      obtain ⟨rfl, i4, rfl, eq⟩ := hq
      exact OpM_i (by unfold oVoyages; rw [if_pos ⟨h8, h18⟩, ek, el]) hY' (eq.mr hR' hV') eq.fr
    · have h18 := b1_0.mp h18
      refine PW_aload_n (i := 0) dX12_voyages_21 rfl rfl ?_
      refine PW_callV dX12_voyages_22 moX12_manyBad cv12_211 (Yt) (by omega) rfl rfl (Nat.le_of_ble_eq_true rfl) (Nat.le_of_ble_eq_true rfl) (Nat.le_of_ble_eq_true rfl) (spX12_manyBad (d := d - 1) hY' hR') (fun v M1 hq => ?_)
      obtain ⟨rfl, i1, rfl, c1, c2⟩ := hq
      refine PW_ireturn rfl (rfl) dX12_voyages_25 (Nat.le_of_ble_eq_true rfl) (Nat.le_of_ble_eq_true rfl) ?_
      exact OpM_i (by unfold oVoyages; rw [if_neg (fun q => by first | exact h8 q.1 | exact h18 q.2)]) hY' c1 (fun q hq => c2 q (by omega))

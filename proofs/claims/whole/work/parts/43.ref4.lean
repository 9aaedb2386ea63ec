/-! ===== the reference: feed, watch, undo, of, now, seen, forget, status, part, count ===== -/
theorem MV.sh {i i' : MI0} {Y : Nat} {y : Vy} {h : Hm} (hM : MV i Y y) (hh : MH i' Y h) (hn9 : hn h = hn (vh y)) (c : CQ i i' Y) : MV i' Y (wH y h) := by
  obtain ⟨m1, m2, m3, m4, m5, m6, m7⟩ := hM
  refine ⟨hh, (c.1 4 (by decide) (by decide)).trans m2, (c.1 5 (by decide) (by decide)).trans m3, (c.1 22 (by decide) (by decide)).trans m4, ?_, ?_, ?_⟩
  · rw [c.2 (Y + 6) (by omega) (by omega) (by omega)]; exact m5
  · rw [c.2 (Y + 7) (by omega) (by omega) (by omega), c.2 (Y + 8) (by omega) (by omega) (by omega)]; exact m6
  · rw [c.2 (Y + 12) (by omega) (by omega) (by omega)]
    show ∀ u, u < vu y → LH (i (Y + 12)) (14 * u) (hn h) (vU y u)
    rw [hn9]; exact m7
theorem fd_bit {f j a : Nat} : (f ||| 2 ^ j).testBit a = (f.testBit a || decide (j = a)) := by
  rw [Nat.testBit_or, Nat.testBit_two_pow]
theorem b2i_1 {b : Bool} : b2i b = 1 ↔ b = true := by cases b <;> decide
theorem MV.fd {i i' : MI0} {S : MS} {Y : Nat} {y : Vy} {j : Nat} (hM : MV i Y y) (e : i' = mi (wI (i, S) (Y + 5) j 1)) : MV i' Y (fdV y j) := by
  obtain ⟨m1, m2, m3, m4, m5, m6, m7⟩ := hM
  subst e
  refine ⟨⟨?_, ?_, ?_, fun a ha => ⟨?_, ?_, ?_, ?_⟩⟩, ?_, ?_, ?_, ?_, ?_, ?_⟩
  · rw [rI_a _ _ _ (by omega)]; exact m1.1
  · rw [rI_a _ _ _ (by omega)]; exact m1.2.1
  · rw [rI_a _ _ _ (by omega)]; exact m1.2.2.1
  · rw [rI_a _ _ _ (by omega)]; exact (m1.2.2.2 a ha).1
  · rw [rI_a _ _ _ (by omega)]; exact (m1.2.2.2 a ha).2.1
  · rw [rI_a _ _ _ (by omega)]; exact (m1.2.2.2 a ha).2.2.1
  · rw [show (hf (vh (fdV y j))).testBit a = ((hf (vh y)).testBit a || decide (j = a)) from fd_bit]
    by_cases q : a = j
    · rw [q, rI_s, decide_eq_true rfl, Bool.or_true]; rfl
    · rw [rI_k _ _ _ q, decide_eq_false (fun z => q z.symm), Bool.or_false]; exact (m1.2.2.2 a ha).2.2.2
  · rw [rI_a _ _ _ (by omega)]; exact m2
  · rw [rI_a _ _ _ (by omega)]; exact m3
  · rw [rI_a _ _ _ (by omega)]; exact m4
  · rw [rI_f _ _ (by omega)]; exact m5
  · rw [rI_f _ _ (by omega), rI_f _ _ (by omega)]; exact m6
  · rw [rI_f _ _ (by omega)]; exact m7
set_option maxRecDepth 100000 in
set_option maxHeartbeats 4000000 in
theorem spX12_feed {G : GE} {d : Nat} {i : MI0} {S : MS} {Y : Nat} (hY : YS S Y) {s : Ab} {b : Nat} (hR : MR i S Y s) (hV : AV b s) (hb : b ≤ 100) (hd : 12 ≤ d) (k : Int32) : Mt G iX12_feed d [.ref Y, .int k] (i, S) (OpM Y (i, S) (.int (oFeed s k).1) (oFeed s k).2) := by
  have hY' := hY
  obtain ⟨Yt, ⟨Yt1, Yr1⟩, ⟨Yt2, Yr2⟩, ⟨Yt3, Yr3⟩, ⟨Yt4, Yr4⟩, ⟨Yt5, Yr5⟩, ⟨Yt6, Yr6⟩, ⟨Yt7, Yr7⟩, ⟨Yt8, Yr8⟩, ⟨Yt9, Yr9⟩, ⟨Yt10, Yr10⟩, ⟨Yt11, Yr11⟩, ⟨Yt12, Yr12⟩, ⟨Yt13, Yr13⟩, ⟨Yt14, Yr14⟩, ⟨Yt15, Yr15⟩, ⟨Yt16, Yr16⟩, ⟨Yt17, Yr17⟩, ⟨Yt18, Yr18⟩, ⟨Yt19, Yr19⟩⟩ := hY
  have hR' := hR
  have hV' := hV
  obtain ⟨Rm, Ri0, Ri1, Rk, Rx, Rt, Rl⟩ := hR
  have Rh := Rm.1
  obtain ⟨Av, Ai, At, Ab', Aa, Aw⟩ := hV
  have Ah := Av.1
  have Ah1 := Ah.1
  have Av1 := Av.2.1
  have Av2 := Av.2.2.1
  have Av3 := Av.2.2.2.1
  refine Mt_in 0 (ls := [.ref Y, .int k]) moX12_feed (Nat.le_of_ble_eq_true rfl) rfl ?_
  refine PW_aload_n (i := 0) dX12_feed_0 rfl rfl ?_
  refine PW_iload_n (i := 1) dX12_feed_1 rfl rfl ?_
  refine PW_callV dX12_feed_2 moX12_isHand cv12_199 (Yt) (by omega) rfl rfl (Nat.le_of_ble_eq_true rfl) (Nat.le_of_ble_eq_true rfl) (Nat.le_of_ble_eq_true rfl) (spX12_isHand (d := d - 1) hY' Rh (by omega) _) (fun v M1 hq => ?_)
  obtain ⟨rfl, rfl⟩ := hq
  refine PW_if_ne 13 dX12_feed_5 (by decide) (fun h5 => ?_) (fun h5 => ?_)
  · have h5 := b1_1.mp h5
    obtain ⟨j, hj, rfl⟩ := isH_of hV' h5
    have ek : (nI j).toNatClampNeg = j := cln (by omega)
    refine PW_aload_n (i := 0) dX12_feed_13 rfl rfl ?_
    refine PW_getR dX12_feed_14 fg12_22 (Yt) (Yr5) ?_
    refine PW_iload_n (i := 1) dX12_feed_17 rfl rfl ?_
    refine PW_ial (v := b2i ((hf (vh (aV s))).testBit j)) dX12_feed_18 (Yt5) (by omega) (by omega) ((Rh.2.2.2 j hj).2.2.2) ?_
    refine PW_iconst (v := 1) dX12_feed_19 (by decide) ?_
    refine PW_icmp_ne 28 dX12_feed_20 (by decide) (fun h20 => ?_) (fun h20 => ?_)
    · have h20 : ¬ (hf (vh (aV s))).testBit j = true := fun q => h20 (b2i_1.mpr q)
      refine PW_aload_n (i := 0) dX12_feed_28 rfl rfl ?_
      refine PW_callV dX12_feed_29 moX12_notes cv12_202 (Yt) (by omega) rfl rfl (Nat.le_of_ble_eq_true rfl) (Nat.le_of_ble_eq_true rfl) (Nat.le_of_ble_eq_true rfl) (spX12_notes (d := d - 1) hY' Rm Av (by omega)) (fun v M1 hq => ?_)
      obtain ⟨rfl, i1, rfl, n1, n2, n3⟩ := hq
      refine PW_aload_n (i := 0) dX12_feed_32 rfl rfl ?_
      refine PW_getR dX12_feed_33 fg12_22 (Yt) (Yr5) ?_
      refine PW_iload_n (i := 1) dX12_feed_36 rfl rfl ?_
      refine PW_iconst (v := 1) dX12_feed_37 (by decide) ?_
      refine PW_ias dX12_feed_38 (Yt5) (by omega) (by omega) ?_
      refine PW_nm rfl (fun i2 e2 => ?_)
      refine PW_iconst (v := 1) dX12_feed_39 (by decide) ?_
      refine PW_ireturn rfl (rfl) dX12_feed_40 (Nat.le_of_ble_eq_true rfl) (Nat.le_of_ble_eq_true rfl) ?_
      exact OpM_i (by unfold oFeed; rw [if_pos h5, ek, if_neg h20]) hY' (hR'.mv (n1.fd e2) (by rw [e2, rI_a _ _ _ (by omega)]; exact n2 14 (by decide)) (fun q hq => by rw [e2, rI_f _ _ (by omega)]; exact n3 q (by omega) (by omega))) (fun q hq => by rw [e2, rI_f _ _ (by omega)]; exact n3 q (by omega) (by omega))
    · have h20 := b2i_1.mp h20
      refine PW_aload_n (i := 0) dX12_feed_23 rfl rfl ?_
      refine PW_callV dX12_feed_24 moX12_no cv12_105 (Yt) (by omega) rfl rfl (Nat.le_of_ble_eq_true rfl) (Nat.le_of_ble_eq_true rfl) (Nat.le_of_ble_eq_true rfl) (spX12_no (d := d - 1) hY' hR') (fun v M1 hq => ?_)
      obtain ⟨rfl, i1, rfl, c1, c2⟩ := hq
      refine PW_ireturn rfl (rfl) dX12_feed_27 (Nat.le_of_ble_eq_true rfl) (Nat.le_of_ble_eq_true rfl) ?_
      exact OpM_i (by unfold oFeed; rw [if_pos h5, ek, if_pos h20]) hY' c1 (fun q hq => c2 q (by omega))
  · have h5 := b1_0.mp h5
    refine PW_aload_n (i := 0) dX12_feed_8 rfl rfl ?_
    refine PW_callV dX12_feed_9 moX12_bad cv12_97 (Yt) (by omega) rfl rfl (Nat.le_of_ble_eq_true rfl) (Nat.le_of_ble_eq_true rfl) (Nat.le_of_ble_eq_true rfl) (spX12_bad (d := d - 1) hY' hR') (fun v M1 hq => ?_)
    obtain ⟨rfl, i1, rfl, c1, c2⟩ := hq
    refine PW_ireturn rfl (rfl) dX12_feed_12 (Nat.le_of_ble_eq_true rfl) (Nat.le_of_ble_eq_true rfl) ?_
    exact OpM_i (by unfold oFeed; rw [if_neg h5]) hY' c1 (fun q hq => c2 q (by omega))
set_option maxRecDepth 100000 in
set_option maxHeartbeats 4000000 in
theorem spX12_watch {G : GE} {d : Nat} {i : MI0} {S : MS} {Y : Nat} (hY : YS S Y) {s : Ab} {b : Nat} (hR : MR i S Y s) (hV : AV b s) (hb : b ≤ 100) (hd : 12 ≤ d) : Mt G iX12_watch d [.ref Y] (i, S) (OpM Y (i, S) (.int (oWatch s).1) (oWatch s).2) := by
  have hY' := hY
  obtain ⟨Yt, ⟨Yt1, Yr1⟩, ⟨Yt2, Yr2⟩, ⟨Yt3, Yr3⟩, ⟨Yt4, Yr4⟩, ⟨Yt5, Yr5⟩, ⟨Yt6, Yr6⟩, ⟨Yt7, Yr7⟩, ⟨Yt8, Yr8⟩, ⟨Yt9, Yr9⟩, ⟨Yt10, Yr10⟩, ⟨Yt11, Yr11⟩, ⟨Yt12, Yr12⟩, ⟨Yt13, Yr13⟩, ⟨Yt14, Yr14⟩, ⟨Yt15, Yr15⟩, ⟨Yt16, Yr16⟩, ⟨Yt17, Yr17⟩, ⟨Yt18, Yr18⟩, ⟨Yt19, Yr19⟩⟩ := hY
  have hR' := hR
  have hV' := hV
  obtain ⟨Rm, Ri0, Ri1, Rk, Rx, Rt, Rl⟩ := hR
  have Rh := Rm.1
  obtain ⟨Av, Ai, At, Ab', Aa, Aw⟩ := hV
  have Ah := Av.1
  have Ah1 := Ah.1
  have Av1 := Av.2.1
  have Av2 := Av.2.2.1
  have Av3 := Av.2.2.2.1
  refine Mt_in 0 (ls := [.ref Y]) moX12_watch (Nat.le_of_ble_eq_true rfl) rfl ?_
  refine PW_aload_n (i := 0) dX12_watch_0 rfl rfl ?_
  refine PW_callV dX12_watch_1 moX12_notes cv12_202 (Yt) (by omega) rfl rfl (Nat.le_of_ble_eq_true rfl) (Nat.le_of_ble_eq_true rfl) (Nat.le_of_ble_eq_true rfl) (spX12_notes (d := d - 1) hY' Rm Av (by omega)) (fun v M1 hq => ?_)
  obtain ⟨rfl, i1, rfl, n1, n2, n3⟩ := hq
  refine PW_aload_n (i := 0) dX12_watch_4 rfl rfl ?_
  refine PW_callV dX12_watch_5 moX12_pass cv12_205 (Yt) (by omega) rfl rfl (Nat.le_of_ble_eq_true rfl) (Nat.le_of_ble_eq_true rfl) (Nat.le_of_ble_eq_true rfl) (spX12_pass (d := d - 1) hY' n1.1 (h := vh (aV s)) Ah (by omega) (by omega)) (fun v M1 hq => ?_)
  obtain ⟨rfl, i2, rfl, p1, p2⟩ := hq
  refine PW_ireturn rfl (rfl) dX12_watch_8 (Nat.le_of_ble_eq_true rfl) (Nat.le_of_ble_eq_true rfl) ?_
  exact OpM_i (o := oWatch s) rfl hY' (hR'.mv (n1.sh p1 rfl p2) ((p2.1 14 (by decide) (by decide)).trans (n2 14 (by decide))) (fun q hq => (p2.2 q (by omega) (by omega) (by omega)).trans (n3 q (by omega) (by omega)))) (fun q hq => (p2.2 q (by omega) (by omega) (by omega)).trans (n3 q (by omega) (by omega)))
theorem MV.gb {i i1 i2 : MI0} {Y b : Nat} {y : Vy} (hM : MV i Y y) (hV : VV b y) (h0 : ¬ vu y = 0) (e1 : ∀ k, k ≠ 22 → i1 Y k = i Y k) (e22 : i1 Y 22 = nI (vu y - 1)) (e : ∀ q, q ≠ Y → i1 q = i q) (t0 : i2 Y 2 = i1 (Y + 12) (14 * (vu y - 1))) (t1 : i2 Y 3 = i1 (Y + 12) (14 * (vu y - 1) + 1)) (t2 : ∀ k, k ≠ 2 → k ≠ 3 → i2 Y k = i1 Y k) (t3 : ∀ j, j < 6 → i2 (Y + 3) j = i1 (Y + 12) (14 * (vu y - 1) + 2 + j) ∧ i2 (Y + 5) j = i1 (Y + 12) (14 * (vu y - 1) + 8 + j)) (t4 : ∀ q, q ≠ Y → q ≠ Y + 3 → q ≠ Y + 5 → i2 q = i1 q) : MV i2 Y (gbV y) := by
  obtain ⟨m1, m2, m3, m4, m5, m6, m7⟩ := hM
  have hu := hV.2.2.2.2.2 (vu y - 1) (by omega)
  have hl := m7 (vu y - 1) (by omega)
  have h6 := hV.1.1
  rw [e (Y + 12) (by omega)] at t0 t1
  have f : ∀ q, q ≠ Y → q ≠ Y + 3 → q ≠ Y + 5 → i2 q = i q := fun q a b c => (t4 q a b c).trans (e q a)
  have hn9 : hn (vh (gbV y)) = hn (vh y) := hu.2.1
  refine ⟨⟨?_, t0.trans hl.1, t1.trans hl.2.1, fun j hj => ?_⟩, ?_, ?_, ?_, ?_, ?_, fun u hu' => ?_⟩
  · rw [t2 1 (by decide) (by decide), e1 1 (by decide), m1.1, hn9]
  · rw [hn9] at hj
    have h3 := t3 j (by omega)
    rw [e (Y + 12) (by omega)] at h3
    refine ⟨?_, h3.1.trans (hl.2.2 j hj).1, ?_, h3.2.trans (hl.2.2 j hj).2⟩
    · rw [f (Y + 2) (by omega) (by omega) (by omega), (m1.2.2.2 j hj).1]
      exact congrArg nI ((hu.2.2 j hj).1).symm
    · rw [f (Y + 4) (by omega) (by omega) (by omega), (m1.2.2.2 j hj).2.2.1]
      exact congrArg iN ((hu.2.2 j hj).2).symm
  · rw [t2 4 (by decide) (by decide), e1 4 (by decide)]; exact m2
  · rw [t2 5 (by decide) (by decide), e1 5 (by decide)]; exact m3
  · rw [t2 22 (by decide) (by decide)]; exact e22
  · rw [f (Y + 6) (by omega) (by omega) (by omega)]; exact m5
  · rw [f (Y + 7) (by omega) (by omega) (by omega), f (Y + 8) (by omega) (by omega) (by omega)]; exact m6
  · rw [f (Y + 12) (by omega) (by omega) (by omega), hn9]
    exact m7 u (by have : u < vu y - 1 := hu'; omega)
set_option maxRecDepth 100000 in
set_option maxHeartbeats 4000000 in
theorem spX12_undo {G : GE} {d : Nat} {i : MI0} {S : MS} {Y : Nat} (hY : YS S Y) {s : Ab} {b : Nat} (hR : MR i S Y s) (hV : AV b s) (hb : b ≤ 100) (hd : 12 ≤ d) : Mt G iX12_undo d [.ref Y] (i, S) (OpM Y (i, S) (.int (oUndo s).1) (oUndo s).2) := by
  have hY' := hY
  obtain ⟨Yt, ⟨Yt1, Yr1⟩, ⟨Yt2, Yr2⟩, ⟨Yt3, Yr3⟩, ⟨Yt4, Yr4⟩, ⟨Yt5, Yr5⟩, ⟨Yt6, Yr6⟩, ⟨Yt7, Yr7⟩, ⟨Yt8, Yr8⟩, ⟨Yt9, Yr9⟩, ⟨Yt10, Yr10⟩, ⟨Yt11, Yr11⟩, ⟨Yt12, Yr12⟩, ⟨Yt13, Yr13⟩, ⟨Yt14, Yr14⟩, ⟨Yt15, Yr15⟩, ⟨Yt16, Yr16⟩, ⟨Yt17, Yr17⟩, ⟨Yt18, Yr18⟩, ⟨Yt19, Yr19⟩⟩ := hY
  have hR' := hR
  have hV' := hV
  obtain ⟨Rm, Ri0, Ri1, Rk, Rx, Rt, Rl⟩ := hR
  have Rh := Rm.1
  obtain ⟨Av, Ai, At, Ab', Aa, Aw⟩ := hV
  have Ah := Av.1
  have Ah1 := Ah.1
  have Av1 := Av.2.1
  have Av2 := Av.2.2.1
  have Av3 := Av.2.2.2.1
  refine Mt_in 0 (ls := [.ref Y]) moX12_undo (Nat.le_of_ble_eq_true rfl) rfl ?_
  refine PW_aload_n (i := 0) dX12_undo_0 rfl rfl ?_
  refine PW_giv (v := nI (vu (aV s))) dX12_undo_1 fg12_90 (Yt) (Rm.2.2.2.1) ?_
  refine PW_if_ne 12 dX12_undo_4 (by decide) (fun h4 => ?_) (fun h4 => ?_)
  · have h4 : ¬ vu (aV s) = 0 := fun q => h4 (by rw [q]; rfl)
    refine PW_aload_n (i := 0) dX12_undo_12 rfl rfl ?_
    refine PW_dup dX12_undo_13 rfl ?_
    refine PW_giv (v := nI (vu (aV s))) dX12_undo_14 fg12_90 (Yt) (Rm.2.2.2.1) ?_
    refine PW_iconst (v := 1) dX12_undo_17 (by decide) ?_
    refine PW_isub dX12_undo_18 ?_
    refine PW_eqi (show nI (vu (aV s)) - 1 = nI (vu (aV s) - 1) by rw [show vu (aV s) = (vu (aV s) - 1) + 1 by omega]; exact nI_pred _) ?_
    refine PW_putI dX12_undo_19 fr12_90 (fun h => by cases h) (Yt) ?_
    refine PW_nm rfl (fun i1 e1 => ?_)
    have q1 : ∀ k, k ≠ 22 → i1 Y k = i Y k := fun k hk => by rw [e1, rI_k _ _ _ hk]; rfl
    have q22 : i1 Y 22 = nI (vu (aV s) - 1) := by rw [e1]; exact rI_s _ _ _ _
    have q2 : ∀ q, q ≠ Y → i1 q = i q := fun q hq => by rw [e1, rI_f _ _ hq]; rfl
    refine PW_aload_n (i := 0) dX12_undo_22 rfl rfl ?_
    refine PW_aload_n (i := 0) dX12_undo_23 rfl rfl ?_
    refine PW_getR dX12_undo_24 fg12_43 (Yt) (Yr12) ?_
    refine PW_bipush (v := 14) dX12_undo_27 (by decide) ?_
    refine PW_aload_n (i := 0) dX12_undo_29 rfl rfl ?_
    refine PW_giv (v := nI (vu (aV s) - 1)) dX12_undo_30 fg12_90 (Yt) (q22) ?_
    refine PW_imul dX12_undo_33 ?_
    refine PW_eqi (pk_mul 14 _) ?_
    refine PW_callV dX12_undo_34 moX12_takes cv12_196 (Yt) (by omega) rfl rfl (Nat.le_of_ble_eq_true rfl) (Nat.le_of_ble_eq_true rfl) (Nat.le_of_ble_eq_true rfl) (spX12_takes (d := d - 1) hY' (at' := 14 * (vu (aV s) - 1)) Yt12 (by omega) (by omega) (by omega) (by omega) (by omega)) (fun v M1 hq => ?_)
    obtain ⟨rfl, i2, rfl, t0, t1, t2, t3, t4⟩ := hq
    have mg := MV.gb Rm Av h4 q1 q22 q2 t0 t1 t2 t3 t4
    refine PW_aload_n (i := 0) dX12_undo_37 rfl rfl ?_
    refine PW_giv (v := nI (hw (vU (aV s) (vu (aV s) - 1)))) dX12_undo_38 fg12_81 (Yt) (mg.1.2.2.1) ?_
    refine PW_ireturn rfl (rfl) dX12_undo_41 (Nat.le_of_ble_eq_true rfl) (Nat.le_of_ble_eq_true rfl) ?_
    exact OpM_i (by unfold oUndo; rw [if_neg h4]) hY' (hR'.mv mg ((t2 14 (by decide) (by decide)).trans (q1 14 (by decide))) (fun q hq => (t4 q (by omega) (by omega) (by omega)).trans (q2 q (by omega)))) (fun q hq => (t4 q (by omega) (by omega) (by omega)).trans (q2 q (by omega)))
  · have h4 := jeq (b := 0) h4
    refine PW_aload_n (i := 0) dX12_undo_7 rfl rfl ?_
    refine PW_callV dX12_undo_8 moX12_no cv12_105 (Yt) (by omega) rfl rfl (Nat.le_of_ble_eq_true rfl) (Nat.le_of_ble_eq_true rfl) (Nat.le_of_ble_eq_true rfl) (spX12_no (d := d - 1) hY' hR') (fun v M1 hq => ?_)
    obtain ⟨rfl, i1, rfl, c1, c2⟩ := hq
    refine PW_ireturn rfl (rfl) dX12_undo_11 (Nat.le_of_ble_eq_true rfl) (Nat.le_of_ble_eq_true rfl) ?_
    exact OpM_i (by unfold oUndo; rw [if_pos h4]) hY' c1 (fun q hq => c2 q (by omega))
set_option maxRecDepth 100000 in
set_option maxHeartbeats 4000000 in
theorem spX12_of {G : GE} {d : Nat} {i : MI0} {S : MS} {Y : Nat} (hY : YS S Y) {s : Ab} {b : Nat} (hR : MR i S Y s) (hV : AV b s) (hb : b ≤ 100) (hd : 12 ≤ d) (k w : Int32) : Mt G iX12_of d [.ref Y, .int k, .int w] (i, S) (OpM Y (i, S) (.int (oOf s k w).1) (oOf s k w).2) := by
  have hY' := hY
  obtain ⟨Yt, ⟨Yt1, Yr1⟩, ⟨Yt2, Yr2⟩, ⟨Yt3, Yr3⟩, ⟨Yt4, Yr4⟩, ⟨Yt5, Yr5⟩, ⟨Yt6, Yr6⟩, ⟨Yt7, Yr7⟩, ⟨Yt8, Yr8⟩, ⟨Yt9, Yr9⟩, ⟨Yt10, Yr10⟩, ⟨Yt11, Yr11⟩, ⟨Yt12, Yr12⟩, ⟨Yt13, Yr13⟩, ⟨Yt14, Yr14⟩, ⟨Yt15, Yr15⟩, ⟨Yt16, Yr16⟩, ⟨Yt17, Yr17⟩, ⟨Yt18, Yr18⟩, ⟨Yt19, Yr19⟩⟩ := hY
  have hR' := hR
  have hV' := hV
  obtain ⟨Rm, Ri0, Ri1, Rk, Rx, Rt, Rl⟩ := hR
  have Rh := Rm.1
  obtain ⟨Av, Ai, At, Ab', Aa, Aw⟩ := hV
  have Ah := Av.1
  have Ah1 := Ah.1
  have Av1 := Av.2.1
  have Av2 := Av.2.2.1
  have Av3 := Av.2.2.2.1
  refine Mt_in 0 (ls := [.ref Y, .int k, .int w]) moX12_of (Nat.le_of_ble_eq_true rfl) rfl ?_
  refine PW_aload_n (i := 0) dX12_of_0 rfl rfl ?_
  refine PW_iload_n (i := 1) dX12_of_1 rfl rfl ?_
  refine PW_callV dX12_of_2 moX12_isHand cv12_199 (Yt) (by omega) rfl rfl (Nat.le_of_ble_eq_true rfl) (Nat.le_of_ble_eq_true rfl) (Nat.le_of_ble_eq_true rfl) (spX12_isHand (d := d - 1) hY' Rh (by omega) _) (fun v M1 hq => ?_)
  obtain ⟨rfl, rfl⟩ := hq
  refine PW_if_eq 17 dX12_of_5 (by decide) (fun h5 => ?_) (fun h5 => ?_)
  · have h5 := b1_0.mp h5
    refine PW_aload_n (i := 0) dX12_of_17 rfl rfl ?_
    refine PW_callV dX12_of_18 moX12_ten cv12_208 (Yt) (by omega) rfl rfl (Nat.le_of_ble_eq_true rfl) (Nat.le_of_ble_eq_true rfl) (Nat.le_of_ble_eq_true rfl) (spX12_ten (d := d - 1) hY' hR') (fun v M1 hq => ?_)
    obtain ⟨rfl, i1, rfl, c1, c2⟩ := hq
    refine PW_ireturn rfl (rfl) dX12_of_21 (Nat.le_of_ble_eq_true rfl) (Nat.le_of_ble_eq_true rfl) ?_
    exact OpM_i (by unfold oOf; rw [if_neg (fun q => by first | exact h5 q.1 | exact h14 q.2)]) hY' c1 (fun q hq => c2 q (by omega))
  · have h5 := b1_1.mp h5
    refine PW_iload_n (i := 2) dX12_of_8 rfl rfl ?_
    refine PW_iconst (v := 0) dX12_of_9 (by decide) ?_
    refine PW_iconst (v := 4) dX12_of_10 (by decide) ?_
    refine PW_callS dX12_of_11 moX12_in cs12_93 (by omega) rfl rfl (Nat.le_of_ble_eq_true rfl) (Nat.le_of_ble_eq_true rfl) (Nat.le_of_ble_eq_true rfl) (spX12_in (d := d - 1) _ _ _) (fun v M1 hq => ?_)
    obtain ⟨rfl, rfl⟩ := hq
    refine PW_if_ne 22 dX12_of_14 (by decide) (fun h14 => ?_) (fun h14 => ?_)
    · have h14 := b1_1.mp h14
      obtain ⟨j, hj, rfl⟩ := isH_of hV' h5
      have ek : (nI j).toNatClampNeg = j := cln (by omega)
      refine PW_iload_n (i := 2) dX12_of_22 rfl rfl ?_
      refine PW_if_ne 35 dX12_of_23 (by decide) (fun h23 => ?_) (fun h23 => ?_)
      · refine PW_iload_n (i := 2) dX12_of_35 rfl rfl ?_
        refine PW_iconst (v := 1) dX12_of_36 (by decide) ?_
        refine PW_icmp_ne 49 dX12_of_37 (by decide) (fun h37 => ?_) (fun h37 => ?_)
        · refine PW_iload_n (i := 2) dX12_of_49 rfl rfl ?_
          refine PW_iconst (v := 2) dX12_of_50 (by decide) ?_
          refine PW_icmp_ne 63 dX12_of_51 (by decide) (fun h51 => ?_) (fun h51 => ?_)
          · refine PW_iload_n (i := 2) dX12_of_63 rfl rfl ?_
            refine PW_iconst (v := 3) dX12_of_64 (by decide) ?_
            refine PW_icmp_ne 77 dX12_of_65 (by decide) (fun h65 => ?_) (fun h65 => ?_)
            · refine PW_aload_n (i := 0) dX12_of_77 rfl rfl ?_
              refine PW_iload_n (i := 1) dX12_of_78 rfl rfl ?_
              refine PW_callV dX12_of_79 moX12_sleepy cv12_183 (Yt) (by omega) rfl rfl (Nat.le_of_ble_eq_true rfl) (Nat.le_of_ble_eq_true rfl) (Nat.le_of_ble_eq_true rfl) (spX12_sleepy (d := d - 1) hY' Rh Ah (by omega) (by omega) hj) (fun v M1 hq => ?_)
              obtain ⟨rfl, rfl⟩ := hq
              refine PW_ireturn rfl (rfl) dX12_of_82 (Nat.le_of_ble_eq_true rfl) (Nat.le_of_ble_eq_true rfl) ?_
              refine OpM_i ?_ hY' hR' (fun _ _ => rfl)
              unfold oOf
              rw [if_pos ⟨h5, h14⟩, ek]
              first | rw [if_pos h23] | rw [if_neg h23, if_pos h37] | rw [if_neg h23, if_neg h37, if_pos h51] | rw [if_neg h23, if_neg h37, if_neg h51, if_pos h65] | rw [if_neg h23, if_neg h37, if_neg h51, if_neg h65]
            · refine PW_aload_n (i := 0) dX12_of_68 rfl rfl ?_
              refine PW_getR dX12_of_69 fg12_22 (Yt) (Yr5) ?_
              refine PW_iload_n (i := 1) dX12_of_72 rfl rfl ?_
              refine PW_ial (v := b2i ((hf (vh (aV s))).testBit j)) dX12_of_73 (Yt5) (by omega) (by omega) ((Rh.2.2.2 j hj).2.2.2) ?_
              refine PW_goto 82 dX12_of_74 (by decide) ?_
              refine PW_ireturn rfl (rfl) dX12_of_82 (Nat.le_of_ble_eq_true rfl) (Nat.le_of_ble_eq_true rfl) ?_
              refine OpM_i ?_ hY' hR' (fun _ _ => rfl)
              unfold oOf
              rw [if_pos ⟨h5, h14⟩, ek]
              first | rw [if_pos h23] | rw [if_neg h23, if_pos h37] | rw [if_neg h23, if_neg h37, if_pos h51] | rw [if_neg h23, if_neg h37, if_neg h51, if_pos h65] | rw [if_neg h23, if_neg h37, if_neg h51, if_neg h65]
          · refine PW_aload_n (i := 0) dX12_of_54 rfl rfl ?_
            refine PW_getR dX12_of_55 fg12_19 (Yt) (Yr4) ?_
            refine PW_iload_n (i := 1) dX12_of_58 rfl rfl ?_
            refine PW_ial (v := iN (hN (vh (aV s)) j)) dX12_of_59 (Yt4) (by omega) (by omega) ((Rh.2.2.2 j hj).2.2.1) ?_
            refine PW_goto 82 dX12_of_60 (by decide) ?_
            refine PW_ireturn rfl (rfl) dX12_of_82 (Nat.le_of_ble_eq_true rfl) (Nat.le_of_ble_eq_true rfl) ?_
            refine OpM_i ?_ hY' hR' (fun _ _ => rfl)
            unfold oOf
            rw [if_pos ⟨h5, h14⟩, ek]
            first | rw [if_pos h23] | rw [if_neg h23, if_pos h37] | rw [if_neg h23, if_neg h37, if_pos h51] | rw [if_neg h23, if_neg h37, if_neg h51, if_pos h65] | rw [if_neg h23, if_neg h37, if_neg h51, if_neg h65]
        · refine PW_aload_n (i := 0) dX12_of_40 rfl rfl ?_
          refine PW_getR dX12_of_41 fg12_16 (Yt) (Yr3) ?_
          refine PW_iload_n (i := 1) dX12_of_44 rfl rfl ?_
          refine PW_ial (v := nI (hT (vh (aV s)) j)) dX12_of_45 (Yt3) (by omega) (by omega) ((Rh.2.2.2 j hj).2.1) ?_
          refine PW_goto 82 dX12_of_46 (by decide) ?_
          refine PW_ireturn rfl (rfl) dX12_of_82 (Nat.le_of_ble_eq_true rfl) (Nat.le_of_ble_eq_true rfl) ?_
          refine OpM_i ?_ hY' hR' (fun _ _ => rfl)
          unfold oOf
          rw [if_pos ⟨h5, h14⟩, ek]
          first | rw [if_pos h23] | rw [if_neg h23, if_pos h37] | rw [if_neg h23, if_neg h37, if_pos h51] | rw [if_neg h23, if_neg h37, if_neg h51, if_pos h65] | rw [if_neg h23, if_neg h37, if_neg h51, if_neg h65]
      · refine PW_aload_n (i := 0) dX12_of_26 rfl rfl ?_
        refine PW_getR dX12_of_27 fg12_13 (Yt) (Yr2) ?_
        refine PW_iload_n (i := 1) dX12_of_30 rfl rfl ?_
        refine PW_ial (v := nI (hK (vh (aV s)) j)) dX12_of_31 (Yt2) (by omega) (by omega) ((Rh.2.2.2 j hj).1) ?_
        refine PW_goto 82 dX12_of_32 (by decide) ?_
        refine PW_ireturn rfl (rfl) dX12_of_82 (Nat.le_of_ble_eq_true rfl) (Nat.le_of_ble_eq_true rfl) ?_
        refine OpM_i ?_ hY' hR' (fun _ _ => rfl)
        unfold oOf
        rw [if_pos ⟨h5, h14⟩, ek]
        first | rw [if_pos h23] | rw [if_neg h23, if_pos h37] | rw [if_neg h23, if_neg h37, if_pos h51] | rw [if_neg h23, if_neg h37, if_neg h51, if_pos h65] | rw [if_neg h23, if_neg h37, if_neg h51, if_neg h65]
    · have h14 := b1_0.mp h14
      refine PW_aload_n (i := 0) dX12_of_17 rfl rfl ?_
      refine PW_callV dX12_of_18 moX12_ten cv12_208 (Yt) (by omega) rfl rfl (Nat.le_of_ble_eq_true rfl) (Nat.le_of_ble_eq_true rfl) (Nat.le_of_ble_eq_true rfl) (spX12_ten (d := d - 1) hY' hR') (fun v M1 hq => ?_)
      obtain ⟨rfl, i1, rfl, c1, c2⟩ := hq
      refine PW_ireturn rfl (rfl) dX12_of_21 (Nat.le_of_ble_eq_true rfl) (Nat.le_of_ble_eq_true rfl) ?_
      exact OpM_i (by unfold oOf; rw [if_neg (fun q => by first | exact h5 q.1 | exact h14 q.2)]) hY' c1 (fun q hq => c2 q (by omega))
set_option maxRecDepth 100000 in
set_option maxHeartbeats 4000000 in
theorem spX12_now {G : GE} {d : Nat} {i : MI0} {S : MS} {Y : Nat} (hY : YS S Y) {s : Ab} {b : Nat} (hR : MR i S Y s) (hV : AV b s) (hb : b ≤ 100) (hd : 12 ≤ d) (w : Int32) : Mt G iX12_now d [.ref Y, .int w] (i, S) (OpM Y (i, S) (.int (oNow s w).1) (oNow s w).2) := by
  have hY' := hY
  obtain ⟨Yt, ⟨Yt1, Yr1⟩, ⟨Yt2, Yr2⟩, ⟨Yt3, Yr3⟩, ⟨Yt4, Yr4⟩, ⟨Yt5, Yr5⟩, ⟨Yt6, Yr6⟩, ⟨Yt7, Yr7⟩, ⟨Yt8, Yr8⟩, ⟨Yt9, Yr9⟩, ⟨Yt10, Yr10⟩, ⟨Yt11, Yr11⟩, ⟨Yt12, Yr12⟩, ⟨Yt13, Yr13⟩, ⟨Yt14, Yr14⟩, ⟨Yt15, Yr15⟩, ⟨Yt16, Yr16⟩, ⟨Yt17, Yr17⟩, ⟨Yt18, Yr18⟩, ⟨Yt19, Yr19⟩⟩ := hY
  have hR' := hR
  have hV' := hV
  obtain ⟨Rm, Ri0, Ri1, Rk, Rx, Rt, Rl⟩ := hR
  have Rh := Rm.1
  obtain ⟨Av, Ai, At, Ab', Aa, Aw⟩ := hV
  have Ah := Av.1
  have Ah1 := Ah.1
  have Av1 := Av.2.1
  have Av2 := Av.2.2.1
  have Av3 := Av.2.2.2.1
  refine Mt_in 0 (ls := [.ref Y, .int w]) moX12_now (Nat.le_of_ble_eq_true rfl) rfl ?_
  refine PW_iload_n (i := 1) dX12_now_0 rfl rfl ?_
  refine PW_if_ne 11 dX12_now_1 (by decide) (fun h1 => ?_) (fun h1 => ?_)
  · refine PW_iload_n (i := 1) dX12_now_11 rfl rfl ?_
    refine PW_iconst (v := 1) dX12_now_12 (by decide) ?_
    refine PW_icmp_ne 35 dX12_now_13 (by decide) (fun h13 => ?_) (fun h13 => ?_)
    · refine PW_iload_n (i := 1) dX12_now_35 rfl rfl ?_
      refine PW_iconst (v := 2) dX12_now_36 (by decide) ?_
      refine PW_icmp_ne 47 dX12_now_37 (by decide) (fun h37 => ?_) (fun h37 => ?_)
      · refine PW_aload_n (i := 0) dX12_now_47 rfl rfl ?_
        refine PW_callV dX12_now_48 moX12_manyBad cv12_211 (Yt) (by omega) rfl rfl (Nat.le_of_ble_eq_true rfl) (Nat.le_of_ble_eq_true rfl) (Nat.le_of_ble_eq_true rfl) (spX12_manyBad (d := d - 1) hY' hR') (fun v M1 hq => ?_)
        obtain ⟨rfl, i1, rfl, c1, c2⟩ := hq
        refine PW_ireturn rfl (rfl) dX12_now_51 (Nat.le_of_ble_eq_true rfl) (Nat.le_of_ble_eq_true rfl) ?_
        first
          | exact OpM_i (by unfold oNow; rw [if_pos h1]) hY' hR' (fun _ _ => rfl)
          | exact OpM_i (by unfold oNow; rw [if_neg h1, if_pos h13, h24]; rfl) hY' hR' (fun _ _ => rfl)
          | exact OpM_i (by unfold oNow; rw [if_neg h1, if_neg h13, if_pos h37]) hY' hR' (fun _ _ => rfl)
          | exact OpM_i (by unfold oNow; rw [if_neg h1, if_neg h13, if_neg h37]) hY' c1 (fun q hq => c2 q (by omega))
      · refine PW_aload_n (i := 0) dX12_now_40 rfl rfl ?_
        refine PW_callV dX12_now_41 moX12_steers cv12_186 (Yt) (by omega) rfl rfl (Nat.le_of_ble_eq_true rfl) (Nat.le_of_ble_eq_true rfl) (Nat.le_of_ble_eq_true rfl) (spX12_steers (d := d - 1) hY' Rh Ah (by omega) (by omega)) (fun v M1 hq => ?_)
        obtain ⟨rfl, rfl⟩ := hq
        refine PW_goto 51 dX12_now_44 (by decide) ?_
        refine PW_ireturn rfl (rfl) dX12_now_51 (Nat.le_of_ble_eq_true rfl) (Nat.le_of_ble_eq_true rfl) ?_
        first
          | exact OpM_i (by unfold oNow; rw [if_pos h1]) hY' hR' (fun _ _ => rfl)
          | exact OpM_i (by unfold oNow; rw [if_neg h1, if_pos h13, h24]; rfl) hY' hR' (fun _ _ => rfl)
          | exact OpM_i (by unfold oNow; rw [if_neg h1, if_neg h13, if_pos h37]) hY' hR' (fun _ _ => rfl)
          | exact OpM_i (by unfold oNow; rw [if_neg h1, if_neg h13, if_neg h37]) hY' c1 (fun q hq => c2 q (by omega))
    · refine PW_aload_n (i := 0) dX12_now_16 rfl rfl ?_
      refine PW_aload_n (i := 0) dX12_now_17 rfl rfl ?_
      refine PW_giv (v := iN (hp (vh (aV s)))) dX12_now_18 fg12_78 (Yt) (Rh.2.1) ?_
      refine PW_callV dX12_now_21 moX12_isRock cv12_101 (Yt) (by omega) rfl rfl (Nat.le_of_ble_eq_true rfl) (Nat.le_of_ble_eq_true rfl) (Nat.le_of_ble_eq_true rfl) (spX12_isRock (d := d - 1) hY' Rm (by omega) _) (fun v M1 hq => ?_)
      obtain ⟨rfl, rfl⟩ := hq
      refine PW_if_eq 31 dX12_now_24 (by decide) (fun h24 => ?_) (fun h24 => ?_)
      · have h24 := b2i_0.mp h24
        refine PW_iconst (v := 0) dX12_now_31 (by decide) ?_
        refine PW_goto 51 dX12_now_32 (by decide) ?_
        refine PW_ireturn rfl (rfl) dX12_now_51 (Nat.le_of_ble_eq_true rfl) (Nat.le_of_ble_eq_true rfl) ?_
        first
          | exact OpM_i (by unfold oNow; rw [if_pos h1]) hY' hR' (fun _ _ => rfl)
          | exact OpM_i (by unfold oNow; rw [if_neg h1, if_pos h13, h24]; rfl) hY' hR' (fun _ _ => rfl)
          | exact OpM_i (by unfold oNow; rw [if_neg h1, if_neg h13, if_pos h37]) hY' hR' (fun _ _ => rfl)
          | exact OpM_i (by unfold oNow; rw [if_neg h1, if_neg h13, if_neg h37]) hY' c1 (fun q hq => c2 q (by omega))
      · have h24 := b2i_n.mp h24
        refine PW_iconst (v := 1) dX12_now_27 (by decide) ?_
        refine PW_goto 51 dX12_now_28 (by decide) ?_
        refine PW_ireturn rfl (rfl) dX12_now_51 (Nat.le_of_ble_eq_true rfl) (Nat.le_of_ble_eq_true rfl) ?_
        first
          | exact OpM_i (by unfold oNow; rw [if_pos h1]) hY' hR' (fun _ _ => rfl)
          | exact OpM_i (by unfold oNow; rw [if_neg h1, if_pos h13, h24]; rfl) hY' hR' (fun _ _ => rfl)
          | exact OpM_i (by unfold oNow; rw [if_neg h1, if_neg h13, if_pos h37]) hY' hR' (fun _ _ => rfl)
          | exact OpM_i (by unfold oNow; rw [if_neg h1, if_neg h13, if_neg h37]) hY' c1 (fun q hq => c2 q (by omega))
  · refine PW_aload_n (i := 0) dX12_now_4 rfl rfl ?_
    refine PW_giv (v := iN (hp (vh (aV s)))) dX12_now_5 fg12_78 (Yt) (Rh.2.1) ?_
    refine PW_goto 51 dX12_now_8 (by decide) ?_
    refine PW_ireturn rfl (rfl) dX12_now_51 (Nat.le_of_ble_eq_true rfl) (Nat.le_of_ble_eq_true rfl) ?_
    first
      | exact OpM_i (by unfold oNow; rw [if_pos h1]) hY' hR' (fun _ _ => rfl)
      | exact OpM_i (by unfold oNow; rw [if_neg h1, if_pos h13, h24]; rfl) hY' hR' (fun _ _ => rfl)
      | exact OpM_i (by unfold oNow; rw [if_neg h1, if_neg h13, if_pos h37]) hY' hR' (fun _ _ => rfl)
      | exact OpM_i (by unfold oNow; rw [if_neg h1, if_neg h13, if_neg h37]) hY' c1 (fun q hq => c2 q (by omega))
set_option maxRecDepth 100000 in
set_option maxHeartbeats 4000000 in
theorem spX12_seen {G : GE} {d : Nat} {i : MI0} {S : MS} {Y : Nat} (hY : YS S Y) {s : Ab} {b : Nat} (hR : MR i S Y s) (hV : AV b s) (hb : b ≤ 100) (hd : 12 ≤ d) (m p : Int32) : Mt G iX12_seen d [.ref Y, .int m, .int p] (i, S) (OpM Y (i, S) (.int (oSeen s m p).1) (oSeen s m p).2) := by
  have hY' := hY
  obtain ⟨Yt, ⟨Yt1, Yr1⟩, ⟨Yt2, Yr2⟩, ⟨Yt3, Yr3⟩, ⟨Yt4, Yr4⟩, ⟨Yt5, Yr5⟩, ⟨Yt6, Yr6⟩, ⟨Yt7, Yr7⟩, ⟨Yt8, Yr8⟩, ⟨Yt9, Yr9⟩, ⟨Yt10, Yr10⟩, ⟨Yt11, Yr11⟩, ⟨Yt12, Yr12⟩, ⟨Yt13, Yr13⟩, ⟨Yt14, Yr14⟩, ⟨Yt15, Yr15⟩, ⟨Yt16, Yr16⟩, ⟨Yt17, Yr17⟩, ⟨Yt18, Yr18⟩, ⟨Yt19, Yr19⟩⟩ := hY
  have hR' := hR
  have hV' := hV
  obtain ⟨Rm, Ri0, Ri1, Rk, Rx, Rt, Rl⟩ := hR
  have Rh := Rm.1
  obtain ⟨Av, Ai, At, Ab', Aa, Aw⟩ := hV
  have Ah := Av.1
  have Ah1 := Ah.1
  have Av1 := Av.2.1
  have Av2 := Av.2.2.1
  have Av3 := Av.2.2.2.1
  refine Mt_in 0 (ls := [.ref Y, .int m, .int p]) moX12_seen (Nat.le_of_ble_eq_true rfl) rfl ?_
  refine PW_iload_n (i := 1) dX12_seen_0 rfl rfl ?_
  refine PW_iconst (v := 0) dX12_seen_1 (by decide) ?_
  refine PW_bipush (v := 20) dX12_seen_2 (by decide) ?_
  refine PW_callS dX12_seen_4 moX12_in cs12_93 (by omega) rfl rfl (Nat.le_of_ble_eq_true rfl) (Nat.le_of_ble_eq_true rfl) (Nat.le_of_ble_eq_true rfl) (spX12_in (d := d - 1) _ _ _) (fun v M1 hq => ?_)
  obtain ⟨rfl, rfl⟩ := hq
  refine PW_if_eq 21 dX12_seen_7 (by decide) (fun h7 => ?_) (fun h7 => ?_)
  · have h7 := b1_0.mp h7
    refine PW_aload_n (i := 0) dX12_seen_21 rfl rfl ?_
    refine PW_callV dX12_seen_22 moX12_bad cv12_97 (Yt) (by omega) rfl rfl (Nat.le_of_ble_eq_true rfl) (Nat.le_of_ble_eq_true rfl) (Nat.le_of_ble_eq_true rfl) (spX12_bad (d := d - 1) hY' hR') (fun v M1 hq => ?_)
    obtain ⟨rfl, i1, rfl, c1, c2⟩ := hq
    refine PW_ireturn rfl (rfl) dX12_seen_25 (Nat.le_of_ble_eq_true rfl) (Nat.le_of_ble_eq_true rfl) ?_
    exact OpM_i (by unfold oSeen; rw [if_neg (fun q => by first | exact h7 q.1 | exact h18 q.2)]) hY' c1 (fun q hq => c2 q (by omega))
  · have h7 := b1_1.mp h7
    refine PW_iload_n (i := 2) dX12_seen_10 rfl rfl ?_
    refine PW_bipush (v := -60) dX12_seen_11 (by decide) ?_
    refine PW_bipush (v := 60) dX12_seen_13 (by decide) ?_
    refine PW_callS dX12_seen_15 moX12_in cs12_93 (by omega) rfl rfl (Nat.le_of_ble_eq_true rfl) (Nat.le_of_ble_eq_true rfl) (Nat.le_of_ble_eq_true rfl) (spX12_in (d := d - 1) _ _ _) (fun v M1 hq => ?_)
    obtain ⟨rfl, rfl⟩ := hq
    refine PW_if_ne 26 dX12_seen_18 (by decide) (fun h18 => ?_) (fun h18 => ?_)
    · have h18 := b1_1.mp h18
      refine PW_aload_n (i := 0) dX12_seen_26 rfl rfl ?_
      refine PW_giv (v := nI (vs (aV s))) dX12_seen_27 fg12_87 (Yt) (Rm.2.2.1) ?_
      refine PW_bipush (v := 6) dX12_seen_30 (by decide) ?_
      refine PW_icmp_ne 40 dX12_seen_32 (by decide) (fun h32 => ?_) (fun h32 => ?_)
      · have h32 := jne (b := 6) h32
        refine PW_aload_n (i := 0) dX12_seen_40 rfl rfl ?_
        refine PW_getR dX12_seen_41 fg12_28 (Yt) (Yr7) ?_
        refine PW_aload_n (i := 0) dX12_seen_44 rfl rfl ?_
        refine PW_giv (v := nI (vs (aV s))) dX12_seen_45 fg12_87 (Yt) (Rm.2.2.1) ?_
        refine PW_iload_n (i := 1) dX12_seen_48 rfl rfl ?_
        have k1 := cl_of (n := 20) h7 rfl (by decide)
        refine PW_ias dX12_seen_49 (Yt7) (by omega) (by omega) ?_
        refine PW_aload_n (i := 0) dX12_seen_50 rfl rfl ?_
        refine PW_getR dX12_seen_51 fg12_31 (Yt) (Yr8) ?_
        refine PW_aload_n (i := 0) dX12_seen_54 rfl rfl ?_
        refine PW_giv (v := nI (vs (aV s))) dX12_seen_55 fg12_87 (Yt) (by first | exact Rm.2.2.1 | (simp (disch := omega) only [rI_s, rI_k, rI_a, rI_f, rA_s, rA_n, rA_f, rP, rP_f]; exact Rm.2.2.1)) ?_
        refine PW_iload_n (i := 2) dX12_seen_58 rfl rfl ?_
        refine PW_ias dX12_seen_59 (Yt8) (by omega) (by omega) ?_
        refine PW_aload_n (i := 0) dX12_seen_60 rfl rfl ?_
        refine PW_dup dX12_seen_61 rfl ?_
        refine PW_giv (v := nI (vs (aV s))) dX12_seen_62 fg12_87 (Yt) (by first | exact Rm.2.2.1 | (simp (disch := omega) only [rI_s, rI_k, rI_a, rI_f, rA_s, rA_n, rA_f, rP, rP_f]; exact Rm.2.2.1)) ?_
        refine PW_iconst (v := 1) dX12_seen_65 (by decide) ?_
        refine PW_iadd dX12_seen_66 ?_
        refine PW_eqi (nI_1 _) ?_
        refine PW_putI dX12_seen_67 fr12_87 (fun h => by cases h) (Yt) ?_
        refine PW_nm rfl (fun i1 e1 => ?_)
        refine PW_aload_n (i := 0) dX12_seen_70 rfl rfl ?_
        refine PW_giv (v := nI (vs (aV s) + 1)) dX12_seen_71 fg12_87 (Yt) (e1 ▸ rI_s _ _ _ _) ?_
        refine PW_ireturn rfl (rfl) dX12_seen_74 (Nat.le_of_ble_eq_true rfl) (Nat.le_of_ble_eq_true rfl) ?_
        have f0 : ∀ k, k ≠ 5 → i1 Y k = i Y k := fun k hk => by rw [e1, rI_k _ _ _ hk, rI_a _ _ _ (by omega), rI_a _ _ _ (by omega)]; rfl
        have f1 : ∀ q, q ≠ Y → q ≠ Y + 7 → q ≠ Y + 8 → i1 q = i q := fun q h1 h2 h3 => by rw [e1, rI_f _ _ h1, rI_f _ _ h3, rI_f _ _ h2]; rfl
        refine OpM_i (by unfold oSeen; rw [if_pos ⟨h7, h18⟩, if_pos (by omega)]) hY' (hR'.mv (y := adS (aV s) m.toNatClampNeg p) ⟨Rh.kp Ah1 (f0 1 (by decide)) (f0 2 (by decide)) (f0 3 (by decide)) (fun j hj => ⟨by rw [f1 _ (by omega) (by omega) (by omega)], by rw [f1 _ (by omega) (by omega) (by omega)], by rw [f1 _ (by omega) (by omega) (by omega)], by rw [f1 _ (by omega) (by omega) (by omega)]⟩), (f0 4 (by decide)).trans Rm.2.1, ?_, (f0 22 (by decide)).trans Rm.2.2.2.1, ?_, fun j hj => ?_, ?_⟩ (f0 14 (by decide)) (fun q hq => f1 q (by omega) (by omega) (by omega))) (fun q hq => f1 q (by omega) (by omega) (by omega))
        · rw [e1]; exact rI_s _ _ _ _
        · rw [f1 (Y + 6) (by omega) (by omega) (by omega)]; exact Rm.2.2.2.2.1
        · by_cases e : j = vs (aV s)
          · rw [e, e1, rI_a _ _ _ (by omega), rI_a _ _ _ (by omega), rI_s, rI_a _ _ _ (by omega), rI_s]; exact ⟨k1.1.trans (congrArg nI (if_pos rfl).symm), (if_pos rfl).symm⟩
          · rw [e1, rI_a _ _ _ (by omega), rI_a _ _ _ (by omega), rI_k _ _ _ e, rI_a _ _ _ (by omega), rI_k _ _ _ e, rI_a _ _ _ (by omega)]
            have q := Rm.2.2.2.2.2.1 j (by have : j < vs (aV s) + 1 := hj; omega)
            exact ⟨q.1.trans (congrArg nI (if_neg e).symm), q.2.trans (if_neg e).symm⟩
        · rw [f1 (Y + 12) (by omega) (by omega) (by omega)]; exact Rm.2.2.2.2.2.2
      · have h32 := jeq (b := 6) h32
        refine PW_aload_n (i := 0) dX12_seen_35 rfl rfl ?_
        refine PW_callV dX12_seen_36 moX12_full cv12_108 (Yt) (by omega) rfl rfl (Nat.le_of_ble_eq_true rfl) (Nat.le_of_ble_eq_true rfl) (Nat.le_of_ble_eq_true rfl) (spX12_full (d := d - 1) hY' hR') (fun v M1 hq => ?_)
        obtain ⟨rfl, i1, rfl, c1, c2⟩ := hq
        refine PW_ireturn rfl (rfl) dX12_seen_39 (Nat.le_of_ble_eq_true rfl) (Nat.le_of_ble_eq_true rfl) ?_
        exact OpM_i (by unfold oSeen; rw [if_pos ⟨h7, h18⟩, if_neg (by omega)]) hY' c1 (fun q hq => c2 q (by omega))
    · have h18 := b1_0.mp h18
      refine PW_aload_n (i := 0) dX12_seen_21 rfl rfl ?_
      refine PW_callV dX12_seen_22 moX12_bad cv12_97 (Yt) (by omega) rfl rfl (Nat.le_of_ble_eq_true rfl) (Nat.le_of_ble_eq_true rfl) (Nat.le_of_ble_eq_true rfl) (spX12_bad (d := d - 1) hY' hR') (fun v M1 hq => ?_)
      obtain ⟨rfl, i1, rfl, c1, c2⟩ := hq
      refine PW_ireturn rfl (rfl) dX12_seen_25 (Nat.le_of_ble_eq_true rfl) (Nat.le_of_ble_eq_true rfl) ?_
      exact OpM_i (by unfold oSeen; rw [if_neg (fun q => by first | exact h7 q.1 | exact h18 q.2)]) hY' c1 (fun q hq => c2 q (by omega))
set_option maxRecDepth 100000 in
set_option maxHeartbeats 4000000 in
theorem spX12_forget {G : GE} {d : Nat} {i : MI0} {S : MS} {Y : Nat} (hY : YS S Y) {s : Ab} {b : Nat} (hR : MR i S Y s) (hV : AV b s) (hb : b ≤ 100) (hd : 12 ≤ d) : Mt G iX12_forget d [.ref Y] (i, S) (OpM Y (i, S) (.int (oForget s).1) (oForget s).2) := by
  have hY' := hY
  obtain ⟨Yt, ⟨Yt1, Yr1⟩, ⟨Yt2, Yr2⟩, ⟨Yt3, Yr3⟩, ⟨Yt4, Yr4⟩, ⟨Yt5, Yr5⟩, ⟨Yt6, Yr6⟩, ⟨Yt7, Yr7⟩, ⟨Yt8, Yr8⟩, ⟨Yt9, Yr9⟩, ⟨Yt10, Yr10⟩, ⟨Yt11, Yr11⟩, ⟨Yt12, Yr12⟩, ⟨Yt13, Yr13⟩, ⟨Yt14, Yr14⟩, ⟨Yt15, Yr15⟩, ⟨Yt16, Yr16⟩, ⟨Yt17, Yr17⟩, ⟨Yt18, Yr18⟩, ⟨Yt19, Yr19⟩⟩ := hY
  have hR' := hR
  have hV' := hV
  obtain ⟨Rm, Ri0, Ri1, Rk, Rx, Rt, Rl⟩ := hR
  have Rh := Rm.1
  obtain ⟨Av, Ai, At, Ab', Aa, Aw⟩ := hV
  have Ah := Av.1
  have Ah1 := Ah.1
  have Av1 := Av.2.1
  have Av2 := Av.2.2.1
  have Av3 := Av.2.2.2.1
  refine Mt_in 1 (ls := [.ref Y, .null]) moX12_forget (Nat.le_of_ble_eq_true rfl) rfl ?_
  refine PW_aload_n (i := 0) dX12_forget_0 rfl rfl ?_
  refine PW_giv (v := nI (vs (aV s))) dX12_forget_1 fg12_87 (Yt) (Rm.2.2.1) ?_
  refine PW_istore_n (i := 1) dX12_forget_4 rfl (Nat.le_of_ble_eq_true rfl) rfl ?_
  refine PW_aload_n (i := 0) dX12_forget_5 rfl rfl ?_
  refine PW_iconst (v := 0) dX12_forget_6 (by decide) ?_
  refine PW_putI dX12_forget_7 fr12_87 (fun h => by cases h) (Yt) ?_
  refine PW_nm rfl (fun i1 e1 => ?_)
  refine PW_iload_n (i := 1) dX12_forget_10 rfl rfl ?_
  refine PW_ireturn rfl (rfl) dX12_forget_11 (Nat.le_of_ble_eq_true rfl) (Nat.le_of_ble_eq_true rfl) ?_
  have f0 : ∀ k, k ≠ 5 → i1 Y k = i Y k := fun k hk => by rw [e1, rI_k _ _ _ hk]; rfl
  have f1 : ∀ q, q ≠ Y → i1 q = i q := fun q h1 => by rw [e1, rI_f _ _ h1]; rfl
  refine OpM_i (o := oForget s) rfl hY' (hR'.mv (y := (vh (aV s), vr (aV s), vR (aV s), 0, vW (aV s), vP (aV s), vu (aV s), vU (aV s))) ⟨Rh.kp Ah1 (f0 1 (by decide)) (f0 2 (by decide)) (f0 3 (by decide)) (fun j hj => ⟨by rw [f1 _ (by omega)], by rw [f1 _ (by omega)], by rw [f1 _ (by omega)], by rw [f1 _ (by omega)]⟩), (f0 4 (by decide)).trans Rm.2.1, ?_, (f0 22 (by decide)).trans Rm.2.2.2.1, ?_, fun j hj => absurd hj (Nat.not_lt_zero j), ?_⟩ (f0 14 (by decide)) (fun q hq => f1 q (by omega))) (fun q hq => f1 q (by omega))
  · rw [e1]; exact rI_s _ _ _ _
  · rw [f1 (Y + 6) (by omega)]; exact Rm.2.2.2.2.1
  · rw [f1 (Y + 12) (by omega)]; exact Rm.2.2.2.2.2.2
set_option maxRecDepth 100000 in
set_option maxHeartbeats 4000000 in
theorem spX12_status {G : GE} {d : Nat} {i : MI0} {S : MS} {Y : Nat} (hY : YS S Y) {s : Ab} {b : Nat} (hR : MR i S Y s) (hV : AV b s) (hb : b ≤ 100) (hd : 12 ≤ d) (w : Int32) : Mt G iX12_status d [.ref Y, .int w] (i, S) (OpM Y (i, S) (.int (oStatus s w).1) (oStatus s w).2) := by
  have hY' := hY
  obtain ⟨Yt, ⟨Yt1, Yr1⟩, ⟨Yt2, Yr2⟩, ⟨Yt3, Yr3⟩, ⟨Yt4, Yr4⟩, ⟨Yt5, Yr5⟩, ⟨Yt6, Yr6⟩, ⟨Yt7, Yr7⟩, ⟨Yt8, Yr8⟩, ⟨Yt9, Yr9⟩, ⟨Yt10, Yr10⟩, ⟨Yt11, Yr11⟩, ⟨Yt12, Yr12⟩, ⟨Yt13, Yr13⟩, ⟨Yt14, Yr14⟩, ⟨Yt15, Yr15⟩, ⟨Yt16, Yr16⟩, ⟨Yt17, Yr17⟩, ⟨Yt18, Yr18⟩, ⟨Yt19, Yr19⟩⟩ := hY
  have hR' := hR
  have hV' := hV
  obtain ⟨Rm, Ri0, Ri1, Rk, Rx, Rt, Rl⟩ := hR
  have Rh := Rm.1
  obtain ⟨Av, Ai, At, Ab', Aa, Aw⟩ := hV
  have Ah := Av.1
  have Ah1 := Ah.1
  have Av1 := Av.2.1
  have Av2 := Av.2.2.1
  have Av3 := Av.2.2.2.1
  refine Mt_in 0 (ls := [.ref Y, .int w]) moX12_status (Nat.le_of_ble_eq_true rfl) rfl ?_
  refine PW_iload_n (i := 1) dX12_status_0 rfl rfl ?_
  refine PW_iconst (v := 0) dX12_status_1 (by decide) ?_
  refine PW_iconst (v := 2) dX12_status_2 (by decide) ?_
  refine PW_callS dX12_status_3 moX12_in cs12_93 (by omega) rfl rfl (Nat.le_of_ble_eq_true rfl) (Nat.le_of_ble_eq_true rfl) (Nat.le_of_ble_eq_true rfl) (spX12_in (d := d - 1) _ _ _) (fun v M1 hq => ?_)
  obtain ⟨rfl, rfl⟩ := hq
  refine PW_if_ne 21 dX12_status_6 (by decide) (fun h6 => ?_) (fun h6 => ?_)
  · have h6 := b1_1.mp h6
    obtain ⟨j, hj, rfl⟩ := within_of (n := 2) h6 rfl rfl (by decide)
    refine PW_aload_n (i := 0) dX12_status_21 rfl rfl ?_
    refine PW_getR dX12_status_22 fg12_1 (Yt) (Yr1) ?_
    refine PW_iload_n (i := 1) dX12_status_25 rfl rfl ?_
    refine PW_ial (v := i (Y + 1) j) dX12_status_26 (Yt1) (by omega) (by omega) (rfl) ?_
    refine PW_ireturn rfl (rfl) dX12_status_27 (Nat.le_of_ble_eq_true rfl) (Nat.le_of_ble_eq_true rfl) ?_
    rcases (by omega : j = 0 ∨ j = 1 ∨ j = 2) with rfl | rfl | rfl
    · exact OpM_i (by unfold oStatus; rw [if_pos (by decide), Rx.1]) hY' hR' (fun _ _ => rfl)
    · exact OpM_i (by unfold oStatus; rw [if_neg (by decide), if_pos (by decide), Rx.2.1]) hY' hR' (fun _ _ => rfl)
    · exact OpM_i (by unfold oStatus; rw [if_neg (by decide), if_neg (by decide), if_pos (by decide), Rx.2.2]) hY' hR' (fun _ _ => rfl)
  · have h6 := b1_0.mp h6
    refine PW_aload_n (i := 0) dX12_status_9 rfl rfl ?_
    refine PW_getR dX12_status_10 fg12_1 (Yt) (Yr1) ?_
    refine PW_iconst (v := 0) dX12_status_13 (by decide) ?_
    refine PW_dup2 dX12_status_14 rfl rfl ?_
    refine PW_ial (j := 0) (v := aX s) dX12_status_15 (Yt1) (by omega) (by decide) (Rx.1) ?_
    refine PW_iconst (v := 1) dX12_status_16 (by decide) ?_
    refine PW_iadd dX12_status_17 ?_
    refine PW_ias (j := 0) dX12_status_18 (Yt1) (by omega) (by decide) ?_
    refine PW_nm rfl (fun i1 e1 => ?_)
    refine PW_iconst (v := -1) dX12_status_19 (by decide) ?_
    refine PW_ireturn rfl (rfl) dX12_status_20 (Nat.le_of_ble_eq_true rfl) (Nat.le_of_ble_eq_true rfl) ?_
    refine OpM_i (o := oStatus s w) (s' := bad s) ?_ hY' (hR'.rf (s' := bad s) rfl rfl rfl rfl rfl rfl rfl ⟨?_, ?_, ?_⟩ (fun q hq => by rw [e1, rI_f _ _ hq]; rfl)) (fun q hq => by rw [e1, rI_f _ _ (by omega)]; rfl)
    · unfold oStatus; rw [if_neg (fun q => h6 (by rw [q]; decide)), if_neg (fun q => h6 (by rw [q]; decide)), if_neg (fun q => h6 (by rw [q]; decide))]
    · rw [e1]; simp (disch := omega) only [rI_s, rI_k, rI_a, rI_f, rA_s, rA_n, rA_f, rP, rP_f]; rfl
    · rw [e1]; simp (disch := omega) only [rI_s, rI_k, rI_a, rI_f, rA_s, rA_n, rA_f, rP, rP_f]; exact Rx.2.1
    · rw [e1]; simp (disch := omega) only [rI_s, rI_k, rI_a, rI_f, rA_s, rA_n, rA_f, rP, rP_f]; exact Rx.2.2
theorem OpM_l {i i' : MI0} {S : MS} {Y : Nat} {s' : Ab} {o : Int64 × Ab} {r : Int64} (e : o = (r, s')) (hY : YS S Y) (hR : MR i' S Y s') (h : ∀ q, (q < Y ∨ Y + 20 ≤ q) → i' q = i q) : OpM Y (i, S) (.long o.1) o.2 (some (.long r)) (i', S) := by
  rw [e]
  exact ⟨rfl, ⟨hY, hR⟩, Fr_i h⟩
theorem PW_glv {G : GE} {I : MI} {d : Nat} {Post : Option Value → Mm → Prop} {pc : Nat} {ls st : List Value} {M : Mm} {nc ns : Nat} {a idx ci k : Nat} {v : Int64} (hd : decode I.2.1 pc = .ok (.getfield idx, 3)) (hf : FRr I.1.cls idx ci k 1) (ht : mt M a = (ci, 0)) (hv : ml M a k = v) (kk : PW G I d Post (pc + 3) ls (.long v :: st) M nc ns) : PW G I d Post pc ls (.ref a :: st) M nc ns := by
  refine PW_getL hd hf ht ?_
  rw [hv]
  exact kk
set_option maxRecDepth 100000 in
set_option maxHeartbeats 4000000 in
theorem spX12_part {G : GE} {d : Nat} {i : MI0} {S : MS} {Y : Nat} (hY : YS S Y) {s : Ab} {b : Nat} (hR : MR i S Y s) (hV : AV b s) (hb : b ≤ 100) (hd : 12 ≤ d) (w : Int32) : Mt G iX12_part d [.ref Y, .int w] (i, S) (OpM Y (i, S) (.long (oPart s w).1) (oPart s w).2) := by
  have hY' := hY
  obtain ⟨Yt, ⟨Yt1, Yr1⟩, ⟨Yt2, Yr2⟩, ⟨Yt3, Yr3⟩, ⟨Yt4, Yr4⟩, ⟨Yt5, Yr5⟩, ⟨Yt6, Yr6⟩, ⟨Yt7, Yr7⟩, ⟨Yt8, Yr8⟩, ⟨Yt9, Yr9⟩, ⟨Yt10, Yr10⟩, ⟨Yt11, Yr11⟩, ⟨Yt12, Yr12⟩, ⟨Yt13, Yr13⟩, ⟨Yt14, Yr14⟩, ⟨Yt15, Yr15⟩, ⟨Yt16, Yr16⟩, ⟨Yt17, Yr17⟩, ⟨Yt18, Yr18⟩, ⟨Yt19, Yr19⟩⟩ := hY
  have hR' := hR
  have hV' := hV
  obtain ⟨Rm, Ri0, Ri1, Rk, Rx, Rt, Rl⟩ := hR
  have Rh := Rm.1
  obtain ⟨Av, Ai, At, Ab', Aa, Aw⟩ := hV
  have Ah := Av.1
  have Ah1 := Ah.1
  have Av1 := Av.2.1
  have Av2 := Av.2.2.1
  have Av3 := Av.2.2.2.1
  refine Mt_in 0 (ls := [.ref Y, .int w]) moX12_part (Nat.le_of_ble_eq_true rfl) rfl ?_
  refine PW_iload_n (i := 1) dX12_part_0 rfl rfl ?_
  refine PW_if_ne 11 dX12_part_1 (by decide) (fun h1 => ?_) (fun h1 => ?_)
  · refine PW_iload_n (i := 1) dX12_part_11 rfl rfl ?_
    refine PW_iconst (v := 1) dX12_part_12 (by decide) ?_
    refine PW_icmp_ne 23 dX12_part_13 (by decide) (fun h13 => ?_) (fun h13 => ?_)
    · refine PW_aload_n (i := 0) dX12_part_23 rfl rfl ?_
      refine PW_callV dX12_part_24 moX12_bad cv12_97 (Yt) (by omega) rfl rfl (Nat.le_of_ble_eq_true rfl) (Nat.le_of_ble_eq_true rfl) (Nat.le_of_ble_eq_true rfl) (spX12_bad (d := d - 1) hY' hR') (fun v M1 hq => ?_)
      obtain ⟨rfl, i1, rfl, c1, c2⟩ := hq
      refine PW_i2l dX12_part_27 ?_
      refine PW_lreturn rfl dX12_part_28 (Nat.le_of_ble_eq_true rfl) (Nat.le_of_ble_eq_true rfl) ?_
      first
        | exact OpM_l (by unfold oPart; rw [if_pos h1, nI_l (by omega)]) hY' hR' (fun _ _ => rfl)
        | exact OpM_l (by unfold oPart; rw [if_neg h1, if_pos h13, nI_l (by omega)]) hY' hR' (fun _ _ => rfl)
        | exact OpM_l (by unfold oPart; rw [if_neg h1, if_neg h13]) hY' c1 (fun q hq => c2 q (by omega))
    · refine PW_aload_n (i := 0) dX12_part_16 rfl rfl ?_
      refine PW_glv (v := lN (aW s)) dX12_part_17 fg12_61 (Yt) (Rl.2) ?_
      refine PW_goto 28 dX12_part_20 (by decide) ?_
      refine PW_lreturn rfl dX12_part_28 (Nat.le_of_ble_eq_true rfl) (Nat.le_of_ble_eq_true rfl) ?_
      first
        | exact OpM_l (by unfold oPart; rw [if_pos h1, nI_l (by omega)]) hY' hR' (fun _ _ => rfl)
        | exact OpM_l (by unfold oPart; rw [if_neg h1, if_pos h13, nI_l (by omega)]) hY' hR' (fun _ _ => rfl)
        | exact OpM_l (by unfold oPart; rw [if_neg h1, if_neg h13]) hY' c1 (fun q hq => c2 q (by omega))
  · refine PW_aload_n (i := 0) dX12_part_4 rfl rfl ?_
    refine PW_glv (v := lN (aA s)) dX12_part_5 fg12_249 (Yt) (Rl.1) ?_
    refine PW_goto 28 dX12_part_8 (by decide) ?_
    refine PW_lreturn rfl dX12_part_28 (Nat.le_of_ble_eq_true rfl) (Nat.le_of_ble_eq_true rfl) ?_
    first
      | exact OpM_l (by unfold oPart; rw [if_pos h1, nI_l (by omega)]) hY' hR' (fun _ _ => rfl)
      | exact OpM_l (by unfold oPart; rw [if_neg h1, if_pos h13, nI_l (by omega)]) hY' hR' (fun _ _ => rfl)
      | exact OpM_l (by unfold oPart; rw [if_neg h1, if_neg h13]) hY' c1 (fun q hq => c2 q (by omega))
def sbN (f : Nat) : Nat → Nat
  | 0 => 0
  | j + 1 => sbN f j + if f.testBit j then 1 else 0
theorem sb_pop : ∀ n, n < 7 → ∀ f, f < 2 ^ n → sbN f n = pop f := by decide +kernel
theorem b2i_nI (b : Bool) : b2i b = nI (if b then 1 else 0) := by cases b <;> rfl
set_option maxRecDepth 100000 in
set_option maxHeartbeats 4000000 in
theorem tlX12_countOf {G : GE} {d : Nat} {i : MI0} {S : MS} {Y : Nat} (hY : YS S Y) {s : Ab} {b : Nat} (hR : MR i S Y s) (hV : AV b s) (hb : b ≤ 100) (hd : 0 ≤ d) {w : Nat} (hw6 : w ≤ 6) (z3 : Value) : PW G iX12_countOf d (Rt (amt s w) (i, S)) 27 [.ref Y, .int (nI w), .int (nI (sbN (hf (vh (aV s))) (hn (vh (aV s))))), z3] [] (i, S) 0 0 := by
  have hY' := hY
  obtain ⟨Yt, ⟨Yt1, Yr1⟩, ⟨Yt2, Yr2⟩, ⟨Yt3, Yr3⟩, ⟨Yt4, Yr4⟩, ⟨Yt5, Yr5⟩, ⟨Yt6, Yr6⟩, ⟨Yt7, Yr7⟩, ⟨Yt8, Yr8⟩, ⟨Yt9, Yr9⟩, ⟨Yt10, Yr10⟩, ⟨Yt11, Yr11⟩, ⟨Yt12, Yr12⟩, ⟨Yt13, Yr13⟩, ⟨Yt14, Yr14⟩, ⟨Yt15, Yr15⟩, ⟨Yt16, Yr16⟩, ⟨Yt17, Yr17⟩, ⟨Yt18, Yr18⟩, ⟨Yt19, Yr19⟩⟩ := hY
  have hR' := hR
  have hV' := hV
  obtain ⟨Rm, Ri0, Ri1, Rk, Rx, Rt, Rl⟩ := hR
  have Rh := Rm.1
  obtain ⟨Av, Ai, At, Ab', Aa, Aw⟩ := hV
  have Ah := Av.1
  have Ah1 := Ah.1
  have Av1 := Av.2.1
  have Av2 := Av.2.2.1
  have Av3 := Av.2.2.2.1
  rcases (by omega : w = 0 ∨ w = 1 ∨ w = 2 ∨ w = 3 ∨ w = 4 ∨ w = 5 ∨ w = 6) with rfl | rfl | rfl | rfl | rfl | rfl | rfl
  · refine PW_iload_n (i := 1) dX12_countOf_27 rfl rfl ?_
    refine PW_tableIn 68 dX12_countOf_28 (by decide) (by decide) rfl (by decide) ?_
    refine PW_aload_n (i := 0) dX12_countOf_68 rfl rfl ?_
    refine PW_giv (v := nI (hn (vh (aV s)))) dX12_countOf_69 fg12_74 (Yt) (Rh.1) ?_
    refine PW_ireturn rfl (rfl) dX12_countOf_72 (Nat.le_of_ble_eq_true rfl) (Nat.le_of_ble_eq_true rfl) ?_
    exact rt_i rfl
  · refine PW_iload_n (i := 1) dX12_countOf_27 rfl rfl ?_
    refine PW_tableIn 73 dX12_countOf_28 (by decide) (by decide) rfl (by decide) ?_
    refine PW_aload_n (i := 0) dX12_countOf_73 rfl rfl ?_
    refine PW_giv (v := nI (vr (aV s))) dX12_countOf_74 fg12_84 (Yt) (Rm.2.1) ?_
    refine PW_ireturn rfl (rfl) dX12_countOf_77 (Nat.le_of_ble_eq_true rfl) (Nat.le_of_ble_eq_true rfl) ?_
    exact rt_i rfl
  · refine PW_iload_n (i := 1) dX12_countOf_27 rfl rfl ?_
    refine PW_tableIn 78 dX12_countOf_28 (by decide) (by decide) rfl (by decide) ?_
    refine PW_aload_n (i := 0) dX12_countOf_78 rfl rfl ?_
    refine PW_giv (v := nI (hw (vh (aV s)))) dX12_countOf_79 fg12_81 (Yt) (Rh.2.2.1) ?_
    refine PW_ireturn rfl (rfl) dX12_countOf_82 (Nat.le_of_ble_eq_true rfl) (Nat.le_of_ble_eq_true rfl) ?_
    exact rt_i rfl
  · refine PW_iload_n (i := 1) dX12_countOf_27 rfl rfl ?_
    refine PW_tableIn 83 dX12_countOf_28 (by decide) (by decide) rfl (by decide) ?_
    refine PW_iload_n (i := 2) dX12_countOf_83 rfl rfl ?_
    refine PW_ireturn rfl (rfl) dX12_countOf_84 (Nat.le_of_ble_eq_true rfl) (Nat.le_of_ble_eq_true rfl) ?_
    refine rt_i ?_
    rw [sb_pop _ (by omega) _ Ah.2.1]; rfl
  · refine PW_iload_n (i := 1) dX12_countOf_27 rfl rfl ?_
    refine PW_tableIn 85 dX12_countOf_28 (by decide) (by decide) rfl (by decide) ?_
    refine PW_aload_n (i := 0) dX12_countOf_85 rfl rfl ?_
    refine PW_giv (v := nI (vs (aV s))) dX12_countOf_86 fg12_87 (Yt) (Rm.2.2.1) ?_
    refine PW_ireturn rfl (rfl) dX12_countOf_89 (Nat.le_of_ble_eq_true rfl) (Nat.le_of_ble_eq_true rfl) ?_
    exact rt_i rfl
  · refine PW_iload_n (i := 1) dX12_countOf_27 rfl rfl ?_
    refine PW_tableIn 90 dX12_countOf_28 (by decide) (by decide) rfl (by decide) ?_
    refine PW_aload_n (i := 0) dX12_countOf_90 rfl rfl ?_
    refine PW_giv (v := nI (vu (aV s))) dX12_countOf_91 fg12_90 (Yt) (Rm.2.2.2.1) ?_
    refine PW_ireturn rfl (rfl) dX12_countOf_94 (Nat.le_of_ble_eq_true rfl) (Nat.le_of_ble_eq_true rfl) ?_
    exact rt_i rfl
  · refine PW_iload_n (i := 1) dX12_countOf_27 rfl rfl ?_
    refine PW_tableOut 95 dX12_countOf_28 (Or.inr (by decide)) (by decide) ?_
    refine PW_aload_n (i := 0) dX12_countOf_95 rfl rfl ?_
    refine PW_giv (v := nI (aL s)) dX12_countOf_96 fg12_119 (Yt) (Rt.1) ?_
    refine PW_ireturn rfl (rfl) dX12_countOf_99 (Nat.le_of_ble_eq_true rfl) (Nat.le_of_ble_eq_true rfl) ?_
    exact rt_i rfl
set_option maxRecDepth 100000 in
set_option maxHeartbeats 4000000 in
theorem lpX12_countOf {G : GE} {d : Nat} {i : MI0} {S : MS} {Y : Nat} (hY : YS S Y) {s : Ab} {b : Nat} (hR : MR i S Y s) (hV : AV b s) (hb : b ≤ 100) (hd : 0 ≤ d) {w : Nat} (hw6 : w ≤ 6) : ∀ (n0 j : Nat), j ≤ hn (vh (aV s)) → hn (vh (aV s)) < j + n0 → PW G iX12_countOf d (Rt (amt s w) (i, S)) 4 [.ref Y, .int (nI w), .int (nI (sbN (hf (vh (aV s))) j)), .int (nI j)] [] (i, S) 0 0 := by
  have hY' := hY
  obtain ⟨Yt, ⟨Yt1, Yr1⟩, ⟨Yt2, Yr2⟩, ⟨Yt3, Yr3⟩, ⟨Yt4, Yr4⟩, ⟨Yt5, Yr5⟩, ⟨Yt6, Yr6⟩, ⟨Yt7, Yr7⟩, ⟨Yt8, Yr8⟩, ⟨Yt9, Yr9⟩, ⟨Yt10, Yr10⟩, ⟨Yt11, Yr11⟩, ⟨Yt12, Yr12⟩, ⟨Yt13, Yr13⟩, ⟨Yt14, Yr14⟩, ⟨Yt15, Yr15⟩, ⟨Yt16, Yr16⟩, ⟨Yt17, Yr17⟩, ⟨Yt18, Yr18⟩, ⟨Yt19, Yr19⟩⟩ := hY
  have hR' := hR
  have hV' := hV
  obtain ⟨Rm, Ri0, Ri1, Rk, Rx, Rt, Rl⟩ := hR
  have Rh := Rm.1
  obtain ⟨Av, Ai, At, Ab', Aa, Aw⟩ := hV
  have Ah := Av.1
  have Ah1 := Ah.1
  have Av1 := Av.2.1
  have Av2 := Av.2.2.1
  have Av3 := Av.2.2.2.1
  intro n0
  induction n0 with
  | zero => intro j h1 h2; exact absurd h2 (by omega)
  | succ n0 ih =>
    intro j hj1 hj2 
    refine PW_iload_n (i := 3) dX12_countOf_4 rfl rfl ?_
    refine PW_aload_n (i := 0) dX12_countOf_5 rfl rfl ?_
    refine PW_giv (v := nI (hn (vh (aV s)))) dX12_countOf_6 fg12_74 (Yt) (Rh.1) ?_
    refine PW_icmp_ge 27 dX12_countOf_9 (by decide) (fun h9 => ?_) (fun h9 => ?_)
    · have h9 := jle h9
      have ej : j = hn (vh (aV s)) := by omega
      subst ej
      exact tlX12_countOf hY' hR' hV' hb hd hw6 _
    · have h9 := jnle h9
      refine PW_iload_n (i := 2) dX12_countOf_12 rfl rfl ?_
      refine PW_aload_n (i := 0) dX12_countOf_13 rfl rfl ?_
      refine PW_getR dX12_countOf_14 fg12_22 (Yt) (Yr5) ?_
      refine PW_iload_n (i := 3) dX12_countOf_17 rfl rfl ?_
      refine PW_ial (v := b2i ((hf (vh (aV s))).testBit j)) dX12_countOf_18 (Yt5) (by omega) (by omega) ((Rh.2.2.2 j h9).2.2.2) ?_
      refine PW_iadd dX12_countOf_19 ?_
      rw [b2i_nI]
      refine PW_eqi (nI_add _ _) ?_
      refine PW_istore_n (i := 2) dX12_countOf_20 rfl (Nat.le_of_ble_eq_true rfl) rfl ?_
      refine PW_inc1 dX12_countOf_21 rfl (Nat.le_of_ble_eq_true rfl) rfl ?_
      refine PW_goto 4 dX12_countOf_24 (by decide) ?_
      exact ih (j + 1) (by omega) (by omega)
set_option maxRecDepth 100000 in
set_option maxHeartbeats 4000000 in
theorem spX12_countOf {G : GE} {d : Nat} {i : MI0} {S : MS} {Y : Nat} (hY : YS S Y) {s : Ab} {b : Nat} (hR : MR i S Y s) (hV : AV b s) (hb : b ≤ 100) (hd : 0 ≤ d) {w : Nat} (hw6 : w ≤ 6) : Mt G iX12_countOf d [.ref Y, .int (nI w)] (i, S) (Rt (amt s w) (i, S)) := by
  have hY' := hY
  obtain ⟨Yt, ⟨Yt1, Yr1⟩, ⟨Yt2, Yr2⟩, ⟨Yt3, Yr3⟩, ⟨Yt4, Yr4⟩, ⟨Yt5, Yr5⟩, ⟨Yt6, Yr6⟩, ⟨Yt7, Yr7⟩, ⟨Yt8, Yr8⟩, ⟨Yt9, Yr9⟩, ⟨Yt10, Yr10⟩, ⟨Yt11, Yr11⟩, ⟨Yt12, Yr12⟩, ⟨Yt13, Yr13⟩, ⟨Yt14, Yr14⟩, ⟨Yt15, Yr15⟩, ⟨Yt16, Yr16⟩, ⟨Yt17, Yr17⟩, ⟨Yt18, Yr18⟩, ⟨Yt19, Yr19⟩⟩ := hY
  have hR' := hR
  have hV' := hV
  obtain ⟨Rm, Ri0, Ri1, Rk, Rx, Rt, Rl⟩ := hR
  have Rh := Rm.1
  obtain ⟨Av, Ai, At, Ab', Aa, Aw⟩ := hV
  have Ah := Av.1
  have Ah1 := Ah.1
  have Av1 := Av.2.1
  have Av2 := Av.2.2.1
  have Av3 := Av.2.2.2.1
  refine Mt_in 2 (ls := [.ref Y, .int (nI w), .null, .null]) moX12_countOf (Nat.le_of_ble_eq_true rfl) rfl ?_
  refine PW_iconst (v := 0) dX12_countOf_0 (by decide) ?_
  refine PW_istore_n (i := 2) dX12_countOf_1 rfl (Nat.le_of_ble_eq_true rfl) rfl ?_
  refine PW_iconst (v := 0) dX12_countOf_2 (by decide) ?_
  refine PW_istore_n (i := 3) dX12_countOf_3 rfl (Nat.le_of_ble_eq_true rfl) rfl ?_
  exact lpX12_countOf hY' hR' hV' hb hd hw6 (hn (vh (aV s)) + 1) 0 (by omega) (by omega)
set_option maxRecDepth 100000 in
set_option maxHeartbeats 4000000 in
theorem spX12_count {G : GE} {d : Nat} {i : MI0} {S : MS} {Y : Nat} (hY : YS S Y) {s : Ab} {b : Nat} (hR : MR i S Y s) (hV : AV b s) (hb : b ≤ 100) (hd : 12 ≤ d) (w : Int32) : Mt G iX12_count d [.ref Y, .int w] (i, S) (OpM Y (i, S) (.int (oCount s w).1) (oCount s w).2) := by
  have hY' := hY
  obtain ⟨Yt, ⟨Yt1, Yr1⟩, ⟨Yt2, Yr2⟩, ⟨Yt3, Yr3⟩, ⟨Yt4, Yr4⟩, ⟨Yt5, Yr5⟩, ⟨Yt6, Yr6⟩, ⟨Yt7, Yr7⟩, ⟨Yt8, Yr8⟩, ⟨Yt9, Yr9⟩, ⟨Yt10, Yr10⟩, ⟨Yt11, Yr11⟩, ⟨Yt12, Yr12⟩, ⟨Yt13, Yr13⟩, ⟨Yt14, Yr14⟩, ⟨Yt15, Yr15⟩, ⟨Yt16, Yr16⟩, ⟨Yt17, Yr17⟩, ⟨Yt18, Yr18⟩, ⟨Yt19, Yr19⟩⟩ := hY
  have hR' := hR
  have hV' := hV
  obtain ⟨Rm, Ri0, Ri1, Rk, Rx, Rt, Rl⟩ := hR
  have Rh := Rm.1
  obtain ⟨Av, Ai, At, Ab', Aa, Aw⟩ := hV
  have Ah := Av.1
  have Ah1 := Ah.1
  have Av1 := Av.2.1
  have Av2 := Av.2.2.1
  have Av3 := Av.2.2.2.1
  refine Mt_in 0 (ls := [.ref Y, .int w]) moX12_count (Nat.le_of_ble_eq_true rfl) rfl ?_
  refine PW_iload_n (i := 1) dX12_count_0 rfl rfl ?_
  refine PW_iconst (v := 0) dX12_count_1 (by decide) ?_
  refine PW_bipush (v := 6) dX12_count_2 (by decide) ?_
  refine PW_callS dX12_count_4 moX12_in cs12_93 (by omega) rfl rfl (Nat.le_of_ble_eq_true rfl) (Nat.le_of_ble_eq_true rfl) (Nat.le_of_ble_eq_true rfl) (spX12_in (d := d - 1) _ _ _) (fun v M1 hq => ?_)
  obtain ⟨rfl, rfl⟩ := hq
  refine PW_if_eq 18 dX12_count_7 (by decide) (fun h7 => ?_) (fun h7 => ?_)
  · have h7 := b1_0.mp h7
    refine PW_aload_n (i := 0) dX12_count_18 rfl rfl ?_
    refine PW_callV dX12_count_19 moX12_bad cv12_97 (Yt) (by omega) rfl rfl (Nat.le_of_ble_eq_true rfl) (Nat.le_of_ble_eq_true rfl) (Nat.le_of_ble_eq_true rfl) (spX12_bad (d := d - 1) hY' hR') (fun v M1 hq => ?_)
    obtain ⟨rfl, i1, rfl, c1, c2⟩ := hq
    refine PW_ireturn rfl (rfl) dX12_count_22 (Nat.le_of_ble_eq_true rfl) (Nat.le_of_ble_eq_true rfl) ?_
    first | exact OpM_i (by unfold oCount; rw [if_pos h7, ek]) hY' hR' (fun _ _ => rfl) | exact OpM_i (by unfold oCount; rw [if_neg h7]) hY' c1 (fun q hq => c2 q (by omega))
  · have h7 := b1_1.mp h7
    obtain ⟨j, hj, rfl⟩ := within_of (n := 6) h7 rfl rfl (by decide)
    have ek : (nI j).toNatClampNeg = j := cln (by omega)
    refine PW_aload_n (i := 0) dX12_count_10 rfl rfl ?_
    refine PW_iload_n (i := 1) dX12_count_11 rfl rfl ?_
    refine PW_callV dX12_count_12 moX12_countOf cv12_269 (Yt) (by omega) rfl rfl (Nat.le_of_ble_eq_true rfl) (Nat.le_of_ble_eq_true rfl) (Nat.le_of_ble_eq_true rfl) (spX12_countOf (d := d - 1) hY' hR' hV' hb (by omega) (w := j) (by omega)) (fun v M1 hq => ?_)
    obtain ⟨rfl, rfl⟩ := hq
    refine PW_goto 22 dX12_count_15 (by decide) ?_
    refine PW_ireturn rfl (rfl) dX12_count_22 (Nat.le_of_ble_eq_true rfl) (Nat.le_of_ble_eq_true rfl) ?_
    first | exact OpM_i (by unfold oCount; rw [if_pos h7, ek]) hY' hR' (fun _ _ => rfl) | exact OpM_i (by unfold oCount; rw [if_neg h7]) hY' c1 (fun q hq => c2 q (by omega))

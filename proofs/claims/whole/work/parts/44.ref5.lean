/-! ===== the reference: then, strikes, meet ===== -/
set_option maxRecDepth 100000 in
set_option maxHeartbeats 4000000 in
theorem lpX12_passes {G : GE} {d : Nat} {i : MI0} {S : MS} {Y : Nat} (hY : YS S Y) {b : Nat} {h : Hm} (hH : MH i Y h) (hV : HV b h) (hb : b + 61 ≤ 1000) (hd : 5 ≤ d) {m : Nat} (hm : m ≤ 60) : ∀ (n0 j : Nat), j ≤ m → m < j + n0 → ∀ (i' : MI0), MH i' Y (pasN h j) → CQ i i' Y → PW G iX12_passes d (Wr S (fun i' => MH i' Y (pasN h m) ∧ CQ i i' Y)) 2 [.ref Y, .int (nI m), .int (nI j)] [] (i', S) 0 0 := by
  have hY' := hY
  obtain ⟨Yt, ⟨Yt1, Yr1⟩, ⟨Yt2, Yr2⟩, ⟨Yt3, Yr3⟩, ⟨Yt4, Yr4⟩, ⟨Yt5, Yr5⟩, ⟨Yt6, Yr6⟩, ⟨Yt7, Yr7⟩, ⟨Yt8, Yr8⟩, ⟨Yt9, Yr9⟩, ⟨Yt10, Yr10⟩, ⟨Yt11, Yr11⟩, ⟨Yt12, Yr12⟩, ⟨Yt13, Yr13⟩, ⟨Yt14, Yr14⟩, ⟨Yt15, Yr15⟩, ⟨Yt16, Yr16⟩, ⟨Yt17, Yr17⟩, ⟨Yt18, Yr18⟩, ⟨Yt19, Yr19⟩⟩ := hY
  intro n0
  induction n0 with
  | zero => intro j h1 h2; exact absurd h2 (by omega)
  | succ n0 ih =>
    intro j hj1 hj2 i' v1 v2
    refine PW_iload_n (i := 2) dX12_passes_2 rfl rfl ?_
    refine PW_iload_n (i := 1) dX12_passes_3 rfl rfl ?_
    refine PW_icmp_ge 18 dX12_passes_4 (by decide) (fun h4 => ?_) (fun h4 => ?_)
    · have h4 := jle h4
      have ej : j = m := by omega
      subst ej
      refine PW_return rfl dX12_passes_18 (Nat.le_of_ble_eq_true rfl) (Nat.le_of_ble_eq_true rfl) ?_
      exact Wr_mk rfl ⟨v1, v2⟩
    · have h4 := jnle h4
      refine PW_aload_n (i := 0) dX12_passes_7 rfl rfl ?_
      refine PW_callV dX12_passes_8 moX12_pass cv12_205 (Yt) (by omega) rfl rfl (Nat.le_of_ble_eq_true rfl) (Nat.le_of_ble_eq_true rfl) (Nat.le_of_ble_eq_true rfl) (spX12_pass (d := d - 1) hY' v1 (pasN_V hV j) (by omega) (by omega)) (fun v M1 hq => ?_)
      obtain ⟨rfl, i3, rfl, a1, a2⟩ := hq
      refine PW_pop dX12_passes_11 rfl ?_
      refine PW_inc1 dX12_passes_12 rfl (Nat.le_of_ble_eq_true rfl) rfl ?_
      refine PW_goto 2 dX12_passes_15 (by decide) ?_
      exact ih (j + 1) (by omega) (by omega) i3 a1 (v2.trans a2)
set_option maxRecDepth 100000 in
set_option maxHeartbeats 4000000 in
theorem spX12_passes {G : GE} {d : Nat} {i : MI0} {S : MS} {Y : Nat} (hY : YS S Y) {b : Nat} {h : Hm} (hH : MH i Y h) (hV : HV b h) (hb : b + 61 ≤ 1000) (hd : 5 ≤ d) {m : Nat} (hm : m ≤ 60) : Mt G iX12_passes d [.ref Y, .int (nI m)] (i, S) (Wr S (fun i' => MH i' Y (pasN h m) ∧ CQ i i' Y)) := by
  have hY' := hY
  obtain ⟨Yt, ⟨Yt1, Yr1⟩, ⟨Yt2, Yr2⟩, ⟨Yt3, Yr3⟩, ⟨Yt4, Yr4⟩, ⟨Yt5, Yr5⟩, ⟨Yt6, Yr6⟩, ⟨Yt7, Yr7⟩, ⟨Yt8, Yr8⟩, ⟨Yt9, Yr9⟩, ⟨Yt10, Yr10⟩, ⟨Yt11, Yr11⟩, ⟨Yt12, Yr12⟩, ⟨Yt13, Yr13⟩, ⟨Yt14, Yr14⟩, ⟨Yt15, Yr15⟩, ⟨Yt16, Yr16⟩, ⟨Yt17, Yr17⟩, ⟨Yt18, Yr18⟩, ⟨Yt19, Yr19⟩⟩ := hY
  refine Mt_in 1 (ls := [.ref Y, .int (nI m), .null]) moX12_passes (Nat.le_of_ble_eq_true rfl) rfl ?_
  refine PW_iconst (v := 0) dX12_passes_0 (by decide) ?_
  refine PW_istore_n (i := 2) dX12_passes_1 rfl (Nat.le_of_ble_eq_true rfl) rfl ?_
  exact lpX12_passes hY' hH hV hb hd hm (m + 1) 0 (by omega) (by omega) i hH (CQ.rfl' i Y)
set_option maxRecDepth 100000 in
set_option maxHeartbeats 4000000 in
theorem spX12_then {G : GE} {d : Nat} {i : MI0} {S : MS} {Y : Nat} (hY : YS S Y) {s : Ab} {b : Nat} (hR : MR i S Y s) (hV : AV b s) (hb : b ≤ 100) (hd : 12 ≤ d) (m w : Int32) : Mt G iX12_then d [.ref Y, .int m, .int w] (i, S) (OpM Y (i, S) (.int (oThen s m w).1) (oThen s m w).2) := by
  have hY' := hY
  obtain ⟨Yt, ⟨Yt1, Yr1⟩, ⟨Yt2, Yr2⟩, ⟨Yt3, Yr3⟩, ⟨Yt4, Yr4⟩, ⟨Yt5, Yr5⟩, ⟨Yt6, Yr6⟩, ⟨Yt7, Yr7⟩, ⟨Yt8, Yr8⟩, ⟨Yt9, Yr9⟩, ⟨Yt10, Yr10⟩, ⟨Yt11, Yr11⟩, ⟨Yt12, Yr12⟩, ⟨Yt13, Yr13⟩, ⟨Yt14, Yr14⟩, ⟨Yt15, Yr15⟩, ⟨Yt16, Yr16⟩, ⟨Yt17, Yr17⟩, ⟨Yt18, Yr18⟩, ⟨Yt19, Yr19⟩⟩ := hY
  have hR' := hR
  have hV' := hV
  obtain ⟨Rm, Ri0, Ri1, Rk, Rx, Rt, Rl⟩ := hR
  have Rh := Rm.1
  obtain ⟨Av, Ai, At, Ab', Aa, Aw⟩ := hV
  have Ah := Av.1
  have Ah1 := Ah.1
  have Av1 := Av.2.1
  have Av2 := Av.2.2.1
  have Av3 := Av.2.2.2.1
  refine Mt_in 1 (ls := [.ref Y, .int m, .int w, .null]) moX12_then (Nat.le_of_ble_eq_true rfl) rfl ?_
  refine PW_iload_n (i := 1) dX12_then_0 rfl rfl ?_
  refine PW_iconst (v := 0) dX12_then_1 (by decide) ?_
  refine PW_bipush (v := 60) dX12_then_2 (by decide) ?_
  refine PW_callS dX12_then_4 moX12_in cs12_93 (by omega) rfl rfl (Nat.le_of_ble_eq_true rfl) (Nat.le_of_ble_eq_true rfl) (Nat.le_of_ble_eq_true rfl) (spX12_in (d := d - 1) _ _ _) (fun v M1 hq => ?_)
  obtain ⟨rfl, rfl⟩ := hq
  refine PW_if_eq 19 dX12_then_7 (by decide) (fun h7 => ?_) (fun h7 => ?_)
  · have h7 := b1_0.mp h7
    refine PW_aload_n (i := 0) dX12_then_19 rfl rfl ?_
    refine PW_callV dX12_then_20 moX12_manyBad cv12_211 (Yt) (by omega) rfl rfl (Nat.le_of_ble_eq_true rfl) (Nat.le_of_ble_eq_true rfl) (Nat.le_of_ble_eq_true rfl) (spX12_manyBad (d := d - 1) hY' hR') (fun v M1 hq => ?_)
    obtain ⟨rfl, i1, rfl, c1, c2⟩ := hq
    refine PW_ireturn rfl (rfl) dX12_then_23 (Nat.le_of_ble_eq_true rfl) (Nat.le_of_ble_eq_true rfl) ?_
    exact OpM_i (by unfold oThen; rw [if_neg (fun q => by first | exact h7 q.1 | exact h16 q.2)]) hY' c1 (fun q hq => c2 q (by omega))
  · have h7 := b1_1.mp h7
    refine PW_iload_n (i := 2) dX12_then_10 rfl rfl ?_
    refine PW_iconst (v := 0) dX12_then_11 (by decide) ?_
    refine PW_iconst (v := 1) dX12_then_12 (by decide) ?_
    refine PW_callS dX12_then_13 moX12_in cs12_93 (by omega) rfl rfl (Nat.le_of_ble_eq_true rfl) (Nat.le_of_ble_eq_true rfl) (Nat.le_of_ble_eq_true rfl) (spX12_in (d := d - 1) _ _ _) (fun v M1 hq => ?_)
    obtain ⟨rfl, rfl⟩ := hq
    refine PW_if_ne 24 dX12_then_16 (by decide) (fun h16 => ?_) (fun h16 => ?_)
    · have h16 := b1_1.mp h16
      refine PW_aload_n (i := 0) dX12_then_24 rfl rfl ?_
      refine PW_callV dX12_then_25 moX12_puts cv12_214 (Yt) (by omega) rfl rfl (Nat.le_of_ble_eq_true rfl) (Nat.le_of_ble_eq_true rfl) (Nat.le_of_ble_eq_true rfl) (spX12_puts (d := d - 1) hY' (by omega)) (fun v M1 hq => ?_)
      obtain ⟨rfl, i1, rfl, p1, p2⟩ := hq
      have Rh1 : MH i1 Y (vh (aV s)) := Rh.kp Ah1 (by rw [p2 Y (by omega)]) (by rw [p2 Y (by omega)]) (by rw [p2 Y (by omega)]) (fun j hj => ⟨by rw [p2 _ (by omega)], by rw [p2 _ (by omega)], by rw [p2 _ (by omega)], by rw [p2 _ (by omega)]⟩)
      refine PW_aload_n (i := 0) dX12_then_28 rfl rfl ?_
      refine PW_iload_n (i := 1) dX12_then_29 rfl rfl ?_
      obtain ⟨j, hj, rfl⟩ := within_of (n := 60) h7 rfl rfl (by decide)
      have ek : (nI j).toNatClampNeg = j := cln (by omega)
      refine PW_callV dX12_then_30 moX12_passes cv12_217 (Yt) (by omega) rfl rfl (Nat.le_of_ble_eq_true rfl) (Nat.le_of_ble_eq_true rfl) (Nat.le_of_ble_eq_true rfl) (spX12_passes (d := d - 1) hY' Rh1 Ah (by omega) (by omega) (m := j) hj) (fun v M1 hq => ?_)
      obtain ⟨rfl, i2, rfl, a1, a2⟩ := hq
      have Fv := pasN_V Ah j
      refine PW_iload_n (i := 2) dX12_then_33 rfl rfl ?_
      refine PW_if_ne 44 dX12_then_34 (by decide) (fun h34 => ?_) (fun h34 => ?_)
      · refine PW_aload_n (i := 0) dX12_then_44 rfl rfl ?_
        refine PW_callV dX12_then_45 moX12_steers cv12_186 (Yt) (by omega) rfl rfl (Nat.le_of_ble_eq_true rfl) (Nat.le_of_ble_eq_true rfl) (Nat.le_of_ble_eq_true rfl) (spX12_steers (d := d - 1) hY' a1 Fv (by omega) (by omega)) (fun v M1 hq => ?_)
        obtain ⟨rfl, rfl⟩ := hq
        refine PW_istore_n (i := 3) dX12_then_48 rfl (Nat.le_of_ble_eq_true rfl) rfl ?_
        refine PW_aload_n (i := 0) dX12_then_49 rfl rfl ?_
        refine PW_callV dX12_then_50 moX12_back cv12_221 (Yt) (by omega) rfl rfl (Nat.le_of_ble_eq_true rfl) (Nat.le_of_ble_eq_true rfl) (Nat.le_of_ble_eq_true rfl) (spX12_back (d := d - 1) hY' (by omega) p1 p2 (a2.t)) (fun v M1 hq => ?_)
        obtain ⟨rfl, i4, rfl, eq, ex⟩ := hq
        refine PW_iload_n (i := 3) dX12_then_53 rfl rfl ?_
        refine PW_ireturn rfl (rfl) dX12_then_54 (Nat.le_of_ble_eq_true rfl) (Nat.le_of_ble_eq_true rfl) ?_
        first | exact OpM_i (by unfold oThen; rw [if_pos ⟨h7, h16⟩, ek, if_pos h34]) hY' (eq.mr hR' hV') eq.fr | exact OpM_i (by unfold oThen; rw [if_pos ⟨h7, h16⟩, ek, if_neg h34]; rfl) hY' (eq.mr hR' hV') eq.fr
      · refine PW_aload_n (i := 0) dX12_then_37 rfl rfl ?_
        refine PW_giv (v := iN (hp (pasN (vh (aV s)) j))) dX12_then_38 fg12_78 (Yt) (a1.2.1) ?_
        refine PW_goto 48 dX12_then_41 (by decide) ?_
        refine PW_istore_n (i := 3) dX12_then_48 rfl (Nat.le_of_ble_eq_true rfl) rfl ?_
        refine PW_aload_n (i := 0) dX12_then_49 rfl rfl ?_
        refine PW_callV dX12_then_50 moX12_back cv12_221 (Yt) (by omega) rfl rfl (Nat.le_of_ble_eq_true rfl) (Nat.le_of_ble_eq_true rfl) (Nat.le_of_ble_eq_true rfl) (spX12_back (d := d - 1) hY' (by omega) p1 p2 (a2.t)) (fun v M1 hq => ?_)
        obtain ⟨rfl, i4, rfl, eq, ex⟩ := hq
        refine PW_iload_n (i := 3) dX12_then_53 rfl rfl ?_
        refine PW_ireturn rfl (rfl) dX12_then_54 (Nat.le_of_ble_eq_true rfl) (Nat.le_of_ble_eq_true rfl) ?_
        first | exact OpM_i (by unfold oThen; rw [if_pos ⟨h7, h16⟩, ek, if_pos h34]) hY' (eq.mr hR' hV') eq.fr | exact OpM_i (by unfold oThen; rw [if_pos ⟨h7, h16⟩, ek, if_neg h34]; rfl) hY' (eq.mr hR' hV') eq.fr
    · have h16 := b1_0.mp h16
      refine PW_aload_n (i := 0) dX12_then_19 rfl rfl ?_
      refine PW_callV dX12_then_20 moX12_manyBad cv12_211 (Yt) (by omega) rfl rfl (Nat.le_of_ble_eq_true rfl) (Nat.le_of_ble_eq_true rfl) (Nat.le_of_ble_eq_true rfl) (spX12_manyBad (d := d - 1) hY' hR') (fun v M1 hq => ?_)
      obtain ⟨rfl, i1, rfl, c1, c2⟩ := hq
      refine PW_ireturn rfl (rfl) dX12_then_23 (Nat.le_of_ble_eq_true rfl) (Nat.le_of_ble_eq_true rfl) ?_
      exact OpM_i (by unfold oThen; rw [if_neg (fun q => by first | exact h7 q.1 | exact h16 q.2)]) hY' c1 (fun q hq => c2 q (by omega))
theorem oI_m1 {o : Option Nat} (h : ∀ m, o = some m → m < 1000) : oI o = -1 ↔ o = none := by
  match o, h with
  | none, _ => exact ⟨fun _ => rfl, fun _ => rfl⟩
  | some m, h =>
    refine ⟨fun q => ?_, fun q => by cases q⟩
    have := h m rfl
    rw [show oI (some m) = nI m from rfl, nI_iN, show (-1 : Int32) = iN (-1) from rfl, iN_inj (by omega) (by omega) (by omega) (by omega)] at q
    omega
theorem fstW_lt {f : Nat → Bool} : ∀ {n m : Nat}, fstW f n = some m → m < n
  | 0, m, h => by cases h
  | n + 1, m, h => by
    rw [fstW] at h
    cases q : fstW f n with
    | some k =>
      rw [q] at h
      have := fstW_lt q
      cases h
      omega
    | none =>
      rw [q] at h
      by_cases e : f n = true
      · simp only [if_pos e] at h; cases h; omega
      · simp only [if_neg e] at h; cases h
theorem fstW_up {f : Nat → Bool} {n m : Nat} (h : fstW f n = some m) : ∀ {k : Nat}, n ≤ k → fstW f k = some m
  | 0, hk => by
    have : n = 0 := by omega
    rw [this] at h; exact h
  | k + 1, hk => by
    by_cases e : n = k + 1
    · rw [← e]; exact h
    · rw [fstW, fstW_up h (by omega)]
theorem fstW_1 {f : Nat → Bool} {j : Nat} (h : fstW f j = none) : fstW f (j + 1) = if f j then some j else none := by rw [fstW, h]
set_option maxRecDepth 100000 in
set_option maxHeartbeats 4000000 in
theorem lpX12_strikes {G : GE} {d : Nat} {i : MI0} {S : MS} {Y : Nat} (hY : YS S Y) {s : Ab} {b : Nat} (hR : MR i S Y s) (hV : AV b s) (hb : b ≤ 100) (hd : 12 ≤ d) {i0 : MI0} (p1 : SVd (i0 (Y + 13)) 0 i Y) (p2 : ∀ q, q ≠ Y + 13 → i0 q = i q) (Rm0 : MV i0 Y (aV s)) : ∀ (n0 j : Nat), j ≤ 61 → 61 < j + n0 → ∀ (i' : MI0), 1 ≤ j → MH i' Y (pasN (vh (aV s)) (j - 1)) → CQ i0 i' Y → PW G iX12_strikes d (OpM Y (i, S) (.int (oStrikes s).1) (oStrikes s).2) 8 [.ref Y, .int (oI (fstW (stkF (aV s)) j)), .int (nI j)] [] (i', S) 0 0 := by
  have hY' := hY
  obtain ⟨Yt, ⟨Yt1, Yr1⟩, ⟨Yt2, Yr2⟩, ⟨Yt3, Yr3⟩, ⟨Yt4, Yr4⟩, ⟨Yt5, Yr5⟩, ⟨Yt6, Yr6⟩, ⟨Yt7, Yr7⟩, ⟨Yt8, Yr8⟩, ⟨Yt9, Yr9⟩, ⟨Yt10, Yr10⟩, ⟨Yt11, Yr11⟩, ⟨Yt12, Yr12⟩, ⟨Yt13, Yr13⟩, ⟨Yt14, Yr14⟩, ⟨Yt15, Yr15⟩, ⟨Yt16, Yr16⟩, ⟨Yt17, Yr17⟩, ⟨Yt18, Yr18⟩, ⟨Yt19, Yr19⟩⟩ := hY
  have hR' := hR
  have hV' := hV
  obtain ⟨Rm, Ri0, Ri1, Rk, Rx, Rt, Rl⟩ := hR
  have Rh := Rm.1
  obtain ⟨Av, Ai, At, Ab', Aa, Aw⟩ := hV
  have Ah := Av.1
  have Ah1 := Ah.1
  have Av1 := Av.2.1
  have Av2 := Av.2.2.1
  have Av3 := Av.2.2.2.1
  intro n0
  induction n0 with
  | zero => intro j h1 h2; exact absurd h2 (by omega)
  | succ n0 ih =>
    intro j hj1 hj2 i' j1 v1 v2
    refine PW_iload_n (i := 2) dX12_strikes_8 rfl rfl ?_
    refine PW_bipush (v := 60) dX12_strikes_9 (by decide) ?_
    have hlt : ∀ m, fstW (stkF (aV s)) j = some m → m < 1000 := fun m hm => by have := fstW_lt hm; omega
    have Fv := pasN_V Ah (j - 1)
    refine PW_icmp_gt 47 dX12_strikes_11 (by decide) (fun h11 => ?_) (fun h11 => ?_)
    · have h11 := jlt (a := 60) h11
      have ej : j = 61 := by omega
      subst ej
      refine PW_aload_n (i := 0) dX12_strikes_47 rfl rfl ?_
      refine PW_callV dX12_strikes_48 moX12_back cv12_221 (Yt) (by omega) rfl rfl (Nat.le_of_ble_eq_true rfl) (Nat.le_of_ble_eq_true rfl) (Nat.le_of_ble_eq_true rfl) (spX12_back (d := d - 1) hY' (by omega) p1 p2 (v2.t)) (fun v M1 hq => ?_)
      obtain ⟨rfl, i4, rfl, eq, ex⟩ := hq
      refine PW_iload_n (i := 1) dX12_strikes_51 rfl rfl ?_
      refine PW_ireturn rfl (rfl) dX12_strikes_52 (Nat.le_of_ble_eq_true rfl) (Nat.le_of_ble_eq_true rfl) ?_
      first
        | (have q : fstW (stkF (aV s)) 61 = fstW (stkF (aV s)) j := (by cases q : fstW (stkF (aV s)) j with | none => exact absurd q h16 | some m => exact fstW_up q (by omega)); exact OpM_i (o := oStrikes s) (by unfold oStrikes; rw [q]) hY' (eq.mr hR' hV') eq.fr)
        | exact OpM_i (o := oStrikes s) rfl hY' (eq.mr hR' hV') eq.fr
    · have h11 := jnlt (a := 60) h11
      refine PW_iload_n (i := 1) dX12_strikes_14 rfl rfl ?_
      refine PW_iconst (v := -1) dX12_strikes_15 (by decide) ?_
      refine PW_icmp_ne 47 dX12_strikes_16 (by decide) (fun h16 => ?_) (fun h16 => ?_)
      · have h16 : ¬ fstW (stkF (aV s)) j = none := fun q => h16 ((oI_m1 hlt).mpr q)
        refine PW_aload_n (i := 0) dX12_strikes_47 rfl rfl ?_
        refine PW_callV dX12_strikes_48 moX12_back cv12_221 (Yt) (by omega) rfl rfl (Nat.le_of_ble_eq_true rfl) (Nat.le_of_ble_eq_true rfl) (Nat.le_of_ble_eq_true rfl) (spX12_back (d := d - 1) hY' (by omega) p1 p2 (v2.t)) (fun v M1 hq => ?_)
        obtain ⟨rfl, i4, rfl, eq, ex⟩ := hq
        refine PW_iload_n (i := 1) dX12_strikes_51 rfl rfl ?_
        refine PW_ireturn rfl (rfl) dX12_strikes_52 (Nat.le_of_ble_eq_true rfl) (Nat.le_of_ble_eq_true rfl) ?_
        first
          | (have q : fstW (stkF (aV s)) 61 = fstW (stkF (aV s)) j := (by cases q : fstW (stkF (aV s)) j with | none => exact absurd q h16 | some m => exact fstW_up q (by omega)); exact OpM_i (o := oStrikes s) (by unfold oStrikes; rw [q]) hY' (eq.mr hR' hV') eq.fr)
          | exact OpM_i (o := oStrikes s) rfl hY' (eq.mr hR' hV') eq.fr
      · have h16 := (oI_m1 hlt).mp h16
        refine PW_aload_n (i := 0) dX12_strikes_19 rfl rfl ?_
        refine PW_callV dX12_strikes_20 moX12_pass cv12_205 (Yt) (by omega) rfl rfl (Nat.le_of_ble_eq_true rfl) (Nat.le_of_ble_eq_true rfl) (Nat.le_of_ble_eq_true rfl) (spX12_pass (d := d - 1) hY' v1 Fv (by omega) (by omega)) (fun v M1 hq => ?_)
        obtain ⟨rfl, i3, rfl, a1, a2⟩ := hq
        refine PW_pop dX12_strikes_23 rfl ?_
        rw [show pas (pasN (vh (aV s)) (j - 1)) = pasN (vh (aV s)) j by rw [show j = (j - 1) + 1 by omega]; rfl] at a1
        refine PW_aload_n (i := 0) dX12_strikes_24 rfl rfl ?_
        refine PW_aload_n (i := 0) dX12_strikes_25 rfl rfl ?_
        refine PW_giv (v := iN (hp (pasN (vh (aV s)) j))) dX12_strikes_26 fg12_78 (Yt) (a1.2.1) ?_
        have Rm3 : MV i3 Y (wH (aV s) (pasN (vh (aV s)) j)) := (MV.sh (i := i0) Rm0 a1 (pasN_n _ _) (v2.trans a2))
        refine PW_callV dX12_strikes_29 moX12_isRock cv12_101 (Yt) (by omega) rfl rfl (Nat.le_of_ble_eq_true rfl) (Nat.le_of_ble_eq_true rfl) (Nat.le_of_ble_eq_true rfl) (spX12_isRock (d := d - 1) hY' Rm3 (by show vr (aV s) ≤ 6; omega) _) (fun v M1 hq => ?_)
        obtain ⟨rfl, rfl⟩ := hq
        refine PW_if_eq 39 dX12_strikes_32 (by decide) (fun h32 => ?_) (fun h32 => ?_)
        · have h32 := b2i_0.mp h32
          refine PW_iload_n (i := 1) dX12_strikes_39 rfl rfl ?_
          refine PW_istore_n (i := 1) dX12_strikes_40 rfl (Nat.le_of_ble_eq_true rfl) rfl ?_
          refine PW_inc1 dX12_strikes_41 rfl (Nat.le_of_ble_eq_true rfl) rfl ?_
          refine PW_goto 8 dX12_strikes_44 (by decide) ?_
          have q := ih (j + 1) (by omega) (by omega) i3 (by omega) a1 (v2.trans a2)
          have hr : rkB (wH (aV s) (pasN (vh (aV s)) j)) (iN (hp (pasN (vh (aV s)) j))) = rkB (aV s) (iN (hp (pasN (vh (aV s)) j))) := rfl
          rw [hr] at h32
          first | (rw [fstW_1 h16, show stkF (aV s) j = true from by unfold stkF; rw [decide_eq_true j1, h32]; rfl] at q; exact q) | (rw [fstW_1 h16, show stkF (aV s) j = false from by unfold stkF; rw [decide_eq_true j1, h32]; rfl] at q; rw [h16]; exact q)
        · have h32 := b2i_n.mp h32
          refine PW_iload_n (i := 2) dX12_strikes_35 rfl rfl ?_
          refine PW_goto 40 dX12_strikes_36 (by decide) ?_
          refine PW_istore_n (i := 1) dX12_strikes_40 rfl (Nat.le_of_ble_eq_true rfl) rfl ?_
          refine PW_inc1 dX12_strikes_41 rfl (Nat.le_of_ble_eq_true rfl) rfl ?_
          refine PW_goto 8 dX12_strikes_44 (by decide) ?_
          have q := ih (j + 1) (by omega) (by omega) i3 (by omega) a1 (v2.trans a2)
          have hr : rkB (wH (aV s) (pasN (vh (aV s)) j)) (iN (hp (pasN (vh (aV s)) j))) = rkB (aV s) (iN (hp (pasN (vh (aV s)) j))) := rfl
          rw [hr] at h32
          first | (rw [fstW_1 h16, show stkF (aV s) j = true from by unfold stkF; rw [decide_eq_true j1, h32]; rfl] at q; exact q) | (rw [fstW_1 h16, show stkF (aV s) j = false from by unfold stkF; rw [decide_eq_true j1, h32]; rfl] at q; rw [h16]; exact q)
set_option maxRecDepth 100000 in
set_option maxHeartbeats 4000000 in
theorem spX12_strikes {G : GE} {d : Nat} {i : MI0} {S : MS} {Y : Nat} (hY : YS S Y) {s : Ab} {b : Nat} (hR : MR i S Y s) (hV : AV b s) (hb : b ≤ 100) (hd : 12 ≤ d) : Mt G iX12_strikes d [.ref Y] (i, S) (OpM Y (i, S) (.int (oStrikes s).1) (oStrikes s).2) := by
  have hY' := hY
  obtain ⟨Yt, ⟨Yt1, Yr1⟩, ⟨Yt2, Yr2⟩, ⟨Yt3, Yr3⟩, ⟨Yt4, Yr4⟩, ⟨Yt5, Yr5⟩, ⟨Yt6, Yr6⟩, ⟨Yt7, Yr7⟩, ⟨Yt8, Yr8⟩, ⟨Yt9, Yr9⟩, ⟨Yt10, Yr10⟩, ⟨Yt11, Yr11⟩, ⟨Yt12, Yr12⟩, ⟨Yt13, Yr13⟩, ⟨Yt14, Yr14⟩, ⟨Yt15, Yr15⟩, ⟨Yt16, Yr16⟩, ⟨Yt17, Yr17⟩, ⟨Yt18, Yr18⟩, ⟨Yt19, Yr19⟩⟩ := hY
  have hR' := hR
  have hV' := hV
  obtain ⟨Rm, Ri0, Ri1, Rk, Rx, Rt, Rl⟩ := hR
  have Rh := Rm.1
  obtain ⟨Av, Ai, At, Ab', Aa, Aw⟩ := hV
  have Ah := Av.1
  have Ah1 := Ah.1
  have Av1 := Av.2.1
  have Av2 := Av.2.2.1
  have Av3 := Av.2.2.2.1
  refine Mt_in 2 (ls := [.ref Y, .null, .null]) moX12_strikes (Nat.le_of_ble_eq_true rfl) rfl ?_
  refine PW_aload_n (i := 0) dX12_strikes_0 rfl rfl ?_
  refine PW_callV dX12_strikes_1 moX12_puts cv12_214 (Yt) (by omega) rfl rfl (Nat.le_of_ble_eq_true rfl) (Nat.le_of_ble_eq_true rfl) (Nat.le_of_ble_eq_true rfl) (spX12_puts (d := d - 1) hY' (by omega)) (fun v M1 hq => ?_)
  obtain ⟨rfl, i1, rfl, p1, p2⟩ := hq
  have Rh1 : MH i1 Y (vh (aV s)) := Rh.kp Ah1 (by rw [p2 Y (by omega)]) (by rw [p2 Y (by omega)]) (by rw [p2 Y (by omega)]) (fun j hj => ⟨by rw [p2 _ (by omega)], by rw [p2 _ (by omega)], by rw [p2 _ (by omega)], by rw [p2 _ (by omega)]⟩)
  refine PW_iconst (v := -1) dX12_strikes_4 (by decide) ?_
  refine PW_istore_n (i := 1) dX12_strikes_5 rfl (Nat.le_of_ble_eq_true rfl) rfl ?_
  refine PW_iconst (v := 1) dX12_strikes_6 (by decide) ?_
  refine PW_istore_n (i := 2) dX12_strikes_7 rfl (Nat.le_of_ble_eq_true rfl) rfl ?_
  have Rm1 : MV i1 Y (aV s) := ⟨Rh1, by rw [p2 Y (by omega)]; exact Rm.2.1, by rw [p2 Y (by omega)]; exact Rm.2.2.1, by rw [p2 Y (by omega)]; exact Rm.2.2.2.1, by rw [p2 (Y + 6) (by omega)]; exact Rm.2.2.2.2.1, by rw [p2 (Y + 7) (by omega), p2 (Y + 8) (by omega)]; exact Rm.2.2.2.2.2.1, by rw [p2 (Y + 12) (by omega)]; exact Rm.2.2.2.2.2.2⟩
  exact lpX12_strikes hY' hR' hV' hb hd p1 p2 Rm1 61 1 (by omega) (by omega) i1 (by omega) Rh1 (CQ.rfl' i1 Y)
def sgn3 (x y : Int32) : Int32 := if y < x then 1 else if x < y then -1 else 0
def mmF (h : Hm) (p b w : Int32) (m : Nat) : Bool := decide (iN (hp (pasN h m)) - p - nI m * b = 0) || (decide (w = 1) && decide ((iN (hp (pasN h m)) - p - nI m * b) * sgn3 (iN (hp h)) p < 0))
def rMeet (s : Ab) (p b w : Int32) : Int32 × Ab := if ((-60 : Int32) ≤ p ∧ p ≤ 60) ∧ ((-3 : Int32) ≤ b ∧ b ≤ 3) ∧ ((0 : Int32) ≤ w ∧ w ≤ 1) then (oI (fstW (mmF (vh (aV s)) p b w) 61), s) else (-2, bad s)
set_option maxRecDepth 100000 in
set_option maxHeartbeats 4000000 in
theorem lpX12_meet {G : GE} {d : Nat} {i : MI0} {S : MS} {Y : Nat} (hY : YS S Y) {s : Ab} {b : Nat} (hR : MR i S Y s) (hV : AV b s) (hb : b ≤ 100) (hd : 12 ≤ d) (p c w : Int32) (hw : ((-60 : Int32) ≤ p ∧ p ≤ 60) ∧ ((-3 : Int32) ≤ c ∧ c ≤ 3) ∧ ((0 : Int32) ≤ w ∧ w ≤ 1)) {i0 : MI0} (p1 : SVd (i0 (Y + 13)) 0 i Y) (p2 : ∀ q, q ≠ Y + 13 → i0 q = i q) : ∀ (n0 j : Nat), j ≤ 61 → 61 < j + n0 → ∀ (i' : MI0) (z7 z8 : Value), MH i' Y (pasN (vh (aV s)) j) → CQ i0 i' Y → PW G iX12_meet d (OpM Y (i, S) (.int (rMeet s p c w).1) (rMeet s p c w).2) 72 [.ref Y, .int p, .int c, .int w, .int (oI (fstW (mmF (vh (aV s)) p c w) j)), .int (sgn3 (iN (hp (vh (aV s)))) p), .int (nI j), z7, z8] [] (i', S) 0 0 := by
  have hY' := hY
  obtain ⟨Yt, ⟨Yt1, Yr1⟩, ⟨Yt2, Yr2⟩, ⟨Yt3, Yr3⟩, ⟨Yt4, Yr4⟩, ⟨Yt5, Yr5⟩, ⟨Yt6, Yr6⟩, ⟨Yt7, Yr7⟩, ⟨Yt8, Yr8⟩, ⟨Yt9, Yr9⟩, ⟨Yt10, Yr10⟩, ⟨Yt11, Yr11⟩, ⟨Yt12, Yr12⟩, ⟨Yt13, Yr13⟩, ⟨Yt14, Yr14⟩, ⟨Yt15, Yr15⟩, ⟨Yt16, Yr16⟩, ⟨Yt17, Yr17⟩, ⟨Yt18, Yr18⟩, ⟨Yt19, Yr19⟩⟩ := hY
  have hR' := hR
  have hV' := hV
  obtain ⟨Rm, Ri0, Ri1, Rk, Rx, Rt, Rl⟩ := hR
  have Rh := Rm.1
  obtain ⟨Av, Ai, At, Ab', Aa, Aw⟩ := hV
  have Ah := Av.1
  have Ah1 := Ah.1
  have Av1 := Av.2.1
  have Av2 := Av.2.2.1
  have Av3 := Av.2.2.2.1
  intro n0
  induction n0 with
  | zero => intro j h1 h2; exact absurd h2 (by omega)
  | succ n0 ih =>
    intro j hj1 hj2 i' z7 z8 v1 v2
    refine PW_iload dX12_meet_72 rfl ?_
    refine PW_bipush (v := 60) dX12_meet_74 (by decide) ?_
    have hlt : ∀ m, fstW (mmF (vh (aV s)) p c w) j = some m → m < 1000 := fun m hm => by have := fstW_lt hm; omega
    have Fv := pasN_V Ah j
    refine PW_icmp_gt 148 dX12_meet_76 (by decide) (fun h76 => ?_) (fun h76 => ?_)
    · have h76 := jlt (a := 60) h76
      have ej : j = 61 := by omega
      subst ej
      refine PW_aload_n (i := 0) dX12_meet_148 rfl rfl ?_
      refine PW_callV dX12_meet_149 moX12_back cv12_221 (Yt) (by omega) rfl rfl (Nat.le_of_ble_eq_true rfl) (Nat.le_of_ble_eq_true rfl) (Nat.le_of_ble_eq_true rfl) (spX12_back (d := d - 1) hY' (by omega) p1 p2 (v2.t)) (fun v M1 hq => ?_)
      obtain ⟨rfl, i4, rfl, eq, ex⟩ := hq
      refine PW_iload dX12_meet_152 rfl ?_
      refine PW_ireturn rfl (rfl) dX12_meet_154 (Nat.le_of_ble_eq_true rfl) (Nat.le_of_ble_eq_true rfl) ?_
      first
        | (have q : fstW (mmF (vh (aV s)) p c w) 61 = fstW (mmF (vh (aV s)) p c w) j := (by cases q : fstW (mmF (vh (aV s)) p c w) j with | none => exact absurd q h82 | some m => exact fstW_up q (by omega)); exact OpM_i (o := rMeet s p c w) (by unfold rMeet; rw [if_pos hw, q]) hY' (eq.mr hR' hV') eq.fr)
        | exact OpM_i (o := rMeet s p c w) (by unfold rMeet; rw [if_pos hw]) hY' (eq.mr hR' hV') eq.fr
    · have h76 := jnlt (a := 60) h76
      refine PW_iload dX12_meet_79 rfl ?_
      refine PW_iconst (v := -1) dX12_meet_81 (by decide) ?_
      refine PW_icmp_ne 148 dX12_meet_82 (by decide) (fun h82 => ?_) (fun h82 => ?_)
      · have h82 : ¬ fstW (mmF (vh (aV s)) p c w) j = none := fun q => h82 ((oI_m1 hlt).mpr q)
        refine PW_aload_n (i := 0) dX12_meet_148 rfl rfl ?_
        refine PW_callV dX12_meet_149 moX12_back cv12_221 (Yt) (by omega) rfl rfl (Nat.le_of_ble_eq_true rfl) (Nat.le_of_ble_eq_true rfl) (Nat.le_of_ble_eq_true rfl) (spX12_back (d := d - 1) hY' (by omega) p1 p2 (v2.t)) (fun v M1 hq => ?_)
        obtain ⟨rfl, i4, rfl, eq, ex⟩ := hq
        refine PW_iload dX12_meet_152 rfl ?_
        refine PW_ireturn rfl (rfl) dX12_meet_154 (Nat.le_of_ble_eq_true rfl) (Nat.le_of_ble_eq_true rfl) ?_
        first
          | (have q : fstW (mmF (vh (aV s)) p c w) 61 = fstW (mmF (vh (aV s)) p c w) j := (by cases q : fstW (mmF (vh (aV s)) p c w) j with | none => exact absurd q h82 | some m => exact fstW_up q (by omega)); exact OpM_i (o := rMeet s p c w) (by unfold rMeet; rw [if_pos hw, q]) hY' (eq.mr hR' hV') eq.fr)
          | exact OpM_i (o := rMeet s p c w) (by unfold rMeet; rw [if_pos hw]) hY' (eq.mr hR' hV') eq.fr
      · have h82 := (oI_m1 hlt).mp h82
        refine PW_aload_n (i := 0) dX12_meet_85 rfl rfl ?_
        refine PW_giv (v := iN (hp (pasN (vh (aV s)) j))) dX12_meet_86 fg12_78 (Yt) (v1.2.1) ?_
        refine PW_iload_n (i := 1) dX12_meet_89 rfl rfl ?_
        refine PW_isub dX12_meet_90 ?_
        refine PW_iload dX12_meet_91 rfl ?_
        refine PW_iload_n (i := 2) dX12_meet_93 rfl rfl ?_
        refine PW_imul dX12_meet_94 ?_
        refine PW_isub dX12_meet_95 ?_
        refine PW_istore dX12_meet_96 (Nat.le_of_ble_eq_true rfl) rfl ?_
        refine PW_iload dX12_meet_98 rfl ?_
        refine PW_if_eq 116 dX12_meet_100 (by decide) (fun h100 => ?_) (fun h100 => ?_)
        · refine PW_iconst (v := 1) dX12_meet_116 (by decide) ?_
          refine PW_goto 121 dX12_meet_117 (by decide) ?_
          refine PW_istore dX12_meet_121 (Nat.le_of_ble_eq_true rfl) rfl ?_
          refine PW_iload dX12_meet_123 rfl ?_
          refine PW_if_eq 133 dX12_meet_125 (by decide) (fun q => absurd q (by decide)) (fun _ => ?_)
          refine PW_iload dX12_meet_128 rfl ?_
          refine PW_goto 135 dX12_meet_130 (by decide) ?_
          refine PW_istore dX12_meet_135 (Nat.le_of_ble_eq_true rfl) rfl ?_
          refine PW_aload_n (i := 0) dX12_meet_137 rfl rfl ?_
          refine PW_callV dX12_meet_138 moX12_pass cv12_205 (Yt) (by omega) rfl rfl (Nat.le_of_ble_eq_true rfl) (Nat.le_of_ble_eq_true rfl) (Nat.le_of_ble_eq_true rfl) (spX12_pass (d := d - 1) hY' v1 Fv (by omega) (by omega)) (fun v M1 hq => ?_)
          obtain ⟨rfl, i3, rfl, a1, a2⟩ := hq
          refine PW_pop dX12_meet_141 rfl ?_
          refine PW_inc1 dX12_meet_142 rfl (Nat.le_of_ble_eq_true rfl) rfl ?_
          refine PW_goto 72 dX12_meet_145 (by decide) ?_
          have q := ih (j + 1) (by omega) (by omega) i3 (.int (iN (hp (pasN (vh (aV s)) j)) - p - nI j * c)) (.int 1) a1 (v2.trans a2)
          first
            | (rw [fstW_1 h82, show mmF (vh (aV s)) p c w j = true from by unfold mmF; first | (rw [decide_eq_true h100, Bool.true_or]) | (rw [decide_eq_false h100, decide_eq_true h105, decide_eq_true (Int32.not_le.mp h113)]; rfl)] at q; exact q)
            | (rw [fstW_1 h82, show mmF (vh (aV s)) p c w j = false from by unfold mmF; first | (rw [decide_eq_false h100, decide_eq_false h105, Bool.false_and]; rfl) | (rw [decide_eq_false h100, decide_eq_true h105, decide_eq_false (Int32.not_lt.mpr h113)]; rfl)] at q; rw [h82]; exact q)
        · refine PW_iload_n (i := 3) dX12_meet_103 rfl rfl ?_
          refine PW_iconst (v := 1) dX12_meet_104 (by decide) ?_
          refine PW_icmp_ne 120 dX12_meet_105 (by decide) (fun h105 => ?_) (fun h105 => ?_)
          · refine PW_iconst (v := 0) dX12_meet_120 (by decide) ?_
            refine PW_istore dX12_meet_121 (Nat.le_of_ble_eq_true rfl) rfl ?_
            refine PW_iload dX12_meet_123 rfl ?_
            refine PW_if_eq 133 dX12_meet_125 (by decide) (fun _ => ?_) (fun q => absurd (by decide) q)
            refine PW_iload dX12_meet_133 rfl ?_
            refine PW_istore dX12_meet_135 (Nat.le_of_ble_eq_true rfl) rfl ?_
            refine PW_aload_n (i := 0) dX12_meet_137 rfl rfl ?_
            refine PW_callV dX12_meet_138 moX12_pass cv12_205 (Yt) (by omega) rfl rfl (Nat.le_of_ble_eq_true rfl) (Nat.le_of_ble_eq_true rfl) (Nat.le_of_ble_eq_true rfl) (spX12_pass (d := d - 1) hY' v1 Fv (by omega) (by omega)) (fun v M1 hq => ?_)
            obtain ⟨rfl, i3, rfl, a1, a2⟩ := hq
            refine PW_pop dX12_meet_141 rfl ?_
            refine PW_inc1 dX12_meet_142 rfl (Nat.le_of_ble_eq_true rfl) rfl ?_
            refine PW_goto 72 dX12_meet_145 (by decide) ?_
            have q := ih (j + 1) (by omega) (by omega) i3 (.int (iN (hp (pasN (vh (aV s)) j)) - p - nI j * c)) (.int 0) a1 (v2.trans a2)
            first
              | (rw [fstW_1 h82, show mmF (vh (aV s)) p c w j = true from by unfold mmF; first | (rw [decide_eq_true h100, Bool.true_or]) | (rw [decide_eq_false h100, decide_eq_true h105, decide_eq_true (Int32.not_le.mp h113)]; rfl)] at q; exact q)
              | (rw [fstW_1 h82, show mmF (vh (aV s)) p c w j = false from by unfold mmF; first | (rw [decide_eq_false h100, decide_eq_false h105, Bool.false_and]; rfl) | (rw [decide_eq_false h100, decide_eq_true h105, decide_eq_false (Int32.not_lt.mpr h113)]; rfl)] at q; rw [h82]; exact q)
          · refine PW_iload dX12_meet_108 rfl ?_
            refine PW_iload dX12_meet_110 rfl ?_
            refine PW_imul dX12_meet_112 ?_
            refine PW_if_ge 120 dX12_meet_113 (by decide) (fun h113 => ?_) (fun h113 => ?_)
            · refine PW_iconst (v := 0) dX12_meet_120 (by decide) ?_
              refine PW_istore dX12_meet_121 (Nat.le_of_ble_eq_true rfl) rfl ?_
              refine PW_iload dX12_meet_123 rfl ?_
              refine PW_if_eq 133 dX12_meet_125 (by decide) (fun _ => ?_) (fun q => absurd (by decide) q)
              refine PW_iload dX12_meet_133 rfl ?_
              refine PW_istore dX12_meet_135 (Nat.le_of_ble_eq_true rfl) rfl ?_
              refine PW_aload_n (i := 0) dX12_meet_137 rfl rfl ?_
              refine PW_callV dX12_meet_138 moX12_pass cv12_205 (Yt) (by omega) rfl rfl (Nat.le_of_ble_eq_true rfl) (Nat.le_of_ble_eq_true rfl) (Nat.le_of_ble_eq_true rfl) (spX12_pass (d := d - 1) hY' v1 Fv (by omega) (by omega)) (fun v M1 hq => ?_)
              obtain ⟨rfl, i3, rfl, a1, a2⟩ := hq
              refine PW_pop dX12_meet_141 rfl ?_
              refine PW_inc1 dX12_meet_142 rfl (Nat.le_of_ble_eq_true rfl) rfl ?_
              refine PW_goto 72 dX12_meet_145 (by decide) ?_
              have q := ih (j + 1) (by omega) (by omega) i3 (.int (iN (hp (pasN (vh (aV s)) j)) - p - nI j * c)) (.int 0) a1 (v2.trans a2)
              first
                | (rw [fstW_1 h82, show mmF (vh (aV s)) p c w j = true from by unfold mmF; first | (rw [decide_eq_true h100, Bool.true_or]) | (rw [decide_eq_false h100, decide_eq_true h105, decide_eq_true (Int32.not_le.mp h113)]; rfl)] at q; exact q)
                | (rw [fstW_1 h82, show mmF (vh (aV s)) p c w j = false from by unfold mmF; first | (rw [decide_eq_false h100, decide_eq_false h105, Bool.false_and]; rfl) | (rw [decide_eq_false h100, decide_eq_true h105, decide_eq_false (Int32.not_lt.mpr h113)]; rfl)] at q; rw [h82]; exact q)
            · refine PW_iconst (v := 1) dX12_meet_116 (by decide) ?_
              refine PW_goto 121 dX12_meet_117 (by decide) ?_
              refine PW_istore dX12_meet_121 (Nat.le_of_ble_eq_true rfl) rfl ?_
              refine PW_iload dX12_meet_123 rfl ?_
              refine PW_if_eq 133 dX12_meet_125 (by decide) (fun q => absurd q (by decide)) (fun _ => ?_)
              refine PW_iload dX12_meet_128 rfl ?_
              refine PW_goto 135 dX12_meet_130 (by decide) ?_
              refine PW_istore dX12_meet_135 (Nat.le_of_ble_eq_true rfl) rfl ?_
              refine PW_aload_n (i := 0) dX12_meet_137 rfl rfl ?_
              refine PW_callV dX12_meet_138 moX12_pass cv12_205 (Yt) (by omega) rfl rfl (Nat.le_of_ble_eq_true rfl) (Nat.le_of_ble_eq_true rfl) (Nat.le_of_ble_eq_true rfl) (spX12_pass (d := d - 1) hY' v1 Fv (by omega) (by omega)) (fun v M1 hq => ?_)
              obtain ⟨rfl, i3, rfl, a1, a2⟩ := hq
              refine PW_pop dX12_meet_141 rfl ?_
              refine PW_inc1 dX12_meet_142 rfl (Nat.le_of_ble_eq_true rfl) rfl ?_
              refine PW_goto 72 dX12_meet_145 (by decide) ?_
              have q := ih (j + 1) (by omega) (by omega) i3 (.int (iN (hp (pasN (vh (aV s)) j)) - p - nI j * c)) (.int 1) a1 (v2.trans a2)
              first
                | (rw [fstW_1 h82, show mmF (vh (aV s)) p c w j = true from by unfold mmF; first | (rw [decide_eq_true h100, Bool.true_or]) | (rw [decide_eq_false h100, decide_eq_true h105, decide_eq_true (Int32.not_le.mp h113)]; rfl)] at q; exact q)
                | (rw [fstW_1 h82, show mmF (vh (aV s)) p c w j = false from by unfold mmF; first | (rw [decide_eq_false h100, decide_eq_false h105, Bool.false_and]; rfl) | (rw [decide_eq_false h100, decide_eq_true h105, decide_eq_false (Int32.not_lt.mpr h113)]; rfl)] at q; rw [h82]; exact q)
set_option maxRecDepth 100000 in
set_option maxHeartbeats 4000000 in
theorem spX12_meet {G : GE} {d : Nat} {i : MI0} {S : MS} {Y : Nat} (hY : YS S Y) {s : Ab} {b : Nat} (hR : MR i S Y s) (hV : AV b s) (hb : b ≤ 100) (hd : 12 ≤ d) (p c w : Int32) : Mt G iX12_meet d [.ref Y, .int p, .int c, .int w] (i, S) (OpM Y (i, S) (.int (rMeet s p c w).1) (rMeet s p c w).2) := by
  have hY' := hY
  obtain ⟨Yt, ⟨Yt1, Yr1⟩, ⟨Yt2, Yr2⟩, ⟨Yt3, Yr3⟩, ⟨Yt4, Yr4⟩, ⟨Yt5, Yr5⟩, ⟨Yt6, Yr6⟩, ⟨Yt7, Yr7⟩, ⟨Yt8, Yr8⟩, ⟨Yt9, Yr9⟩, ⟨Yt10, Yr10⟩, ⟨Yt11, Yr11⟩, ⟨Yt12, Yr12⟩, ⟨Yt13, Yr13⟩, ⟨Yt14, Yr14⟩, ⟨Yt15, Yr15⟩, ⟨Yt16, Yr16⟩, ⟨Yt17, Yr17⟩, ⟨Yt18, Yr18⟩, ⟨Yt19, Yr19⟩⟩ := hY
  have hR' := hR
  have hV' := hV
  obtain ⟨Rm, Ri0, Ri1, Rk, Rx, Rt, Rl⟩ := hR
  have Rh := Rm.1
  obtain ⟨Av, Ai, At, Ab', Aa, Aw⟩ := hV
  have Ah := Av.1
  have Ah1 := Ah.1
  have Av1 := Av.2.1
  have Av2 := Av.2.2.1
  have Av3 := Av.2.2.2.1
  refine Mt_in 5 (ls := [.ref Y, .int p, .int c, .int w, .null, .null, .null, .null, .null]) moX12_meet (Nat.le_of_ble_eq_true rfl) rfl ?_
  refine PW_iload_n (i := 1) dX12_meet_0 rfl rfl ?_
  refine PW_bipush (v := -60) dX12_meet_1 (by decide) ?_
  refine PW_bipush (v := 60) dX12_meet_3 (by decide) ?_
  refine PW_callS dX12_meet_5 moX12_in cs12_93 (by omega) rfl rfl (Nat.le_of_ble_eq_true rfl) (Nat.le_of_ble_eq_true rfl) (Nat.le_of_ble_eq_true rfl) (spX12_in (d := d - 1) _ _ _) (fun v M1 hq => ?_)
  obtain ⟨rfl, rfl⟩ := hq
  refine PW_if_eq 30 dX12_meet_8 (by decide) (fun h8 => ?_) (fun h8 => ?_)
  · have h8 := b1_0.mp h8
    refine PW_aload_n (i := 0) dX12_meet_30 rfl rfl ?_
    refine PW_callV dX12_meet_31 moX12_bad cv12_97 (Yt) (by omega) rfl rfl (Nat.le_of_ble_eq_true rfl) (Nat.le_of_ble_eq_true rfl) (Nat.le_of_ble_eq_true rfl) (spX12_bad (d := d - 1) hY' hR') (fun v M1 hq => ?_)
    obtain ⟨rfl, i1, rfl, c1, c2⟩ := hq
    refine PW_ireturn rfl (rfl) dX12_meet_34 (Nat.le_of_ble_eq_true rfl) (Nat.le_of_ble_eq_true rfl) ?_
    exact OpM_i (by unfold rMeet; rw [if_neg (fun q => by first | exact h8 q.1 | exact h18 q.2.1 | exact h27 q.2.2)]) hY' c1 (fun q hq => c2 q (by omega))
  · have h8 := b1_1.mp h8
    refine PW_iload_n (i := 2) dX12_meet_11 rfl rfl ?_
    refine PW_bipush (v := -3) dX12_meet_12 (by decide) ?_
    refine PW_iconst (v := 3) dX12_meet_14 (by decide) ?_
    refine PW_callS dX12_meet_15 moX12_in cs12_93 (by omega) rfl rfl (Nat.le_of_ble_eq_true rfl) (Nat.le_of_ble_eq_true rfl) (Nat.le_of_ble_eq_true rfl) (spX12_in (d := d - 1) _ _ _) (fun v M1 hq => ?_)
    obtain ⟨rfl, rfl⟩ := hq
    refine PW_if_eq 30 dX12_meet_18 (by decide) (fun h18 => ?_) (fun h18 => ?_)
    · have h18 := b1_0.mp h18
      refine PW_aload_n (i := 0) dX12_meet_30 rfl rfl ?_
      refine PW_callV dX12_meet_31 moX12_bad cv12_97 (Yt) (by omega) rfl rfl (Nat.le_of_ble_eq_true rfl) (Nat.le_of_ble_eq_true rfl) (Nat.le_of_ble_eq_true rfl) (spX12_bad (d := d - 1) hY' hR') (fun v M1 hq => ?_)
      obtain ⟨rfl, i1, rfl, c1, c2⟩ := hq
      refine PW_ireturn rfl (rfl) dX12_meet_34 (Nat.le_of_ble_eq_true rfl) (Nat.le_of_ble_eq_true rfl) ?_
      exact OpM_i (by unfold rMeet; rw [if_neg (fun q => by first | exact h8 q.1 | exact h18 q.2.1 | exact h27 q.2.2)]) hY' c1 (fun q hq => c2 q (by omega))
    · have h18 := b1_1.mp h18
      refine PW_iload_n (i := 3) dX12_meet_21 rfl rfl ?_
      refine PW_iconst (v := 0) dX12_meet_22 (by decide) ?_
      refine PW_iconst (v := 1) dX12_meet_23 (by decide) ?_
      refine PW_callS dX12_meet_24 moX12_in cs12_93 (by omega) rfl rfl (Nat.le_of_ble_eq_true rfl) (Nat.le_of_ble_eq_true rfl) (Nat.le_of_ble_eq_true rfl) (spX12_in (d := d - 1) _ _ _) (fun v M1 hq => ?_)
      obtain ⟨rfl, rfl⟩ := hq
      refine PW_if_ne 35 dX12_meet_27 (by decide) (fun h27 => ?_) (fun h27 => ?_)
      · have h27 := b1_1.mp h27
        refine PW_aload_n (i := 0) dX12_meet_35 rfl rfl ?_
        refine PW_callV dX12_meet_36 moX12_puts cv12_214 (Yt) (by omega) rfl rfl (Nat.le_of_ble_eq_true rfl) (Nat.le_of_ble_eq_true rfl) (Nat.le_of_ble_eq_true rfl) (spX12_puts (d := d - 1) hY' (by omega)) (fun v M1 hq => ?_)
        obtain ⟨rfl, i1, rfl, p1, p2⟩ := hq
        have Rh1 : MH i1 Y (vh (aV s)) := Rh.kp Ah1 (by rw [p2 Y (by omega)]) (by rw [p2 Y (by omega)]) (by rw [p2 Y (by omega)]) (fun j hj => ⟨by rw [p2 _ (by omega)], by rw [p2 _ (by omega)], by rw [p2 _ (by omega)], by rw [p2 _ (by omega)]⟩)
        refine PW_iconst (v := -1) dX12_meet_39 (by decide) ?_
        refine PW_istore dX12_meet_40 (Nat.le_of_ble_eq_true rfl) rfl ?_
        refine PW_aload_n (i := 0) dX12_meet_42 rfl rfl ?_
        refine PW_giv (v := iN (hp (vh (aV s)))) dX12_meet_43 fg12_78 (Yt) (Rh1.2.1) ?_
        refine PW_iload_n (i := 1) dX12_meet_46 rfl rfl ?_
        refine PW_icmp_le 54 dX12_meet_47 (by decide) (fun h47 => ?_) (fun h47 => ?_)
        · refine PW_aload_n (i := 0) dX12_meet_54 rfl rfl ?_
          refine PW_giv (v := iN (hp (vh (aV s)))) dX12_meet_55 fg12_78 (Yt) (Rh1.2.1) ?_
          refine PW_iload_n (i := 1) dX12_meet_58 rfl rfl ?_
          refine PW_icmp_ge 66 dX12_meet_59 (by decide) (fun h59 => ?_) (fun h59 => ?_)
          · refine PW_iconst (v := 0) dX12_meet_66 (by decide) ?_
            refine PW_istore dX12_meet_67 (Nat.le_of_ble_eq_true rfl) rfl ?_
            refine PW_iconst (v := 0) dX12_meet_69 (by decide) ?_
            refine PW_istore dX12_meet_70 (Nat.le_of_ble_eq_true rfl) rfl ?_
            have e5 : sgn3 (iN (hp (vh (aV s)))) p = 0 := by unfold sgn3; first | rw [if_pos (Int32.not_le.mp h47)] | rw [if_neg (Int32.not_lt.mpr h47), if_pos (Int32.not_le.mp h59)] | rw [if_neg (Int32.not_lt.mpr h47), if_neg (Int32.not_lt.mpr h59)]
            have q := lpX12_meet hY' hR' hV' hb hd p c w ⟨h8, h18, h27⟩ p1 p2 62 0 (by omega) (by omega) i1 .null .null Rh1 (CQ.rfl' i1 Y) (G := G)
            rw [e5] at q
            exact q
          · refine PW_iconst (v := -1) dX12_meet_62 (by decide) ?_
            refine PW_goto 67 dX12_meet_63 (by decide) ?_
            refine PW_istore dX12_meet_67 (Nat.le_of_ble_eq_true rfl) rfl ?_
            refine PW_iconst (v := 0) dX12_meet_69 (by decide) ?_
            refine PW_istore dX12_meet_70 (Nat.le_of_ble_eq_true rfl) rfl ?_
            have e5 : sgn3 (iN (hp (vh (aV s)))) p = -1 := by unfold sgn3; first | rw [if_pos (Int32.not_le.mp h47)] | rw [if_neg (Int32.not_lt.mpr h47), if_pos (Int32.not_le.mp h59)] | rw [if_neg (Int32.not_lt.mpr h47), if_neg (Int32.not_lt.mpr h59)]
            have q := lpX12_meet hY' hR' hV' hb hd p c w ⟨h8, h18, h27⟩ p1 p2 62 0 (by omega) (by omega) i1 .null .null Rh1 (CQ.rfl' i1 Y) (G := G)
            rw [e5] at q
            exact q
        · refine PW_iconst (v := 1) dX12_meet_50 (by decide) ?_
          refine PW_goto 67 dX12_meet_51 (by decide) ?_
          refine PW_istore dX12_meet_67 (Nat.le_of_ble_eq_true rfl) rfl ?_
          refine PW_iconst (v := 0) dX12_meet_69 (by decide) ?_
          refine PW_istore dX12_meet_70 (Nat.le_of_ble_eq_true rfl) rfl ?_
          have e5 : sgn3 (iN (hp (vh (aV s)))) p = 1 := by unfold sgn3; first | rw [if_pos (Int32.not_le.mp h47)] | rw [if_neg (Int32.not_lt.mpr h47), if_pos (Int32.not_le.mp h59)] | rw [if_neg (Int32.not_lt.mpr h47), if_neg (Int32.not_lt.mpr h59)]
          have q := lpX12_meet hY' hR' hV' hb hd p c w ⟨h8, h18, h27⟩ p1 p2 62 0 (by omega) (by omega) i1 .null .null Rh1 (CQ.rfl' i1 Y) (G := G)
          rw [e5] at q
          exact q
      · have h27 := b1_0.mp h27
        refine PW_aload_n (i := 0) dX12_meet_30 rfl rfl ?_
        refine PW_callV dX12_meet_31 moX12_bad cv12_97 (Yt) (by omega) rfl rfl (Nat.le_of_ble_eq_true rfl) (Nat.le_of_ble_eq_true rfl) (Nat.le_of_ble_eq_true rfl) (spX12_bad (d := d - 1) hY' hR') (fun v M1 hq => ?_)
        obtain ⟨rfl, i1, rfl, c1, c2⟩ := hq
        refine PW_ireturn rfl (rfl) dX12_meet_34 (Nat.le_of_ble_eq_true rfl) (Nat.le_of_ble_eq_true rfl) ?_
        exact OpM_i (by unfold rMeet; rw [if_neg (fun q => by first | exact h8 q.1 | exact h18 q.2.1 | exact h27 q.2.2)]) hY' c1 (fun q hq => c2 q (by omega))

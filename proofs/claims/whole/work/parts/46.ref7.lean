/-! ===== the reference: steersBy, canNot ===== -/
theorem bitsN_bit {f : Nat → Bool} : ∀ {n k : Nat}, k < n → (bitsN f n).testBit k = f k
  | 0, k, h => absurd h (Nat.not_lt_zero k)
  | n + 1, k, h => by
    have hlt := bitsN_lt f n
    by_cases hf : f n = true
    · rw [bitsN_t hf, Nat.add_comm]
      have h2 := Nat.two_pow_add_eq_or_of_lt hlt 1
      rw [Nat.mul_one] at h2
      rw [h2, Nat.testBit_or, Nat.testBit_two_pow]
      by_cases e : k = n
      · rw [e, decide_eq_true rfl, Bool.true_or, hf]
      · rw [decide_eq_false (fun z => e z.symm), Bool.false_or, bitsN_bit (by omega)]
    · rw [bitsN_f hf]
      by_cases e : k = n
      · rw [e, Nat.testBit_lt_two_pow hlt]
        cases q : f n with
        | false => rfl
        | true => exact absurd q hf
      · exact bitsN_bit (by omega)
theorem shr_b2 {g j : Nat} (hg : g < 2 ^ 31) (hj : j < 32) : nI g >>> (nI j &&& 31) &&& 1 = b2i (g.testBit j) := by
  rw [shr_b hg hj]
  have e : g.testBit j = decide (g / 2 ^ j % 2 = 1) := Nat.testBit_eq_decide_div_mod_eq
  have hm : g / 2 ^ j % 2 = 0 ∨ g / 2 ^ j % 2 = 1 := by omega
  rw [e]
  rcases hm with h | h
  · rw [h]; rfl
  · rw [h]; rfl
theorem or_bit2 {f : Nat → Bool} {j : Nat} (hj : j < 31) : nI (bitsN f j) ||| b2i (f j) <<< (nI j &&& 31) = nI (bitsN f (j + 1)) := by
  cases q : f j with
  | true =>
    rw [show b2i true = (1 : Int32) from rfl, or_bit (bitsN_lt _ _) hj, bitsN_t q]
  | false =>
    have e0 : b2i false <<< (nI j &&& 31) = 0 := by
      have := shl_n (x := 0) (a := j) (by omega) (by omega)
      rw [Nat.zero_mul] at this
      exact this
    rw [e0, bitsN_f (by rw [q]; decide)]
    apply Int32.toBitVec_inj.1
    exact BitVec.or_zero
/-- h, if just g are fed -/
def wfh (h : Hm) (g : Nat) : Hm := (hn h, hK h, hT h, hN h, hp h, hw h, g % 2 ^ hn h)
theorem wfh_V {b : Nat} {h : Hm} (hv : HV b h) (g : Nat) : HV b (wfh h g) := ⟨hv.1, Nat.mod_lt _ (Nat.two_pow_pos _), hv.2.2⟩
theorem wfh_bit {h : Hm} {g j : Nat} (hj : j < hn h) : (hf (wfh h g)).testBit j = g.testBit j := by
  show (g % 2 ^ hn h).testBit j = _
  rw [Nat.testBit_mod_two_pow, decide_eq_true hj, Bool.true_and]
theorem stw_cong {h : Hm} {g g' : Nat} (e : ∀ j, j < hn h → g.testBit j = g'.testBit j) : stw h g = stw h g' := by
  unfold stw
  rw [bst_cong (g := sly h g') (fun j hj => by unfold sly; rw [e j hj])]
theorem wfh_stw (h : Hm) (g : Nat) : stw (wfh h g) (hf (wfh h g)) = stw h g := by
  show (bst (sly (wfh h g) (hf (wfh h g))) (hn h)).1 = (bst (sly h g) (hn h)).1
  rw [bst_cong (g := sly h g) (fun j hj => ?_)]
  show slp (hK h j) (hT h j) (hw h) ((hf (wfh h g)).testBit j) = _
  rw [wfh_bit hj]
  rfl
/-- the fed row, laid by a set -/
theorem MH.f {i i' : MI0} {Y g : Nat} {h : Hm} (hH : MH i Y h) (e : ∀ q, q ≠ Y + 5 → i' q = i q) (e5 : ∀ j, j < hn h → i' (Y + 5) j = b2i (g.testBit j)) : MH i' Y (wfh h g) := by
  refine ⟨by rw [e Y (by omega)]; exact hH.1, by rw [e Y (by omega)]; exact hH.2.1, by rw [e Y (by omega)]; exact hH.2.2.1, fun j hj => ⟨?_, ?_, ?_, ?_⟩⟩
  · rw [e _ (by omega)]; exact (hH.2.2.2 j hj).1
  · rw [e _ (by omega)]; exact (hH.2.2.2 j hj).2.1
  · rw [e _ (by omega)]; exact (hH.2.2.2 j hj).2.2.1
  · rw [e5 j hj, wfh_bit (h := h) hj]
set_option maxRecDepth 100000 in
set_option maxHeartbeats 4000000 in
theorem lpX12_steersBy2 {G : GE} {d : Nat} {i : MI0} {S : MS} {Y : Nat} (hY : YS S Y) {b : Nat} {h : Hm} (hH : MH i Y h) (hV : HV b h) (hb : b ≤ 1000) (hd : 5 ≤ d) {g : Nat} (hg : g < 2 ^ 30) (s0 : Value) : ∀ (n0 j : Nat), j ≤ hn h → hn h < j + n0 → ∀ (i' : MI0), (∀ q, q ≠ Y + 5 → i' q = i q) → (∀ q, q < j → i' (Y + 5) q = i (Y + 5) q) → (∀ q, hn h ≤ q → i' (Y + 5) q = i (Y + 5) q) → PW G iX12_steersBy d (Rt (pI (stw h g)) (i, S)) 48 [.ref Y, s0, .int (nI (bitsN (fun q => (hf h).testBit q) (hn h))), .int (pI (stw h g)), .int (nI j)] [] (i', S) 0 0 := by
  have hY' := hY
  obtain ⟨Yt, ⟨Yt1, Yr1⟩, ⟨Yt2, Yr2⟩, ⟨Yt3, Yr3⟩, ⟨Yt4, Yr4⟩, ⟨Yt5, Yr5⟩, ⟨Yt6, Yr6⟩, ⟨Yt7, Yr7⟩, ⟨Yt8, Yr8⟩, ⟨Yt9, Yr9⟩, ⟨Yt10, Yr10⟩, ⟨Yt11, Yr11⟩, ⟨Yt12, Yr12⟩, ⟨Yt13, Yr13⟩, ⟨Yt14, Yr14⟩, ⟨Yt15, Yr15⟩, ⟨Yt16, Yr16⟩, ⟨Yt17, Yr17⟩, ⟨Yt18, Yr18⟩, ⟨Yt19, Yr19⟩⟩ := hY
  intro n0
  induction n0 with
  | zero => intro j h1 h2; exact absurd h2 (by omega)
  | succ n0 ih =>
    intro j hj1 hj2 i' v1 v2 v3
    refine PW_iload dX12_steersBy_48 rfl ?_
    refine PW_aload_n (i := 0) dX12_steersBy_50 rfl rfl ?_
    refine PW_giv (v := nI (hn h)) dX12_steersBy_51 fg12_74 (Yt) ((congrFun (v1 Y (by omega)) 1).trans hH.1) ?_
    have h61 := hV.1
    refine PW_icmp_ge 76 dX12_steersBy_54 (by decide) (fun h54 => ?_) (fun h54 => ?_)
    · have h54 := jle h54
      have ej : j = hn h := by omega
      subst ej
      refine PW_iload_n (i := 3) dX12_steersBy_76 rfl rfl ?_
      refine PW_ireturn rfl (rfl) dX12_steersBy_77 (Nat.le_of_ble_eq_true rfl) (Nat.le_of_ble_eq_true rfl) ?_
      have ei : i' = i := by
        funext q k
        by_cases e : q = Y + 5
        · rw [e]
          by_cases hk : k < hn h
          · exact v2 k hk
          · exact v3 k (by omega)
        · rw [v1 q e]
      rw [ei]
      exact rt_i rfl
    · have h54 := jnle h54
      refine PW_aload_n (i := 0) dX12_steersBy_57 rfl rfl ?_
      refine PW_getR dX12_steersBy_58 fg12_22 (Yt) (Yr5) ?_
      refine PW_iload dX12_steersBy_61 rfl ?_
      refine PW_iload_n (i := 2) dX12_steersBy_63 rfl rfl ?_
      refine PW_iload dX12_steersBy_64 rfl ?_
      refine PW_ishr dX12_steersBy_66 ?_
      refine PW_iconst (v := 1) dX12_steersBy_67 (by decide) ?_
      refine PW_iand dX12_steersBy_68 ?_
      refine PW_eqi (shr_b2 (Nat.lt_of_lt_of_le (bitsN_lt _ _) (Nat.pow_le_pow_right (by decide) (by omega))) (by omega)) ?_
      rw [bitsN_bit h54]
      refine PW_ias dX12_steersBy_69 (Yt5) (by omega) (by omega) ?_
      refine PW_inc1 dX12_steersBy_70 rfl (Nat.le_of_ble_eq_true rfl) rfl ?_
      refine PW_goto 48 dX12_steersBy_73 (by decide) ?_
      refine PW_nm rfl (fun i2 e2 => ?_)
      refine ih (j + 1) (by omega) (by omega) i2 (fun q hq => by rw [e2, rI_f _ _ hq]; exact v1 q hq) (fun q hq => ?_) (fun q hq => by rw [e2, rI_k _ _ _ (by omega)]; exact v3 q hq)
      by_cases e : q = j
      · rw [e, e2, rI_s]; exact ((hH.2.2.2 j h54).2.2.2).symm
      · rw [e2, rI_k _ _ _ e]; exact v2 q (by omega)
set_option maxRecDepth 100000 in
set_option maxHeartbeats 4000000 in
theorem lpX12_steersBy {G : GE} {d : Nat} {i : MI0} {S : MS} {Y : Nat} (hY : YS S Y) {b : Nat} {h : Hm} (hH : MH i Y h) (hV : HV b h) (hb : b ≤ 1000) (hd : 5 ≤ d) {g : Nat} (hg : g < 2 ^ 30) : ∀ (n0 j : Nat), j ≤ hn h → hn h < j + n0 → ∀ (i' : MI0), (∀ q, q ≠ Y + 5 → i' q = i q) → (∀ q, q < j → i' (Y + 5) q = b2i (g.testBit q)) → (∀ q, j ≤ q → i' (Y + 5) q = i (Y + 5) q) → PW G iX12_steersBy d (Rt (pI (stw h g)) (i, S)) 4 [.ref Y, .int (nI g), .int (nI (bitsN (fun q => (hf h).testBit q) j)), .int (nI j), .null] [] (i', S) 0 0 := by
  have hY' := hY
  obtain ⟨Yt, ⟨Yt1, Yr1⟩, ⟨Yt2, Yr2⟩, ⟨Yt3, Yr3⟩, ⟨Yt4, Yr4⟩, ⟨Yt5, Yr5⟩, ⟨Yt6, Yr6⟩, ⟨Yt7, Yr7⟩, ⟨Yt8, Yr8⟩, ⟨Yt9, Yr9⟩, ⟨Yt10, Yr10⟩, ⟨Yt11, Yr11⟩, ⟨Yt12, Yr12⟩, ⟨Yt13, Yr13⟩, ⟨Yt14, Yr14⟩, ⟨Yt15, Yr15⟩, ⟨Yt16, Yr16⟩, ⟨Yt17, Yr17⟩, ⟨Yt18, Yr18⟩, ⟨Yt19, Yr19⟩⟩ := hY
  intro n0
  induction n0 with
  | zero => intro j h1 h2; exact absurd h2 (by omega)
  | succ n0 ih =>
    intro j hj1 hj2 i' v1 v2 v3
    refine PW_iload_n (i := 3) dX12_steersBy_4 rfl rfl ?_
    refine PW_aload_n (i := 0) dX12_steersBy_5 rfl rfl ?_
    refine PW_giv (v := nI (hn h)) dX12_steersBy_6 fg12_74 (Yt) ((congrFun (v1 Y (by omega)) 1).trans hH.1) ?_
    have h61 := hV.1
    refine PW_icmp_ge 40 dX12_steersBy_9 (by decide) (fun h9 => ?_) (fun h9 => ?_)
    · have h9 := jle h9
      have ej : j = hn h := by omega
      subst ej
      have r1 : MH i' Y (wfh h g) := hH.f v1 v2
      refine PW_aload_n (i := 0) dX12_steersBy_40 rfl rfl ?_
      refine PW_callV dX12_steersBy_41 moX12_steers cv12_186 (Yt) (by omega) rfl rfl (Nat.le_of_ble_eq_true rfl) (Nat.le_of_ble_eq_true rfl) (Nat.le_of_ble_eq_true rfl) (spX12_steers (d := d - 1) hY' r1 (wfh_V hV g) hb (by omega)) (fun v M1 hq => ?_)
      obtain ⟨rfl, rfl⟩ := hq
      rw [wfh_stw]
      refine PW_istore_n (i := 3) dX12_steersBy_44 rfl (Nat.le_of_ble_eq_true rfl) rfl ?_
      refine PW_iconst (v := 0) dX12_steersBy_45 (by decide) ?_
      refine PW_istore dX12_steersBy_46 (Nat.le_of_ble_eq_true rfl) rfl ?_
      exact lpX12_steersBy2 hY' hH hV hb hd hg _ (hn h + 1) 0 (by omega) (by omega) i' v1 (fun q hq => absurd hq (Nat.not_lt_zero q)) (fun q hq => v3 q hq)
    · have h9 := jnle h9
      refine PW_iload_n (i := 2) dX12_steersBy_12 rfl rfl ?_
      refine PW_aload_n (i := 0) dX12_steersBy_13 rfl rfl ?_
      refine PW_getR dX12_steersBy_14 fg12_22 (Yt) (Yr5) ?_
      refine PW_iload_n (i := 3) dX12_steersBy_17 rfl rfl ?_
      refine PW_ial (v := b2i ((hf h).testBit j)) dX12_steersBy_18 (Yt5) (by omega) (by omega) ((v3 j (Nat.le_refl _)).trans (hH.2.2.2 j h9).2.2.2) ?_
      refine PW_iload_n (i := 3) dX12_steersBy_19 rfl rfl ?_
      refine PW_ishl dX12_steersBy_20 ?_
      refine PW_ior dX12_steersBy_21 ?_
      refine PW_eqi (or_bit2 (f := (fun q => (hf h).testBit q)) (by omega)) ?_
      refine PW_istore_n (i := 2) dX12_steersBy_22 rfl (Nat.le_of_ble_eq_true rfl) rfl ?_
      refine PW_aload_n (i := 0) dX12_steersBy_23 rfl rfl ?_
      refine PW_getR dX12_steersBy_24 fg12_22 (Yt) (Yr5) ?_
      refine PW_iload_n (i := 3) dX12_steersBy_27 rfl rfl ?_
      refine PW_iload_n (i := 1) dX12_steersBy_28 rfl rfl ?_
      refine PW_iload_n (i := 3) dX12_steersBy_29 rfl rfl ?_
      refine PW_ishr dX12_steersBy_30 ?_
      refine PW_iconst (v := 1) dX12_steersBy_31 (by decide) ?_
      refine PW_iand dX12_steersBy_32 ?_
      refine PW_eqi (shr_b2 (by omega) (by omega)) ?_
      refine PW_ias dX12_steersBy_33 (Yt5) (by omega) (by omega) ?_
      refine PW_inc1 dX12_steersBy_34 rfl (Nat.le_of_ble_eq_true rfl) rfl ?_
      refine PW_goto 4 dX12_steersBy_37 (by decide) ?_
      refine PW_nm rfl (fun i2 e2 => ?_)
      refine ih (j + 1) (by omega) (by omega) i2 (fun q hq => by rw [e2, rI_f _ _ hq]; exact v1 q hq) (fun q hq => ?_) (fun q hq => by rw [e2, rI_k _ _ _ (by omega)]; exact v3 q (by omega))
      by_cases e : q = j
      · rw [e, e2, rI_s]
      · rw [e2, rI_k _ _ _ e]; exact v2 q (by omega)
set_option maxRecDepth 100000 in
set_option maxHeartbeats 4000000 in
theorem spX12_steersBy {G : GE} {d : Nat} {i : MI0} {S : MS} {Y : Nat} (hY : YS S Y) {b : Nat} {h : Hm} (hH : MH i Y h) (hV : HV b h) (hb : b ≤ 1000) (hd : 5 ≤ d) {g : Nat} (hg : g < 2 ^ 30) : Mt G iX12_steersBy d [.ref Y, .int (nI g)] (i, S) (Rt (pI (stw h g)) (i, S)) := by
  have hY' := hY
  obtain ⟨Yt, ⟨Yt1, Yr1⟩, ⟨Yt2, Yr2⟩, ⟨Yt3, Yr3⟩, ⟨Yt4, Yr4⟩, ⟨Yt5, Yr5⟩, ⟨Yt6, Yr6⟩, ⟨Yt7, Yr7⟩, ⟨Yt8, Yr8⟩, ⟨Yt9, Yr9⟩, ⟨Yt10, Yr10⟩, ⟨Yt11, Yr11⟩, ⟨Yt12, Yr12⟩, ⟨Yt13, Yr13⟩, ⟨Yt14, Yr14⟩, ⟨Yt15, Yr15⟩, ⟨Yt16, Yr16⟩, ⟨Yt17, Yr17⟩, ⟨Yt18, Yr18⟩, ⟨Yt19, Yr19⟩⟩ := hY
  refine Mt_in 3 (ls := [.ref Y, .int (nI g), .null, .null, .null]) moX12_steersBy (Nat.le_of_ble_eq_true rfl) rfl ?_
  refine PW_iconst (v := 0) dX12_steersBy_0 (by decide) ?_
  refine PW_istore_n (i := 2) dX12_steersBy_1 rfl (Nat.le_of_ble_eq_true rfl) rfl ?_
  refine PW_iconst (v := 0) dX12_steersBy_2 (by decide) ?_
  refine PW_istore_n (i := 3) dX12_steersBy_3 rfl (Nat.le_of_ble_eq_true rfl) rfl ?_
  exact lpX12_steersBy hY' hH hV hb hd hg (hn h + 1) 0 (by omega) (by omega) i (fun _ _ => rfl) (fun q hq => absurd hq (Nat.not_lt_zero q)) (fun _ _ => rfl)
def csR (h : Hm) (a g : Nat) : Bool := decide (stw h g = a + 1)
def cnR (h : Hm) (a m : Nat) : Bool := !anyB (csR (pasN h m) a) (2 ^ hn h)
def rCanNot (s : Ab) (k : Int32) : Int32 × Ab := if isH s k then (nI (bitsN (cnR (vh (aV s)) k.toNatClampNeg) 8), s) else (-2, bad s)
set_option maxRecDepth 100000 in
set_option maxHeartbeats 4000000 in
theorem lpX12_canNot2 {G : GE} {d : Nat} {i : MI0} {S : MS} {Y : Nat} (hY : YS S Y) {s : Ab} {b : Nat} (hR : MR i S Y s) (hV : AV b s) (hb : b ≤ 100) (hd : 12 ≤ d) {a : Nat} (ha : a < hn (vh (aV s))) (hk : isH s (nI a)) {i0 : MI0} (p1 : SVd (i0 (Y + 13)) 0 i Y) (p2 : ∀ q, q ≠ Y + 13 → i0 q = i q) {i' : MI0} {m : Nat} (hm : m < 8) (v1 : MH i' Y (pasN (vh (aV s)) m)) (v2 : CQ i0 i' Y) (ko : ∀ i3, MH i3 Y (pasN (vh (aV s)) (m + 1)) → CQ i0 i3 Y → ∀ z4 z5, PW G iX12_canNot d (OpM Y (i, S) (.int (rCanNot s (nI a)).1) (rCanNot s (nI a)).2) 21 [.ref Y, .int (nI a), .int (nI (bitsN (cnR (vh (aV s)) a) (m + 1))), .int (nI (m + 1)), z4, z5] [] (i3, S) 0 0) : ∀ (n0 j : Nat), j ≤ 2 ^ hn (vh (aV s)) → 2 ^ hn (vh (aV s)) < j + n0 → PW G iX12_canNot d (OpM Y (i, S) (.int (rCanNot s (nI a)).1) (rCanNot s (nI a)).2) 33 [.ref Y, .int (nI a), .int (nI (bitsN (cnR (vh (aV s)) a) m)), .int (nI m), .int (b2i (anyB (csR (pasN (vh (aV s)) m) a) j)), .int (nI j)] [] (i', S) 0 0 := by
  have hY' := hY
  obtain ⟨Yt, ⟨Yt1, Yr1⟩, ⟨Yt2, Yr2⟩, ⟨Yt3, Yr3⟩, ⟨Yt4, Yr4⟩, ⟨Yt5, Yr5⟩, ⟨Yt6, Yr6⟩, ⟨Yt7, Yr7⟩, ⟨Yt8, Yr8⟩, ⟨Yt9, Yr9⟩, ⟨Yt10, Yr10⟩, ⟨Yt11, Yr11⟩, ⟨Yt12, Yr12⟩, ⟨Yt13, Yr13⟩, ⟨Yt14, Yr14⟩, ⟨Yt15, Yr15⟩, ⟨Yt16, Yr16⟩, ⟨Yt17, Yr17⟩, ⟨Yt18, Yr18⟩, ⟨Yt19, Yr19⟩⟩ := hY
  have hR' := hR
  have hV' := hV
  obtain ⟨Rm, Ri0, Ri1, Rk, Rx, Rt, Rl⟩ := hR
  have Rh := Rm.1
  obtain ⟨Av, Ai, At, Ab', Aa, Aw⟩ := hV
  have Ah := Av.1
  have Ah1 := Ah.1
  have Av1 := Av.2.1
  have Av2 := Av.2.2.1
  have Av3 := Av.2.2.2.1
  intro n0
  induction n0 with
  | zero => intro j h1 h2; exact absurd h2 (by omega)
  | succ n0 ih =>
    intro j hj1 hj2 
    refine PW_iload dX12_canNot_33 rfl ?_
    refine PW_iconst (v := 1) dX12_canNot_35 (by decide) ?_
    refine PW_aload_n (i := 0) dX12_canNot_36 rfl rfl ?_
    refine PW_giv (v := nI (hn (vh (aV s)))) dX12_canNot_37 fg12_74 (Yt) (v1.1.trans (by rw [pasN_n])) ?_
    refine PW_ishl dX12_canNot_40 ?_
    refine PW_eqi (one_shl (k := hn (vh (aV s))) (by omega)) ?_
    have h64 : 2 ^ hn (vh (aV s)) ≤ 2 ^ 6 := Nat.pow_le_pow_right (by decide) Ah1
    have Fv := pasN_V Ah m
    refine PW_icmp_ge 72 dX12_canNot_41 (by decide) (fun h41 => ?_) (fun h41 => ?_)
    · have h41 := jle h41
      have ej : j = 2 ^ hn (vh (aV s)) := by omega
      subst ej
      refine PW_iload_n (i := 2) dX12_canNot_72 rfl rfl ?_
      refine PW_iload dX12_canNot_73 rfl ?_
      refine PW_if_eq 82 dX12_canNot_75 (by decide) (fun h75 => ?_) (fun h75 => ?_)
      · have h75 := b2i_0.mp h75
        refine PW_iconst (v := 1) dX12_canNot_82 (by decide) ?_
        refine PW_iload_n (i := 3) dX12_canNot_83 rfl rfl ?_
        refine PW_ishl dX12_canNot_84 ?_
        refine PW_ior dX12_canNot_85 ?_
        first | refine PW_eqi (or_bit (bitsN_lt _ _) (by omega)) ?_ | refine PW_eqi (or_0 _) ?_
        refine PW_istore_n (i := 2) dX12_canNot_86 rfl (Nat.le_of_ble_eq_true rfl) rfl ?_
        refine PW_aload_n (i := 0) dX12_canNot_87 rfl rfl ?_
        refine PW_callV dX12_canNot_88 moX12_pass cv12_205 (Yt) (by omega) rfl rfl (Nat.le_of_ble_eq_true rfl) (Nat.le_of_ble_eq_true rfl) (Nat.le_of_ble_eq_true rfl) (spX12_pass (d := d - 1) hY' v1 Fv (by omega) (by omega)) (fun v M1 hq => ?_)
        obtain ⟨rfl, i3, rfl, a1, a2⟩ := hq
        refine PW_pop dX12_canNot_91 rfl ?_
        refine PW_inc1 dX12_canNot_92 rfl (Nat.le_of_ble_eq_true rfl) rfl ?_
        refine PW_goto 21 dX12_canNot_95 (by decide) ?_
        have q := ko i3 a1 (v2.trans a2)
        first | (rw [bitsN_t (n := m) (by unfold cnR; rw [h75]; rfl)] at q; exact q _ _) | (rw [bitsN_f (n := m) (by unfold cnR; rw [h75]; decide)] at q; exact q _ _)
      · have h75 := b2i_n.mp h75
        refine PW_iconst (v := 0) dX12_canNot_78 (by decide) ?_
        refine PW_goto 85 dX12_canNot_79 (by decide) ?_
        refine PW_ior dX12_canNot_85 ?_
        first | refine PW_eqi (or_bit (bitsN_lt _ _) (by omega)) ?_ | refine PW_eqi (or_0 _) ?_
        refine PW_istore_n (i := 2) dX12_canNot_86 rfl (Nat.le_of_ble_eq_true rfl) rfl ?_
        refine PW_aload_n (i := 0) dX12_canNot_87 rfl rfl ?_
        refine PW_callV dX12_canNot_88 moX12_pass cv12_205 (Yt) (by omega) rfl rfl (Nat.le_of_ble_eq_true rfl) (Nat.le_of_ble_eq_true rfl) (Nat.le_of_ble_eq_true rfl) (spX12_pass (d := d - 1) hY' v1 Fv (by omega) (by omega)) (fun v M1 hq => ?_)
        obtain ⟨rfl, i3, rfl, a1, a2⟩ := hq
        refine PW_pop dX12_canNot_91 rfl ?_
        refine PW_inc1 dX12_canNot_92 rfl (Nat.le_of_ble_eq_true rfl) rfl ?_
        refine PW_goto 21 dX12_canNot_95 (by decide) ?_
        have q := ko i3 a1 (v2.trans a2)
        first | (rw [bitsN_t (n := m) (by unfold cnR; rw [h75]; rfl)] at q; exact q _ _) | (rw [bitsN_f (n := m) (by unfold cnR; rw [h75]; decide)] at q; exact q _ _)
    · have h41 := jnle h41
      refine PW_iload dX12_canNot_44 rfl ?_
      refine PW_if_ne 59 dX12_canNot_46 (by decide) (fun h46 => ?_) (fun h46 => ?_)
      · have h46 := b2i_n.mp h46
        refine PW_iconst (v := 1) dX12_canNot_59 (by decide) ?_
        refine PW_goto 64 dX12_canNot_60 (by decide) ?_
        refine PW_istore dX12_canNot_64 (Nat.le_of_ble_eq_true rfl) rfl ?_
        refine PW_inc1 dX12_canNot_66 rfl (Nat.le_of_ble_eq_true rfl) rfl ?_
        refine PW_goto 33 dX12_canNot_69 (by decide) ?_
        have q := ih (j + 1) (by omega) (by omega)
        rw [anyB_s] at q
        first | (rw [h46, Bool.true_or] at q; exact q) | (rw [h46, Bool.false_or, h56] at q; exact q)
      · have h46 := b2i_0.mp h46
        refine PW_aload_n (i := 0) dX12_canNot_49 rfl rfl ?_
        refine PW_iload dX12_canNot_50 rfl ?_
        refine PW_callV dX12_canNot_52 moX12_steersBy cv12_231 (Yt) (by omega) rfl rfl (Nat.le_of_ble_eq_true rfl) (Nat.le_of_ble_eq_true rfl) (Nat.le_of_ble_eq_true rfl) (spX12_steersBy (d := d - 1) hY' v1 Fv (by omega) (by omega) (by omega)) (fun v M1 hq => ?_)
        obtain ⟨rfl, rfl⟩ := hq
        refine PW_iload_n (i := 1) dX12_canNot_55 rfl rfl ?_
        have hw6 := stw_le (pasN (vh (aV s)) m) j
        rw [pasN_n] at hw6
        refine PW_icmp_ne 63 dX12_canNot_56 (by decide) (fun h56 => ?_) (fun h56 => ?_)
        · have h56 : csR (pasN (vh (aV s)) m) a j = false := decide_eq_false (fun q => h56 ((pI_eq (by omega) (by omega)).mpr q).symm)
          refine PW_iconst (v := 0) dX12_canNot_63 (by decide) ?_
          refine PW_istore dX12_canNot_64 (Nat.le_of_ble_eq_true rfl) rfl ?_
          refine PW_inc1 dX12_canNot_66 rfl (Nat.le_of_ble_eq_true rfl) rfl ?_
          refine PW_goto 33 dX12_canNot_69 (by decide) ?_
          have q := ih (j + 1) (by omega) (by omega)
          rw [anyB_s] at q
          first | (rw [h46, Bool.true_or] at q; exact q) | (rw [h46, Bool.false_or, h56] at q; exact q)
        · have h56 : csR (pasN (vh (aV s)) m) a j = true := decide_eq_true ((pI_eq (by omega) (by omega)).mp h56.symm)
          refine PW_iconst (v := 1) dX12_canNot_59 (by decide) ?_
          refine PW_goto 64 dX12_canNot_60 (by decide) ?_
          refine PW_istore dX12_canNot_64 (Nat.le_of_ble_eq_true rfl) rfl ?_
          refine PW_inc1 dX12_canNot_66 rfl (Nat.le_of_ble_eq_true rfl) rfl ?_
          refine PW_goto 33 dX12_canNot_69 (by decide) ?_
          have q := ih (j + 1) (by omega) (by omega)
          rw [anyB_s] at q
          first | (rw [h46, Bool.true_or] at q; exact q) | (rw [h46, Bool.false_or, h56] at q; exact q)
set_option maxRecDepth 100000 in
set_option maxHeartbeats 4000000 in
theorem lpX12_canNot {G : GE} {d : Nat} {i : MI0} {S : MS} {Y : Nat} (hY : YS S Y) {s : Ab} {b : Nat} (hR : MR i S Y s) (hV : AV b s) (hb : b ≤ 100) (hd : 12 ≤ d) {a : Nat} (ha : a < hn (vh (aV s))) (hk : isH s (nI a)) {i0 : MI0} (p1 : SVd (i0 (Y + 13)) 0 i Y) (p2 : ∀ q, q ≠ Y + 13 → i0 q = i q) : ∀ (n0 j : Nat), j ≤ 8 → 8 < j + n0 → ∀ (i' : MI0) (z4 z5 : Value), MH i' Y (pasN (vh (aV s)) j) → CQ i0 i' Y → PW G iX12_canNot d (OpM Y (i, S) (.int (rCanNot s (nI a)).1) (rCanNot s (nI a)).2) 21 [.ref Y, .int (nI a), .int (nI (bitsN (cnR (vh (aV s)) a) j)), .int (nI j), z4, z5] [] (i', S) 0 0 := by
  have hY' := hY
  obtain ⟨Yt, ⟨Yt1, Yr1⟩, ⟨Yt2, Yr2⟩, ⟨Yt3, Yr3⟩, ⟨Yt4, Yr4⟩, ⟨Yt5, Yr5⟩, ⟨Yt6, Yr6⟩, ⟨Yt7, Yr7⟩, ⟨Yt8, Yr8⟩, ⟨Yt9, Yr9⟩, ⟨Yt10, Yr10⟩, ⟨Yt11, Yr11⟩, ⟨Yt12, Yr12⟩, ⟨Yt13, Yr13⟩, ⟨Yt14, Yr14⟩, ⟨Yt15, Yr15⟩, ⟨Yt16, Yr16⟩, ⟨Yt17, Yr17⟩, ⟨Yt18, Yr18⟩, ⟨Yt19, Yr19⟩⟩ := hY
  have hR' := hR
  have hV' := hV
  obtain ⟨Rm, Ri0, Ri1, Rk, Rx, Rt, Rl⟩ := hR
  have Rh := Rm.1
  obtain ⟨Av, Ai, At, Ab', Aa, Aw⟩ := hV
  have Ah := Av.1
  have Ah1 := Ah.1
  have Av1 := Av.2.1
  have Av2 := Av.2.2.1
  have Av3 := Av.2.2.2.1
  intro n0
  induction n0 with
  | zero => intro j h1 h2; exact absurd h2 (by omega)
  | succ n0 ih =>
    intro j hj1 hj2 i' z4 z5 v1 v2
    refine PW_iload_n (i := 3) dX12_canNot_21 rfl rfl ?_
    refine PW_bipush (v := 8) dX12_canNot_22 (by decide) ?_
    refine PW_icmp_ge 98 dX12_canNot_24 (by decide) (fun h24 => ?_) (fun h24 => ?_)
    · have h24 := jle (a := 8) h24
      have ej : j = 8 := by omega
      subst ej
      refine PW_aload_n (i := 0) dX12_canNot_98 rfl rfl ?_
      refine PW_callV dX12_canNot_99 moX12_back cv12_221 (Yt) (by omega) rfl rfl (Nat.le_of_ble_eq_true rfl) (Nat.le_of_ble_eq_true rfl) (Nat.le_of_ble_eq_true rfl) (spX12_back (d := d - 1) hY' (by omega) p1 p2 (v2.t)) (fun v M1 hq => ?_)
      obtain ⟨rfl, i4, rfl, eq, ex⟩ := hq
      refine PW_iload_n (i := 2) dX12_canNot_102 rfl rfl ?_
      refine PW_ireturn rfl (rfl) dX12_canNot_103 (Nat.le_of_ble_eq_true rfl) (Nat.le_of_ble_eq_true rfl) ?_
      exact OpM_i (by unfold rCanNot; rw [if_pos hk, cln (by omega)]) hY' (eq.mr hR' hV') eq.fr
    · have h24 := jnle (a := 8) h24
      refine PW_iconst (v := 0) dX12_canNot_27 (by decide) ?_
      refine PW_istore dX12_canNot_28 (Nat.le_of_ble_eq_true rfl) rfl ?_
      refine PW_iconst (v := 0) dX12_canNot_30 (by decide) ?_
      refine PW_istore dX12_canNot_31 (Nat.le_of_ble_eq_true rfl) rfl ?_
      exact lpX12_canNot2 hY' hR' hV' hb hd ha hk p1 p2 (m := j) h24 v1 v2 (fun i3 b1 b2 z4 z5 => ih (j + 1) (by omega) (by omega) i3 z4 z5 b1 b2) (2 ^ hn (vh (aV s)) + 1) 0 (Nat.zero_le _) (by rw [Nat.zero_add]; exact Nat.lt_succ_self _)
set_option maxRecDepth 100000 in
set_option maxHeartbeats 4000000 in
theorem spX12_canNot {G : GE} {d : Nat} {i : MI0} {S : MS} {Y : Nat} (hY : YS S Y) {s : Ab} {b : Nat} (hR : MR i S Y s) (hV : AV b s) (hb : b ≤ 100) (hd : 12 ≤ d) (k : Int32) : Mt G iX12_canNot d [.ref Y, .int k] (i, S) (OpM Y (i, S) (.int (rCanNot s k).1) (rCanNot s k).2) := by
  have hY' := hY
  obtain ⟨Yt, ⟨Yt1, Yr1⟩, ⟨Yt2, Yr2⟩, ⟨Yt3, Yr3⟩, ⟨Yt4, Yr4⟩, ⟨Yt5, Yr5⟩, ⟨Yt6, Yr6⟩, ⟨Yt7, Yr7⟩, ⟨Yt8, Yr8⟩, ⟨Yt9, Yr9⟩, ⟨Yt10, Yr10⟩, ⟨Yt11, Yr11⟩, ⟨Yt12, Yr12⟩, ⟨Yt13, Yr13⟩, ⟨Yt14, Yr14⟩, ⟨Yt15, Yr15⟩, ⟨Yt16, Yr16⟩, ⟨Yt17, Yr17⟩, ⟨Yt18, Yr18⟩, ⟨Yt19, Yr19⟩⟩ := hY
  have hR' := hR
  have hV' := hV
  obtain ⟨Rm, Ri0, Ri1, Rk, Rx, Rt, Rl⟩ := hR
  have Rh := Rm.1
  obtain ⟨Av, Ai, At, Ab', Aa, Aw⟩ := hV
  have Ah := Av.1
  have Ah1 := Ah.1
  have Av1 := Av.2.1
  have Av2 := Av.2.2.1
  have Av3 := Av.2.2.2.1
  refine Mt_in 4 (ls := [.ref Y, .int k, .null, .null, .null, .null]) moX12_canNot (Nat.le_of_ble_eq_true rfl) rfl ?_
  refine PW_aload_n (i := 0) dX12_canNot_0 rfl rfl ?_
  refine PW_iload_n (i := 1) dX12_canNot_1 rfl rfl ?_
  refine PW_callV dX12_canNot_2 moX12_isHand cv12_199 (Yt) (by omega) rfl rfl (Nat.le_of_ble_eq_true rfl) (Nat.le_of_ble_eq_true rfl) (Nat.le_of_ble_eq_true rfl) (spX12_isHand (d := d - 1) hY' Rh (by omega) _) (fun v M1 hq => ?_)
  obtain ⟨rfl, rfl⟩ := hq
  refine PW_if_ne 13 dX12_canNot_5 (by decide) (fun h5 => ?_) (fun h5 => ?_)
  · have h5 := b1_1.mp h5
    obtain ⟨j, hj, rfl⟩ := isH_of hV' h5
    have ek : (nI j).toNatClampNeg = j := cln (by omega)
    refine PW_aload_n (i := 0) dX12_canNot_13 rfl rfl ?_
    refine PW_callV dX12_canNot_14 moX12_puts cv12_214 (Yt) (by omega) rfl rfl (Nat.le_of_ble_eq_true rfl) (Nat.le_of_ble_eq_true rfl) (Nat.le_of_ble_eq_true rfl) (spX12_puts (d := d - 1) hY' (by omega)) (fun v M1 hq => ?_)
    obtain ⟨rfl, i1, rfl, p1, p2⟩ := hq
    have Rh1 : MH i1 Y (vh (aV s)) := Rh.kp Ah1 (by rw [p2 Y (by omega)]) (by rw [p2 Y (by omega)]) (by rw [p2 Y (by omega)]) (fun j hj => ⟨by rw [p2 _ (by omega)], by rw [p2 _ (by omega)], by rw [p2 _ (by omega)], by rw [p2 _ (by omega)]⟩)
    refine PW_iconst (v := 0) dX12_canNot_17 (by decide) ?_
    refine PW_istore_n (i := 2) dX12_canNot_18 rfl (Nat.le_of_ble_eq_true rfl) rfl ?_
    refine PW_iconst (v := 0) dX12_canNot_19 (by decide) ?_
    refine PW_istore_n (i := 3) dX12_canNot_20 rfl (Nat.le_of_ble_eq_true rfl) rfl ?_
    exact lpX12_canNot hY' hR' hV' hb hd hj h5 p1 p2 9 0 (by omega) (by omega) i1 _ _ Rh1 (CQ.rfl' i1 Y)
  · have h5 := b1_0.mp h5
    refine PW_aload_n (i := 0) dX12_canNot_8 rfl rfl ?_
    refine PW_callV dX12_canNot_9 moX12_bad cv12_97 (Yt) (by omega) rfl rfl (Nat.le_of_ble_eq_true rfl) (Nat.le_of_ble_eq_true rfl) (Nat.le_of_ble_eq_true rfl) (spX12_bad (d := d - 1) hY' hR') (fun v M1 hq => ?_)
    obtain ⟨rfl, i1, rfl, c1, c2⟩ := hq
    refine PW_ireturn rfl (rfl) dX12_canNot_12 (Nat.le_of_ble_eq_true rfl) (Nat.le_of_ble_eq_true rfl) ?_
    exact OpM_i (by unfold rCanNot; rw [if_neg h5]) hY' c1 (fun q hq => c2 q (by omega))

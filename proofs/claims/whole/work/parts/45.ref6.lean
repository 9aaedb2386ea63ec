/-! ===== the reference: setWay, isSeen, nod, is, pulled ===== -/
def WYq (i' : MI0) (Y : Nat) (h : Hm) : Prop := ∀ m, m < 21 → i' (Y + 16) m = iN (hp (pasN h m))
def fsF (y : Vy) (h : Hm) (c : Int32) (fr j : Nat) : Bool := decide (iN (hp (pasN h (vW y j))) + (if fr ≤ vW y j then c else 0) = vP y j)
def fsB (y : Vy) (h : Hm) (c : Int32) (fr : Nat) : Bool := allB (fsF y h c fr) (vs y)
theorem allB_1 (f : Nat → Bool) (n : Nat) : allB f (n + 1) = (allB f n && f n) := rfl
theorem or_0 (x : Int32) : x ||| 0 = x := by
  apply Int32.toBitVec_inj.1
  show x.toBitVec ||| 0#32 = x.toBitVec
  exact BitVec.or_zero
def EQ3 (i i' : MI0) (Y p a : Nat) : Prop := (∀ k, k ≠ 15 → k ≠ 16 → k ≠ 17 → k ≠ 20 → i' Y k = i Y k) ∧ (∀ j, j < 6 → i' (Y + 3) j = i (Y + 3) j ∧ i' (Y + 5) j = i (Y + 5) j) ∧ (∀ j, j ≠ a → i' p j = i p j) ∧ ∀ q, q ≠ Y → q ≠ Y + 3 → q ≠ Y + 5 → q ≠ p → q ≠ Y + 10 → q ≠ Y + 11 → (q < Y + 13 ∨ Y + 17 < q) → i' q = i q
theorem EQ3.rfl' (i : MI0) (Y p a : Nat) : EQ3 i i Y p a := ⟨fun _ _ _ _ _ => rfl, fun _ _ => ⟨rfl, rfl⟩, fun _ _ => rfl, fun _ _ _ _ _ _ _ _ => rfl⟩
theorem EQ3.q2 {i i1 i2 : MI0} {Y p a : Nat} (h1 : EQ3 i i1 Y p a) (h2 : EQ2 i1 i2 Y) (hp : p = Y + 2 ∨ p = Y + 4) : EQ3 i i2 Y p a :=
  ⟨fun k a b c e => (h2.1 k a b c e).trans (h1.1 k a b c e), fun j hj => ⟨(h2.2.1 j hj).1.trans (h1.2.1 j hj).1, (h2.2.1 j hj).2.trans (h1.2.1 j hj).2⟩, fun j hj => (congrFun (h2.2.2 p (by omega) (by omega) (by omega) (by omega) (by omega) (by omega)) j).trans (h1.2.2.1 j hj), fun q a b c d e f g => (h2.2.2 q a b c e f g).trans (h1.2.2.2 q a b c d e f g)⟩
theorem EQ3.w {i i1 i2 : MI0} {S : MS} {Y p a : Nat} {v : Int32} (h1 : EQ3 i i1 Y p a) (hp : p = Y + 2 ∨ p = Y + 4) (e2 : i2 = mi (wI (i1, S) p a v)) : EQ3 i i2 Y p a := by
  subst e2
  refine ⟨fun k a b c e => ?_, fun j hj => ?_, fun j hj => ?_, fun q a b c d e f g => ?_⟩
  · rw [rI_a _ _ _ (by omega)]; exact h1.1 k a b c e
  · rw [rI_a _ _ _ (by omega), rI_a _ _ _ (by omega)]; exact h1.2.1 j hj
  · rw [rI_k _ _ _ hj]; exact h1.2.2.1 j hj
  · rw [rI_f _ _ d]; exact h1.2.2.2 q a b c d e f g
theorem EQ3.e {i i1 i2 : MI0} {S : MS} {Y p a : Nat} (h1 : EQ3 i i1 Y p a) (hp : p = Y + 2 ∨ p = Y + 4) (e2 : i2 = mi (wI (i1, S) p a (i p a))) : EQ2 i i2 Y := by
  have h2 := h1.w hp e2
  refine ⟨h2.1, h2.2.1, fun q q1 q2 q3 q4 q5 q6 => ?_⟩
  by_cases hq : q = p
  · rw [hq]
    funext j
    by_cases hj : j = a
    · rw [hj, e2, rI_s]
    · exact h2.2.2.1 j hj
  · exact h2.2.2.2 q q1 q2 q3 hq q4 q5 q6
def chN (h : Hm) (a : Nat) (z : Int) : Hm := (hn h, hK h, hT h, (fun j => if j = a then z else hN h j), hp h, hw h, hf h)
theorem chN_V {b : Nat} {h : Hm} {a : Nat} {z : Int} (hv : HV b h) (h1 : -3 ≤ z) (h2 : z ≤ 3) : HV b (chN h a z) := by
  obtain ⟨v1, v2, v3, v4, v5, v6⟩ := hv
  refine ⟨v1, v2, v3, v4, v5, fun j hj => ⟨(v6 j hj).1, (v6 j hj).2.1, ?_⟩⟩
  show -3 ≤ (if j = a then z else hN h j) ∧ (if j = a then z else hN h j) ≤ 3
  split
  · exact ⟨h1, h2⟩
  · exact (v6 j hj).2.2
theorem MH.n {i i' : MI0} {Y a : Nat} {h : Hm} {z : Int} (hH : MH i Y h) (h6 : hn h ≤ 6) (e : EQ3 i i' Y (Y + 4) a) (hz : i' (Y + 4) a = iN z) : MH i' Y (chN h a z) := by
  refine ⟨(e.1 1 (by decide) (by decide) (by decide) (by decide)).trans hH.1, (e.1 2 (by decide) (by decide) (by decide) (by decide)).trans hH.2.1, (e.1 3 (by decide) (by decide) (by decide) (by decide)).trans hH.2.2.1, fun j hj => ?_⟩
  have hj6 : j < 6 := Nat.lt_of_lt_of_le hj h6
  refine ⟨?_, ?_, ?_, ?_⟩
  · rw [e.2.2.2 (Y + 2) (by omega) (by omega) (by omega) (by omega) (by omega) (by omega) (by omega)]; exact (hH.2.2.2 j hj).1
  · rw [(e.2.1 j hj6).1]; exact (hH.2.2.2 j hj).2.1
  · show _ = iN (if j = a then z else hN h j)
    by_cases q : j = a
    · rw [q, if_pos rfl]; exact hz
    · rw [if_neg q, e.2.2.1 j q]; exact (hH.2.2.2 j hj).2.2.1
  · rw [(e.2.1 j hj6).2]; exact (hH.2.2.2 j hj).2.2.2
theorem MH.k {i i' : MI0} {Y a c : Nat} {h : Hm} (hH : MH i Y h) (h6 : hn h ≤ 6) (e : EQ3 i i' Y (Y + 2) a) (hz : i' (Y + 2) a = nI c) : MH i' Y (chK h a c) := by
  refine ⟨(e.1 1 (by decide) (by decide) (by decide) (by decide)).trans hH.1, (e.1 2 (by decide) (by decide) (by decide) (by decide)).trans hH.2.1, (e.1 3 (by decide) (by decide) (by decide) (by decide)).trans hH.2.2.1, fun j hj => ?_⟩
  have hj6 : j < 6 := Nat.lt_of_lt_of_le hj h6
  refine ⟨?_, ?_, ?_, ?_⟩
  · show _ = nI (if j = a then c else hK h j)
    by_cases q : j = a
    · rw [q, if_pos rfl]; exact hz
    · rw [if_neg q, e.2.2.1 j q]; exact (hH.2.2.2 j hj).1
  · rw [(e.2.1 j hj6).1]; exact (hH.2.2.2 j hj).2.1
  · rw [e.2.2.2 (Y + 4) (by omega) (by omega) (by omega) (by omega) (by omega) (by omega) (by omega)]; exact (hH.2.2.2 j hj).2.2.1
  · rw [(e.2.1 j hj6).2]; exact (hH.2.2.2 j hj).2.2.2
set_option maxRecDepth 100000 in
set_option maxHeartbeats 4000000 in
theorem lpX12_setWay {G : GE} {d : Nat} {i : MI0} {S : MS} {Y : Nat} (hY : YS S Y) {b : Nat} {h : Hm} (hH : MH i Y h) (hV : HV b h) (hb : b + 61 ≤ 1000) (hd : 7 ≤ d) {i1 : MI0} (p1 : SVd (i1 (Y + 13)) 0 i Y) (p2 : ∀ q, q ≠ Y + 13 → i1 q = i q) : ∀ (n0 j : Nat), j ≤ 21 → 21 < j + n0 → ∀ (i' : MI0), MH i' Y (pasN h j) → CT i1 i' Y → (∀ m, m < j → i' (Y + 16) m = iN (hp (pasN h m))) → (∀ q, q ≠ Y → q ≠ Y + 3 → q ≠ Y + 5 → q ≠ Y + 16 → i' q = i1 q) → PW G iX12_setWay d (Wr S (fun i' => EQ2 i i' Y ∧ WYq i' Y h ∧ ∀ q, q ≠ Y → q ≠ Y + 3 → q ≠ Y + 5 → q ≠ Y + 13 → q ≠ Y + 16 → i' q = i q)) 6 [.ref Y, .int (nI j)] [] (i', S) 0 0 := by
  have hY' := hY
  obtain ⟨Yt, ⟨Yt1, Yr1⟩, ⟨Yt2, Yr2⟩, ⟨Yt3, Yr3⟩, ⟨Yt4, Yr4⟩, ⟨Yt5, Yr5⟩, ⟨Yt6, Yr6⟩, ⟨Yt7, Yr7⟩, ⟨Yt8, Yr8⟩, ⟨Yt9, Yr9⟩, ⟨Yt10, Yr10⟩, ⟨Yt11, Yr11⟩, ⟨Yt12, Yr12⟩, ⟨Yt13, Yr13⟩, ⟨Yt14, Yr14⟩, ⟨Yt15, Yr15⟩, ⟨Yt16, Yr16⟩, ⟨Yt17, Yr17⟩, ⟨Yt18, Yr18⟩, ⟨Yt19, Yr19⟩⟩ := hY
  intro n0
  induction n0 with
  | zero => intro j h1 h2; exact absurd h2 (by omega)
  | succ n0 ih =>
    intro j hj1 hj2 i' v1 v2 v3 v4
    refine PW_iload_n (i := 1) dX12_setWay_6 rfl rfl ?_
    refine PW_bipush (v := 20) dX12_setWay_7 (by decide) ?_
    refine PW_icmp_gt 33 dX12_setWay_9 (by decide) (fun h9 => ?_) (fun h9 => ?_)
    · have h9 := jlt (a := 20) h9
      have ej : j = 21 := by omega
      subst ej
      refine PW_aload_n (i := 0) dX12_setWay_33 rfl rfl ?_
      refine PW_callV dX12_setWay_34 moX12_back cv12_221 (Yt) (by omega) rfl rfl (Nat.le_of_ble_eq_true rfl) (Nat.le_of_ble_eq_true rfl) (Nat.le_of_ble_eq_true rfl) (spX12_back (d := d - 1) hY' (by omega) p1 p2 v2) (fun v M1 hq => ?_)
      obtain ⟨rfl, i4, rfl, eq, ex⟩ := hq
      refine PW_return rfl dX12_setWay_37 (Nat.le_of_ble_eq_true rfl) (Nat.le_of_ble_eq_true rfl) ?_
      refine Wr_mk rfl ⟨eq, fun m hm => ?_, fun q h1 h2 h3 h4 h5 => ?_⟩
      · rw [rP, ex (Y + 16) (by omega) (by omega) (by omega)]; exact v3 m hm
      · rw [rP_f, ex q h1 h2 h3, v4 q h1 h2 h3 h5, p2 q h4]
    · have h9 := jnlt (a := 20) h9
      refine PW_aload_n (i := 0) dX12_setWay_12 rfl rfl ?_
      refine PW_getR dX12_setWay_13 fg12_55 (Yt) (Yr16) ?_
      refine PW_iload_n (i := 1) dX12_setWay_16 rfl rfl ?_
      refine PW_aload_n (i := 0) dX12_setWay_17 rfl rfl ?_
      refine PW_giv (v := iN (hp (pasN h j))) dX12_setWay_18 fg12_78 (Yt) (v1.2.1) ?_
      refine PW_ias dX12_setWay_21 (Yt16) (by omega) (by omega) ?_
      refine PW_nm rfl (fun i2 e2 => ?_)
      have e3 : ∀ q, q ≠ Y + 16 → i2 q = i' q := fun q hq => by rw [e2, rI_f _ _ hq]; rfl
      have v5 : MH i2 Y (pasN h j) := v1.kp (pasN_V hV j).1 (by rw [e3 Y (by omega)]) (by rw [e3 Y (by omega)]) (by rw [e3 Y (by omega)]) (fun a ha => ⟨by rw [e3 _ (by omega)], by rw [e3 _ (by omega)], by rw [e3 _ (by omega)], by rw [e3 _ (by omega)]⟩)
      refine PW_aload_n (i := 0) dX12_setWay_22 rfl rfl ?_
      refine PW_callV dX12_setWay_23 moX12_pass cv12_205 (Yt) (by omega) rfl rfl (Nat.le_of_ble_eq_true rfl) (Nat.le_of_ble_eq_true rfl) (Nat.le_of_ble_eq_true rfl) (spX12_pass (d := d - 1) hY' v5 (pasN_V hV j) (by omega) (by omega)) (fun v M1 hq => ?_)
      obtain ⟨rfl, i3, rfl, a1, a2⟩ := hq
      refine PW_pop dX12_setWay_26 rfl ?_
      refine PW_inc1 dX12_setWay_27 rfl (Nat.le_of_ble_eq_true rfl) rfl ?_
      refine PW_goto 6 dX12_setWay_30 (by decide) ?_
      refine ih (j + 1) (by omega) (by omega) i3 a1 ⟨fun k h1 h2 => ?_, fun q h1 h2 h3 h4 => ?_⟩ (fun m hm => ?_) (fun q h1 h2 h3 h4 => ?_)
      · rw [a2.1 k h1 h2, e3 Y (by omega)]; exact v2.1 k h1 h2
      · rw [a2.2 q h1 h2 h3, e3 q (by omega)]; exact v2.2 q h1 h2 h3 h4
      · rw [a2.2 (Y + 16) (by omega) (by omega) (by omega), e2]
        by_cases e : m = j
        · rw [e, rI_s]
        · rw [rI_k _ _ _ e]; exact v3 m (by omega)
      · rw [a2.2 q h1 h2 h3, e3 q h4]; exact v4 q h1 h2 h3 h4
set_option maxRecDepth 100000 in
set_option maxHeartbeats 4000000 in
theorem spX12_setWay {G : GE} {d : Nat} {i : MI0} {S : MS} {Y : Nat} (hY : YS S Y) {b : Nat} {h : Hm} (hH : MH i Y h) (hV : HV b h) (hb : b + 61 ≤ 1000) (hd : 7 ≤ d) : Mt G iX12_setWay d [.ref Y] (i, S) (Wr S (fun i' => EQ2 i i' Y ∧ WYq i' Y h ∧ ∀ q, q ≠ Y → q ≠ Y + 3 → q ≠ Y + 5 → q ≠ Y + 13 → q ≠ Y + 16 → i' q = i q)) := by
  have hY' := hY
  obtain ⟨Yt, ⟨Yt1, Yr1⟩, ⟨Yt2, Yr2⟩, ⟨Yt3, Yr3⟩, ⟨Yt4, Yr4⟩, ⟨Yt5, Yr5⟩, ⟨Yt6, Yr6⟩, ⟨Yt7, Yr7⟩, ⟨Yt8, Yr8⟩, ⟨Yt9, Yr9⟩, ⟨Yt10, Yr10⟩, ⟨Yt11, Yr11⟩, ⟨Yt12, Yr12⟩, ⟨Yt13, Yr13⟩, ⟨Yt14, Yr14⟩, ⟨Yt15, Yr15⟩, ⟨Yt16, Yr16⟩, ⟨Yt17, Yr17⟩, ⟨Yt18, Yr18⟩, ⟨Yt19, Yr19⟩⟩ := hY
  refine Mt_in 1 (ls := [.ref Y, .null]) moX12_setWay (Nat.le_of_ble_eq_true rfl) rfl ?_
  refine PW_aload_n (i := 0) dX12_setWay_0 rfl rfl ?_
  refine PW_callV dX12_setWay_1 moX12_puts cv12_214 (Yt) (by omega) rfl rfl (Nat.le_of_ble_eq_true rfl) (Nat.le_of_ble_eq_true rfl) (Nat.le_of_ble_eq_true rfl) (spX12_puts (d := d - 1) hY' (by omega)) (fun v M1 hq => ?_)
  obtain ⟨rfl, i1, rfl, p1, p2⟩ := hq
  have Rh1 : MH i1 Y h := hH.kp hV.1 (by rw [p2 Y (by omega)]) (by rw [p2 Y (by omega)]) (by rw [p2 Y (by omega)]) (fun j hj => ⟨by rw [p2 _ (by omega)], by rw [p2 _ (by omega)], by rw [p2 _ (by omega)], by rw [p2 _ (by omega)]⟩)
  refine PW_iconst (v := 0) dX12_setWay_4 (by decide) ?_
  refine PW_istore_n (i := 1) dX12_setWay_5 rfl (Nat.le_of_ble_eq_true rfl) rfl ?_
  exact lpX12_setWay hY' hH hV hb hd p1 p2 22 0 (by omega) (by omega) i1 Rh1 (CQ.rfl' i1 Y).t (fun m hm => absurd hm (Nat.not_lt_zero m)) (fun _ _ _ _ _ => rfl)
set_option maxRecDepth 100000 in
set_option maxHeartbeats 4000000 in
theorem lpX12_isSeen {G : GE} {d : Nat} {i : MI0} {S : MS} {Y : Nat} (hY : YS S Y) {y : Vy} {h : Hm} (hs5 : i Y 5 = nI (vs y)) (hsg : ∀ j, j < vs y → i (Y + 7) j = nI (vW y j) ∧ i (Y + 8) j = vP y j) (hw20 : ∀ j, j < vs y → vW y j ≤ 20) (hv6 : vs y ≤ 6) (hW : WYq i Y h) (c : Int32) {fr : Nat} (hfr : fr < 1000) : ∀ (n0 j : Nat), j ≤ vs y → vs y < j + n0 → ∀ (z5 : Value), PW G iX12_isSeen d (Rt (b2i (fsB y h c fr)) (i, S)) 5 [.ref Y, .int c, .int (nI fr), .int (b2i (allB (fsF y h c fr) j)), .int (nI j), z5] [] (i, S) 0 0 := by
  have hY' := hY
  obtain ⟨Yt, ⟨Yt1, Yr1⟩, ⟨Yt2, Yr2⟩, ⟨Yt3, Yr3⟩, ⟨Yt4, Yr4⟩, ⟨Yt5, Yr5⟩, ⟨Yt6, Yr6⟩, ⟨Yt7, Yr7⟩, ⟨Yt8, Yr8⟩, ⟨Yt9, Yr9⟩, ⟨Yt10, Yr10⟩, ⟨Yt11, Yr11⟩, ⟨Yt12, Yr12⟩, ⟨Yt13, Yr13⟩, ⟨Yt14, Yr14⟩, ⟨Yt15, Yr15⟩, ⟨Yt16, Yr16⟩, ⟨Yt17, Yr17⟩, ⟨Yt18, Yr18⟩, ⟨Yt19, Yr19⟩⟩ := hY
  intro n0
  induction n0 with
  | zero => intro j h1 h2; exact absurd h2 (by omega)
  | succ n0 ih =>
    intro j hj1 hj2 z5
    refine PW_iload dX12_isSeen_5 rfl ?_
    refine PW_aload_n (i := 0) dX12_isSeen_7 rfl rfl ?_
    refine PW_giv (v := nI (vs y)) dX12_isSeen_8 fg12_87 (Yt) (hs5) ?_
    refine PW_icmp_ge 73 dX12_isSeen_11 (by decide) (fun h11 => ?_) (fun h11 => ?_)
    · have h11 := jle h11
      have ej : j = vs y := by omega
      subst ej
      refine PW_iload_n (i := 3) dX12_isSeen_73 rfl rfl ?_
      refine PW_ireturn rfl (by cases allB (fsF y h c fr) (vs y) <;> rfl) dX12_isSeen_74 (Nat.le_of_ble_eq_true rfl) (Nat.le_of_ble_eq_true rfl) ?_
      exact rt_i rfl
    · have h11 := jnle h11
      have h20 := hw20 j h11
      refine PW_aload_n (i := 0) dX12_isSeen_14 rfl rfl ?_
      refine PW_getR dX12_isSeen_15 fg12_55 (Yt) (Yr16) ?_
      refine PW_aload_n (i := 0) dX12_isSeen_18 rfl rfl ?_
      refine PW_getR dX12_isSeen_19 fg12_28 (Yt) (Yr7) ?_
      refine PW_iload dX12_isSeen_22 rfl ?_
      refine PW_ial (v := nI (vW y j)) dX12_isSeen_24 (Yt7) (by omega) (by omega) ((hsg j h11).1) ?_
      refine PW_ial (v := iN (hp (pasN h (vW y j)))) dX12_isSeen_25 (Yt16) (by omega) (by omega) (hW _ (by omega)) ?_
      refine PW_aload_n (i := 0) dX12_isSeen_26 rfl rfl ?_
      refine PW_getR dX12_isSeen_27 fg12_28 (Yt) (Yr7) ?_
      refine PW_iload dX12_isSeen_30 rfl ?_
      refine PW_ial (v := nI (vW y j)) dX12_isSeen_32 (Yt7) (by omega) (by omega) ((hsg j h11).1) ?_
      refine PW_iload_n (i := 2) dX12_isSeen_33 rfl rfl ?_
      refine PW_icmp_lt 41 dX12_isSeen_34 (by decide) (fun h34 => ?_) (fun h34 => ?_)
      · have h34 := jlt h34
        refine PW_iconst (v := 0) dX12_isSeen_41 (by decide) ?_
        refine PW_iadd dX12_isSeen_42 ?_
        refine PW_istore dX12_isSeen_43 (Nat.le_of_ble_eq_true rfl) rfl ?_
        refine PW_iload_n (i := 3) dX12_isSeen_45 rfl rfl ?_
        refine PW_if_eq 65 dX12_isSeen_46 (by decide) (fun h46 => ?_) (fun h46 => ?_)
        · have h46 := b2i_0.mp h46
          refine PW_iconst (v := 0) dX12_isSeen_65 (by decide) ?_
          refine PW_istore_n (i := 3) dX12_isSeen_66 rfl (Nat.le_of_ble_eq_true rfl) rfl ?_
          refine PW_inc1 dX12_isSeen_67 rfl (Nat.le_of_ble_eq_true rfl) rfl ?_
          refine PW_goto 5 dX12_isSeen_70 (by decide) ?_
          have q := ih (j + 1) (by omega) (by omega)
          rw [allB_1] at q
          first
            | (rw [h46, Bool.false_and] at q; exact q _)
            | (rw [h46, Bool.true_and, show fsF y h c fr j = true from (by unfold fsF; first | (rw [if_pos h34]; exact decide_eq_true h58) | (rw [if_neg (by omega)]; exact decide_eq_true h58))] at q; exact q _)
            | (rw [h46, Bool.true_and, show fsF y h c fr j = false from (by unfold fsF; first | (rw [if_pos h34]; exact decide_eq_false h58) | (rw [if_neg (by omega)]; exact decide_eq_false h58))] at q; exact q _)
        · have h46 := b2i_n.mp h46
          refine PW_iload dX12_isSeen_49 rfl ?_
          refine PW_aload_n (i := 0) dX12_isSeen_51 rfl rfl ?_
          refine PW_getR dX12_isSeen_52 fg12_31 (Yt) (Yr8) ?_
          refine PW_iload dX12_isSeen_55 rfl ?_
          refine PW_ial (v := vP y j) dX12_isSeen_57 (Yt8) (by omega) (by omega) ((hsg j h11).2) ?_
          refine PW_icmp_ne 65 dX12_isSeen_58 (by decide) (fun h58 => ?_) (fun h58 => ?_)
          · refine PW_iconst (v := 0) dX12_isSeen_65 (by decide) ?_
            refine PW_istore_n (i := 3) dX12_isSeen_66 rfl (Nat.le_of_ble_eq_true rfl) rfl ?_
            refine PW_inc1 dX12_isSeen_67 rfl (Nat.le_of_ble_eq_true rfl) rfl ?_
            refine PW_goto 5 dX12_isSeen_70 (by decide) ?_
            have q := ih (j + 1) (by omega) (by omega)
            rw [allB_1] at q
            first
              | (rw [h46, Bool.false_and] at q; exact q _)
              | (rw [h46, Bool.true_and, show fsF y h c fr j = true from (by unfold fsF; first | (rw [if_pos h34]; exact decide_eq_true h58) | (rw [if_neg (by omega)]; exact decide_eq_true h58))] at q; exact q _)
              | (rw [h46, Bool.true_and, show fsF y h c fr j = false from (by unfold fsF; first | (rw [if_pos h34]; exact decide_eq_false h58) | (rw [if_neg (by omega)]; exact decide_eq_false h58))] at q; exact q _)
          · refine PW_iconst (v := 1) dX12_isSeen_61 (by decide) ?_
            refine PW_goto 66 dX12_isSeen_62 (by decide) ?_
            refine PW_istore_n (i := 3) dX12_isSeen_66 rfl (Nat.le_of_ble_eq_true rfl) rfl ?_
            refine PW_inc1 dX12_isSeen_67 rfl (Nat.le_of_ble_eq_true rfl) rfl ?_
            refine PW_goto 5 dX12_isSeen_70 (by decide) ?_
            have q := ih (j + 1) (by omega) (by omega)
            rw [allB_1] at q
            first
              | (rw [h46, Bool.false_and] at q; exact q _)
              | (rw [h46, Bool.true_and, show fsF y h c fr j = true from (by unfold fsF; first | (rw [if_pos h34]; exact decide_eq_true h58) | (rw [if_neg (by omega)]; exact decide_eq_true h58))] at q; exact q _)
              | (rw [h46, Bool.true_and, show fsF y h c fr j = false from (by unfold fsF; first | (rw [if_pos h34]; exact decide_eq_false h58) | (rw [if_neg (by omega)]; exact decide_eq_false h58))] at q; exact q _)
      · have h34 := jnlt h34
        refine PW_iload_n (i := 1) dX12_isSeen_37 rfl rfl ?_
        refine PW_goto 42 dX12_isSeen_38 (by decide) ?_
        refine PW_iadd dX12_isSeen_42 ?_
        refine PW_istore dX12_isSeen_43 (Nat.le_of_ble_eq_true rfl) rfl ?_
        refine PW_iload_n (i := 3) dX12_isSeen_45 rfl rfl ?_
        refine PW_if_eq 65 dX12_isSeen_46 (by decide) (fun h46 => ?_) (fun h46 => ?_)
        · have h46 := b2i_0.mp h46
          refine PW_iconst (v := 0) dX12_isSeen_65 (by decide) ?_
          refine PW_istore_n (i := 3) dX12_isSeen_66 rfl (Nat.le_of_ble_eq_true rfl) rfl ?_
          refine PW_inc1 dX12_isSeen_67 rfl (Nat.le_of_ble_eq_true rfl) rfl ?_
          refine PW_goto 5 dX12_isSeen_70 (by decide) ?_
          have q := ih (j + 1) (by omega) (by omega)
          rw [allB_1] at q
          first
            | (rw [h46, Bool.false_and] at q; exact q _)
            | (rw [h46, Bool.true_and, show fsF y h c fr j = true from (by unfold fsF; first | (rw [if_pos h34]; exact decide_eq_true h58) | (rw [if_neg (by omega)]; exact decide_eq_true h58))] at q; exact q _)
            | (rw [h46, Bool.true_and, show fsF y h c fr j = false from (by unfold fsF; first | (rw [if_pos h34]; exact decide_eq_false h58) | (rw [if_neg (by omega)]; exact decide_eq_false h58))] at q; exact q _)
        · have h46 := b2i_n.mp h46
          refine PW_iload dX12_isSeen_49 rfl ?_
          refine PW_aload_n (i := 0) dX12_isSeen_51 rfl rfl ?_
          refine PW_getR dX12_isSeen_52 fg12_31 (Yt) (Yr8) ?_
          refine PW_iload dX12_isSeen_55 rfl ?_
          refine PW_ial (v := vP y j) dX12_isSeen_57 (Yt8) (by omega) (by omega) ((hsg j h11).2) ?_
          refine PW_icmp_ne 65 dX12_isSeen_58 (by decide) (fun h58 => ?_) (fun h58 => ?_)
          · refine PW_iconst (v := 0) dX12_isSeen_65 (by decide) ?_
            refine PW_istore_n (i := 3) dX12_isSeen_66 rfl (Nat.le_of_ble_eq_true rfl) rfl ?_
            refine PW_inc1 dX12_isSeen_67 rfl (Nat.le_of_ble_eq_true rfl) rfl ?_
            refine PW_goto 5 dX12_isSeen_70 (by decide) ?_
            have q := ih (j + 1) (by omega) (by omega)
            rw [allB_1] at q
            first
              | (rw [h46, Bool.false_and] at q; exact q _)
              | (rw [h46, Bool.true_and, show fsF y h c fr j = true from (by unfold fsF; first | (rw [if_pos h34]; exact decide_eq_true h58) | (rw [if_neg (by omega)]; exact decide_eq_true h58))] at q; exact q _)
              | (rw [h46, Bool.true_and, show fsF y h c fr j = false from (by unfold fsF; first | (rw [if_pos h34]; exact decide_eq_false h58) | (rw [if_neg (by omega)]; exact decide_eq_false h58))] at q; exact q _)
          · refine PW_iconst (v := 1) dX12_isSeen_61 (by decide) ?_
            refine PW_goto 66 dX12_isSeen_62 (by decide) ?_
            refine PW_istore_n (i := 3) dX12_isSeen_66 rfl (Nat.le_of_ble_eq_true rfl) rfl ?_
            refine PW_inc1 dX12_isSeen_67 rfl (Nat.le_of_ble_eq_true rfl) rfl ?_
            refine PW_goto 5 dX12_isSeen_70 (by decide) ?_
            have q := ih (j + 1) (by omega) (by omega)
            rw [allB_1] at q
            first
              | (rw [h46, Bool.false_and] at q; exact q _)
              | (rw [h46, Bool.true_and, show fsF y h c fr j = true from (by unfold fsF; first | (rw [if_pos h34]; exact decide_eq_true h58) | (rw [if_neg (by omega)]; exact decide_eq_true h58))] at q; exact q _)
              | (rw [h46, Bool.true_and, show fsF y h c fr j = false from (by unfold fsF; first | (rw [if_pos h34]; exact decide_eq_false h58) | (rw [if_neg (by omega)]; exact decide_eq_false h58))] at q; exact q _)
set_option maxRecDepth 100000 in
set_option maxHeartbeats 4000000 in
theorem spX12_isSeen {G : GE} {d : Nat} {i : MI0} {S : MS} {Y : Nat} (hY : YS S Y) {y : Vy} {h : Hm} (hs5 : i Y 5 = nI (vs y)) (hsg : ∀ j, j < vs y → i (Y + 7) j = nI (vW y j) ∧ i (Y + 8) j = vP y j) (hw20 : ∀ j, j < vs y → vW y j ≤ 20) (hv6 : vs y ≤ 6) (hW : WYq i Y h) (c : Int32) {fr : Nat} (hfr : fr < 1000) : Mt G iX12_isSeen d [.ref Y, .int c, .int (nI fr)] (i, S) (Rt (b2i (fsB y h c fr)) (i, S)) := by
  have hY' := hY
  obtain ⟨Yt, ⟨Yt1, Yr1⟩, ⟨Yt2, Yr2⟩, ⟨Yt3, Yr3⟩, ⟨Yt4, Yr4⟩, ⟨Yt5, Yr5⟩, ⟨Yt6, Yr6⟩, ⟨Yt7, Yr7⟩, ⟨Yt8, Yr8⟩, ⟨Yt9, Yr9⟩, ⟨Yt10, Yr10⟩, ⟨Yt11, Yr11⟩, ⟨Yt12, Yr12⟩, ⟨Yt13, Yr13⟩, ⟨Yt14, Yr14⟩, ⟨Yt15, Yr15⟩, ⟨Yt16, Yr16⟩, ⟨Yt17, Yr17⟩, ⟨Yt18, Yr18⟩, ⟨Yt19, Yr19⟩⟩ := hY
  refine Mt_in 3 (ls := [.ref Y, .int c, .int (nI fr), .null, .null, .null]) moX12_isSeen (Nat.le_of_ble_eq_true rfl) rfl ?_
  refine PW_iconst (v := 1) dX12_isSeen_0 (by decide) ?_
  refine PW_istore_n (i := 3) dX12_isSeen_1 rfl (Nat.le_of_ble_eq_true rfl) rfl ?_
  refine PW_iconst (v := 0) dX12_isSeen_2 (by decide) ?_
  refine PW_istore dX12_isSeen_3 (Nat.le_of_ble_eq_true rfl) rfl ?_
  exact lpX12_isSeen hY' hs5 hsg hw20 hv6 hW c hfr (vs y + 1) 0 (by omega) (by omega) _
def ndF (y : Vy) (a j : Nat) : Bool := fsB y (chN (vh y) a ((j : Int) - 3)) 0 0
def ndS (y : Vy) (a : Nat) : Nat := bitsN (ndF y a) 7
def rNod (s : Ab) (k : Int32) : Int32 × Ab := if isH s k then (nI (ndS (aV s) k.toNatClampNeg), s) else (-2, bad s)
def rsF (y : Vy) (a c : Nat) : Bool := fsB y (chK (vh y) a c) 0 0
def rIs (s : Ab) (k : Int32) : Int32 × Ab := if isH s k then (nI (bitsN (rsF (aV s) k.toNatClampNeg) 6), s) else (-2, bad s)
def rPulled (s : Ab) (b : Int32) : Int32 × Ab := if (-9 : Int32) ≤ b ∧ b ≤ 9 then (nI (bitsN (fun k => fsB (aV s) (vh (aV s)) b (k + 1)) 20), s) else (-2, bad s)
set_option maxRecDepth 100000 in
set_option maxHeartbeats 4000000 in
theorem lpX12_nodSet {G : GE} {d : Nat} {i : MI0} {S : MS} {Y : Nat} (hY : YS S Y) {s : Ab} {b : Nat} (hR : MR i S Y s) (hV : AV b s) (hb : b ≤ 100) (hd : 12 ≤ d) {a : Nat} (ha : a < hn (vh (aV s))) : ∀ (n0 j : Nat), j ≤ 7 → 7 < j + n0 → ∀ (i' : MI0), EQ3 i i' Y (Y + 4) a → PW G iX12_nodSet d (Wi (nI (ndS (aV s) a)) S (fun i' => EQ2 i i' Y)) 13 [.ref Y, .int (nI a), .int (i (Y + 4) a), .int (nI (bitsN (ndF (aV s) a) j)), .int (iN ((j : Int) - 3))] [] (i', S) 0 0 := by
  have hY' := hY
  obtain ⟨Yt, ⟨Yt1, Yr1⟩, ⟨Yt2, Yr2⟩, ⟨Yt3, Yr3⟩, ⟨Yt4, Yr4⟩, ⟨Yt5, Yr5⟩, ⟨Yt6, Yr6⟩, ⟨Yt7, Yr7⟩, ⟨Yt8, Yr8⟩, ⟨Yt9, Yr9⟩, ⟨Yt10, Yr10⟩, ⟨Yt11, Yr11⟩, ⟨Yt12, Yr12⟩, ⟨Yt13, Yr13⟩, ⟨Yt14, Yr14⟩, ⟨Yt15, Yr15⟩, ⟨Yt16, Yr16⟩, ⟨Yt17, Yr17⟩, ⟨Yt18, Yr18⟩, ⟨Yt19, Yr19⟩⟩ := hY
  have hR' := hR
  have hV' := hV
  obtain ⟨Rm, Ri0, Ri1, Rk, Rx, Rt, Rl⟩ := hR
  have Rh := Rm.1
  obtain ⟨Av, Ai, At, Ab', Aa, Aw⟩ := hV
  have Ah := Av.1
  have Ah1 := Ah.1
  have Av1 := Av.2.1
  have Av2 := Av.2.2.1
  have Av3 := Av.2.2.2.1
  intro n0
  induction n0 with
  | zero => intro j h1 h2; exact absurd h2 (by omega)
  | succ n0 ih =>
    intro j hj1 hj2 i' v1
    refine PW_iload dX12_nodSet_13 rfl ?_
    refine PW_iconst (v := 3) dX12_nodSet_15 (by decide) ?_
    refine PW_icmp_gt 59 dX12_nodSet_16 (by decide) (fun h16 => ?_) (fun h16 => ?_)
    · have h16 := (iN_lt (x := 3) (y := (j : Int) - 3) (by omega) (by omega) (by omega) (by omega)).mp h16
      have ej : j = 7 := by omega
      subst ej
      refine PW_aload_n (i := 0) dX12_nodSet_59 rfl rfl ?_
      refine PW_getR dX12_nodSet_60 fg12_19 (Yt) (Yr4) ?_
      refine PW_iload_n (i := 1) dX12_nodSet_63 rfl rfl ?_
      refine PW_iload_n (i := 2) dX12_nodSet_64 rfl rfl ?_
      refine PW_ias dX12_nodSet_65 (Yt4) (by omega) (by omega) ?_
      refine PW_nm rfl (fun i5 e5 => ?_)
      refine PW_iload_n (i := 3) dX12_nodSet_66 rfl rfl ?_
      refine PW_ireturn rfl (rfl) dX12_nodSet_67 (Nat.le_of_ble_eq_true rfl) (Nat.le_of_ble_eq_true rfl) ?_
      exact Wi_mk rfl rfl (v1.e (Or.inr rfl) e5)
    · have h16 : ¬ 3 < (j : Int) - 3 := fun z => h16 ((iN_lt (x := 3) (by omega) (by omega) (by omega) (by omega)).mpr z)
      refine PW_aload_n (i := 0) dX12_nodSet_19 rfl rfl ?_
      refine PW_getR dX12_nodSet_20 fg12_19 (Yt) (Yr4) ?_
      refine PW_iload_n (i := 1) dX12_nodSet_23 rfl rfl ?_
      refine PW_iload dX12_nodSet_24 rfl ?_
      refine PW_ias dX12_nodSet_26 (Yt4) (by omega) (by omega) ?_
      refine PW_nm rfl (fun i2 e2 => ?_)
      have t1 : MH i2 Y (chN (vh (aV s)) a ((j : Int) - 3)) := Rh.n Ah1 (v1.w (Or.inr rfl) e2) (by rw [e2, rI_s])
      have t2 : HV b (chN (vh (aV s)) a ((j : Int) - 3)) := chN_V Ah (by omega) (by omega)
      refine PW_aload_n (i := 0) dX12_nodSet_27 rfl rfl ?_
      refine PW_callV dX12_nodSet_28 moX12_setWay cv12_234 (Yt) (by omega) rfl rfl (Nat.le_of_ble_eq_true rfl) (Nat.le_of_ble_eq_true rfl) (Nat.le_of_ble_eq_true rfl) (spX12_setWay (d := d - 1) hY' t1 t2 (by omega) (by omega)) (fun v M1 hq => ?_)
      obtain ⟨rfl, i3, rfl, sq, sw, sx⟩ := hq
      refine PW_iload_n (i := 3) dX12_nodSet_31 rfl rfl ?_
      refine PW_aload_n (i := 0) dX12_nodSet_32 rfl rfl ?_
      refine PW_iconst (v := 0) dX12_nodSet_33 (by decide) ?_
      refine PW_iconst (v := 0) dX12_nodSet_34 (by decide) ?_
      have e3 := (v1.w (Or.inr rfl) e2).q2 sq (Or.inr rfl)
      refine PW_callV dX12_nodSet_35 moX12_isSeen cv12_237 (Yt) (by omega) rfl rfl (Nat.le_of_ble_eq_true rfl) (Nat.le_of_ble_eq_true rfl) (Nat.le_of_ble_eq_true rfl) (spX12_isSeen (d := d - 1) hY' (y := aV s) (by rw [e3.1 5 (by decide) (by decide) (by decide) (by decide)]; exact Rm.2.2.1) (fun q hq => by rw [(e3.2.2.2 (Y + 7) (by omega) (by omega) (by omega) (by omega) (by omega) (by omega) (by omega)), (e3.2.2.2 (Y + 8) (by omega) (by omega) (by omega) (by omega) (by omega) (by omega) (by omega))]; exact Rm.2.2.2.2.2.1 q hq) Av.2.2.2.2.1 Av2 sw 0 (fr := 0) (by omega)) (fun v M1 hq => ?_)
      obtain ⟨rfl, rfl⟩ := hq
      refine PW_if_eq 50 dX12_nodSet_38 (by decide) (fun h38 => ?_) (fun h38 => ?_)
      · have h38 := b2i_0.mp h38
        refine PW_iconst (v := 0) dX12_nodSet_50 (by decide) ?_
        refine PW_ior dX12_nodSet_51 ?_
        first | refine PW_eqi (or_bit (bitsN_lt _ _) (by omega)) ?_ | refine PW_eqi (or_0 _) ?_
        refine PW_istore_n (i := 3) dX12_nodSet_52 rfl (Nat.le_of_ble_eq_true rfl) rfl ?_
        refine PW_iinc dX12_nodSet_53 rfl (Nat.le_of_ble_eq_true rfl) rfl ?_
        refine PW_goto 13 dX12_nodSet_56 (by decide) ?_
        have q := ih (j + 1) (by omega) (by omega) i3 e3
        have e1 : iN ((j : Int) - 3) + Int32.ofInt 1 = iN (((j + 1 : Nat) : Int) - 3) := by rw [show Int32.ofInt 1 = iN 1 from rfl, iN_add]; congr 1; omega
        rw [← e1] at q
        first | (rw [bitsN_t (n := j) h38] at q; exact q) | (rw [bitsN_f (n := j) (by unfold ndF; rw [h38]; decide)] at q; exact q)
      · have h38 := b2i_n.mp h38
        refine PW_iconst (v := 1) dX12_nodSet_41 (by decide) ?_
        refine PW_iload dX12_nodSet_42 rfl ?_
        refine PW_iconst (v := 3) dX12_nodSet_44 (by decide) ?_
        refine PW_iadd dX12_nodSet_45 ?_
        refine PW_eqi (show _ = nI j by rw [show (3 : Int32) = iN 3 from rfl, iN_add, nI_iN]; congr 1; omega) ?_
        refine PW_ishl dX12_nodSet_46 ?_
        refine PW_goto 51 dX12_nodSet_47 (by decide) ?_
        refine PW_ior dX12_nodSet_51 ?_
        first | refine PW_eqi (or_bit (bitsN_lt _ _) (by omega)) ?_ | refine PW_eqi (or_0 _) ?_
        refine PW_istore_n (i := 3) dX12_nodSet_52 rfl (Nat.le_of_ble_eq_true rfl) rfl ?_
        refine PW_iinc dX12_nodSet_53 rfl (Nat.le_of_ble_eq_true rfl) rfl ?_
        refine PW_goto 13 dX12_nodSet_56 (by decide) ?_
        have q := ih (j + 1) (by omega) (by omega) i3 e3
        have e1 : iN ((j : Int) - 3) + Int32.ofInt 1 = iN (((j + 1 : Nat) : Int) - 3) := by rw [show Int32.ofInt 1 = iN 1 from rfl, iN_add]; congr 1; omega
        rw [← e1] at q
        first | (rw [bitsN_t (n := j) h38] at q; exact q) | (rw [bitsN_f (n := j) (by unfold ndF; rw [h38]; decide)] at q; exact q)
set_option maxRecDepth 100000 in
set_option maxHeartbeats 4000000 in
theorem spX12_nodSet {G : GE} {d : Nat} {i : MI0} {S : MS} {Y : Nat} (hY : YS S Y) {s : Ab} {b : Nat} (hR : MR i S Y s) (hV : AV b s) (hb : b ≤ 100) (hd : 12 ≤ d) {a : Nat} (ha : a < hn (vh (aV s))) : Mt G iX12_nodSet d [.ref Y, .int (nI a)] (i, S) (Wi (nI (ndS (aV s) a)) S (fun i' => EQ2 i i' Y)) := by
  have hY' := hY
  obtain ⟨Yt, ⟨Yt1, Yr1⟩, ⟨Yt2, Yr2⟩, ⟨Yt3, Yr3⟩, ⟨Yt4, Yr4⟩, ⟨Yt5, Yr5⟩, ⟨Yt6, Yr6⟩, ⟨Yt7, Yr7⟩, ⟨Yt8, Yr8⟩, ⟨Yt9, Yr9⟩, ⟨Yt10, Yr10⟩, ⟨Yt11, Yr11⟩, ⟨Yt12, Yr12⟩, ⟨Yt13, Yr13⟩, ⟨Yt14, Yr14⟩, ⟨Yt15, Yr15⟩, ⟨Yt16, Yr16⟩, ⟨Yt17, Yr17⟩, ⟨Yt18, Yr18⟩, ⟨Yt19, Yr19⟩⟩ := hY
  have hR' := hR
  have hV' := hV
  obtain ⟨Rm, Ri0, Ri1, Rk, Rx, Rt, Rl⟩ := hR
  have Rh := Rm.1
  obtain ⟨Av, Ai, At, Ab', Aa, Aw⟩ := hV
  have Ah := Av.1
  have Ah1 := Ah.1
  have Av1 := Av.2.1
  have Av2 := Av.2.2.1
  have Av3 := Av.2.2.2.1
  refine Mt_in 3 (ls := [.ref Y, .int (nI a), .null, .null, .null]) moX12_nodSet (Nat.le_of_ble_eq_true rfl) rfl ?_
  refine PW_aload_n (i := 0) dX12_nodSet_0 rfl rfl ?_
  refine PW_getR dX12_nodSet_1 fg12_19 (Yt) (Yr4) ?_
  refine PW_iload_n (i := 1) dX12_nodSet_4 rfl rfl ?_
  refine PW_ial (v := i (Y + 4) a) dX12_nodSet_5 (Yt4) (by omega) (by omega) (rfl) ?_
  refine PW_istore_n (i := 2) dX12_nodSet_6 rfl (Nat.le_of_ble_eq_true rfl) rfl ?_
  refine PW_iconst (v := 0) dX12_nodSet_7 (by decide) ?_
  refine PW_istore_n (i := 3) dX12_nodSet_8 rfl (Nat.le_of_ble_eq_true rfl) rfl ?_
  refine PW_bipush (v := -3) dX12_nodSet_9 (by decide) ?_
  refine PW_istore dX12_nodSet_11 (Nat.le_of_ble_eq_true rfl) rfl ?_
  exact lpX12_nodSet hY' hR' hV' hb hd ha 8 0 (by omega) (by omega) i (EQ3.rfl' i Y _ a)
set_option maxRecDepth 100000 in
set_option maxHeartbeats 4000000 in
theorem spX12_nod {G : GE} {d : Nat} {i : MI0} {S : MS} {Y : Nat} (hY : YS S Y) {s : Ab} {b : Nat} (hR : MR i S Y s) (hV : AV b s) (hb : b ≤ 100) (hd : 14 ≤ d) (k : Int32) : Mt G iX12_nod d [.ref Y, .int k] (i, S) (OpM Y (i, S) (.int (rNod s k).1) (rNod s k).2) := by
  have hY' := hY
  obtain ⟨Yt, ⟨Yt1, Yr1⟩, ⟨Yt2, Yr2⟩, ⟨Yt3, Yr3⟩, ⟨Yt4, Yr4⟩, ⟨Yt5, Yr5⟩, ⟨Yt6, Yr6⟩, ⟨Yt7, Yr7⟩, ⟨Yt8, Yr8⟩, ⟨Yt9, Yr9⟩, ⟨Yt10, Yr10⟩, ⟨Yt11, Yr11⟩, ⟨Yt12, Yr12⟩, ⟨Yt13, Yr13⟩, ⟨Yt14, Yr14⟩, ⟨Yt15, Yr15⟩, ⟨Yt16, Yr16⟩, ⟨Yt17, Yr17⟩, ⟨Yt18, Yr18⟩, ⟨Yt19, Yr19⟩⟩ := hY
  have hR' := hR
  have hV' := hV
  obtain ⟨Rm, Ri0, Ri1, Rk, Rx, Rt, Rl⟩ := hR
  have Rh := Rm.1
  obtain ⟨Av, Ai, At, Ab', Aa, Aw⟩ := hV
  have Ah := Av.1
  have Ah1 := Ah.1
  have Av1 := Av.2.1
  have Av2 := Av.2.2.1
  have Av3 := Av.2.2.2.1
  refine Mt_in 0 (ls := [.ref Y, .int k]) moX12_nod (Nat.le_of_ble_eq_true rfl) rfl ?_
  refine PW_aload_n (i := 0) dX12_nod_0 rfl rfl ?_
  refine PW_iload_n (i := 1) dX12_nod_1 rfl rfl ?_
  refine PW_callV dX12_nod_2 moX12_isHand cv12_199 (Yt) (by omega) rfl rfl (Nat.le_of_ble_eq_true rfl) (Nat.le_of_ble_eq_true rfl) (Nat.le_of_ble_eq_true rfl) (spX12_isHand (d := d - 1) hY' Rh (by omega) _) (fun v M1 hq => ?_)
  obtain ⟨rfl, rfl⟩ := hq
  refine PW_if_eq 16 dX12_nod_5 (by decide) (fun h5 => ?_) (fun h5 => ?_)
  · have h5 := b1_0.mp h5
    refine PW_aload_n (i := 0) dX12_nod_16 rfl rfl ?_
    refine PW_callV dX12_nod_17 moX12_bad cv12_97 (Yt) (by omega) rfl rfl (Nat.le_of_ble_eq_true rfl) (Nat.le_of_ble_eq_true rfl) (Nat.le_of_ble_eq_true rfl) (spX12_bad (d := d - 1) hY' hR') (fun v M1 hq => ?_)
    obtain ⟨rfl, i1, rfl, c1, c2⟩ := hq
    refine PW_ireturn rfl (rfl) dX12_nod_20 (Nat.le_of_ble_eq_true rfl) (Nat.le_of_ble_eq_true rfl) ?_
    first | exact OpM_i (by unfold rNod; rw [if_pos h5, ek]) hY' (eq.mr hR' hV') eq.fr | exact OpM_i (by unfold rNod; rw [if_neg h5]) hY' c1 (fun q hq => c2 q (by omega))
  · have h5 := b1_1.mp h5
    obtain ⟨j, hj, rfl⟩ := isH_of hV' h5
    have ek : (nI j).toNatClampNeg = j := cln (by omega)
    refine PW_aload_n (i := 0) dX12_nod_8 rfl rfl ?_
    refine PW_iload_n (i := 1) dX12_nod_9 rfl rfl ?_
    refine PW_callV dX12_nod_10 moX12_nodSet cv12_240 (Yt) (by omega) rfl rfl (Nat.le_of_ble_eq_true rfl) (Nat.le_of_ble_eq_true rfl) (Nat.le_of_ble_eq_true rfl) (spX12_nodSet (d := d - 1) hY' hR' hV' hb (by omega) hj) (fun v M1 hq => ?_)
    obtain ⟨rfl, i1, rfl, eq⟩ := hq
    refine PW_goto 20 dX12_nod_13 (by decide) ?_
    refine PW_ireturn rfl (rfl) dX12_nod_20 (Nat.le_of_ble_eq_true rfl) (Nat.le_of_ble_eq_true rfl) ?_
    first | exact OpM_i (by unfold rNod; rw [if_pos h5, ek]) hY' (eq.mr hR' hV') eq.fr | exact OpM_i (by unfold rNod; rw [if_neg h5]) hY' c1 (fun q hq => c2 q (by omega))
set_option maxRecDepth 100000 in
set_option maxHeartbeats 4000000 in
theorem lpX12_is {G : GE} {d : Nat} {i : MI0} {S : MS} {Y : Nat} (hY : YS S Y) {s : Ab} {b : Nat} (hR : MR i S Y s) (hV : AV b s) (hb : b ≤ 100) (hd : 12 ≤ d) {a : Nat} (ha : a < hn (vh (aV s))) (hk : isH s (nI a)) : ∀ (n0 j : Nat), j ≤ 6 → 6 < j + n0 → ∀ (i' : MI0), EQ3 i i' Y (Y + 2) a → PW G iX12_is d (OpM Y (i, S) (.int (rIs s (nI a)).1) (rIs s (nI a)).2) 25 [.ref Y, .int (nI a), .int (i (Y + 2) a), .int (nI (bitsN (rsF (aV s) a) j)), .int (nI j)] [] (i', S) 0 0 := by
  have hY' := hY
  obtain ⟨Yt, ⟨Yt1, Yr1⟩, ⟨Yt2, Yr2⟩, ⟨Yt3, Yr3⟩, ⟨Yt4, Yr4⟩, ⟨Yt5, Yr5⟩, ⟨Yt6, Yr6⟩, ⟨Yt7, Yr7⟩, ⟨Yt8, Yr8⟩, ⟨Yt9, Yr9⟩, ⟨Yt10, Yr10⟩, ⟨Yt11, Yr11⟩, ⟨Yt12, Yr12⟩, ⟨Yt13, Yr13⟩, ⟨Yt14, Yr14⟩, ⟨Yt15, Yr15⟩, ⟨Yt16, Yr16⟩, ⟨Yt17, Yr17⟩, ⟨Yt18, Yr18⟩, ⟨Yt19, Yr19⟩⟩ := hY
  have hR' := hR
  have hV' := hV
  obtain ⟨Rm, Ri0, Ri1, Rk, Rx, Rt, Rl⟩ := hR
  have Rh := Rm.1
  obtain ⟨Av, Ai, At, Ab', Aa, Aw⟩ := hV
  have Ah := Av.1
  have Ah1 := Ah.1
  have Av1 := Av.2.1
  have Av2 := Av.2.2.1
  have Av3 := Av.2.2.2.1
  intro n0
  induction n0 with
  | zero => intro j h1 h2; exact absurd h2 (by omega)
  | succ n0 ih =>
    intro j hj1 hj2 i' v1
    refine PW_iload dX12_is_25 rfl ?_
    refine PW_iconst (v := 5) dX12_is_27 (by decide) ?_
    refine PW_icmp_gt 69 dX12_is_28 (by decide) (fun h28 => ?_) (fun h28 => ?_)
    · have h28 := jlt (a := 5) h28
      have ej : j = 6 := by omega
      subst ej
      refine PW_aload_n (i := 0) dX12_is_69 rfl rfl ?_
      refine PW_getR dX12_is_70 fg12_13 (Yt) (Yr2) ?_
      refine PW_iload_n (i := 1) dX12_is_73 rfl rfl ?_
      refine PW_iload_n (i := 2) dX12_is_74 rfl rfl ?_
      refine PW_ias dX12_is_75 (Yt2) (by omega) (by omega) ?_
      refine PW_nm rfl (fun i5 e5 => ?_)
      refine PW_iload_n (i := 3) dX12_is_76 rfl rfl ?_
      refine PW_ireturn rfl (rfl) dX12_is_77 (Nat.le_of_ble_eq_true rfl) (Nat.le_of_ble_eq_true rfl) ?_
      have eq := v1.e (Or.inl rfl) e5
      exact OpM_i (by unfold rIs; rw [if_pos hk, cln (by omega)]) hY' (eq.mr hR' hV') eq.fr
    · have h28 := jnlt (a := 5) h28
      refine PW_aload_n (i := 0) dX12_is_31 rfl rfl ?_
      refine PW_getR dX12_is_32 fg12_13 (Yt) (Yr2) ?_
      refine PW_iload_n (i := 1) dX12_is_35 rfl rfl ?_
      refine PW_iload dX12_is_36 rfl ?_
      refine PW_ias dX12_is_38 (Yt2) (by omega) (by omega) ?_
      refine PW_nm rfl (fun i2 e2 => ?_)
      have t1 : MH i2 Y (chK (vh (aV s)) a j) := Rh.k Ah1 (v1.w (Or.inl rfl) e2) (by rw [e2, rI_s])
      have t2 : HV b (chK (vh (aV s)) a j) := chK_V Ah (by omega)
      refine PW_aload_n (i := 0) dX12_is_39 rfl rfl ?_
      refine PW_callV dX12_is_40 moX12_setWay cv12_234 (Yt) (by omega) rfl rfl (Nat.le_of_ble_eq_true rfl) (Nat.le_of_ble_eq_true rfl) (Nat.le_of_ble_eq_true rfl) (spX12_setWay (d := d - 1) hY' t1 t2 (by omega) (by omega)) (fun v M1 hq => ?_)
      obtain ⟨rfl, i3, rfl, sq, sw, sx⟩ := hq
      refine PW_iload_n (i := 3) dX12_is_43 rfl rfl ?_
      refine PW_aload_n (i := 0) dX12_is_44 rfl rfl ?_
      refine PW_iconst (v := 0) dX12_is_45 (by decide) ?_
      refine PW_iconst (v := 0) dX12_is_46 (by decide) ?_
      have e3 := (v1.w (Or.inl rfl) e2).q2 sq (Or.inl rfl)
      refine PW_callV dX12_is_47 moX12_isSeen cv12_237 (Yt) (by omega) rfl rfl (Nat.le_of_ble_eq_true rfl) (Nat.le_of_ble_eq_true rfl) (Nat.le_of_ble_eq_true rfl) (spX12_isSeen (d := d - 1) hY' (y := aV s) (by rw [e3.1 5 (by decide) (by decide) (by decide) (by decide)]; exact Rm.2.2.1) (fun q hq => by rw [(e3.2.2.2 (Y + 7) (by omega) (by omega) (by omega) (by omega) (by omega) (by omega) (by omega)), (e3.2.2.2 (Y + 8) (by omega) (by omega) (by omega) (by omega) (by omega) (by omega) (by omega))]; exact Rm.2.2.2.2.2.1 q hq) Av.2.2.2.2.1 Av2 sw 0 (fr := 0) (by omega)) (fun v M1 hq => ?_)
      obtain ⟨rfl, rfl⟩ := hq
      refine PW_if_eq 60 dX12_is_50 (by decide) (fun h50 => ?_) (fun h50 => ?_)
      · have h50 := b2i_0.mp h50
        refine PW_iconst (v := 0) dX12_is_60 (by decide) ?_
        refine PW_ior dX12_is_61 ?_
        first | refine PW_eqi (or_bit (bitsN_lt _ _) (by omega)) ?_ | refine PW_eqi (or_0 _) ?_
        refine PW_istore_n (i := 3) dX12_is_62 rfl (Nat.le_of_ble_eq_true rfl) rfl ?_
        refine PW_inc1 dX12_is_63 rfl (Nat.le_of_ble_eq_true rfl) rfl ?_
        refine PW_goto 25 dX12_is_66 (by decide) ?_
        have q := ih (j + 1) (by omega) (by omega) i3 e3
        first | (rw [bitsN_t (n := j) h50] at q; exact q) | (rw [bitsN_f (n := j) (by unfold rsF; rw [h50]; decide)] at q; exact q)
      · have h50 := b2i_n.mp h50
        refine PW_iconst (v := 1) dX12_is_53 (by decide) ?_
        refine PW_iload dX12_is_54 rfl ?_
        refine PW_ishl dX12_is_56 ?_
        refine PW_goto 61 dX12_is_57 (by decide) ?_
        refine PW_ior dX12_is_61 ?_
        first | refine PW_eqi (or_bit (bitsN_lt _ _) (by omega)) ?_ | refine PW_eqi (or_0 _) ?_
        refine PW_istore_n (i := 3) dX12_is_62 rfl (Nat.le_of_ble_eq_true rfl) rfl ?_
        refine PW_inc1 dX12_is_63 rfl (Nat.le_of_ble_eq_true rfl) rfl ?_
        refine PW_goto 25 dX12_is_66 (by decide) ?_
        have q := ih (j + 1) (by omega) (by omega) i3 e3
        first | (rw [bitsN_t (n := j) h50] at q; exact q) | (rw [bitsN_f (n := j) (by unfold rsF; rw [h50]; decide)] at q; exact q)
set_option maxRecDepth 100000 in
set_option maxHeartbeats 4000000 in
theorem spX12_is {G : GE} {d : Nat} {i : MI0} {S : MS} {Y : Nat} (hY : YS S Y) {s : Ab} {b : Nat} (hR : MR i S Y s) (hV : AV b s) (hb : b ≤ 100) (hd : 12 ≤ d) (k : Int32) : Mt G iX12_is d [.ref Y, .int k] (i, S) (OpM Y (i, S) (.int (rIs s k).1) (rIs s k).2) := by
  have hY' := hY
  obtain ⟨Yt, ⟨Yt1, Yr1⟩, ⟨Yt2, Yr2⟩, ⟨Yt3, Yr3⟩, ⟨Yt4, Yr4⟩, ⟨Yt5, Yr5⟩, ⟨Yt6, Yr6⟩, ⟨Yt7, Yr7⟩, ⟨Yt8, Yr8⟩, ⟨Yt9, Yr9⟩, ⟨Yt10, Yr10⟩, ⟨Yt11, Yr11⟩, ⟨Yt12, Yr12⟩, ⟨Yt13, Yr13⟩, ⟨Yt14, Yr14⟩, ⟨Yt15, Yr15⟩, ⟨Yt16, Yr16⟩, ⟨Yt17, Yr17⟩, ⟨Yt18, Yr18⟩, ⟨Yt19, Yr19⟩⟩ := hY
  have hR' := hR
  have hV' := hV
  obtain ⟨Rm, Ri0, Ri1, Rk, Rx, Rt, Rl⟩ := hR
  have Rh := Rm.1
  obtain ⟨Av, Ai, At, Ab', Aa, Aw⟩ := hV
  have Ah := Av.1
  have Ah1 := Ah.1
  have Av1 := Av.2.1
  have Av2 := Av.2.2.1
  have Av3 := Av.2.2.2.1
  refine Mt_in 3 (ls := [.ref Y, .int k, .null, .null, .null]) moX12_is (Nat.le_of_ble_eq_true rfl) rfl ?_
  refine PW_aload_n (i := 0) dX12_is_0 rfl rfl ?_
  refine PW_iload_n (i := 1) dX12_is_1 rfl rfl ?_
  refine PW_callV dX12_is_2 moX12_isHand cv12_199 (Yt) (by omega) rfl rfl (Nat.le_of_ble_eq_true rfl) (Nat.le_of_ble_eq_true rfl) (Nat.le_of_ble_eq_true rfl) (spX12_isHand (d := d - 1) hY' Rh (by omega) _) (fun v M1 hq => ?_)
  obtain ⟨rfl, rfl⟩ := hq
  refine PW_if_ne 13 dX12_is_5 (by decide) (fun h5 => ?_) (fun h5 => ?_)
  · have h5 := b1_1.mp h5
    obtain ⟨j, hj, rfl⟩ := isH_of hV' h5
    have ek : (nI j).toNatClampNeg = j := cln (by omega)
    refine PW_aload_n (i := 0) dX12_is_13 rfl rfl ?_
    refine PW_getR dX12_is_14 fg12_13 (Yt) (Yr2) ?_
    refine PW_iload_n (i := 1) dX12_is_17 rfl rfl ?_
    refine PW_ial (v := i (Y + 2) j) dX12_is_18 (Yt2) (by omega) (by omega) (rfl) ?_
    refine PW_istore_n (i := 2) dX12_is_19 rfl (Nat.le_of_ble_eq_true rfl) rfl ?_
    refine PW_iconst (v := 0) dX12_is_20 (by decide) ?_
    refine PW_istore_n (i := 3) dX12_is_21 rfl (Nat.le_of_ble_eq_true rfl) rfl ?_
    refine PW_iconst (v := 0) dX12_is_22 (by decide) ?_
    refine PW_istore dX12_is_23 (Nat.le_of_ble_eq_true rfl) rfl ?_
    exact lpX12_is hY' hR' hV' hb hd hj h5 7 0 (by omega) (by omega) i (EQ3.rfl' i Y _ j)
  · have h5 := b1_0.mp h5
    refine PW_aload_n (i := 0) dX12_is_8 rfl rfl ?_
    refine PW_callV dX12_is_9 moX12_bad cv12_97 (Yt) (by omega) rfl rfl (Nat.le_of_ble_eq_true rfl) (Nat.le_of_ble_eq_true rfl) (Nat.le_of_ble_eq_true rfl) (spX12_bad (d := d - 1) hY' hR') (fun v M1 hq => ?_)
    obtain ⟨rfl, i1, rfl, c1, c2⟩ := hq
    refine PW_ireturn rfl (rfl) dX12_is_12 (Nat.le_of_ble_eq_true rfl) (Nat.le_of_ble_eq_true rfl) ?_
    exact OpM_i (by unfold rIs; rw [if_neg h5]) hY' c1 (fun q hq => c2 q (by omega))
set_option maxRecDepth 100000 in
set_option maxHeartbeats 4000000 in
theorem lpX12_pulled {G : GE} {d : Nat} {i : MI0} {S : MS} {Y : Nat} (hY : YS S Y) {s : Ab} {b : Nat} (hR : MR i S Y s) (hV : AV b s) (hb : b ≤ 100) (hd : 12 ≤ d) (c : Int32) (hc : (-9 : Int32) ≤ c ∧ c ≤ 9) {i3 : MI0} (eq : EQ2 i i3 Y) (sw : WYq i3 Y (vh (aV s))) : ∀ (n0 j : Nat), j ≤ 20 → 20 < j + n0 → PW G iX12_pulled d (OpM Y (i, S) (.int (rPulled s c).1) (rPulled s c).2) 24 [.ref Y, .int c, .int (nI (bitsN (fun k => fsB (aV s) (vh (aV s)) c (k + 1)) j)), .int (nI j)] [] (i3, S) 0 0 := by
  have hY' := hY
  obtain ⟨Yt, ⟨Yt1, Yr1⟩, ⟨Yt2, Yr2⟩, ⟨Yt3, Yr3⟩, ⟨Yt4, Yr4⟩, ⟨Yt5, Yr5⟩, ⟨Yt6, Yr6⟩, ⟨Yt7, Yr7⟩, ⟨Yt8, Yr8⟩, ⟨Yt9, Yr9⟩, ⟨Yt10, Yr10⟩, ⟨Yt11, Yr11⟩, ⟨Yt12, Yr12⟩, ⟨Yt13, Yr13⟩, ⟨Yt14, Yr14⟩, ⟨Yt15, Yr15⟩, ⟨Yt16, Yr16⟩, ⟨Yt17, Yr17⟩, ⟨Yt18, Yr18⟩, ⟨Yt19, Yr19⟩⟩ := hY
  have hR' := hR
  have hV' := hV
  obtain ⟨Rm, Ri0, Ri1, Rk, Rx, Rt, Rl⟩ := hR
  have Rh := Rm.1
  obtain ⟨Av, Ai, At, Ab', Aa, Aw⟩ := hV
  have Ah := Av.1
  have Ah1 := Ah.1
  have Av1 := Av.2.1
  have Av2 := Av.2.2.1
  have Av3 := Av.2.2.2.1
  intro n0
  induction n0 with
  | zero => intro j h1 h2; exact absurd h2 (by omega)
  | succ n0 ih =>
    intro j hj1 hj2 
    refine PW_iload_n (i := 3) dX12_pulled_24 rfl rfl ?_
    refine PW_bipush (v := 20) dX12_pulled_25 (by decide) ?_
    refine PW_icmp_ge 57 dX12_pulled_27 (by decide) (fun h27 => ?_) (fun h27 => ?_)
    · have h27 := jle (a := 20) h27
      have ej : j = 20 := by omega
      subst ej
      refine PW_iload_n (i := 2) dX12_pulled_57 rfl rfl ?_
      refine PW_ireturn rfl (rfl) dX12_pulled_58 (Nat.le_of_ble_eq_true rfl) (Nat.le_of_ble_eq_true rfl) ?_
      exact OpM_i (by unfold rPulled; rw [if_pos hc]) hY' (eq.mr hR' hV') eq.fr
    · have h27 := jnle (a := 20) h27
      refine PW_iload_n (i := 2) dX12_pulled_30 rfl rfl ?_
      refine PW_aload_n (i := 0) dX12_pulled_31 rfl rfl ?_
      refine PW_iload_n (i := 1) dX12_pulled_32 rfl rfl ?_
      refine PW_iload_n (i := 3) dX12_pulled_33 rfl rfl ?_
      refine PW_iconst (v := 1) dX12_pulled_34 (by decide) ?_
      refine PW_iadd dX12_pulled_35 ?_
      refine PW_eqi (nI_1 _) ?_
      refine PW_callV dX12_pulled_36 moX12_isSeen cv12_237 (Yt) (by omega) rfl rfl (Nat.le_of_ble_eq_true rfl) (Nat.le_of_ble_eq_true rfl) (Nat.le_of_ble_eq_true rfl) (spX12_isSeen (d := d - 1) hY' (y := aV s) (by rw [eq.1 5 (by decide) (by decide) (by decide) (by decide)]; exact Rm.2.2.1) (fun q hq => by rw [(eq.2.2 (Y + 7) (by omega) (by omega) (by omega) (by omega) (by omega) (by omega)), (eq.2.2 (Y + 8) (by omega) (by omega) (by omega) (by omega) (by omega) (by omega))]; exact Rm.2.2.2.2.2.1 q hq) Av.2.2.2.2.1 Av2 sw c (fr := j + 1) (by omega)) (fun v M1 hq => ?_)
      obtain ⟨rfl, rfl⟩ := hq
      refine PW_if_eq 48 dX12_pulled_39 (by decide) (fun h39 => ?_) (fun h39 => ?_)
      · have h39 := b2i_0.mp h39
        refine PW_iconst (v := 0) dX12_pulled_48 (by decide) ?_
        refine PW_ior dX12_pulled_49 ?_
        first | refine PW_eqi (or_bit (bitsN_lt _ _) (by omega)) ?_ | refine PW_eqi (or_0 _) ?_
        refine PW_istore_n (i := 2) dX12_pulled_50 rfl (Nat.le_of_ble_eq_true rfl) rfl ?_
        refine PW_inc1 dX12_pulled_51 rfl (Nat.le_of_ble_eq_true rfl) rfl ?_
        refine PW_goto 24 dX12_pulled_54 (by decide) ?_
        have q := ih (j + 1) (by omega) (by omega)
        first | (rw [bitsN_t (n := j) h39] at q; exact q) | (rw [bitsN_f (n := j) (by rw [h39]; decide)] at q; exact q)
      · have h39 := b2i_n.mp h39
        refine PW_iconst (v := 1) dX12_pulled_42 (by decide) ?_
        refine PW_iload_n (i := 3) dX12_pulled_43 rfl rfl ?_
        refine PW_ishl dX12_pulled_44 ?_
        refine PW_goto 49 dX12_pulled_45 (by decide) ?_
        refine PW_ior dX12_pulled_49 ?_
        first | refine PW_eqi (or_bit (bitsN_lt _ _) (by omega)) ?_ | refine PW_eqi (or_0 _) ?_
        refine PW_istore_n (i := 2) dX12_pulled_50 rfl (Nat.le_of_ble_eq_true rfl) rfl ?_
        refine PW_inc1 dX12_pulled_51 rfl (Nat.le_of_ble_eq_true rfl) rfl ?_
        refine PW_goto 24 dX12_pulled_54 (by decide) ?_
        have q := ih (j + 1) (by omega) (by omega)
        first | (rw [bitsN_t (n := j) h39] at q; exact q) | (rw [bitsN_f (n := j) (by rw [h39]; decide)] at q; exact q)
set_option maxRecDepth 100000 in
set_option maxHeartbeats 4000000 in
theorem spX12_pulled {G : GE} {d : Nat} {i : MI0} {S : MS} {Y : Nat} (hY : YS S Y) {s : Ab} {b : Nat} (hR : MR i S Y s) (hV : AV b s) (hb : b ≤ 100) (hd : 12 ≤ d) (c : Int32) : Mt G iX12_pulled d [.ref Y, .int c] (i, S) (OpM Y (i, S) (.int (rPulled s c).1) (rPulled s c).2) := by
  have hY' := hY
  obtain ⟨Yt, ⟨Yt1, Yr1⟩, ⟨Yt2, Yr2⟩, ⟨Yt3, Yr3⟩, ⟨Yt4, Yr4⟩, ⟨Yt5, Yr5⟩, ⟨Yt6, Yr6⟩, ⟨Yt7, Yr7⟩, ⟨Yt8, Yr8⟩, ⟨Yt9, Yr9⟩, ⟨Yt10, Yr10⟩, ⟨Yt11, Yr11⟩, ⟨Yt12, Yr12⟩, ⟨Yt13, Yr13⟩, ⟨Yt14, Yr14⟩, ⟨Yt15, Yr15⟩, ⟨Yt16, Yr16⟩, ⟨Yt17, Yr17⟩, ⟨Yt18, Yr18⟩, ⟨Yt19, Yr19⟩⟩ := hY
  have hR' := hR
  have hV' := hV
  obtain ⟨Rm, Ri0, Ri1, Rk, Rx, Rt, Rl⟩ := hR
  have Rh := Rm.1
  obtain ⟨Av, Ai, At, Ab', Aa, Aw⟩ := hV
  have Ah := Av.1
  have Ah1 := Ah.1
  have Av1 := Av.2.1
  have Av2 := Av.2.2.1
  have Av3 := Av.2.2.2.1
  refine Mt_in 2 (ls := [.ref Y, .int c, .null, .null]) moX12_pulled (Nat.le_of_ble_eq_true rfl) rfl ?_
  refine PW_iload_n (i := 1) dX12_pulled_0 rfl rfl ?_
  refine PW_bipush (v := -9) dX12_pulled_1 (by decide) ?_
  refine PW_bipush (v := 9) dX12_pulled_3 (by decide) ?_
  refine PW_callS dX12_pulled_5 moX12_in cs12_93 (by omega) rfl rfl (Nat.le_of_ble_eq_true rfl) (Nat.le_of_ble_eq_true rfl) (Nat.le_of_ble_eq_true rfl) (spX12_in (d := d - 1) _ _ _) (fun v M1 hq => ?_)
  obtain ⟨rfl, rfl⟩ := hq
  refine PW_if_ne 16 dX12_pulled_8 (by decide) (fun h8 => ?_) (fun h8 => ?_)
  · have h8 := b1_1.mp h8
    refine PW_aload_n (i := 0) dX12_pulled_16 rfl rfl ?_
    refine PW_callV dX12_pulled_17 moX12_setWay cv12_234 (Yt) (by omega) rfl rfl (Nat.le_of_ble_eq_true rfl) (Nat.le_of_ble_eq_true rfl) (Nat.le_of_ble_eq_true rfl) (spX12_setWay (d := d - 1) hY' Rh Ah (by omega) (by omega)) (fun v M1 hq => ?_)
    obtain ⟨rfl, i3, rfl, sq, sw, sx⟩ := hq
    refine PW_iconst (v := 0) dX12_pulled_20 (by decide) ?_
    refine PW_istore_n (i := 2) dX12_pulled_21 rfl (Nat.le_of_ble_eq_true rfl) rfl ?_
    refine PW_iconst (v := 0) dX12_pulled_22 (by decide) ?_
    refine PW_istore_n (i := 3) dX12_pulled_23 rfl (Nat.le_of_ble_eq_true rfl) rfl ?_
    exact lpX12_pulled hY' hR' hV' hb hd c h8 sq sw 21 0 (by omega) (by omega)
  · have h8 := b1_0.mp h8
    refine PW_aload_n (i := 0) dX12_pulled_11 rfl rfl ?_
    refine PW_callV dX12_pulled_12 moX12_bad cv12_97 (Yt) (by omega) rfl rfl (Nat.le_of_ble_eq_true rfl) (Nat.le_of_ble_eq_true rfl) (Nat.le_of_ble_eq_true rfl) (spX12_bad (d := d - 1) hY' hR') (fun v M1 hq => ?_)
    obtain ⟨rfl, i1, rfl, c1, c2⟩ := hq
    refine PW_ireturn rfl (rfl) dX12_pulled_15 (Nat.le_of_ble_eq_true rfl) (Nat.le_of_ble_eq_true rfl) ?_
    exact OpM_i (by unfold rPulled; rw [if_neg h8]) hY' c1 (fun q hq => c2 q (by omega))

/-! ===== Text: items, the loop of items ===== -/
def ZQ (i : MI0) (v : Nat) (σ : Nat → Nat) (t L : Nat) (B : Nat → Nat) (z : PT) (i' : MI0) : Prop := VR i' v σ z.2.2 ∧ TKs i' t L B z.1 ∧ i' t 2 = fI z.2.1 ∧ ∀ q, q ≠ t → (q < v ∨ v + 40 < q) → i' q = i q
theorem pLoop_ok {b L : Nat} {B : Nat → Nat} : ∀ (k n : Nat) (z : PT), ZOk b L z → ZOk b L (pLoop L B k n z).2
  | 0, _, _, h => h
  | k + 1, n, z, h => by
    unfold pLoop
    split
    · exact pLoop_ok k _ _ (pStop_ok (pItem_ok h))
    · exact h
theorem vy0_V (b : Nat) : VV b vy0 := by
  refine ⟨⟨Nat.zero_le _, by decide, Nat.zero_le _, ?_, ?_, fun j hj => absurd hj (Nat.not_lt_zero j)⟩, Nat.zero_le _, Nat.zero_le _, Nat.zero_le _, fun j hj => absurd hj (Nat.not_lt_zero j), fun j hj => absurd hj (Nat.not_lt_zero j)⟩
  · show -(3 * (b : Int)) ≤ 0; omega
  · show (0 : Int) ≤ 3 * (b : Int); omega
theorem pBeg_ok {b L : Nat} {B : Nat → Nat} : ZOk b L (pBeg L B) := by
  have h0 : rn pS L B 0 ≤ L := rn_le (Nat.zero_le _)
  unfold pBeg
  split
  · exact pStop_ok ⟨(nx_le h0).1, fun p hp => (by cases hp), vy0_V b⟩
  · exact ⟨h0, fun p hp => Option.some.inj hp ▸ h0, vy0_V b⟩
theorem pAll_ok (b L : Nat) (B : Nat → Nat) : ZOk b L (pAll L B).2 := pLoop_ok _ _ _ pBeg_ok
theorem pLoop_y {L : Nat} {B : Nat → Nat} {k n : Nat} {z : PT} (h : z.2.1 = none) (h2 : ¬ tT L B z.1 = 0) : pLoop L B (k + 1) n z = pLoop L B k (n + 1) (pStop L B (pItem L B z)) := by rw [pLoop, if_pos ⟨h, h2⟩]
theorem pLoop_n {L : Nat} {B : Nat → Nat} {k n : Nat} {z : PT} (h : ¬ (z.2.1 = none ∧ ¬ tT L B z.1 = 0)) : pLoop L B k n z = (n, z) := by
  match k with
  | 0 => rfl
  | k + 1 => rw [pLoop, if_neg h]
theorem TKs.kp {i i' : MI0} {t L : Nat} {B : Nat → Nat} {s : Nat} (h : TKs i t L B s) (e : i' t = i t) (e1 : i' (t + 1) = i (t + 1)) : TKs i' t L B s := by
  unfold TKs TXT
  rw [e, e1]
  exact h
set_option maxRecDepth 100000 in
set_option maxHeartbeats 4000000 in
theorem spX9_parseRock {G : GE} {d : Nat} {i : MI0} {S : MS} {X v : Nat} {σ : Nat → Nat} {t b L : Nat} {B : Nat → Nat} (hS : VS S X v) (hP : PV S v σ) (Ft : TS S t) (hvt : v + 41 ≤ t ∨ t + 2 ≤ v) (hL : L ≤ 150) (hB : ∀ j, j < L → B j < 128) {s : Nat} {f : Option Nat} {y : Vy} (hz : ZOk b L (s, f, y)) (hR : VR i v σ y) (hk : TKs i t L B s) (h2 : i t 2 = fI f) (hd : 12 ≤ d) {sg : Int} : Mt G iX9_parseRock d [.ref t, .ref v, .int (iN sg)] (i, S) (Wr S (ZQ i v σ t L B (pRock L B sg (s, f, y)))) := by
  obtain ⟨hs, hf, hV⟩ := hz
  have hs : s ≤ L := hs
  have hf : ∀ p, f = some p → p ≤ L := hf
  have hV : VV b y := hV
  have hu8 := hV.2.2.2.1
  have hS' := hS
  obtain ⟨Fv0, Fv1, Fv2, Fv3, Fv4, Fvr0, Fvr1, Fvr2, Fvr3, Fvr4, Fvh, Fvp⟩ := hS
  refine Mt_in 1 (ls := [.ref t, .ref v, .int (iN sg), .null]) moX9_parseRock (Nat.le_of_ble_eq_true rfl) rfl ?_
  refine PW_aload_n (i := 1) dX9_parseRock_0 rfl rfl ?_
  refine PW_giv (v := nI (vr y)) dX9_parseRock_1 fg9_67 (Fv0) (hR.1) ?_
  refine PW_bipush (v := 6) dX9_parseRock_4 (by decide) ?_
  have hv6 := hV.2.1
  refine PW_icmp_lt 14 dX9_parseRock_6 (by decide) (fun h6 => ?_) (fun h6 => ?_)
  · have h6 := jlt (b := 6) h6
    refine PW_aload_n (i := 0) dX9_parseRock_14 rfl rfl ?_
    refine PW_callV dX9_parseRock_15 moX9_advance cv9_30 (Ft.1) (by omega) rfl rfl (Nat.le_of_ble_eq_true rfl) (Nat.le_of_ble_eq_true rfl) (Nat.le_of_ble_eq_true rfl) (spX9_advance (d := d - 1) Ft hk.1 hL hB (by omega) (tE_le hs).1 hk.2.2.2.1) (fun v M1 hq => ?_)
    obtain ⟨rfl, i1, rfl, k1, f1, w1⟩ := hq
    refine PW_iload_n (i := 2) dX9_parseRock_18 rfl rfl ?_
    refine PW_aload_n (i := 0) dX9_parseRock_19 rfl rfl ?_
    refine PW_giv (v := tN L B (nx L B s)) dX9_parseRock_20 fg9_70 (Ft.1) (k1.2.2.2.2) ?_
    refine PW_imul dX9_parseRock_23 ?_
    refine PW_istore_n (i := 3) dX9_parseRock_24 rfl (Nat.le_of_ble_eq_true rfl) rfl ?_
    have hs1 := (nx_le (B := B) hs).1
    have hR1 : VR i1 v σ y := hR.kp hP hu8 (fun q h1 h2 => w1 q (by omega))
    refine PW_aload_n (i := 0) dX9_parseRock_25 rfl rfl ?_
    refine PW_bipush (v := 60) dX9_parseRock_26 (by decide) ?_
    refine PW_callV dX9_parseRock_28 moX9_isNumberUpTo cv9_73 (Ft.1) (by omega) rfl rfl (Nat.le_of_ble_eq_true rfl) (Nat.le_of_ble_eq_true rfl) (Nat.le_of_ble_eq_true rfl) (spX9_isNumberUpTo (d := d - 1) (m := 60) Ft hL hB hs1 k1 (by omega)) (fun v M1 hq => ?_)
    obtain ⟨rfl, rfl⟩ := hq
    refine PW_if_eq 42 dX9_parseRock_31 (by decide) (fun h31 => ?_) (fun h31 => ?_)
    · have h31 := b2i_0.mp h31
      refine PW_aload_n (i := 0) dX9_parseRock_42 rfl rfl ?_
      refine PW_callV dX9_parseRock_43 moX9_fail cv9_42 (Ft.1) (by omega) rfl rfl (Nat.le_of_ble_eq_true rfl) (Nat.le_of_ble_eq_true rfl) (Nat.le_of_ble_eq_true rfl) (spX9_fail (d := d - 1) Ft hL hB hs1 k1 hf (f1.trans h2)) (fun v M1 hq => ?_)
      obtain ⟨rfl, i9, rfl, k9, f9, w9⟩ := hq
      refine PW_return rfl dX9_parseRock_46 (Nat.le_of_ble_eq_true rfl) (Nat.le_of_ble_eq_true rfl) ?_
      unfold pRock
      rw [if_neg (show ¬ 6 ≤ vr (s, f, y).2.2 from by show ¬ 6 ≤ vr y; omega), if_neg (show ¬ (isN L B (nx L B s) 60 && !rkB y (iN (sg * (tV L B (nx L B s) : Int)))) = true from by first | (rw [h31, Bool.false_and]; decide) | (rw [h31, h39]; decide))]
      exact Wr_mk rfl ⟨hR1.kp hP hu8 (fun q h1 h2 => w9 q (by omega)), k9, f9, fun q h1 h2 => (w9 q h1).trans (w1 q h1)⟩
    · have h31 := b2i_n.mp h31
      have hv1 := isN_t h31
      have hv2 := tN2 hv1.1
      refine PW_aload_n (i := 1) dX9_parseRock_34 rfl rfl ?_
      refine PW_iload_n (i := 3) dX9_parseRock_35 rfl rfl ?_
      refine PW_eqi (show iN sg * tN L B (nx L B s) = iN (sg * (tV L B (nx L B s) : Int)) by rw [hv2.1, nI_iN, iN_mul]) ?_
      refine PW_callV dX9_parseRock_36 moX10_isRock cv9_77 (Fv0) (by omega) rfl rfl (Nat.le_of_ble_eq_true rfl) (Nat.le_of_ble_eq_true rfl) (Nat.le_of_ble_eq_true rfl) (spX10_isRock (d := d - 1) (by omega) hS' hP hR1 hV _) (fun v M1 hq => ?_)
      obtain ⟨rfl, rfl⟩ := hq
      refine PW_if_eq 47 dX9_parseRock_39 (by decide) (fun h39 => ?_) (fun h39 => ?_)
      · have h39 := b2i_0.mp h39
        refine PW_aload_n (i := 0) dX9_parseRock_47 rfl rfl ?_
        refine PW_callV dX9_parseRock_48 moX9_advance cv9_30 (Ft.1) (by omega) rfl rfl (Nat.le_of_ble_eq_true rfl) (Nat.le_of_ble_eq_true rfl) (Nat.le_of_ble_eq_true rfl) (spX9_advance (d := d - 1) Ft k1.1 hL hB (by omega) (tE_le hs1).1 k1.2.2.2.1) (fun v M1 hq => ?_)
        obtain ⟨rfl, i2, rfl, k2, f2, w2⟩ := hq
        refine PW_aload_n (i := 1) dX9_parseRock_51 rfl rfl ?_
        refine PW_iload_n (i := 3) dX9_parseRock_52 rfl rfl ?_
        refine PW_eqi (show iN sg * tN L B (nx L B s) = iN (sg * (tV L B (nx L B s) : Int)) by rw [hv2.1, nI_iN, iN_mul]) ?_
        have hR2 : VR i2 v σ y := hR1.kp hP hu8 (fun q h1 h2 => w2 q (by omega))
        refine PW_callV dX9_parseRock_53 moX10_addRock cv9_80 (Fv0) (by omega) rfl rfl (Nat.le_of_ble_eq_true rfl) (Nat.le_of_ble_eq_true rfl) (Nat.le_of_ble_eq_true rfl) (spX10_addRock (d := d - 1) (by omega) hS' hP hR2 hV (by omega) _) (fun v M1 hq => ?_)
        obtain ⟨rfl, i3, rfl, a1, a2⟩ := hq
        refine PW_return rfl dX9_parseRock_56 (Nat.le_of_ble_eq_true rfl) (Nat.le_of_ble_eq_true rfl) ?_
        unfold pRock
        rw [if_neg (show ¬ 6 ≤ vr (s, f, y).2.2 from by show ¬ 6 ≤ vr y; omega), if_pos (show (isN L B (nx L B s) 60 && !rkB y (iN (sg * (tV L B (nx L B s) : Int)))) = true from by rw [h31, h39]; rfl)]
        exact Wr_mk rfl ⟨a1, k2.kp (a2 _ (by omega)) (a2 _ (by omega)), by rw [rP, a2 t (by omega), f2, f1]; exact h2, fun q h1 h2 => (a2 q h2).trans ((w2 q h1).trans (w1 q h1))⟩
      · have h39 := b2i_n.mp h39
        refine PW_aload_n (i := 0) dX9_parseRock_42 rfl rfl ?_
        refine PW_callV dX9_parseRock_43 moX9_fail cv9_42 (Ft.1) (by omega) rfl rfl (Nat.le_of_ble_eq_true rfl) (Nat.le_of_ble_eq_true rfl) (Nat.le_of_ble_eq_true rfl) (spX9_fail (d := d - 1) Ft hL hB hs1 k1 hf (f1.trans h2)) (fun v M1 hq => ?_)
        obtain ⟨rfl, i9, rfl, k9, f9, w9⟩ := hq
        refine PW_return rfl dX9_parseRock_46 (Nat.le_of_ble_eq_true rfl) (Nat.le_of_ble_eq_true rfl) ?_
        unfold pRock
        rw [if_neg (show ¬ 6 ≤ vr (s, f, y).2.2 from by show ¬ 6 ≤ vr y; omega), if_neg (show ¬ (isN L B (nx L B s) 60 && !rkB y (iN (sg * (tV L B (nx L B s) : Int)))) = true from by first | (rw [h31, Bool.false_and]; decide) | (rw [h31, h39]; decide))]
        exact Wr_mk rfl ⟨hR1.kp hP hu8 (fun q h1 h2 => w9 q (by omega)), k9, f9, fun q h1 h2 => (w9 q h1).trans (w1 q h1)⟩
  · have h6 := jnlt (b := 6) h6
    refine PW_aload_n (i := 0) dX9_parseRock_9 rfl rfl ?_
    refine PW_callV dX9_parseRock_10 moX9_fail cv9_42 (Ft.1) (by omega) rfl rfl (Nat.le_of_ble_eq_true rfl) (Nat.le_of_ble_eq_true rfl) (Nat.le_of_ble_eq_true rfl) (spX9_fail (d := d - 1) Ft hL hB hs hk hf h2) (fun v M1 hq => ?_)
    obtain ⟨rfl, i9, rfl, k9, f9, w9⟩ := hq
    refine PW_return rfl dX9_parseRock_13 (Nat.le_of_ble_eq_true rfl) (Nat.le_of_ble_eq_true rfl) ?_
    unfold pRock
    rw [if_pos (show 6 ≤ vr (s, f, y).2.2 from h6)]
    exact Wr_mk rfl ⟨hR.kp hP hu8 (fun q h1 h2 => w9 q (by omega)), k9, f9, fun q h1 h2 => w9 q h1⟩
set_option maxRecDepth 100000 in
set_option maxHeartbeats 4000000 in
theorem spX9_parseHand {G : GE} {d : Nat} {i : MI0} {S : MS} {X v : Nat} {σ : Nat → Nat} {t b L : Nat} {B : Nat → Nat} (hS : VS S X v) (hP : PV S v σ) (Ft : TS S t) (hvt : v + 41 ≤ t ∨ t + 2 ≤ v) (hL : L ≤ 150) (hB : ∀ j, j < L → B j < 128) {s : Nat} {f : Option Nat} {y : Vy} (hz : ZOk b L (s, f, y)) (hR : VR i v σ y) (hk : TKs i t L B s) (h2 : i t 2 = fI f) (hd : 12 ≤ d) {sg : Int} : Mt G iX9_parseHand d [.ref t, .ref v, .int (iN sg)] (i, S) (Wr S (ZQ i v σ t L B (pHand L B sg (s, f, y)))) := by
  obtain ⟨hs, hf, hV⟩ := hz
  have hs : s ≤ L := hs
  have hf : ∀ p, f = some p → p ≤ L := hf
  have hV : VV b y := hV
  have hu8 := hV.2.2.2.1
  have hS' := hS
  obtain ⟨Fv0, Fv1, Fv2, Fv3, Fv4, Fvr0, Fvr1, Fvr2, Fvr3, Fvr4, Fvh, Fvp⟩ := hS
  refine Mt_in 3 (ls := [.ref t, .ref v, .int (iN sg), .null, .null, .null]) moX9_parseHand (Nat.le_of_ble_eq_true rfl) rfl ?_
  refine PW_aload_n (i := 1) dX9_parseHand_0 rfl rfl ?_
  refine PW_getR dX9_parseHand_1 fg9_84 (Fv0) (Fvr0) ?_
  refine PW_giv (v := nI (hn (vh y))) dX9_parseHand_4 fg9_88 (Fvh.1) (hR.2.2.2.1.1) ?_
  refine PW_bipush (v := 6) dX9_parseHand_7 (by decide) ?_
  have hv6 := hV.1.1
  refine PW_icmp_lt 17 dX9_parseHand_9 (by decide) (fun h9 => ?_) (fun h9 => ?_)
  · have h9 := jlt (b := 6) h9
    refine PW_aload_n (i := 0) dX9_parseHand_17 rfl rfl ?_
    refine PW_callV dX9_parseHand_18 moX9_advance cv9_30 (Ft.1) (by omega) rfl rfl (Nat.le_of_ble_eq_true rfl) (Nat.le_of_ble_eq_true rfl) (Nat.le_of_ble_eq_true rfl) (spX9_advance (d := d - 1) Ft hk.1 hL hB (by omega) (tE_le hs).1 hk.2.2.2.1) (fun v M1 hq => ?_)
    obtain ⟨rfl, i1, rfl, k1, f1, w1⟩ := hq
    have hs1 := (nx_le (B := B) hs).1
    have g1 : i1 t 2 = fI f := f1.trans h2
    have q1 := pNum_ok (B := B) (m := 5) hs1 hf
    refine PW_aload_n (i := 0) dX9_parseHand_21 rfl rfl ?_
    refine PW_iconst (v := 5) dX9_parseHand_22 (by decide) ?_
    refine PW_callV dX9_parseHand_23 moX9_takeNumberUpTo cv9_93 (Ft.1) (by omega) rfl rfl (Nat.le_of_ble_eq_true rfl) (Nat.le_of_ble_eq_true rfl) (Nat.le_of_ble_eq_true rfl) (spX9_takeNumber (d := d - 1) (m := 5) Ft hL hB hs1 k1 hf g1 (by omega) (by omega)) (fun v M1 hq => ?_)
    obtain ⟨rfl, i2, rfl, k2, f2, w2⟩ := hq
    have q2 := pNum_ok (B := B) (m := 40) q1.1 q1.2
    refine PW_istore_n (i := 3) dX9_parseHand_26 rfl (Nat.le_of_ble_eq_true rfl) rfl ?_
    refine PW_aload_n (i := 0) dX9_parseHand_27 rfl rfl ?_
    refine PW_bipush (v := 40) dX9_parseHand_28 (by decide) ?_
    refine PW_callV dX9_parseHand_30 moX9_takeNumberUpTo cv9_93 (Ft.1) (by omega) rfl rfl (Nat.le_of_ble_eq_true rfl) (Nat.le_of_ble_eq_true rfl) (Nat.le_of_ble_eq_true rfl) (spX9_takeNumber (d := d - 1) (m := 40) Ft hL hB q1.1 k2 q1.2 f2 (by omega) (by omega)) (fun v M1 hq => ?_)
    obtain ⟨rfl, i3, rfl, k3, f3, w3⟩ := hq
    have q3 := pNum_ok (B := B) (m := 3) q2.1 q2.2
    refine PW_istore dX9_parseHand_33 (Nat.le_of_ble_eq_true rfl) rfl ?_
    refine PW_iload_n (i := 2) dX9_parseHand_35 rfl rfl ?_
    refine PW_aload_n (i := 0) dX9_parseHand_36 rfl rfl ?_
    refine PW_iconst (v := 3) dX9_parseHand_37 (by decide) ?_
    refine PW_callV dX9_parseHand_38 moX9_takeNumberUpTo cv9_93 (Ft.1) (by omega) rfl rfl (Nat.le_of_ble_eq_true rfl) (Nat.le_of_ble_eq_true rfl) (Nat.le_of_ble_eq_true rfl) (spX9_takeNumber (d := d - 1) (m := 3) Ft hL hB q2.1 k3 q2.2 f3 (by omega) (by omega)) (fun v M1 hq => ?_)
    obtain ⟨rfl, i4, rfl, k4, f4, w4⟩ := hq
    refine PW_imul dX9_parseHand_41 ?_
    refine PW_istore dX9_parseHand_42 (Nat.le_of_ble_eq_true rfl) rfl ?_
    have hR4 : VR i4 v σ y := hR.kp hP hu8 (fun q h1 h2 => by rw [w4 q (by omega), w3 q (by omega), w2 q (by omega), w1 q (by omega)])
    have fN : fI (pH3 L B (nx L B s) f).2 = -1 ↔ (pH3 L B (nx L B s) f).2 = none := fI_none (fun p hp => by have := q3.2 p hp; omega)
    refine PW_aload_n (i := 0) dX9_parseHand_44 rfl rfl ?_
    refine PW_giv (v := fI (pH3 L B (nx L B s) f).2) dX9_parseHand_45 fg9_24 (Ft.1) (f4) ?_
    refine PW_iconst (v := -1) dX9_parseHand_48 (by decide) ?_
    refine PW_icmp_ne 61 dX9_parseHand_49 (by decide) (fun h49 => ?_) (fun h49 => ?_)
    · have h49 : ¬ (pH3 L B (nx L B s) f).2 = none := fun q => h49 (fN.mpr q)
      refine PW_return rfl dX9_parseHand_61 (Nat.le_of_ble_eq_true rfl) (Nat.le_of_ble_eq_true rfl) ?_
      unfold pHand
      rw [if_neg (show ¬ 6 ≤ hn (vh (s, f, y).2.2) from by show ¬ 6 ≤ hn (vh y); omega)]
      dsimp only
      first
        | (rw [if_pos h49]; exact Wr_mk rfl ⟨a1, k4.kp (a2 _ (by omega)) (a2 _ (by omega)), by rw [rP, a2 t (by omega)]; exact f4, fun q h1 h2 => by rw [rP_f, a2 q h2, w4 q h1, w3 q h1, w2 q h1, w1 q h1]⟩)
        | (rw [if_neg h49]; exact Wr_mk rfl ⟨hR4, k4, f4, fun q h1 h2 => by rw [rP_f, w4 q h1, w3 q h1, w2 q h1, w1 q h1]⟩)
    · have h49 := fN.mp h49
      have e3 := pNum_none h49
      have e2 := pNum_none e3.1
      have e1 := pNum_none e2.1
      have n1 := tN2 (isN_t e1.2).1
      have n2 := tN2 (isN_t e2.2).1
      have n3 := tN2 (isN_t e3.2).1
      refine PW_aload_n (i := 1) dX9_parseHand_52 rfl rfl ?_
      refine PW_iload_n (i := 3) dX9_parseHand_53 rfl rfl ?_
      refine PW_iload dX9_parseHand_54 rfl ?_
      refine PW_iload dX9_parseHand_56 rfl ?_
      refine PW_eqS (show _ = [.int (iN (sg * (tV L B (pH2 L B (nx L B s) f).1 : Int))), .int (nI (tV L B (pH1 L B (nx L B s) f).1)), .int (nI (tV L B (nx L B s))), .ref v] by rw [← n1.1, ← iN_mul, iN_nat, show nI (tV L B (pH1 L B (nx L B s) f).1) = tN L B (pH1 L B (nx L B s) f).1 from n2.1.symm, show nI (tV L B (pH2 L B (nx L B s) f).1) = tN L B (pH2 L B (nx L B s) f).1 from n3.1.symm]; rfl) ?_
      refine PW_callV dX9_parseHand_58 moX10_addHand cv9_97 (Fv0) (by omega) rfl rfl (Nat.le_of_ble_eq_true rfl) (Nat.le_of_ble_eq_true rfl) (Nat.le_of_ble_eq_true rfl) (spX10_addHand (d := d - 1) (by omega) hS' hP hR4 hV (by omega) _ _ _) (fun v M1 hq => ?_)
      obtain ⟨rfl, i5, rfl, a1, a2⟩ := hq
      refine PW_return rfl dX9_parseHand_61 (Nat.le_of_ble_eq_true rfl) (Nat.le_of_ble_eq_true rfl) ?_
      unfold pHand
      rw [if_neg (show ¬ 6 ≤ hn (vh (s, f, y).2.2) from by show ¬ 6 ≤ hn (vh y); omega)]
      dsimp only
      first
        | (rw [if_pos h49]; exact Wr_mk rfl ⟨a1, k4.kp (a2 _ (by omega)) (a2 _ (by omega)), by rw [rP, a2 t (by omega)]; exact f4, fun q h1 h2 => by rw [rP_f, a2 q h2, w4 q h1, w3 q h1, w2 q h1, w1 q h1]⟩)
        | (rw [if_neg h49]; exact Wr_mk rfl ⟨hR4, k4, f4, fun q h1 h2 => by rw [rP_f, w4 q h1, w3 q h1, w2 q h1, w1 q h1]⟩)
  · have h9 := jnlt (b := 6) h9
    refine PW_aload_n (i := 0) dX9_parseHand_12 rfl rfl ?_
    refine PW_callV dX9_parseHand_13 moX9_fail cv9_42 (Ft.1) (by omega) rfl rfl (Nat.le_of_ble_eq_true rfl) (Nat.le_of_ble_eq_true rfl) (Nat.le_of_ble_eq_true rfl) (spX9_fail (d := d - 1) Ft hL hB hs hk hf h2) (fun v M1 hq => ?_)
    obtain ⟨rfl, i9, rfl, k9, f9, w9⟩ := hq
    refine PW_return rfl dX9_parseHand_16 (Nat.le_of_ble_eq_true rfl) (Nat.le_of_ble_eq_true rfl) ?_
    unfold pHand
    rw [if_pos (show 6 ≤ hn (vh (s, f, y).2.2) from h9)]
    exact Wr_mk rfl ⟨hR.kp hP hu8 (fun q h1 h2 => w9 q (by omega)), k9, f9, fun q h1 h2 => w9 q h1⟩
set_option maxRecDepth 100000 in
set_option maxHeartbeats 4000000 in
theorem spX9_parseItem {G : GE} {d : Nat} {i : MI0} {S : MS} {X v : Nat} {σ : Nat → Nat} {t b L : Nat} {B : Nat → Nat} (hS : VS S X v) (hP : PV S v σ) (Ft : TS S t) (hvt : v + 41 ≤ t ∨ t + 2 ≤ v) (hL : L ≤ 150) (hB : ∀ j, j < L → B j < 128) {s : Nat} {f : Option Nat} {y : Vy} (hz : ZOk b L (s, f, y)) (hR : VR i v σ y) (hk : TKs i t L B s) (h2 : i t 2 = fI f) (hd : 14 ≤ d) : Mt G iX9_parseItem d [.ref t, .ref v] (i, S) (Wr S (ZQ i v σ t L B (pItem L B (s, f, y)))) := by
  have hz' := hz
  obtain ⟨hs, hf, hV⟩ := hz
  have hs : s ≤ L := hs
  have hf : ∀ p, f = some p → p ≤ L := hf
  have hV : VV b y := hV
  have hu8 := hV.2.2.2.1
  refine Mt_in 0 (ls := [.ref t, .ref v]) moX9_parseItem (Nat.le_of_ble_eq_true rfl) rfl ?_
  refine PW_aload_n (i := 0) dX9_parseItem_0 rfl rfl ?_
  refine PW_ldcS 1 (by decide) rfl rfl dX9_parseItem_1 ?_
  refine PW_callV dX9_parseItem_3 moX9_isWord cv9_35 (Ft.1) (by omega) rfl rfl (Nat.le_of_ble_eq_true rfl) (Nat.le_of_ble_eq_true rfl) (Nat.le_of_ble_eq_true rfl) (spX9_isWord (d := d - 1) (w := 1) Ft hL hB hs hk (by decide) (by omega)) (fun v M1 hq => ?_)
  obtain ⟨rfl, rfl⟩ := hq
  refine PW_if_eq 18 dX9_parseItem_6 (by decide) (fun h6 => ?_) (fun h6 => ?_)
  · have h6 := b2i_0.mp h6
    refine PW_aload_n (i := 0) dX9_parseItem_18 rfl rfl ?_
    refine PW_ldcS 2 (by decide) rfl rfl dX9_parseItem_19 ?_
    refine PW_callV dX9_parseItem_21 moX9_isWord cv9_35 (Ft.1) (by omega) rfl rfl (Nat.le_of_ble_eq_true rfl) (Nat.le_of_ble_eq_true rfl) (Nat.le_of_ble_eq_true rfl) (spX9_isWord (d := d - 1) (w := 2) Ft hL hB hs hk (by decide) (by omega)) (fun v M1 hq => ?_)
    obtain ⟨rfl, rfl⟩ := hq
    refine PW_if_eq 36 dX9_parseItem_24 (by decide) (fun h24 => ?_) (fun h24 => ?_)
    · have h24 := b2i_0.mp h24
      refine PW_aload_n (i := 0) dX9_parseItem_36 rfl rfl ?_
      refine PW_ldcS 3 (by decide) rfl rfl dX9_parseItem_37 ?_
      refine PW_callV dX9_parseItem_39 moX9_isWord cv9_35 (Ft.1) (by omega) rfl rfl (Nat.le_of_ble_eq_true rfl) (Nat.le_of_ble_eq_true rfl) (Nat.le_of_ble_eq_true rfl) (spX9_isWord (d := d - 1) (w := 3) Ft hL hB hs hk (by decide) (by omega)) (fun v M1 hq => ?_)
      obtain ⟨rfl, rfl⟩ := hq
      refine PW_if_eq 54 dX9_parseItem_42 (by decide) (fun h42 => ?_) (fun h42 => ?_)
      · have h42 := b2i_0.mp h42
        refine PW_aload_n (i := 0) dX9_parseItem_54 rfl rfl ?_
        refine PW_ldcS 4 (by decide) rfl rfl dX9_parseItem_55 ?_
        refine PW_callV dX9_parseItem_57 moX9_isWord cv9_35 (Ft.1) (by omega) rfl rfl (Nat.le_of_ble_eq_true rfl) (Nat.le_of_ble_eq_true rfl) (Nat.le_of_ble_eq_true rfl) (spX9_isWord (d := d - 1) (w := 4) Ft hL hB hs hk (by decide) (by omega)) (fun v M1 hq => ?_)
        obtain ⟨rfl, rfl⟩ := hq
        refine PW_if_eq 72 dX9_parseItem_60 (by decide) (fun h60 => ?_) (fun h60 => ?_)
        · have h60 := b2i_0.mp h60
          refine PW_aload_n (i := 0) dX9_parseItem_72 rfl rfl ?_
          refine PW_callV dX9_parseItem_73 moX9_fail cv9_42 (Ft.1) (by omega) rfl rfl (Nat.le_of_ble_eq_true rfl) (Nat.le_of_ble_eq_true rfl) (Nat.le_of_ble_eq_true rfl) (spX9_fail (d := d - 1) Ft hL hB hs hk hf h2) (fun v M1 hq => ?_)
          obtain ⟨rfl, i9, rfl, k9, f9, w9⟩ := hq
          refine PW_return rfl dX9_parseItem_76 (Nat.le_of_ble_eq_true rfl) (Nat.le_of_ble_eq_true rfl) ?_
          unfold pItem
          dsimp only
          first
            | (rw [h6, if_pos rfl]; exact Wr_mk rfl r1)
            | (rw [h6, if_neg (by decide), h24, if_pos rfl]; exact Wr_mk rfl r1)
            | (rw [h6, if_neg (by decide), h24, if_neg (by decide), h42, if_pos rfl]; exact Wr_mk rfl r1)
            | (rw [h6, if_neg (by decide), h24, if_neg (by decide), h42, if_neg (by decide), h60, if_pos rfl]; exact Wr_mk rfl r1)
            | (rw [h6, if_neg (by decide), h24, if_neg (by decide), h42, if_neg (by decide), h60, if_neg (by decide)]; exact Wr_mk rfl ⟨hR.kp hP hu8 (fun q h1 h2 => w9 q (by omega)), k9, f9, fun q h1 h2 => w9 q h1⟩)
        · have h60 := b2i_n.mp h60
          refine PW_aload_n (i := 0) dX9_parseItem_63 rfl rfl ?_
          refine PW_aload_n (i := 1) dX9_parseItem_64 rfl rfl ?_
          refine PW_iconst (v := -1) dX9_parseItem_65 (by decide) ?_
          refine PW_callV dX9_parseItem_66 moX9_parseHand cv9_62 (Ft.1) (by omega) rfl rfl (Nat.le_of_ble_eq_true rfl) (Nat.le_of_ble_eq_true rfl) (Nat.le_of_ble_eq_true rfl) (spX9_parseHand (d := d - 1) (sg := -1) hS hP Ft hvt hL hB hz' hR hk h2 (by omega)) (fun v M1 hq => ?_)
          obtain ⟨rfl, i1, rfl, r1⟩ := hq
          refine PW_goto 76 dX9_parseItem_69 (by decide) ?_
          refine PW_return rfl dX9_parseItem_76 (Nat.le_of_ble_eq_true rfl) (Nat.le_of_ble_eq_true rfl) ?_
          unfold pItem
          dsimp only
          first
            | (rw [h6, if_pos rfl]; exact Wr_mk rfl r1)
            | (rw [h6, if_neg (by decide), h24, if_pos rfl]; exact Wr_mk rfl r1)
            | (rw [h6, if_neg (by decide), h24, if_neg (by decide), h42, if_pos rfl]; exact Wr_mk rfl r1)
            | (rw [h6, if_neg (by decide), h24, if_neg (by decide), h42, if_neg (by decide), h60, if_pos rfl]; exact Wr_mk rfl r1)
            | (rw [h6, if_neg (by decide), h24, if_neg (by decide), h42, if_neg (by decide), h60, if_neg (by decide)]; exact Wr_mk rfl ⟨hR.kp hP hu8 (fun q h1 h2 => w9 q (by omega)), k9, f9, fun q h1 h2 => w9 q h1⟩)
      · have h42 := b2i_n.mp h42
        refine PW_aload_n (i := 0) dX9_parseItem_45 rfl rfl ?_
        refine PW_aload_n (i := 1) dX9_parseItem_46 rfl rfl ?_
        refine PW_iconst (v := 1) dX9_parseItem_47 (by decide) ?_
        refine PW_callV dX9_parseItem_48 moX9_parseHand cv9_62 (Ft.1) (by omega) rfl rfl (Nat.le_of_ble_eq_true rfl) (Nat.le_of_ble_eq_true rfl) (Nat.le_of_ble_eq_true rfl) (spX9_parseHand (d := d - 1) (sg := 1) hS hP Ft hvt hL hB hz' hR hk h2 (by omega)) (fun v M1 hq => ?_)
        obtain ⟨rfl, i1, rfl, r1⟩ := hq
        refine PW_goto 76 dX9_parseItem_51 (by decide) ?_
        refine PW_return rfl dX9_parseItem_76 (Nat.le_of_ble_eq_true rfl) (Nat.le_of_ble_eq_true rfl) ?_
        unfold pItem
        dsimp only
        first
          | (rw [h6, if_pos rfl]; exact Wr_mk rfl r1)
          | (rw [h6, if_neg (by decide), h24, if_pos rfl]; exact Wr_mk rfl r1)
          | (rw [h6, if_neg (by decide), h24, if_neg (by decide), h42, if_pos rfl]; exact Wr_mk rfl r1)
          | (rw [h6, if_neg (by decide), h24, if_neg (by decide), h42, if_neg (by decide), h60, if_pos rfl]; exact Wr_mk rfl r1)
          | (rw [h6, if_neg (by decide), h24, if_neg (by decide), h42, if_neg (by decide), h60, if_neg (by decide)]; exact Wr_mk rfl ⟨hR.kp hP hu8 (fun q h1 h2 => w9 q (by omega)), k9, f9, fun q h1 h2 => w9 q h1⟩)
    · have h24 := b2i_n.mp h24
      refine PW_aload_n (i := 0) dX9_parseItem_27 rfl rfl ?_
      refine PW_aload_n (i := 1) dX9_parseItem_28 rfl rfl ?_
      refine PW_iconst (v := -1) dX9_parseItem_29 (by decide) ?_
      refine PW_callV dX9_parseItem_30 moX9_parseRock cv9_54 (Ft.1) (by omega) rfl rfl (Nat.le_of_ble_eq_true rfl) (Nat.le_of_ble_eq_true rfl) (Nat.le_of_ble_eq_true rfl) (spX9_parseRock (d := d - 1) (sg := -1) hS hP Ft hvt hL hB hz' hR hk h2 (by omega)) (fun v M1 hq => ?_)
      obtain ⟨rfl, i1, rfl, r1⟩ := hq
      refine PW_goto 76 dX9_parseItem_33 (by decide) ?_
      refine PW_return rfl dX9_parseItem_76 (Nat.le_of_ble_eq_true rfl) (Nat.le_of_ble_eq_true rfl) ?_
      unfold pItem
      dsimp only
      first
        | (rw [h6, if_pos rfl]; exact Wr_mk rfl r1)
        | (rw [h6, if_neg (by decide), h24, if_pos rfl]; exact Wr_mk rfl r1)
        | (rw [h6, if_neg (by decide), h24, if_neg (by decide), h42, if_pos rfl]; exact Wr_mk rfl r1)
        | (rw [h6, if_neg (by decide), h24, if_neg (by decide), h42, if_neg (by decide), h60, if_pos rfl]; exact Wr_mk rfl r1)
        | (rw [h6, if_neg (by decide), h24, if_neg (by decide), h42, if_neg (by decide), h60, if_neg (by decide)]; exact Wr_mk rfl ⟨hR.kp hP hu8 (fun q h1 h2 => w9 q (by omega)), k9, f9, fun q h1 h2 => w9 q h1⟩)
  · have h6 := b2i_n.mp h6
    refine PW_aload_n (i := 0) dX9_parseItem_9 rfl rfl ?_
    refine PW_aload_n (i := 1) dX9_parseItem_10 rfl rfl ?_
    refine PW_iconst (v := 1) dX9_parseItem_11 (by decide) ?_
    refine PW_callV dX9_parseItem_12 moX9_parseRock cv9_54 (Ft.1) (by omega) rfl rfl (Nat.le_of_ble_eq_true rfl) (Nat.le_of_ble_eq_true rfl) (Nat.le_of_ble_eq_true rfl) (spX9_parseRock (d := d - 1) (sg := 1) hS hP Ft hvt hL hB hz' hR hk h2 (by omega)) (fun v M1 hq => ?_)
    obtain ⟨rfl, i1, rfl, r1⟩ := hq
    refine PW_goto 76 dX9_parseItem_15 (by decide) ?_
    refine PW_return rfl dX9_parseItem_76 (Nat.le_of_ble_eq_true rfl) (Nat.le_of_ble_eq_true rfl) ?_
    unfold pItem
    dsimp only
    first
      | (rw [h6, if_pos rfl]; exact Wr_mk rfl r1)
      | (rw [h6, if_neg (by decide), h24, if_pos rfl]; exact Wr_mk rfl r1)
      | (rw [h6, if_neg (by decide), h24, if_neg (by decide), h42, if_pos rfl]; exact Wr_mk rfl r1)
      | (rw [h6, if_neg (by decide), h24, if_neg (by decide), h42, if_neg (by decide), h60, if_pos rfl]; exact Wr_mk rfl r1)
      | (rw [h6, if_neg (by decide), h24, if_neg (by decide), h42, if_neg (by decide), h60, if_neg (by decide)]; exact Wr_mk rfl ⟨hR.kp hP hu8 (fun q h1 h2 => w9 q (by omega)), k9, f9, fun q h1 h2 => w9 q h1⟩)
set_option maxRecDepth 100000 in
set_option maxHeartbeats 4000000 in
theorem lpX9_parse {G : GE} {d : Nat} {i : MI0} {S : MS} {X v : Nat} {σ : Nat → Nat} {t b L : Nat} {B : Nat → Nat} (hS : VS S X v) (hP : PV S v σ) (Ft : TS S t) (hvt : v + 41 ≤ t ∨ t + 2 ≤ v) (hL : L ≤ 150) (hB : ∀ j, j < L → B j < 128) (hd : 16 ≤ d) : ∀ (n0 j : Nat), j ≤ 150 → 150 < j + n0 → ∀ (i' : MI0) (z : PT), ZOk b L z → ZQ i v σ t L B z i' → PW G iX9_parse d (Wi (nI (pLoop L B (150 - j) j z).1) S (ZQ i v σ t L B (pLoop L B (150 - j) j z).2)) 44 [.ref t, .ref v, .int (nI j)] [] (i', S) 0 0 := by
  intro n0
  induction n0 with
  | zero => intro j h1 h2; exact absurd h2 (by omega)
  | succ n0 ih =>
    intro j hj1 hj2 i' z hz r0
    have fN : fI z.2.1 = -1 ↔ z.2.1 = none := fI_none (fun p hp => by have := hz.2.1 p hp; omega)
    have ht4 := tT_le L B z.1
    refine PW_iload_n (i := 2) dX9_parse_44 rfl rfl ?_
    refine PW_sipush (v := 150) dX9_parse_45 (by decide) ?_
    refine PW_icmp_ge 81 dX9_parse_48 (by decide) (fun h48 => ?_) (fun h48 => ?_)
    · have h48 := jle (a := 150) h48
      refine PW_iload_n (i := 2) dX9_parse_81 rfl rfl ?_
      refine PW_ireturn rfl (rfl) dX9_parse_82 (Nat.le_of_ble_eq_true rfl) (Nat.le_of_ble_eq_true rfl) ?_
      first
        | (rw [show 150 - j = 0 by omega]; exact Wi_mk rfl rfl r0)
        | (rw [pLoop_n (fun q => h56 q.1)]; exact Wi_mk rfl rfl r0)
        | (rw [pLoop_n (fun q => q.2 h63)]; exact Wi_mk rfl rfl r0)
    · have h48 := jnle (a := 150) h48
      refine PW_aload_n (i := 0) dX9_parse_51 rfl rfl ?_
      refine PW_giv (v := fI z.2.1) dX9_parse_52 fg9_24 (Ft.1) (r0.2.2.1) ?_
      refine PW_iconst (v := -1) dX9_parse_55 (by decide) ?_
      refine PW_icmp_ne 81 dX9_parse_56 (by decide) (fun h56 => ?_) (fun h56 => ?_)
      · have h56 : ¬ z.2.1 = none := fun q => h56 (fN.mpr q)
        refine PW_iload_n (i := 2) dX9_parse_81 rfl rfl ?_
        refine PW_ireturn rfl (rfl) dX9_parse_82 (Nat.le_of_ble_eq_true rfl) (Nat.le_of_ble_eq_true rfl) ?_
        first
          | (rw [show 150 - j = 0 by omega]; exact Wi_mk rfl rfl r0)
          | (rw [pLoop_n (fun q => h56 q.1)]; exact Wi_mk rfl rfl r0)
          | (rw [pLoop_n (fun q => q.2 h63)]; exact Wi_mk rfl rfl r0)
      · have h56 := fN.mp h56
        refine PW_aload_n (i := 0) dX9_parse_59 rfl rfl ?_
        refine PW_giv (v := nI (tT L B z.1)) dX9_parse_60 fg9_45 (Ft.1) (r0.2.1.2.1) ?_
        refine PW_if_eq 81 dX9_parse_63 (by decide) (fun h63 => ?_) (fun h63 => ?_)
        · have h63 := jeq (b := 0) h63
          refine PW_iload_n (i := 2) dX9_parse_81 rfl rfl ?_
          refine PW_ireturn rfl (rfl) dX9_parse_82 (Nat.le_of_ble_eq_true rfl) (Nat.le_of_ble_eq_true rfl) ?_
          first
            | (rw [show 150 - j = 0 by omega]; exact Wi_mk rfl rfl r0)
            | (rw [pLoop_n (fun q => h56 q.1)]; exact Wi_mk rfl rfl r0)
            | (rw [pLoop_n (fun q => q.2 h63)]; exact Wi_mk rfl rfl r0)
        · have h63 : ¬ tT L B z.1 = 0 := fun q => h63 (by rw [q]; rfl)
          refine PW_aload_n (i := 0) dX9_parse_66 rfl rfl ?_
          refine PW_aload_n (i := 1) dX9_parse_67 rfl rfl ?_
          refine PW_callV dX9_parse_68 moX9_parseItem cv9_48 (Ft.1) (by omega) rfl rfl (Nat.le_of_ble_eq_true rfl) (Nat.le_of_ble_eq_true rfl) (Nat.le_of_ble_eq_true rfl) (spX9_parseItem (d := d - 1) hS hP Ft hvt hL hB (s := z.1) (f := z.2.1) (y := z.2.2) hz r0.1 r0.2.1 r0.2.2.1 (by omega)) (fun v M1 hq => ?_)
          obtain ⟨rfl, i1, rfl, r1⟩ := hq
          have hz1 := pItem_ok (B := B) hz
          refine PW_aload_n (i := 0) dX9_parse_71 rfl rfl ?_
          refine PW_callV dX9_parse_72 moX9_expectStop cv9_39 (Ft.1) (by omega) rfl rfl (Nat.le_of_ble_eq_true rfl) (Nat.le_of_ble_eq_true rfl) (Nat.le_of_ble_eq_true rfl) (spX9_expectStop (d := d - 1) Ft hL hB hz1.1 r1.2.1 hz1.2.1 r1.2.2.1 (by omega) (pItem L B z).2.2) (fun v M1 hq => ?_)
          obtain ⟨rfl, i2, rfl, k2, f2, w2⟩ := hq
          have hz2 := pStop_ok (B := B) hz1
          refine PW_inc1 dX9_parse_75 rfl (Nat.le_of_ble_eq_true rfl) rfl ?_
          refine PW_goto 44 dX9_parse_78 (by decide) ?_
          have e : (pStop L B (pItem L B z)).2.2 = (pItem L B z).2.2 := by unfold pStop; split <;> rfl
          have q := ih (j + 1) (by omega) (by omega) i2 (pStop L B (pItem L B z)) hz2 ⟨by rw [e]; exact r1.1.kp hP hz1.2.2.2.2.2.1 (fun q h1 h2 => w2 q (by omega)), k2, f2, fun q h1 h2 => (w2 q h1).trans ((r1.2.2.2 q h1 h2).trans (r0.2.2.2 q h1 h2))⟩
          rw [show 150 - j = (150 - (j + 1)) + 1 by omega, pLoop_y h56 h63]
          exact q

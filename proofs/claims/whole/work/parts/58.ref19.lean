/-! ===== the reference: items of a text ===== -/
theorem chr0 : ∀ w, w < 5 → ∀ v, v < 5 → (w = v ∨ (w = 1 ∧ v = 2) ∨ (w = 2 ∧ v = 1) ∨ ¬ chr w 0 = chr v 0) := by decide
theorem chr12 : chr 1 1 ≠ chr 2 1 := by decide
theorem isW_ch {L : Nat} {B : Nat → Nat} {s w k : Nat} (h : isW L B s w = true) (hk : k < 4) : nI (B (s + k)) = chr w k := by
  unfold isW at h
  rw [Bool.and_eq_true, Bool.and_eq_true] at h
  exact of_decide_eq_true (allB_iff.mp h.2.2 k hk)
theorem isW_ne {L : Nat} {B : Nat → Nat} {s w v : Nat} (h : isW L B s w = true) (hw : w < 5) (hv : v < 5) (hne : w ≠ v) : isW L B s v = false := by
  cases q : isW L B s v with
  | false => rfl
  | true =>
    exfalso
    have a0 := (isW_ch h (k := 0) (by decide)).symm.trans (isW_ch q (k := 0) (by decide))
    have a1 := (isW_ch h (k := 1) (by decide)).symm.trans (isW_ch q (k := 1) (by decide))
    by_cases e1 : w = 1 ∧ v = 2
    · rw [e1.1, e1.2] at a1; exact chr12 a1
    · by_cases e2 : w = 2 ∧ v = 1
      · rw [e2.1, e2.2] at a1; exact chr12 a1.symm
      · rcases chr0 w hw v hv with z | z | z | z
        · exact hne z
        · exact e1 z
        · exact e2 z
        · exact z a0
theorem pItem_w {L : Nat} {B : Nat → Nat} {s : Nat} {y : Vy} : (isW L B s 1 = true → pItem L B (s, none, y) = pRock L B 1 (s, none, y)) ∧ (isW L B s 2 = true → pItem L B (s, none, y) = pRock L B (-1) (s, none, y)) ∧ (isW L B s 3 = true → pItem L B (s, none, y) = pHand L B 1 (s, none, y)) ∧ (isW L B s 4 = true → pItem L B (s, none, y) = pHand L B (-1) (s, none, y)) ∧ (isW L B s 1 = false → isW L B s 2 = false → isW L B s 3 = false → isW L B s 4 = false → pItem L B (s, none, y) = (s, some s, y)) := by
  unfold pItem
  dsimp only
  refine ⟨fun h => ?_, fun h => ?_, fun h => ?_, fun h => ?_, fun h1 h2 h3 h4 => ?_⟩
  · rw [h, if_pos rfl]
  · rw [isW_ne h (by decide) (v := 1) (by decide) (by decide), h]; rfl
  · rw [isW_ne h (by decide) (v := 1) (by decide) (by decide), isW_ne h (by decide) (v := 2) (by decide) (by decide), h]; rfl
  · rw [isW_ne h (by decide) (v := 1) (by decide) (by decide), isW_ne h (by decide) (v := 2) (by decide) (by decide), isW_ne h (by decide) (v := 3) (by decide) (by decide), h]; rfl
  · rw [h1, h2, h3, h4]; rfl
theorem rI_s15 {i i2 : MI0} {S : MS} {Y s : Nat} (e2 : i2 = mi (wI (i, S) Y 15 (nI s))) : i2 Y 15 = nI s := by rw [e2]; exact rI_s _ _ _ _
theorem RRq.f {L : Nat} {B : Nat → Nat} {z : PT} {i i1 i' : MI0} {Y : Nat} (h : RRq L B z i1 Y i') (hf : RDf i i1 Y) : RRq L B z i Y i' := ⟨h.1, h.2.1, hf.trans h.2.2⟩
set_option maxRecDepth 100000 in
set_option maxHeartbeats 4000000 in
theorem spX12_readsItemN {G : GE} {d : Nat} {i : MI0} {S : MS} {Y : Nat} (hY : YS S Y) {L : Nat} {B : Nat → Nat} (hT : i Y 14 = nI L ∧ ∀ j, j < L → i (Y + 9) j = nI (B j)) (hL : L ≤ 150) (hB : ∀ j, j < L → B j < 128) {y : Vy} {b : Nat} (hZ : ZRq i Y y) (hV : VV b y) (hd : 10 ≤ d) {s : Nat} (hs : s ≤ L) (h15 : i Y 15 = nI s) (hw0 : isW L B s 0 = false) (hw1 : isW L B s 1 = false) (hw2 : isW L B s 2 = false) (hw3 : isW L B s 3 = false) (hw4 : isW L B s 4 = false) : Mt G iX12_readsItem d [.ref Y] (i, S) (Wi (b1 ((pStop L B (pItem L B (s, none, y))).2.1 = none)) S (RRq L B (pStop L B (pItem L B (s, none, y))) i Y)) := by
  have hY' := hY
  obtain ⟨Yt, ⟨Yt1, Yr1⟩, ⟨Yt2, Yr2⟩, ⟨Yt3, Yr3⟩, ⟨Yt4, Yr4⟩, ⟨Yt5, Yr5⟩, ⟨Yt6, Yr6⟩, ⟨Yt7, Yr7⟩, ⟨Yt8, Yr8⟩, ⟨Yt9, Yr9⟩, ⟨Yt10, Yr10⟩, ⟨Yt11, Yr11⟩, ⟨Yt12, Yr12⟩, ⟨Yt13, Yr13⟩, ⟨Yt14, Yr14⟩, ⟨Yt15, Yr15⟩, ⟨Yt16, Yr16⟩, ⟨Yt17, Yr17⟩, ⟨Yt18, Yr18⟩, ⟨Yt19, Yr19⟩⟩ := hY
  refine Mt_in 3 (ls := [.ref Y, .null, .null, .null]) moX12_readsItem (Nat.le_of_ble_eq_true rfl) rfl ?_
  refine PW_aload_n (i := 0) dX12_readsItem_0 rfl rfl ?_
  refine PW_callV dX12_readsItem_1 moX12_wordHere cv12_164 (Yt) (by omega) rfl rfl (Nat.le_of_ble_eq_true rfl) (Nat.le_of_ble_eq_true rfl) (Nat.le_of_ble_eq_true rfl) (spX12_wordHere (d := d - 1) hY' hT hL hB hs h15 (by omega)) (fun v M1 hq => ?_)
  obtain ⟨rfl, rfl⟩ := hq
  rw [show whI L B s = -1 from by unfold whI; rw [hw0, hw1, hw2, hw3, hw4]; rfl]
  refine PW_istore_n (i := 1) dX12_readsItem_4 rfl (Nat.le_of_ble_eq_true rfl) rfl ?_
  refine PW_iload_n (i := 1) dX12_readsItem_5 rfl rfl ?_
  refine PW_iconst (v := 1) dX12_readsItem_6 (by decide) ?_
  refine PW_icmp_lt 38 dX12_readsItem_7 (by decide) (fun _ => ?_) (fun q => absurd q (by decide))
  refine PW_iconst (v := 1) dX12_readsItem_38 (by decide) ?_
  refine PW_goto 43 dX12_readsItem_39 (by decide) ?_
  refine PW_istore_n (i := 2) dX12_readsItem_43 rfl (Nat.le_of_ble_eq_true rfl) rfl ?_
  refine PW_iload_n (i := 2) dX12_readsItem_44 rfl rfl ?_
  refine PW_if_eq 50 dX12_readsItem_45 (by decide) (fun q => absurd q (by decide)) (fun _ => ?_)
  refine PW_iconst (v := 0) dX12_readsItem_48 (by decide) ?_
  refine PW_ireturn rfl (rfl) dX12_readsItem_49 (Nat.le_of_ble_eq_true rfl) (Nat.le_of_ble_eq_true rfl) ?_
  rw [pItem_w.2.2.2.2 hw1 hw2 hw3 hw4]
  exact fail_RR rfl h15 (RDf.rfl' i Y)
set_option maxRecDepth 100000 in
set_option maxHeartbeats 4000000 in
theorem spX12_readsItem0 {G : GE} {d : Nat} {i : MI0} {S : MS} {Y : Nat} (hY : YS S Y) {L : Nat} {B : Nat → Nat} (hT : i Y 14 = nI L ∧ ∀ j, j < L → i (Y + 9) j = nI (B j)) (hL : L ≤ 150) (hB : ∀ j, j < L → B j < 128) {y : Vy} {b : Nat} (hZ : ZRq i Y y) (hV : VV b y) (hd : 10 ≤ d) {s : Nat} (hs : s ≤ L) (h15 : i Y 15 = nI s) (hw : isW L B s 0 = true) : Mt G iX12_readsItem d [.ref Y] (i, S) (Wi (b1 ((pStop L B (pItem L B (s, none, y))).2.1 = none)) S (RRq L B (pStop L B (pItem L B (s, none, y))) i Y)) := by
  have hY' := hY
  obtain ⟨Yt, ⟨Yt1, Yr1⟩, ⟨Yt2, Yr2⟩, ⟨Yt3, Yr3⟩, ⟨Yt4, Yr4⟩, ⟨Yt5, Yr5⟩, ⟨Yt6, Yr6⟩, ⟨Yt7, Yr7⟩, ⟨Yt8, Yr8⟩, ⟨Yt9, Yr9⟩, ⟨Yt10, Yr10⟩, ⟨Yt11, Yr11⟩, ⟨Yt12, Yr12⟩, ⟨Yt13, Yr13⟩, ⟨Yt14, Yr14⟩, ⟨Yt15, Yr15⟩, ⟨Yt16, Yr16⟩, ⟨Yt17, Yr17⟩, ⟨Yt18, Yr18⟩, ⟨Yt19, Yr19⟩⟩ := hY
  refine Mt_in 3 (ls := [.ref Y, .null, .null, .null]) moX12_readsItem (Nat.le_of_ble_eq_true rfl) rfl ?_
  refine PW_aload_n (i := 0) dX12_readsItem_0 rfl rfl ?_
  refine PW_callV dX12_readsItem_1 moX12_wordHere cv12_164 (Yt) (by omega) rfl rfl (Nat.le_of_ble_eq_true rfl) (Nat.le_of_ble_eq_true rfl) (Nat.le_of_ble_eq_true rfl) (spX12_wordHere (d := d - 1) hY' hT hL hB hs h15 (by omega)) (fun v M1 hq => ?_)
  obtain ⟨rfl, rfl⟩ := hq
  rw [show whI L B s = 0 from by unfold whI; rw [hw]; rfl]
  refine PW_istore_n (i := 1) dX12_readsItem_4 rfl (Nat.le_of_ble_eq_true rfl) rfl ?_
  refine PW_iload_n (i := 1) dX12_readsItem_5 rfl rfl ?_
  refine PW_iconst (v := 1) dX12_readsItem_6 (by decide) ?_
  refine PW_icmp_lt 38 dX12_readsItem_7 (by decide) (fun _ => ?_) (fun q => absurd q (by decide))
  refine PW_iconst (v := 1) dX12_readsItem_38 (by decide) ?_
  refine PW_goto 43 dX12_readsItem_39 (by decide) ?_
  refine PW_istore_n (i := 2) dX12_readsItem_43 rfl (Nat.le_of_ble_eq_true rfl) rfl ?_
  refine PW_iload_n (i := 2) dX12_readsItem_44 rfl rfl ?_
  refine PW_if_eq 50 dX12_readsItem_45 (by decide) (fun q => absurd q (by decide)) (fun _ => ?_)
  refine PW_iconst (v := 0) dX12_readsItem_48 (by decide) ?_
  refine PW_ireturn rfl (rfl) dX12_readsItem_49 (Nat.le_of_ble_eq_true rfl) (Nat.le_of_ble_eq_true rfl) ?_
  rw [pItem_w.2.2.2.2 (isW_ne hw (by decide) (by decide) (by decide)) (isW_ne hw (by decide) (by decide) (by decide)) (isW_ne hw (by decide) (by decide) (by decide)) (isW_ne hw (by decide) (by decide) (by decide))]
  exact fail_RR rfl h15 (RDf.rfl' i Y)
set_option maxRecDepth 100000 in
set_option maxHeartbeats 4000000 in
theorem spX12_readsItem1F {G : GE} {d : Nat} {i : MI0} {S : MS} {Y : Nat} (hY : YS S Y) {L : Nat} {B : Nat → Nat} (hT : i Y 14 = nI L ∧ ∀ j, j < L → i (Y + 9) j = nI (B j)) (hL : L ≤ 150) (hB : ∀ j, j < L → B j < 128) {y : Vy} {b : Nat} (hZ : ZRq i Y y) (hV : VV b y) (hd : 10 ≤ d) {s : Nat} (hs : s ≤ L) (h15 : i Y 15 = nI s) (hw : isW L B s 1 = true) (h6 : (vr y) = 6) : Mt G iX12_readsItem d [.ref Y] (i, S) (Wi (b1 ((pStop L B (pItem L B (s, none, y))).2.1 = none)) S (RRq L B (pStop L B (pItem L B (s, none, y))) i Y)) := by
  have hY' := hY
  obtain ⟨Yt, ⟨Yt1, Yr1⟩, ⟨Yt2, Yr2⟩, ⟨Yt3, Yr3⟩, ⟨Yt4, Yr4⟩, ⟨Yt5, Yr5⟩, ⟨Yt6, Yr6⟩, ⟨Yt7, Yr7⟩, ⟨Yt8, Yr8⟩, ⟨Yt9, Yr9⟩, ⟨Yt10, Yr10⟩, ⟨Yt11, Yr11⟩, ⟨Yt12, Yr12⟩, ⟨Yt13, Yr13⟩, ⟨Yt14, Yr14⟩, ⟨Yt15, Yr15⟩, ⟨Yt16, Yr16⟩, ⟨Yt17, Yr17⟩, ⟨Yt18, Yr18⟩, ⟨Yt19, Yr19⟩⟩ := hY
  refine Mt_in 3 (ls := [.ref Y, .null, .null, .null]) moX12_readsItem (Nat.le_of_ble_eq_true rfl) rfl ?_
  refine PW_aload_n (i := 0) dX12_readsItem_0 rfl rfl ?_
  refine PW_callV dX12_readsItem_1 moX12_wordHere cv12_164 (Yt) (by omega) rfl rfl (Nat.le_of_ble_eq_true rfl) (Nat.le_of_ble_eq_true rfl) (Nat.le_of_ble_eq_true rfl) (spX12_wordHere (d := d - 1) hY' hT hL hB hs h15 (by omega)) (fun v M1 hq => ?_)
  obtain ⟨rfl, rfl⟩ := hq
  rw [show whI L B s = 1 from by unfold whI; rw [isW_ne hw (by decide) (v := 0) (by decide) (by decide), hw]; rfl]
  refine PW_istore_n (i := 1) dX12_readsItem_4 rfl (Nat.le_of_ble_eq_true rfl) rfl ?_
  refine PW_iload_n (i := 1) dX12_readsItem_5 rfl rfl ?_
  refine PW_iconst (v := 1) dX12_readsItem_6 (by decide) ?_
  refine PW_icmp_lt 38 dX12_readsItem_7 (by decide) (fun q => absurd q (by decide)) (fun _ => ?_)
  refine PW_iload_n (i := 1) dX12_readsItem_10 rfl rfl ?_
  refine PW_iconst (v := 3) dX12_readsItem_11 (by decide) ?_
  refine PW_icmp_ge 24 dX12_readsItem_12 (by decide) (fun q => absurd q (by decide)) (fun _ => ?_)
  refine PW_aload_n (i := 0) dX12_readsItem_15 rfl rfl ?_
  refine PW_giv (v := nI (vr y)) dX12_readsItem_16 fg12_154 (Yt) (hZ.1) ?_
  refine PW_bipush (v := 6) dX12_readsItem_19 (by decide) ?_
  refine PW_icmp_eq 38 dX12_readsItem_21 (by decide) (fun _ => ?_) (fun q => absurd (show nI (vr y) = 6 by rw [h6]; rfl) q)
  refine PW_iconst (v := 1) dX12_readsItem_38 (by decide) ?_
  refine PW_goto 43 dX12_readsItem_39 (by decide) ?_
  refine PW_istore_n (i := 2) dX12_readsItem_43 rfl (Nat.le_of_ble_eq_true rfl) rfl ?_
  refine PW_iload_n (i := 2) dX12_readsItem_44 rfl rfl ?_
  refine PW_if_eq 50 dX12_readsItem_45 (by decide) (fun q => absurd q (by decide)) (fun _ => ?_)
  refine PW_iconst (v := 0) dX12_readsItem_48 (by decide) ?_
  refine PW_ireturn rfl (rfl) dX12_readsItem_49 (Nat.le_of_ble_eq_true rfl) (Nat.le_of_ble_eq_true rfl) ?_
  rw [show pItem L B (s, none, y) = (s, some s, y) from by rw [pItem_w.1 hw]; unfold pRock; rw [if_pos (show 6 ≤ vr (s, (none : Option Nat), y).2.2 from by show 6 ≤ (vr y); omega)]; rfl]
  exact fail_RR rfl h15 (RDf.rfl' i Y)
set_option maxRecDepth 100000 in
set_option maxHeartbeats 4000000 in
theorem spX12_readsItem1 {G : GE} {d : Nat} {i : MI0} {S : MS} {Y : Nat} (hY : YS S Y) {L : Nat} {B : Nat → Nat} (hT : i Y 14 = nI L ∧ ∀ j, j < L → i (Y + 9) j = nI (B j)) (hL : L ≤ 150) (hB : ∀ j, j < L → B j < 128) {y : Vy} {b : Nat} (hZ : ZRq i Y y) (hV : VV b y) (hd : 10 ≤ d) {s : Nat} (hs : s ≤ L) (h15 : i Y 15 = nI s) (hw : isW L B s 1 = true) (h6 : (vr y) < 6) : Mt G iX12_readsItem d [.ref Y] (i, S) (Wi (b1 ((pStop L B (pItem L B (s, none, y))).2.1 = none)) S (RRq L B (pStop L B (pItem L B (s, none, y))) i Y)) := by
  have hY' := hY
  obtain ⟨Yt, ⟨Yt1, Yr1⟩, ⟨Yt2, Yr2⟩, ⟨Yt3, Yr3⟩, ⟨Yt4, Yr4⟩, ⟨Yt5, Yr5⟩, ⟨Yt6, Yr6⟩, ⟨Yt7, Yr7⟩, ⟨Yt8, Yr8⟩, ⟨Yt9, Yr9⟩, ⟨Yt10, Yr10⟩, ⟨Yt11, Yr11⟩, ⟨Yt12, Yr12⟩, ⟨Yt13, Yr13⟩, ⟨Yt14, Yr14⟩, ⟨Yt15, Yr15⟩, ⟨Yt16, Yr16⟩, ⟨Yt17, Yr17⟩, ⟨Yt18, Yr18⟩, ⟨Yt19, Yr19⟩⟩ := hY
  have w4 := isW_4 hw
  refine Mt_in 3 (ls := [.ref Y, .null, .null, .null]) moX12_readsItem (Nat.le_of_ble_eq_true rfl) rfl ?_
  refine PW_aload_n (i := 0) dX12_readsItem_0 rfl rfl ?_
  refine PW_callV dX12_readsItem_1 moX12_wordHere cv12_164 (Yt) (by omega) rfl rfl (Nat.le_of_ble_eq_true rfl) (Nat.le_of_ble_eq_true rfl) (Nat.le_of_ble_eq_true rfl) (spX12_wordHere (d := d - 1) hY' hT hL hB hs h15 (by omega)) (fun v M1 hq => ?_)
  obtain ⟨rfl, rfl⟩ := hq
  rw [show whI L B s = 1 from by unfold whI; rw [isW_ne hw (by decide) (v := 0) (by decide) (by decide), hw]; rfl]
  refine PW_istore_n (i := 1) dX12_readsItem_4 rfl (Nat.le_of_ble_eq_true rfl) rfl ?_
  refine PW_iload_n (i := 1) dX12_readsItem_5 rfl rfl ?_
  refine PW_iconst (v := 1) dX12_readsItem_6 (by decide) ?_
  refine PW_icmp_lt 38 dX12_readsItem_7 (by decide) (fun q => absurd q (by decide)) (fun _ => ?_)
  refine PW_iload_n (i := 1) dX12_readsItem_10 rfl rfl ?_
  refine PW_iconst (v := 3) dX12_readsItem_11 (by decide) ?_
  refine PW_icmp_ge 24 dX12_readsItem_12 (by decide) (fun q => absurd q (by decide)) (fun _ => ?_)
  refine PW_aload_n (i := 0) dX12_readsItem_15 rfl rfl ?_
  refine PW_giv (v := nI (vr y)) dX12_readsItem_16 fg12_154 (Yt) (hZ.1) ?_
  refine PW_bipush (v := 6) dX12_readsItem_19 (by decide) ?_
  refine PW_icmp_eq 38 dX12_readsItem_21 (by decide) (fun q => absurd (jeq (b := 6) q) (by omega)) (fun _ => ?_)
  refine PW_iload_n (i := 1) dX12_readsItem_24 rfl rfl ?_
  refine PW_iconst (v := 2) dX12_readsItem_25 (by decide) ?_
  refine PW_icmp_le 42 dX12_readsItem_26 (by decide) (fun _ => ?_) (fun q => absurd q (by decide))
  refine PW_iconst (v := 0) dX12_readsItem_42 (by decide) ?_
  refine PW_istore_n (i := 2) dX12_readsItem_43 rfl (Nat.le_of_ble_eq_true rfl) rfl ?_
  refine PW_iload_n (i := 2) dX12_readsItem_44 rfl rfl ?_
  refine PW_if_eq 50 dX12_readsItem_45 (by decide) (fun _ => ?_) (fun q => absurd (by decide) q)
  refine PW_aload_n (i := 0) dX12_readsItem_50 rfl rfl ?_
  refine PW_dup dX12_readsItem_51 rfl ?_
  refine PW_giv (v := nI s) dX12_readsItem_52 fg12_122 (Yt) (h15) ?_
  refine PW_iconst (v := 4) dX12_readsItem_55 (by decide) ?_
  refine PW_iadd dX12_readsItem_56 ?_
  refine PW_eqi (nI_add _ 4) ?_
  refine PW_putI dX12_readsItem_57 fr12_122 (fun h => by cases h) (Yt) ?_
  refine PW_iload_n (i := 1) dX12_readsItem_60 rfl rfl ?_
  refine PW_iconst (v := 2) dX12_readsItem_61 (by decide) ?_
  refine PW_irem dX12_readsItem_62 (by decide) ?_
  refine PW_eqi (show _ = (1 : Int32) by decide) ?_
  refine PW_iconst (v := 1) dX12_readsItem_63 (by decide) ?_
  refine PW_icmp_ne 71 dX12_readsItem_64 (by decide) (fun q => absurd q (by decide)) (fun _ => ?_)
  refine PW_iconst (v := 1) dX12_readsItem_67 (by decide) ?_
  refine PW_goto 72 dX12_readsItem_68 (by decide) ?_
  refine PW_istore_n (i := 3) dX12_readsItem_72 rfl (Nat.le_of_ble_eq_true rfl) rfl ?_
  refine PW_iload_n (i := 1) dX12_readsItem_73 rfl rfl ?_
  refine PW_iconst (v := 3) dX12_readsItem_74 (by decide) ?_
  refine PW_icmp_ge 86 dX12_readsItem_75 (by decide) (fun q => absurd q (by decide)) (fun _ => ?_)
  refine PW_aload_n (i := 0) dX12_readsItem_78 rfl rfl ?_
  refine PW_iload_n (i := 3) dX12_readsItem_79 rfl rfl ?_
  refine PW_nm rfl (fun i2 e2 => ?_)
  have f2 := F15.w e2
  have hT2 : i2 Y 14 = nI L ∧ ∀ j, j < L → i2 (Y + 9) j = nI (B j) := ⟨(f2.1 14 (by decide)).trans hT.1, fun q hq => by rw [f2.2 (Y + 9) (by omega)]; exact hT.2 q hq⟩
  refine PW_callV dX12_readsItem_80 moX12_readsRock cv12_167 (Yt) (by omega) rfl rfl (Nat.le_of_ble_eq_true rfl) (Nat.le_of_ble_eq_true rfl) (Nat.le_of_ble_eq_true rfl) (spX12_readsRock (d := d - 1) (sg := 1) (r := tE L B s) (a := nx L B s) hY' hT2 hL hB (f2.z hZ) hV (by omega) (tE_le hs).1 (by rw [w4.2.1]; exact rI_s15 e2) rfl h6) (fun v M1 hq => ?_)
  obtain ⟨rfl, i3, rfl, rr⟩ := hq
  refine PW_goto 91 dX12_readsItem_83 (by decide) ?_
  refine PW_ireturn rfl (b1_n _) dX12_readsItem_91 (Nat.le_of_ble_eq_true rfl) (Nat.le_of_ble_eq_true rfl) ?_
  rw [show pItem L B (s, none, y) = zRk L B 1 (nx L B s) y from by rw [pItem_w.1 hw]; exact zRk_pRock h6]
  exact ⟨rfl, i3, rfl, rr.f f2.rd⟩
set_option maxRecDepth 100000 in
set_option maxHeartbeats 4000000 in
theorem spX12_readsItem2F {G : GE} {d : Nat} {i : MI0} {S : MS} {Y : Nat} (hY : YS S Y) {L : Nat} {B : Nat → Nat} (hT : i Y 14 = nI L ∧ ∀ j, j < L → i (Y + 9) j = nI (B j)) (hL : L ≤ 150) (hB : ∀ j, j < L → B j < 128) {y : Vy} {b : Nat} (hZ : ZRq i Y y) (hV : VV b y) (hd : 10 ≤ d) {s : Nat} (hs : s ≤ L) (h15 : i Y 15 = nI s) (hw : isW L B s 2 = true) (h6 : (vr y) = 6) : Mt G iX12_readsItem d [.ref Y] (i, S) (Wi (b1 ((pStop L B (pItem L B (s, none, y))).2.1 = none)) S (RRq L B (pStop L B (pItem L B (s, none, y))) i Y)) := by
  have hY' := hY
  obtain ⟨Yt, ⟨Yt1, Yr1⟩, ⟨Yt2, Yr2⟩, ⟨Yt3, Yr3⟩, ⟨Yt4, Yr4⟩, ⟨Yt5, Yr5⟩, ⟨Yt6, Yr6⟩, ⟨Yt7, Yr7⟩, ⟨Yt8, Yr8⟩, ⟨Yt9, Yr9⟩, ⟨Yt10, Yr10⟩, ⟨Yt11, Yr11⟩, ⟨Yt12, Yr12⟩, ⟨Yt13, Yr13⟩, ⟨Yt14, Yr14⟩, ⟨Yt15, Yr15⟩, ⟨Yt16, Yr16⟩, ⟨Yt17, Yr17⟩, ⟨Yt18, Yr18⟩, ⟨Yt19, Yr19⟩⟩ := hY
  refine Mt_in 3 (ls := [.ref Y, .null, .null, .null]) moX12_readsItem (Nat.le_of_ble_eq_true rfl) rfl ?_
  refine PW_aload_n (i := 0) dX12_readsItem_0 rfl rfl ?_
  refine PW_callV dX12_readsItem_1 moX12_wordHere cv12_164 (Yt) (by omega) rfl rfl (Nat.le_of_ble_eq_true rfl) (Nat.le_of_ble_eq_true rfl) (Nat.le_of_ble_eq_true rfl) (spX12_wordHere (d := d - 1) hY' hT hL hB hs h15 (by omega)) (fun v M1 hq => ?_)
  obtain ⟨rfl, rfl⟩ := hq
  rw [show whI L B s = 2 from by unfold whI; rw [isW_ne hw (by decide) (v := 0) (by decide) (by decide), isW_ne hw (by decide) (v := 1) (by decide) (by decide), hw]; rfl]
  refine PW_istore_n (i := 1) dX12_readsItem_4 rfl (Nat.le_of_ble_eq_true rfl) rfl ?_
  refine PW_iload_n (i := 1) dX12_readsItem_5 rfl rfl ?_
  refine PW_iconst (v := 1) dX12_readsItem_6 (by decide) ?_
  refine PW_icmp_lt 38 dX12_readsItem_7 (by decide) (fun q => absurd q (by decide)) (fun _ => ?_)
  refine PW_iload_n (i := 1) dX12_readsItem_10 rfl rfl ?_
  refine PW_iconst (v := 3) dX12_readsItem_11 (by decide) ?_
  refine PW_icmp_ge 24 dX12_readsItem_12 (by decide) (fun q => absurd q (by decide)) (fun _ => ?_)
  refine PW_aload_n (i := 0) dX12_readsItem_15 rfl rfl ?_
  refine PW_giv (v := nI (vr y)) dX12_readsItem_16 fg12_154 (Yt) (hZ.1) ?_
  refine PW_bipush (v := 6) dX12_readsItem_19 (by decide) ?_
  refine PW_icmp_eq 38 dX12_readsItem_21 (by decide) (fun _ => ?_) (fun q => absurd (show nI (vr y) = 6 by rw [h6]; rfl) q)
  refine PW_iconst (v := 1) dX12_readsItem_38 (by decide) ?_
  refine PW_goto 43 dX12_readsItem_39 (by decide) ?_
  refine PW_istore_n (i := 2) dX12_readsItem_43 rfl (Nat.le_of_ble_eq_true rfl) rfl ?_
  refine PW_iload_n (i := 2) dX12_readsItem_44 rfl rfl ?_
  refine PW_if_eq 50 dX12_readsItem_45 (by decide) (fun q => absurd q (by decide)) (fun _ => ?_)
  refine PW_iconst (v := 0) dX12_readsItem_48 (by decide) ?_
  refine PW_ireturn rfl (rfl) dX12_readsItem_49 (Nat.le_of_ble_eq_true rfl) (Nat.le_of_ble_eq_true rfl) ?_
  rw [show pItem L B (s, none, y) = (s, some s, y) from by rw [pItem_w.2.1 hw]; unfold pRock; rw [if_pos (show 6 ≤ vr (s, (none : Option Nat), y).2.2 from by show 6 ≤ (vr y); omega)]; rfl]
  exact fail_RR rfl h15 (RDf.rfl' i Y)
set_option maxRecDepth 100000 in
set_option maxHeartbeats 4000000 in
theorem spX12_readsItem2 {G : GE} {d : Nat} {i : MI0} {S : MS} {Y : Nat} (hY : YS S Y) {L : Nat} {B : Nat → Nat} (hT : i Y 14 = nI L ∧ ∀ j, j < L → i (Y + 9) j = nI (B j)) (hL : L ≤ 150) (hB : ∀ j, j < L → B j < 128) {y : Vy} {b : Nat} (hZ : ZRq i Y y) (hV : VV b y) (hd : 10 ≤ d) {s : Nat} (hs : s ≤ L) (h15 : i Y 15 = nI s) (hw : isW L B s 2 = true) (h6 : (vr y) < 6) : Mt G iX12_readsItem d [.ref Y] (i, S) (Wi (b1 ((pStop L B (pItem L B (s, none, y))).2.1 = none)) S (RRq L B (pStop L B (pItem L B (s, none, y))) i Y)) := by
  have hY' := hY
  obtain ⟨Yt, ⟨Yt1, Yr1⟩, ⟨Yt2, Yr2⟩, ⟨Yt3, Yr3⟩, ⟨Yt4, Yr4⟩, ⟨Yt5, Yr5⟩, ⟨Yt6, Yr6⟩, ⟨Yt7, Yr7⟩, ⟨Yt8, Yr8⟩, ⟨Yt9, Yr9⟩, ⟨Yt10, Yr10⟩, ⟨Yt11, Yr11⟩, ⟨Yt12, Yr12⟩, ⟨Yt13, Yr13⟩, ⟨Yt14, Yr14⟩, ⟨Yt15, Yr15⟩, ⟨Yt16, Yr16⟩, ⟨Yt17, Yr17⟩, ⟨Yt18, Yr18⟩, ⟨Yt19, Yr19⟩⟩ := hY
  have w4 := isW_4 hw
  refine Mt_in 3 (ls := [.ref Y, .null, .null, .null]) moX12_readsItem (Nat.le_of_ble_eq_true rfl) rfl ?_
  refine PW_aload_n (i := 0) dX12_readsItem_0 rfl rfl ?_
  refine PW_callV dX12_readsItem_1 moX12_wordHere cv12_164 (Yt) (by omega) rfl rfl (Nat.le_of_ble_eq_true rfl) (Nat.le_of_ble_eq_true rfl) (Nat.le_of_ble_eq_true rfl) (spX12_wordHere (d := d - 1) hY' hT hL hB hs h15 (by omega)) (fun v M1 hq => ?_)
  obtain ⟨rfl, rfl⟩ := hq
  rw [show whI L B s = 2 from by unfold whI; rw [isW_ne hw (by decide) (v := 0) (by decide) (by decide), isW_ne hw (by decide) (v := 1) (by decide) (by decide), hw]; rfl]
  refine PW_istore_n (i := 1) dX12_readsItem_4 rfl (Nat.le_of_ble_eq_true rfl) rfl ?_
  refine PW_iload_n (i := 1) dX12_readsItem_5 rfl rfl ?_
  refine PW_iconst (v := 1) dX12_readsItem_6 (by decide) ?_
  refine PW_icmp_lt 38 dX12_readsItem_7 (by decide) (fun q => absurd q (by decide)) (fun _ => ?_)
  refine PW_iload_n (i := 1) dX12_readsItem_10 rfl rfl ?_
  refine PW_iconst (v := 3) dX12_readsItem_11 (by decide) ?_
  refine PW_icmp_ge 24 dX12_readsItem_12 (by decide) (fun q => absurd q (by decide)) (fun _ => ?_)
  refine PW_aload_n (i := 0) dX12_readsItem_15 rfl rfl ?_
  refine PW_giv (v := nI (vr y)) dX12_readsItem_16 fg12_154 (Yt) (hZ.1) ?_
  refine PW_bipush (v := 6) dX12_readsItem_19 (by decide) ?_
  refine PW_icmp_eq 38 dX12_readsItem_21 (by decide) (fun q => absurd (jeq (b := 6) q) (by omega)) (fun _ => ?_)
  refine PW_iload_n (i := 1) dX12_readsItem_24 rfl rfl ?_
  refine PW_iconst (v := 2) dX12_readsItem_25 (by decide) ?_
  refine PW_icmp_le 42 dX12_readsItem_26 (by decide) (fun _ => ?_) (fun q => absurd q (by decide))
  refine PW_iconst (v := 0) dX12_readsItem_42 (by decide) ?_
  refine PW_istore_n (i := 2) dX12_readsItem_43 rfl (Nat.le_of_ble_eq_true rfl) rfl ?_
  refine PW_iload_n (i := 2) dX12_readsItem_44 rfl rfl ?_
  refine PW_if_eq 50 dX12_readsItem_45 (by decide) (fun _ => ?_) (fun q => absurd (by decide) q)
  refine PW_aload_n (i := 0) dX12_readsItem_50 rfl rfl ?_
  refine PW_dup dX12_readsItem_51 rfl ?_
  refine PW_giv (v := nI s) dX12_readsItem_52 fg12_122 (Yt) (h15) ?_
  refine PW_iconst (v := 4) dX12_readsItem_55 (by decide) ?_
  refine PW_iadd dX12_readsItem_56 ?_
  refine PW_eqi (nI_add _ 4) ?_
  refine PW_putI dX12_readsItem_57 fr12_122 (fun h => by cases h) (Yt) ?_
  refine PW_iload_n (i := 1) dX12_readsItem_60 rfl rfl ?_
  refine PW_iconst (v := 2) dX12_readsItem_61 (by decide) ?_
  refine PW_irem dX12_readsItem_62 (by decide) ?_
  refine PW_eqi (show _ = (0 : Int32) by decide) ?_
  refine PW_iconst (v := 1) dX12_readsItem_63 (by decide) ?_
  refine PW_icmp_ne 71 dX12_readsItem_64 (by decide) (fun _ => ?_) (fun q => absurd q (by decide))
  refine PW_iconst (v := -1) dX12_readsItem_71 (by decide) ?_
  refine PW_istore_n (i := 3) dX12_readsItem_72 rfl (Nat.le_of_ble_eq_true rfl) rfl ?_
  refine PW_iload_n (i := 1) dX12_readsItem_73 rfl rfl ?_
  refine PW_iconst (v := 3) dX12_readsItem_74 (by decide) ?_
  refine PW_icmp_ge 86 dX12_readsItem_75 (by decide) (fun q => absurd q (by decide)) (fun _ => ?_)
  refine PW_aload_n (i := 0) dX12_readsItem_78 rfl rfl ?_
  refine PW_iload_n (i := 3) dX12_readsItem_79 rfl rfl ?_
  refine PW_nm rfl (fun i2 e2 => ?_)
  have f2 := F15.w e2
  have hT2 : i2 Y 14 = nI L ∧ ∀ j, j < L → i2 (Y + 9) j = nI (B j) := ⟨(f2.1 14 (by decide)).trans hT.1, fun q hq => by rw [f2.2 (Y + 9) (by omega)]; exact hT.2 q hq⟩
  refine PW_callV dX12_readsItem_80 moX12_readsRock cv12_167 (Yt) (by omega) rfl rfl (Nat.le_of_ble_eq_true rfl) (Nat.le_of_ble_eq_true rfl) (Nat.le_of_ble_eq_true rfl) (spX12_readsRock (d := d - 1) (sg := (-1)) (r := tE L B s) (a := nx L B s) hY' hT2 hL hB (f2.z hZ) hV (by omega) (tE_le hs).1 (by rw [w4.2.1]; exact rI_s15 e2) rfl h6) (fun v M1 hq => ?_)
  obtain ⟨rfl, i3, rfl, rr⟩ := hq
  refine PW_goto 91 dX12_readsItem_83 (by decide) ?_
  refine PW_ireturn rfl (b1_n _) dX12_readsItem_91 (Nat.le_of_ble_eq_true rfl) (Nat.le_of_ble_eq_true rfl) ?_
  rw [show pItem L B (s, none, y) = zRk L B (-1) (nx L B s) y from by rw [pItem_w.2.1 hw]; exact zRk_pRock h6]
  exact ⟨rfl, i3, rfl, rr.f f2.rd⟩
set_option maxRecDepth 100000 in
set_option maxHeartbeats 4000000 in
theorem spX12_readsItem3F {G : GE} {d : Nat} {i : MI0} {S : MS} {Y : Nat} (hY : YS S Y) {L : Nat} {B : Nat → Nat} (hT : i Y 14 = nI L ∧ ∀ j, j < L → i (Y + 9) j = nI (B j)) (hL : L ≤ 150) (hB : ∀ j, j < L → B j < 128) {y : Vy} {b : Nat} (hZ : ZRq i Y y) (hV : VV b y) (hd : 10 ≤ d) {s : Nat} (hs : s ≤ L) (h15 : i Y 15 = nI s) (hw : isW L B s 3 = true) (h6 : (hn (vh y)) = 6) : Mt G iX12_readsItem d [.ref Y] (i, S) (Wi (b1 ((pStop L B (pItem L B (s, none, y))).2.1 = none)) S (RRq L B (pStop L B (pItem L B (s, none, y))) i Y)) := by
  have hY' := hY
  obtain ⟨Yt, ⟨Yt1, Yr1⟩, ⟨Yt2, Yr2⟩, ⟨Yt3, Yr3⟩, ⟨Yt4, Yr4⟩, ⟨Yt5, Yr5⟩, ⟨Yt6, Yr6⟩, ⟨Yt7, Yr7⟩, ⟨Yt8, Yr8⟩, ⟨Yt9, Yr9⟩, ⟨Yt10, Yr10⟩, ⟨Yt11, Yr11⟩, ⟨Yt12, Yr12⟩, ⟨Yt13, Yr13⟩, ⟨Yt14, Yr14⟩, ⟨Yt15, Yr15⟩, ⟨Yt16, Yr16⟩, ⟨Yt17, Yr17⟩, ⟨Yt18, Yr18⟩, ⟨Yt19, Yr19⟩⟩ := hY
  refine Mt_in 3 (ls := [.ref Y, .null, .null, .null]) moX12_readsItem (Nat.le_of_ble_eq_true rfl) rfl ?_
  refine PW_aload_n (i := 0) dX12_readsItem_0 rfl rfl ?_
  refine PW_callV dX12_readsItem_1 moX12_wordHere cv12_164 (Yt) (by omega) rfl rfl (Nat.le_of_ble_eq_true rfl) (Nat.le_of_ble_eq_true rfl) (Nat.le_of_ble_eq_true rfl) (spX12_wordHere (d := d - 1) hY' hT hL hB hs h15 (by omega)) (fun v M1 hq => ?_)
  obtain ⟨rfl, rfl⟩ := hq
  rw [show whI L B s = 3 from by unfold whI; rw [isW_ne hw (by decide) (v := 0) (by decide) (by decide), isW_ne hw (by decide) (v := 1) (by decide) (by decide), isW_ne hw (by decide) (v := 2) (by decide) (by decide), hw]; rfl]
  refine PW_istore_n (i := 1) dX12_readsItem_4 rfl (Nat.le_of_ble_eq_true rfl) rfl ?_
  refine PW_iload_n (i := 1) dX12_readsItem_5 rfl rfl ?_
  refine PW_iconst (v := 1) dX12_readsItem_6 (by decide) ?_
  refine PW_icmp_lt 38 dX12_readsItem_7 (by decide) (fun q => absurd q (by decide)) (fun _ => ?_)
  refine PW_iload_n (i := 1) dX12_readsItem_10 rfl rfl ?_
  refine PW_iconst (v := 3) dX12_readsItem_11 (by decide) ?_
  refine PW_icmp_ge 24 dX12_readsItem_12 (by decide) (fun _ => ?_) (fun q => absurd q (by decide))
  refine PW_iload_n (i := 1) dX12_readsItem_24 rfl rfl ?_
  refine PW_iconst (v := 2) dX12_readsItem_25 (by decide) ?_
  refine PW_icmp_le 42 dX12_readsItem_26 (by decide) (fun q => absurd q (by decide)) (fun _ => ?_)
  refine PW_aload_n (i := 0) dX12_readsItem_29 rfl rfl ?_
  refine PW_giv (v := nI (hn (vh y))) dX12_readsItem_30 fg12_161 (Yt) (hZ.2.2.1) ?_
  refine PW_bipush (v := 6) dX12_readsItem_33 (by decide) ?_
  refine PW_icmp_ne 42 dX12_readsItem_35 (by decide) (fun q => absurd (show nI (hn (vh y)) = 6 by rw [h6]; rfl) q) (fun _ => ?_)
  refine PW_iconst (v := 1) dX12_readsItem_38 (by decide) ?_
  refine PW_goto 43 dX12_readsItem_39 (by decide) ?_
  refine PW_istore_n (i := 2) dX12_readsItem_43 rfl (Nat.le_of_ble_eq_true rfl) rfl ?_
  refine PW_iload_n (i := 2) dX12_readsItem_44 rfl rfl ?_
  refine PW_if_eq 50 dX12_readsItem_45 (by decide) (fun q => absurd q (by decide)) (fun _ => ?_)
  refine PW_iconst (v := 0) dX12_readsItem_48 (by decide) ?_
  refine PW_ireturn rfl (rfl) dX12_readsItem_49 (Nat.le_of_ble_eq_true rfl) (Nat.le_of_ble_eq_true rfl) ?_
  rw [show pItem L B (s, none, y) = (s, some s, y) from by rw [pItem_w.2.2.1 hw]; unfold pHand; rw [if_pos (show 6 ≤ hn (vh (s, (none : Option Nat), y).2.2) from by show 6 ≤ (hn (vh y)); omega)]; rfl]
  exact fail_RR rfl h15 (RDf.rfl' i Y)
set_option maxRecDepth 100000 in
set_option maxHeartbeats 4000000 in
theorem spX12_readsItem3 {G : GE} {d : Nat} {i : MI0} {S : MS} {Y : Nat} (hY : YS S Y) {L : Nat} {B : Nat → Nat} (hT : i Y 14 = nI L ∧ ∀ j, j < L → i (Y + 9) j = nI (B j)) (hL : L ≤ 150) (hB : ∀ j, j < L → B j < 128) {y : Vy} {b : Nat} (hZ : ZRq i Y y) (hV : VV b y) (hd : 10 ≤ d) {s : Nat} (hs : s ≤ L) (h15 : i Y 15 = nI s) (hw : isW L B s 3 = true) (h6 : (hn (vh y)) < 6) : Mt G iX12_readsItem d [.ref Y] (i, S) (Wi (b1 ((pStop L B (pItem L B (s, none, y))).2.1 = none)) S (RRq L B (pStop L B (pItem L B (s, none, y))) i Y)) := by
  have hY' := hY
  obtain ⟨Yt, ⟨Yt1, Yr1⟩, ⟨Yt2, Yr2⟩, ⟨Yt3, Yr3⟩, ⟨Yt4, Yr4⟩, ⟨Yt5, Yr5⟩, ⟨Yt6, Yr6⟩, ⟨Yt7, Yr7⟩, ⟨Yt8, Yr8⟩, ⟨Yt9, Yr9⟩, ⟨Yt10, Yr10⟩, ⟨Yt11, Yr11⟩, ⟨Yt12, Yr12⟩, ⟨Yt13, Yr13⟩, ⟨Yt14, Yr14⟩, ⟨Yt15, Yr15⟩, ⟨Yt16, Yr16⟩, ⟨Yt17, Yr17⟩, ⟨Yt18, Yr18⟩, ⟨Yt19, Yr19⟩⟩ := hY
  have w4 := isW_4 hw
  refine Mt_in 3 (ls := [.ref Y, .null, .null, .null]) moX12_readsItem (Nat.le_of_ble_eq_true rfl) rfl ?_
  refine PW_aload_n (i := 0) dX12_readsItem_0 rfl rfl ?_
  refine PW_callV dX12_readsItem_1 moX12_wordHere cv12_164 (Yt) (by omega) rfl rfl (Nat.le_of_ble_eq_true rfl) (Nat.le_of_ble_eq_true rfl) (Nat.le_of_ble_eq_true rfl) (spX12_wordHere (d := d - 1) hY' hT hL hB hs h15 (by omega)) (fun v M1 hq => ?_)
  obtain ⟨rfl, rfl⟩ := hq
  rw [show whI L B s = 3 from by unfold whI; rw [isW_ne hw (by decide) (v := 0) (by decide) (by decide), isW_ne hw (by decide) (v := 1) (by decide) (by decide), isW_ne hw (by decide) (v := 2) (by decide) (by decide), hw]; rfl]
  refine PW_istore_n (i := 1) dX12_readsItem_4 rfl (Nat.le_of_ble_eq_true rfl) rfl ?_
  refine PW_iload_n (i := 1) dX12_readsItem_5 rfl rfl ?_
  refine PW_iconst (v := 1) dX12_readsItem_6 (by decide) ?_
  refine PW_icmp_lt 38 dX12_readsItem_7 (by decide) (fun q => absurd q (by decide)) (fun _ => ?_)
  refine PW_iload_n (i := 1) dX12_readsItem_10 rfl rfl ?_
  refine PW_iconst (v := 3) dX12_readsItem_11 (by decide) ?_
  refine PW_icmp_ge 24 dX12_readsItem_12 (by decide) (fun _ => ?_) (fun q => absurd q (by decide))
  refine PW_iload_n (i := 1) dX12_readsItem_24 rfl rfl ?_
  refine PW_iconst (v := 2) dX12_readsItem_25 (by decide) ?_
  refine PW_icmp_le 42 dX12_readsItem_26 (by decide) (fun q => absurd q (by decide)) (fun _ => ?_)
  refine PW_aload_n (i := 0) dX12_readsItem_29 rfl rfl ?_
  refine PW_giv (v := nI (hn (vh y))) dX12_readsItem_30 fg12_161 (Yt) (hZ.2.2.1) ?_
  refine PW_bipush (v := 6) dX12_readsItem_33 (by decide) ?_
  refine PW_icmp_ne 42 dX12_readsItem_35 (by decide) (fun _ => ?_) (fun q => absurd (jeq (b := 6) q) (by omega))
  refine PW_iconst (v := 0) dX12_readsItem_42 (by decide) ?_
  refine PW_istore_n (i := 2) dX12_readsItem_43 rfl (Nat.le_of_ble_eq_true rfl) rfl ?_
  refine PW_iload_n (i := 2) dX12_readsItem_44 rfl rfl ?_
  refine PW_if_eq 50 dX12_readsItem_45 (by decide) (fun _ => ?_) (fun q => absurd (by decide) q)
  refine PW_aload_n (i := 0) dX12_readsItem_50 rfl rfl ?_
  refine PW_dup dX12_readsItem_51 rfl ?_
  refine PW_giv (v := nI s) dX12_readsItem_52 fg12_122 (Yt) (h15) ?_
  refine PW_iconst (v := 4) dX12_readsItem_55 (by decide) ?_
  refine PW_iadd dX12_readsItem_56 ?_
  refine PW_eqi (nI_add _ 4) ?_
  refine PW_putI dX12_readsItem_57 fr12_122 (fun h => by cases h) (Yt) ?_
  refine PW_iload_n (i := 1) dX12_readsItem_60 rfl rfl ?_
  refine PW_iconst (v := 2) dX12_readsItem_61 (by decide) ?_
  refine PW_irem dX12_readsItem_62 (by decide) ?_
  refine PW_eqi (show _ = (1 : Int32) by decide) ?_
  refine PW_iconst (v := 1) dX12_readsItem_63 (by decide) ?_
  refine PW_icmp_ne 71 dX12_readsItem_64 (by decide) (fun q => absurd q (by decide)) (fun _ => ?_)
  refine PW_iconst (v := 1) dX12_readsItem_67 (by decide) ?_
  refine PW_goto 72 dX12_readsItem_68 (by decide) ?_
  refine PW_istore_n (i := 3) dX12_readsItem_72 rfl (Nat.le_of_ble_eq_true rfl) rfl ?_
  refine PW_iload_n (i := 1) dX12_readsItem_73 rfl rfl ?_
  refine PW_iconst (v := 3) dX12_readsItem_74 (by decide) ?_
  refine PW_icmp_ge 86 dX12_readsItem_75 (by decide) (fun _ => ?_) (fun q => absurd q (by decide))
  refine PW_aload_n (i := 0) dX12_readsItem_86 rfl rfl ?_
  refine PW_iload_n (i := 3) dX12_readsItem_87 rfl rfl ?_
  refine PW_nm rfl (fun i2 e2 => ?_)
  have f2 := F15.w e2
  have hT2 : i2 Y 14 = nI L ∧ ∀ j, j < L → i2 (Y + 9) j = nI (B j) := ⟨(f2.1 14 (by decide)).trans hT.1, fun q hq => by rw [f2.2 (Y + 9) (by omega)]; exact hT.2 q hq⟩
  refine PW_callV dX12_readsItem_88 moX12_readsHand cv12_170 (Yt) (by omega) rfl rfl (Nat.le_of_ble_eq_true rfl) (Nat.le_of_ble_eq_true rfl) (Nat.le_of_ble_eq_true rfl) (spX12_readsHand (d := d - 1) (sg := 1) (r := tE L B s) (a := nx L B s) hY' hT2 hL hB (f2.z hZ) hV (by omega) (tE_le hs).1 (by rw [w4.2.1]; exact rI_s15 e2) rfl h6) (fun v M1 hq => ?_)
  obtain ⟨rfl, i3, rfl, rr⟩ := hq
  refine PW_ireturn rfl (b1_n _) dX12_readsItem_91 (Nat.le_of_ble_eq_true rfl) (Nat.le_of_ble_eq_true rfl) ?_
  rw [show pItem L B (s, none, y) = zHk L B 1 (nx L B s) y from by rw [pItem_w.2.2.1 hw]; exact zHk_pHand h6]
  exact ⟨rfl, i3, rfl, rr.f f2.rd⟩
set_option maxRecDepth 100000 in
set_option maxHeartbeats 4000000 in
theorem spX12_readsItem4F {G : GE} {d : Nat} {i : MI0} {S : MS} {Y : Nat} (hY : YS S Y) {L : Nat} {B : Nat → Nat} (hT : i Y 14 = nI L ∧ ∀ j, j < L → i (Y + 9) j = nI (B j)) (hL : L ≤ 150) (hB : ∀ j, j < L → B j < 128) {y : Vy} {b : Nat} (hZ : ZRq i Y y) (hV : VV b y) (hd : 10 ≤ d) {s : Nat} (hs : s ≤ L) (h15 : i Y 15 = nI s) (hw : isW L B s 4 = true) (h6 : (hn (vh y)) = 6) : Mt G iX12_readsItem d [.ref Y] (i, S) (Wi (b1 ((pStop L B (pItem L B (s, none, y))).2.1 = none)) S (RRq L B (pStop L B (pItem L B (s, none, y))) i Y)) := by
  have hY' := hY
  obtain ⟨Yt, ⟨Yt1, Yr1⟩, ⟨Yt2, Yr2⟩, ⟨Yt3, Yr3⟩, ⟨Yt4, Yr4⟩, ⟨Yt5, Yr5⟩, ⟨Yt6, Yr6⟩, ⟨Yt7, Yr7⟩, ⟨Yt8, Yr8⟩, ⟨Yt9, Yr9⟩, ⟨Yt10, Yr10⟩, ⟨Yt11, Yr11⟩, ⟨Yt12, Yr12⟩, ⟨Yt13, Yr13⟩, ⟨Yt14, Yr14⟩, ⟨Yt15, Yr15⟩, ⟨Yt16, Yr16⟩, ⟨Yt17, Yr17⟩, ⟨Yt18, Yr18⟩, ⟨Yt19, Yr19⟩⟩ := hY
  refine Mt_in 3 (ls := [.ref Y, .null, .null, .null]) moX12_readsItem (Nat.le_of_ble_eq_true rfl) rfl ?_
  refine PW_aload_n (i := 0) dX12_readsItem_0 rfl rfl ?_
  refine PW_callV dX12_readsItem_1 moX12_wordHere cv12_164 (Yt) (by omega) rfl rfl (Nat.le_of_ble_eq_true rfl) (Nat.le_of_ble_eq_true rfl) (Nat.le_of_ble_eq_true rfl) (spX12_wordHere (d := d - 1) hY' hT hL hB hs h15 (by omega)) (fun v M1 hq => ?_)
  obtain ⟨rfl, rfl⟩ := hq
  rw [show whI L B s = 4 from by unfold whI; rw [isW_ne hw (by decide) (v := 0) (by decide) (by decide), isW_ne hw (by decide) (v := 1) (by decide) (by decide), isW_ne hw (by decide) (v := 2) (by decide) (by decide), isW_ne hw (by decide) (v := 3) (by decide) (by decide), hw]; rfl]
  refine PW_istore_n (i := 1) dX12_readsItem_4 rfl (Nat.le_of_ble_eq_true rfl) rfl ?_
  refine PW_iload_n (i := 1) dX12_readsItem_5 rfl rfl ?_
  refine PW_iconst (v := 1) dX12_readsItem_6 (by decide) ?_
  refine PW_icmp_lt 38 dX12_readsItem_7 (by decide) (fun q => absurd q (by decide)) (fun _ => ?_)
  refine PW_iload_n (i := 1) dX12_readsItem_10 rfl rfl ?_
  refine PW_iconst (v := 3) dX12_readsItem_11 (by decide) ?_
  refine PW_icmp_ge 24 dX12_readsItem_12 (by decide) (fun _ => ?_) (fun q => absurd q (by decide))
  refine PW_iload_n (i := 1) dX12_readsItem_24 rfl rfl ?_
  refine PW_iconst (v := 2) dX12_readsItem_25 (by decide) ?_
  refine PW_icmp_le 42 dX12_readsItem_26 (by decide) (fun q => absurd q (by decide)) (fun _ => ?_)
  refine PW_aload_n (i := 0) dX12_readsItem_29 rfl rfl ?_
  refine PW_giv (v := nI (hn (vh y))) dX12_readsItem_30 fg12_161 (Yt) (hZ.2.2.1) ?_
  refine PW_bipush (v := 6) dX12_readsItem_33 (by decide) ?_
  refine PW_icmp_ne 42 dX12_readsItem_35 (by decide) (fun q => absurd (show nI (hn (vh y)) = 6 by rw [h6]; rfl) q) (fun _ => ?_)
  refine PW_iconst (v := 1) dX12_readsItem_38 (by decide) ?_
  refine PW_goto 43 dX12_readsItem_39 (by decide) ?_
  refine PW_istore_n (i := 2) dX12_readsItem_43 rfl (Nat.le_of_ble_eq_true rfl) rfl ?_
  refine PW_iload_n (i := 2) dX12_readsItem_44 rfl rfl ?_
  refine PW_if_eq 50 dX12_readsItem_45 (by decide) (fun q => absurd q (by decide)) (fun _ => ?_)
  refine PW_iconst (v := 0) dX12_readsItem_48 (by decide) ?_
  refine PW_ireturn rfl (rfl) dX12_readsItem_49 (Nat.le_of_ble_eq_true rfl) (Nat.le_of_ble_eq_true rfl) ?_
  rw [show pItem L B (s, none, y) = (s, some s, y) from by rw [pItem_w.2.2.2.1 hw]; unfold pHand; rw [if_pos (show 6 ≤ hn (vh (s, (none : Option Nat), y).2.2) from by show 6 ≤ (hn (vh y)); omega)]; rfl]
  exact fail_RR rfl h15 (RDf.rfl' i Y)
set_option maxRecDepth 100000 in
set_option maxHeartbeats 4000000 in
theorem spX12_readsItem4 {G : GE} {d : Nat} {i : MI0} {S : MS} {Y : Nat} (hY : YS S Y) {L : Nat} {B : Nat → Nat} (hT : i Y 14 = nI L ∧ ∀ j, j < L → i (Y + 9) j = nI (B j)) (hL : L ≤ 150) (hB : ∀ j, j < L → B j < 128) {y : Vy} {b : Nat} (hZ : ZRq i Y y) (hV : VV b y) (hd : 10 ≤ d) {s : Nat} (hs : s ≤ L) (h15 : i Y 15 = nI s) (hw : isW L B s 4 = true) (h6 : (hn (vh y)) < 6) : Mt G iX12_readsItem d [.ref Y] (i, S) (Wi (b1 ((pStop L B (pItem L B (s, none, y))).2.1 = none)) S (RRq L B (pStop L B (pItem L B (s, none, y))) i Y)) := by
  have hY' := hY
  obtain ⟨Yt, ⟨Yt1, Yr1⟩, ⟨Yt2, Yr2⟩, ⟨Yt3, Yr3⟩, ⟨Yt4, Yr4⟩, ⟨Yt5, Yr5⟩, ⟨Yt6, Yr6⟩, ⟨Yt7, Yr7⟩, ⟨Yt8, Yr8⟩, ⟨Yt9, Yr9⟩, ⟨Yt10, Yr10⟩, ⟨Yt11, Yr11⟩, ⟨Yt12, Yr12⟩, ⟨Yt13, Yr13⟩, ⟨Yt14, Yr14⟩, ⟨Yt15, Yr15⟩, ⟨Yt16, Yr16⟩, ⟨Yt17, Yr17⟩, ⟨Yt18, Yr18⟩, ⟨Yt19, Yr19⟩⟩ := hY
  have w4 := isW_4 hw
  refine Mt_in 3 (ls := [.ref Y, .null, .null, .null]) moX12_readsItem (Nat.le_of_ble_eq_true rfl) rfl ?_
  refine PW_aload_n (i := 0) dX12_readsItem_0 rfl rfl ?_
  refine PW_callV dX12_readsItem_1 moX12_wordHere cv12_164 (Yt) (by omega) rfl rfl (Nat.le_of_ble_eq_true rfl) (Nat.le_of_ble_eq_true rfl) (Nat.le_of_ble_eq_true rfl) (spX12_wordHere (d := d - 1) hY' hT hL hB hs h15 (by omega)) (fun v M1 hq => ?_)
  obtain ⟨rfl, rfl⟩ := hq
  rw [show whI L B s = 4 from by unfold whI; rw [isW_ne hw (by decide) (v := 0) (by decide) (by decide), isW_ne hw (by decide) (v := 1) (by decide) (by decide), isW_ne hw (by decide) (v := 2) (by decide) (by decide), isW_ne hw (by decide) (v := 3) (by decide) (by decide), hw]; rfl]
  refine PW_istore_n (i := 1) dX12_readsItem_4 rfl (Nat.le_of_ble_eq_true rfl) rfl ?_
  refine PW_iload_n (i := 1) dX12_readsItem_5 rfl rfl ?_
  refine PW_iconst (v := 1) dX12_readsItem_6 (by decide) ?_
  refine PW_icmp_lt 38 dX12_readsItem_7 (by decide) (fun q => absurd q (by decide)) (fun _ => ?_)
  refine PW_iload_n (i := 1) dX12_readsItem_10 rfl rfl ?_
  refine PW_iconst (v := 3) dX12_readsItem_11 (by decide) ?_
  refine PW_icmp_ge 24 dX12_readsItem_12 (by decide) (fun _ => ?_) (fun q => absurd q (by decide))
  refine PW_iload_n (i := 1) dX12_readsItem_24 rfl rfl ?_
  refine PW_iconst (v := 2) dX12_readsItem_25 (by decide) ?_
  refine PW_icmp_le 42 dX12_readsItem_26 (by decide) (fun q => absurd q (by decide)) (fun _ => ?_)
  refine PW_aload_n (i := 0) dX12_readsItem_29 rfl rfl ?_
  refine PW_giv (v := nI (hn (vh y))) dX12_readsItem_30 fg12_161 (Yt) (hZ.2.2.1) ?_
  refine PW_bipush (v := 6) dX12_readsItem_33 (by decide) ?_
  refine PW_icmp_ne 42 dX12_readsItem_35 (by decide) (fun _ => ?_) (fun q => absurd (jeq (b := 6) q) (by omega))
  refine PW_iconst (v := 0) dX12_readsItem_42 (by decide) ?_
  refine PW_istore_n (i := 2) dX12_readsItem_43 rfl (Nat.le_of_ble_eq_true rfl) rfl ?_
  refine PW_iload_n (i := 2) dX12_readsItem_44 rfl rfl ?_
  refine PW_if_eq 50 dX12_readsItem_45 (by decide) (fun _ => ?_) (fun q => absurd (by decide) q)
  refine PW_aload_n (i := 0) dX12_readsItem_50 rfl rfl ?_
  refine PW_dup dX12_readsItem_51 rfl ?_
  refine PW_giv (v := nI s) dX12_readsItem_52 fg12_122 (Yt) (h15) ?_
  refine PW_iconst (v := 4) dX12_readsItem_55 (by decide) ?_
  refine PW_iadd dX12_readsItem_56 ?_
  refine PW_eqi (nI_add _ 4) ?_
  refine PW_putI dX12_readsItem_57 fr12_122 (fun h => by cases h) (Yt) ?_
  refine PW_iload_n (i := 1) dX12_readsItem_60 rfl rfl ?_
  refine PW_iconst (v := 2) dX12_readsItem_61 (by decide) ?_
  refine PW_irem dX12_readsItem_62 (by decide) ?_
  refine PW_eqi (show _ = (0 : Int32) by decide) ?_
  refine PW_iconst (v := 1) dX12_readsItem_63 (by decide) ?_
  refine PW_icmp_ne 71 dX12_readsItem_64 (by decide) (fun _ => ?_) (fun q => absurd q (by decide))
  refine PW_iconst (v := -1) dX12_readsItem_71 (by decide) ?_
  refine PW_istore_n (i := 3) dX12_readsItem_72 rfl (Nat.le_of_ble_eq_true rfl) rfl ?_
  refine PW_iload_n (i := 1) dX12_readsItem_73 rfl rfl ?_
  refine PW_iconst (v := 3) dX12_readsItem_74 (by decide) ?_
  refine PW_icmp_ge 86 dX12_readsItem_75 (by decide) (fun _ => ?_) (fun q => absurd q (by decide))
  refine PW_aload_n (i := 0) dX12_readsItem_86 rfl rfl ?_
  refine PW_iload_n (i := 3) dX12_readsItem_87 rfl rfl ?_
  refine PW_nm rfl (fun i2 e2 => ?_)
  have f2 := F15.w e2
  have hT2 : i2 Y 14 = nI L ∧ ∀ j, j < L → i2 (Y + 9) j = nI (B j) := ⟨(f2.1 14 (by decide)).trans hT.1, fun q hq => by rw [f2.2 (Y + 9) (by omega)]; exact hT.2 q hq⟩
  refine PW_callV dX12_readsItem_88 moX12_readsHand cv12_170 (Yt) (by omega) rfl rfl (Nat.le_of_ble_eq_true rfl) (Nat.le_of_ble_eq_true rfl) (Nat.le_of_ble_eq_true rfl) (spX12_readsHand (d := d - 1) (sg := (-1)) (r := tE L B s) (a := nx L B s) hY' hT2 hL hB (f2.z hZ) hV (by omega) (tE_le hs).1 (by rw [w4.2.1]; exact rI_s15 e2) rfl h6) (fun v M1 hq => ?_)
  obtain ⟨rfl, i3, rfl, rr⟩ := hq
  refine PW_ireturn rfl (b1_n _) dX12_readsItem_91 (Nat.le_of_ble_eq_true rfl) (Nat.le_of_ble_eq_true rfl) ?_
  rw [show pItem L B (s, none, y) = zHk L B (-1) (nx L B s) y from by rw [pItem_w.2.2.2.1 hw]; exact zHk_pHand h6]
  exact ⟨rfl, i3, rfl, rr.f f2.rd⟩
set_option maxRecDepth 100000 in
set_option maxHeartbeats 4000000 in
theorem spX12_readsItem {G : GE} {d : Nat} {i : MI0} {S : MS} {Y : Nat} (hY : YS S Y) {L : Nat} {B : Nat → Nat} (hT : i Y 14 = nI L ∧ ∀ j, j < L → i (Y + 9) j = nI (B j)) (hL : L ≤ 150) (hB : ∀ j, j < L → B j < 128) {y : Vy} {b : Nat} (hZ : ZRq i Y y) (hV : VV b y) (hd : 10 ≤ d) {s : Nat} (hs : s ≤ L) (h15 : i Y 15 = nI s) : Mt G iX12_readsItem d [.ref Y] (i, S) (Wi (b1 ((pStop L B (pItem L B (s, none, y))).2.1 = none)) S (RRq L B (pStop L B (pItem L B (s, none, y))) i Y)) := by
  have hv6 := hV.2.1
  have hh6 := hV.1.1
  by_cases h1 : isW L B s 1 = true
  · by_cases h6 : vr y < 6
    · exact spX12_readsItem1 hY hT hL hB hZ hV hd hs h15 h1 h6
    · exact spX12_readsItem1F hY hT hL hB hZ hV hd hs h15 h1 (by omega)
  by_cases h2 : isW L B s 2 = true
  · by_cases h6 : vr y < 6
    · exact spX12_readsItem2 hY hT hL hB hZ hV hd hs h15 h2 h6
    · exact spX12_readsItem2F hY hT hL hB hZ hV hd hs h15 h2 (by omega)
  by_cases h3 : isW L B s 3 = true
  · by_cases h6 : hn (vh y) < 6
    · exact spX12_readsItem3 hY hT hL hB hZ hV hd hs h15 h3 h6
    · exact spX12_readsItem3F hY hT hL hB hZ hV hd hs h15 h3 (by omega)
  by_cases h4 : isW L B s 4 = true
  · by_cases h6 : hn (vh y) < 6
    · exact spX12_readsItem4 hY hT hL hB hZ hV hd hs h15 h4 h6
    · exact spX12_readsItem4F hY hT hL hB hZ hV hd hs h15 h4 (by omega)
  by_cases h0 : isW L B s 0 = true
  · exact spX12_readsItem0 hY hT hL hB hZ hV hd hs h15 h0
  · exact spX12_readsItemN hY hT hL hB hZ hV hd hs h15 (by cases q : isW L B s 0 with | false => rfl | true => exact absurd q h0) (by cases q : isW L B s 1 with | false => rfl | true => exact absurd q h1) (by cases q : isW L B s 2 with | false => rfl | true => exact absurd q h2) (by cases q : isW L B s 3 with | false => rfl | true => exact absurd q h3) (by cases q : isW L B s 4 with | false => rfl | true => exact absurd q h4)

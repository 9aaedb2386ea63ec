/-! ===== the reference: a text is read ===== -/
theorem tT0 {L : Nat} {B : Nat → Nat} {s : Nat} (hs : s < L) : ¬ tT L B s = 0 := by
  unfold tT
  rw [if_neg (by omega)]
  repeat' split
  all_goals omega
theorem pStop_ge {L : Nat} {B : Nat → Nat} {z : PT} (h : z.1 ≤ L) : z.1 ≤ (pStop L B z).1 := by
  unfold pStop
  split
  · exact (nx_le h).2
  · exact Nat.le_refl _
theorem pStop_none {L : Nat} {B : Nat → Nat} {z : PT} (h : (pStop L B z).2.1 = none) : z.2.1 = none := by
  cases q : z.2.1 with
  | none => rfl
  | some p => rw [pStop_some q] at h; cases h
theorem pNum_ge {L : Nat} {B : Nat → Nat} {m s : Nat} {f : Option Nat} (hs : s ≤ L) : s ≤ (pNum L B m s f).1 := by
  unfold pNum
  split
  · exact (nx_le hs).2
  · exact Nat.le_refl _
theorem pItem_gt {L : Nat} {B : Nat → Nat} {s : Nat} {y : Vy} (hs : s ≤ L) (h : (pItem L B (s, none, y)).2.1 = none) : s < (pItem L B (s, none, y)).1 := by
  have hw : ∀ w, isW L B s w = true → s < nx L B s := fun w hw => by
    have h4 := isW_4 hw
    have := rn_ge pS L B (tE L B s)
    unfold nx
    omega
  have hn1 := (nx_le (B := B) hs).1
  have rock : ∀ sg, (pRock L B sg (s, none, y)).2.1 = none → s < nx L B s → s < (pRock L B sg (s, none, y)).1 := fun sg h h2 => by
    unfold pRock at h ⊢
    split at h
    · exact absurd (h : some _ = none) (fun q => by cases q)
    · rename_i h6
      rw [if_neg h6]
      split at h
      · rename_i h7
        rw [if_pos h7]
        exact Nat.lt_of_lt_of_le h2 (nx_le hn1).2
      · exact absurd (h : some _ = none) (fun q => by cases q)
  have hand : ∀ sg, (pHand L B sg (s, none, y)).2.1 = none → s < nx L B s → s < (pHand L B sg (s, none, y)).1 := fun sg h h2 => by
    unfold pHand at h ⊢
    split at h
    · exact absurd (h : some _ = none) (fun q => by cases q)
    · rename_i h6
      rw [if_neg h6]
      have q1 := pNum_ok (B := B) (m := 5) (f := none) hn1 (fun p hp => by cases hp)
      have q2 := pNum_ok (B := B) (m := 40) q1.1 q1.2
      have g1 := pNum_ge (B := B) (m := 5) (f := none) hn1
      have g2 := pNum_ge (B := B) (m := 40) (f := (pNum L B 5 (nx L B s) none).2) q1.1
      have g3 := pNum_ge (B := B) (m := 3) (f := (pNum L B 40 (pNum L B 5 (nx L B s) none).1 (pNum L B 5 (nx L B s) none).2).2) q2.1
      exact Nat.lt_of_lt_of_le h2 (Nat.le_trans g1 (Nat.le_trans g2 g3))
  by_cases h1 : isW L B s 1 = true
  · rw [pItem_w.1 h1] at h ⊢; exact rock _ h (hw 1 h1)
  · by_cases h2 : isW L B s 2 = true
    · rw [pItem_w.2.1 h2] at h ⊢; exact rock _ h (hw 2 h2)
    · by_cases h3 : isW L B s 3 = true
      · rw [pItem_w.2.2.1 h3] at h ⊢; exact hand _ h (hw 3 h3)
      · by_cases h4 : isW L B s 4 = true
        · rw [pItem_w.2.2.2.1 h4] at h ⊢; exact hand _ h (hw 4 h4)
        · rw [pItem_w.2.2.2.2 (by cases q : isW L B s 1 with | false => rfl | true => exact absurd q h1) (by cases q : isW L B s 2 with | false => rfl | true => exact absurd q h2) (by cases q : isW L B s 3 with | false => rfl | true => exact absurd q h3) (by cases q : isW L B s 4 with | false => rfl | true => exact absurd q h4)] at h
          cases h
/-- what a text never tells -/
def YZq (y : Vy) : Prop := hp (vh y) = 0 ∧ hw (vh y) = 0 ∧ hf (vh y) = 0 ∧ vs y = 0 ∧ vu y = 0
theorem pStop_y (L : Nat) (B : Nat → Nat) (z : PT) : (pStop L B z).2.2 = z.2.2 := by unfold pStop; split <;> rfl
theorem pItem_z {L : Nat} {B : Nat → Nat} {z : PT} (h : YZq z.2.2) : YZq (pItem L B z).2.2 := by
  have hr : ∀ sg, YZq (pRock L B sg z).2.2 := fun sg => by
    unfold pRock
    split
    · exact h
    · split
      · exact h
      · exact h
  have hh : ∀ sg, YZq (pHand L B sg z).2.2 := fun sg => by
    unfold pHand
    split
    · exact h
    · show YZq (if _ then _ else _)
      split
      · exact ⟨h.1, h.2.1, h.2.2.1, h.2.2.2.1, rfl⟩
      · exact h
  unfold pItem
  split
  · exact hr _
  · split
    · exact hr _
    · split
      · exact hh _
      · split
        · exact hh _
        · exact h
theorem pLoop_z {L : Nat} {B : Nat → Nat} : ∀ (k n : Nat) (z : PT), YZq z.2.2 → YZq (pLoop L B k n z).2.2.2
  | 0, _, _, h => h
  | k + 1, n, z, h => by
    unfold pLoop
    split
    · exact pLoop_z k _ _ (by rw [pStop_y]; exact pItem_z h)
    · exact h
theorem pAll_z (L : Nat) (B : Nat → Nat) : YZq (pAll L B).2.2.2 := by
  refine pLoop_z _ _ _ ?_
  unfold pBeg
  split
  · rw [pStop_y]; exact ⟨rfl, rfl, rfl, rfl, rfl⟩
  · exact ⟨rfl, rfl, rfl, rfl, rfl⟩
theorem pLoop_len {L : Nat} {B : Nat → Nat} : ∀ (k n : Nat) (z : PT), (pLoop L B k n z).1 ≤ n + k
  | 0, _, _ => Nat.le_refl _
  | k + 1, n, z => by
    unfold pLoop
    split
    · have := pLoop_len (L := L) (B := B) k (n + 1) (pStop L B (pItem L B z)); omega
    · exact Nat.le_add_right _ _
/-- how a reading ends -/
def REq (L : Nat) (B : Nat → Nat) (w : Nat × PT) (i : MI0) (Y : Nat) (i' : MI0) : Prop := (w.2.2.1 = none → ZRq i' Y w.2.2.2) ∧ (∀ p, w.2.2.1 = some p → i' Y 15 = nI p) ∧ RDf i i' Y
def REa (w : Nat × PT) : Int32 := if w.2.2.1 = none then nI w.1 else -1
theorem whI_0 {L : Nat} {B : Nat → Nat} {s : Nat} : whI L B s = 0 ↔ isW L B s 0 = true := by
  unfold whI
  by_cases h : isW L B s 0 = true
  · rw [h]; exact ⟨fun _ => rfl, fun _ => rfl⟩
  · rw [if_neg h]
    refine ⟨fun q => ?_, fun q => absurd q h⟩
    exfalso
    revert q
    split
    · decide
    · split
      · decide
      · split
        · decide
        · split
          · decide
          · decide
set_option maxRecDepth 100000 in
set_option maxHeartbeats 4000000 in
theorem lpX12_readsShip {G : GE} {d : Nat} {i : MI0} {S : MS} {Y : Nat} (hY : YS S Y) {L : Nat} {B : Nat → Nat} (hT : i Y 14 = nI L ∧ ∀ j, j < L → i (Y + 9) j = nI (B j)) (hL : L ≤ 150) (hB : ∀ j, j < L → B j < 128) (b : Nat) (hd : 12 ≤ d) : ∀ (n0 n s : Nat) (y : Vy) (i' : MI0) (k : Nat), L - s < n0 → s ≤ L → i' Y 15 = nI s → ZRq i' Y y → VV b y → RDf i i' Y → L ≤ s + k → PW G iX12_readsShip d (Wi (REa (pLoop L B k n (s, none, y))) S (REq L B (pLoop L B k n (s, none, y)) i Y)) 53 [.ref Y, .int (nI n)] [] (i', S) 0 0 := by
  have hY' := hY
  obtain ⟨Yt, ⟨Yt1, Yr1⟩, ⟨Yt2, Yr2⟩, ⟨Yt3, Yr3⟩, ⟨Yt4, Yr4⟩, ⟨Yt5, Yr5⟩, ⟨Yt6, Yr6⟩, ⟨Yt7, Yr7⟩, ⟨Yt8, Yr8⟩, ⟨Yt9, Yr9⟩, ⟨Yt10, Yr10⟩, ⟨Yt11, Yr11⟩, ⟨Yt12, Yr12⟩, ⟨Yt13, Yr13⟩, ⟨Yt14, Yr14⟩, ⟨Yt15, Yr15⟩, ⟨Yt16, Yr16⟩, ⟨Yt17, Yr17⟩, ⟨Yt18, Yr18⟩, ⟨Yt19, Yr19⟩⟩ := hY
  intro n0
  induction n0 with
  | zero => intro n s y i' k h1; exact absurd h1 (by omega)
  | succ n0 ih =>
    intro n s y i' k hms hs v1 v2 v3 v4 hk
    have hT1 : i' Y 14 = nI L ∧ ∀ j, j < L → i' (Y + 9) j = nI (B j) := ⟨(v4.1 14 (by decide) (by decide) (by decide) (by decide)).trans hT.1, fun q hq => by rw [v4.2 (Y + 9) (by omega) (by omega) (by omega)]; exact hT.2 q hq⟩
    refine PW_aload_n (i := 0) dX12_readsShip_53 rfl rfl ?_
    refine PW_giv (v := nI s) dX12_readsShip_54 fg12_122 (Yt) (v1) ?_
    refine PW_aload_n (i := 0) dX12_readsShip_57 rfl rfl ?_
    refine PW_giv (v := nI L) dX12_readsShip_58 fg12_119 (Yt) (hT1.1) ?_
    refine PW_icmp_ge 83 dX12_readsShip_61 (by decide) (fun h61 => ?_) (fun h61 => ?_)
    · have h61 := jle h61
      have e : (pLoop L B k n (s, none, y)) = (n, (s, none, y)) := pLoop_n (fun q => q.2 (by unfold tT; exact if_pos h61))
      rw [e]
      refine PW_iload_n (i := 1) dX12_readsShip_83 rfl rfl ?_
      refine PW_ireturn rfl (rfl) dX12_readsShip_84 (Nat.le_of_ble_eq_true rfl) (Nat.le_of_ble_eq_true rfl) ?_
      exact Wi_mk rfl rfl ⟨fun _ => v2, fun p hp => (by cases hp), v4⟩
    · have h61 := jnle h61
      have hk1 : k = (k - 1) + 1 := by omega
      have e : (pLoop L B k n (s, none, y)) = pLoop L B (k - 1) (n + 1) (pStop L B (pItem L B (s, none, y))) := by rw [hk1]; exact pLoop_y (z := (s, none, y)) rfl (tT0 h61)
      rw [e]
      have z1 := pItem_ok (b := b) (L := L) (B := B) (z := (s, none, y)) ⟨hs, fun p hp => (by cases hp), v3⟩
      have z2 := pStop_ok (B := B) z1
      refine PW_aload_n (i := 0) dX12_readsShip_64 rfl rfl ?_
      refine PW_callV dX12_readsShip_65 moX12_readsItem cv12_173 (Yt) (by omega) rfl rfl (Nat.le_of_ble_eq_true rfl) (Nat.le_of_ble_eq_true rfl) (Nat.le_of_ble_eq_true rfl) (spX12_readsItem (d := d - 1) hY' hT1 hL hB v2 v3 (by omega) hs v1) (fun v M1 hq => ?_)
      obtain ⟨rfl, i2, rfl, rr⟩ := hq
      refine PW_if_ne 73 dX12_readsShip_68 (by decide) (fun h68 => ?_) (fun h68 => ?_)
      · have h68 := b1_1.mp h68
        refine PW_inc1 dX12_readsShip_73 rfl (Nat.le_of_ble_eq_true rfl) rfl ?_
        refine PW_aload_n (i := 0) dX12_readsShip_76 rfl rfl ?_
        obtain ⟨r1, hr1, hr2, hr3, hr4⟩ := rr.1 h68
        have hT2 : i2 Y 14 = nI L ∧ ∀ j, j < L → i2 (Y + 9) j = nI (B j) := ⟨(rr.2.2.1 14 (by decide) (by decide) (by decide) (by decide)).trans hT1.1, fun q hq => by rw [rr.2.2.2 (Y + 9) (by omega) (by omega) (by omega)]; exact hT1.2 q hq⟩
        refine PW_callV dX12_readsShip_77 moX12_skip cv12_141 (Yt) (by omega) rfl rfl (Nat.le_of_ble_eq_true rfl) (Nat.le_of_ble_eq_true rfl) (Nat.le_of_ble_eq_true rfl) (spX12_skip (d := d - 1) hY' hT2 hL hB hr1 hr2 (by omega)) (fun v M1 hq => ?_)
        obtain ⟨rfl, i3, rfl, p1, p2⟩ := hq
        rw [hr3] at p1
        refine PW_goto 53 dX12_readsShip_80 (by decide) ?_
        have hgt : s < (pStop L B (pItem L B (s, none, y))).1 := Nat.lt_of_lt_of_le (pItem_gt hs (pStop_none h68)) (pStop_ge z1.1)
        have ez : (pStop L B (pItem L B (s, none, y))) = ((pStop L B (pItem L B (s, none, y))).1, none, (pStop L B (pItem L B (s, none, y))).2.2) := Prod.ext rfl (Prod.ext h68 rfl)
        rw [ez]
        exact ih (n + 1) (pStop L B (pItem L B (s, none, y))).1 (pStop L B (pItem L B (s, none, y))).2.2 i3 (k - 1) (by omega) z2.1 p1 (p2.z hr4) z2.2.2 (v4.trans (rr.2.2.trans p2.rd)) (by omega)
      · have h68 := b1_0.mp h68
        refine PW_iconst (v := -1) dX12_readsShip_71 (by decide) ?_
        refine PW_ireturn rfl (rfl) dX12_readsShip_72 (Nat.le_of_ble_eq_true rfl) (Nat.le_of_ble_eq_true rfl) ?_
        have e2 : pLoop L B (k - 1) (n + 1) (pStop L B (pItem L B (s, none, y))) = (n + 1, (pStop L B (pItem L B (s, none, y)))) := pLoop_n (fun q => h68 q.1)
        rw [e2, show REa (n + 1, (pStop L B (pItem L B (s, none, y)))) = -1 from if_neg h68]
        exact Wi_mk rfl rfl ⟨fun q => absurd q h68, rr.2.1, v4.trans rr.2.2⟩
set_option maxRecDepth 100000 in
set_option maxHeartbeats 4000000 in
theorem spX12_readsShip {G : GE} {d : Nat} {i : MI0} {S : MS} {Y : Nat} (hY : YS S Y) {L : Nat} {B : Nat → Nat} (hT : i Y 14 = nI L ∧ ∀ j, j < L → i (Y + 9) j = nI (B j)) (hL : L ≤ 150) (hB : ∀ j, j < L → B j < 128) (b : Nat) (hd : 14 ≤ d) : Mt G iX12_readsShip d [.ref Y] (i, S) (Wi (REa (pAll L B)) S (REq L B (pAll L B) i Y)) := by
  have hY' := hY
  obtain ⟨Yt, ⟨Yt1, Yr1⟩, ⟨Yt2, Yr2⟩, ⟨Yt3, Yr3⟩, ⟨Yt4, Yr4⟩, ⟨Yt5, Yr5⟩, ⟨Yt6, Yr6⟩, ⟨Yt7, Yr7⟩, ⟨Yt8, Yr8⟩, ⟨Yt9, Yr9⟩, ⟨Yt10, Yr10⟩, ⟨Yt11, Yr11⟩, ⟨Yt12, Yr12⟩, ⟨Yt13, Yr13⟩, ⟨Yt14, Yr14⟩, ⟨Yt15, Yr15⟩, ⟨Yt16, Yr16⟩, ⟨Yt17, Yr17⟩, ⟨Yt18, Yr18⟩, ⟨Yt19, Yr19⟩⟩ := hY
  refine Mt_in 1 (ls := [.ref Y, .null]) moX12_readsShip (Nat.le_of_ble_eq_true rfl) rfl ?_
  refine PW_aload_n (i := 0) dX12_readsShip_0 rfl rfl ?_
  refine PW_iconst (v := 0) dX12_readsShip_1 (by decide) ?_
  refine PW_putI dX12_readsShip_2 fr12_122 (fun h => by cases h) (Yt) ?_
  refine PW_aload_n (i := 0) dX12_readsShip_5 rfl rfl ?_
  refine PW_iconst (v := 0) dX12_readsShip_6 (by decide) ?_
  refine PW_putI dX12_readsShip_7 fr12_154 (fun h => by cases h) (Yt) ?_
  refine PW_aload_n (i := 0) dX12_readsShip_10 rfl rfl ?_
  refine PW_iconst (v := 0) dX12_readsShip_11 (by decide) ?_
  refine PW_putI dX12_readsShip_12 fr12_161 (fun h => by cases h) (Yt) ?_
  refine PW_nm rfl (fun i1 e1 => ?_)
  have f1 : RDf i i1 Y := ⟨fun k h1 h2 h3 h4 => by rw [e1, rI_k _ _ _ h3, rI_k _ _ _ h2, rI_k _ _ _ h1]; rfl, fun q h1 _ _ => by rw [e1, rI_f _ _ h1, rI_f _ _ h1, rI_f _ _ h1]; rfl⟩
  have z1 : ZRq i1 Y vy0 := ⟨by rw [e1, rI_k _ _ _ (by decide)]; exact rI_s _ _ _ _, fun k hk => absurd hk (Nat.not_lt_zero k), by rw [e1]; exact rI_s _ _ _ _, fun k hk => absurd hk (Nat.not_lt_zero k)⟩
  have g1 : i1 Y 15 = nI 0 := by rw [e1, rI_k _ _ _ (by decide), rI_k _ _ _ (by decide)]; exact rI_s _ _ _ _
  have hT1 : i1 Y 14 = nI L ∧ ∀ j, j < L → i1 (Y + 9) j = nI (B j) := ⟨(f1.1 14 (by decide) (by decide) (by decide) (by decide)).trans hT.1, fun q hq => by rw [f1.2 (Y + 9) (by omega) (by omega) (by omega)]; exact hT.2 q hq⟩
  refine PW_aload_n (i := 0) dX12_readsShip_15 rfl rfl ?_
  refine PW_callV dX12_readsShip_16 moX12_skip cv12_141 (Yt) (by omega) rfl rfl (Nat.le_of_ble_eq_true rfl) (Nat.le_of_ble_eq_true rfl) (Nat.le_of_ble_eq_true rfl) (spX12_skip (d := d - 1) (r := 0) hY' hT1 hL hB (Nat.zero_le _) g1 (by omega)) (fun v M1 hq => ?_)
  obtain ⟨rfl, i2, rfl, p1, p2⟩ := hq
  have hs0 : (rn pS L B 0) ≤ L := rn_le (Nat.zero_le _)
  have r2 := f1.trans p2.rd
  have z2 := p2.z z1
  have hT2 : i2 Y 14 = nI L ∧ ∀ j, j < L → i2 (Y + 9) j = nI (B j) := ⟨(r2.1 14 (by decide) (by decide) (by decide) (by decide)).trans hT.1, fun q hq => by rw [r2.2 (Y + 9) (by omega) (by omega) (by omega)]; exact hT.2 q hq⟩
  refine PW_aload_n (i := 0) dX12_readsShip_19 rfl rfl ?_
  refine PW_callV dX12_readsShip_20 moX12_wordHere cv12_164 (Yt) (by omega) rfl rfl (Nat.le_of_ble_eq_true rfl) (Nat.le_of_ble_eq_true rfl) (Nat.le_of_ble_eq_true rfl) (spX12_wordHere (d := d - 1) hY' hT2 hL hB hs0 p1 (by omega)) (fun v M1 hq => ?_)
  obtain ⟨rfl, rfl⟩ := hq
  refine PW_if_eq 28 dX12_readsShip_23 (by decide) (fun h23 => ?_) (fun h23 => ?_)
  · have h23 := whI_0.mp h23
    have w4 := isW_4 h23
    refine PW_aload_n (i := 0) dX12_readsShip_28 rfl rfl ?_
    refine PW_dup dX12_readsShip_29 rfl ?_
    refine PW_giv (v := nI (rn pS L B 0)) dX12_readsShip_30 fg12_122 (Yt) (p1) ?_
    refine PW_iconst (v := 4) dX12_readsShip_33 (by decide) ?_
    refine PW_iadd dX12_readsShip_34 ?_
    refine PW_eqi (nI_add _ 4) ?_
    refine PW_putI dX12_readsShip_35 fr12_122 (fun h => by cases h) (Yt) ?_
    refine PW_nm rfl (fun i3 e3 => ?_)
    have f3 := F15.w e3
    have g3 : i3 Y 15 = nI (tE L B (rn pS L B 0)) := by rw [w4.2.1]; exact rI_s15 e3
    have z3 := f3.z z2
    have r3 := r2.trans f3.rd
    have hT3 : i3 Y 14 = nI L ∧ ∀ j, j < L → i3 (Y + 9) j = nI (B j) := ⟨(r3.1 14 (by decide) (by decide) (by decide) (by decide)).trans hT.1, fun q hq => by rw [r3.2 (Y + 9) (by omega) (by omega) (by omega)]; exact hT.2 q hq⟩
    refine PW_aload_n (i := 0) dX12_readsShip_38 rfl rfl ?_
    refine PW_callV dX12_readsShip_39 moX12_ends cv12_157 (Yt) (by omega) rfl rfl (Nat.le_of_ble_eq_true rfl) (Nat.le_of_ble_eq_true rfl) (Nat.le_of_ble_eq_true rfl) (spX12_ends (d := d - 1) (r := tE L B (rn pS L B 0)) hY' hT3 hL hB (tE_le hs0).1 g3 (by omega)) (fun v M1 hq => ?_)
    obtain ⟨rfl, i4, rfl, q1, q2⟩ := hq
    have q1 : i4 Y 15 = nI (if tT L B (nx L B (rn pS L B 0)) = 3 then tE L B (nx L B (rn pS L B 0)) else nx L B (rn pS L B 0)) := q1
    have hns := (nx_le (B := B) hs0).1
    have r4 := r3.trans q2.rd
    have z4 := q2.z z3
    have hT4 : i4 Y 14 = nI L ∧ ∀ j, j < L → i4 (Y + 9) j = nI (B j) := ⟨(r4.1 14 (by decide) (by decide) (by decide) (by decide)).trans hT.1, fun q hq => by rw [r4.2 (Y + 9) (by omega) (by omega) (by omega)]; exact hT.2 q hq⟩
    refine PW_if_ne 47 dX12_readsShip_42 (by decide) (fun h42 => ?_) (fun h42 => ?_)
    · have h42 : tT L B (nx L B (rn pS L B 0)) = 3 := b1_1.mp h42
      refine PW_iconst (v := 1) dX12_readsShip_47 (by decide) ?_
      refine PW_istore_n (i := 1) dX12_readsShip_48 rfl (Nat.le_of_ble_eq_true rfl) rfl ?_
      refine PW_aload_n (i := 0) dX12_readsShip_49 rfl rfl ?_
      have q15 : i4 Y 15 = nI (tE L B (nx L B (rn pS L B 0))) := q1.trans (by rw [if_pos h42])
      refine PW_callV dX12_readsShip_50 moX12_skip cv12_141 (Yt) (by omega) rfl rfl (Nat.le_of_ble_eq_true rfl) (Nat.le_of_ble_eq_true rfl) (Nat.le_of_ble_eq_true rfl) (spX12_skip (d := d - 1) (r := tE L B (nx L B (rn pS L B 0))) hY' hT4 hL hB (tE_le hns).1 q15 (by omega)) (fun v M1 hq => ?_)
      obtain ⟨rfl, i5, rfl, t1, t2⟩ := hq
      have e : pBeg L B = (nx L B (nx L B (rn pS L B 0)), none, vy0) := by unfold pBeg; rw [if_pos h23]; unfold pStop; rw [if_pos h42]
      have hge : 1 ≤ nx L B (nx L B (rn pS L B 0)) := by have := (nx_le (B := B) hns).2; have := (nx_le (B := B) hs0).2; have := rn_ge pS L B (tE L B (rn pS L B 0)); unfold nx at *; omega
      unfold pAll
      rw [e]
      exact lpX12_readsShip hY' hT hL hB b (by omega) (L + 1) 1 _ vy0 i5 149 (by omega) (nx_le hns).1 t1 (t2.z z4) (vy0_V b) (r4.trans t2.rd) (by omega)
    · have h42 : ¬ tT L B (nx L B (rn pS L B 0)) = 3 := b1_0.mp h42
      refine PW_iconst (v := -1) dX12_readsShip_45 (by decide) ?_
      refine PW_ireturn rfl (rfl) dX12_readsShip_46 (Nat.le_of_ble_eq_true rfl) (Nat.le_of_ble_eq_true rfl) ?_
      have e : pAll L B = (1, (nx L B (rn pS L B 0), some (nx L B (rn pS L B 0)), vy0)) := by unfold pAll pBeg; rw [if_pos h23]; unfold pStop; rw [if_neg h42]; exact pLoop_n (fun q => by cases q.1)
      rw [e]
      exact Wi_mk rfl rfl ⟨fun q => (by cases q), fun p hp => (by cases hp; exact q1.trans (by rw [if_neg h42])), r4⟩
  · have h23 : isW L B (rn pS L B 0) 0 = false := by cases q : isW L B (rn pS L B 0) 0 with | false => rfl | true => exact absurd (whI_0.mpr q) h23
    refine PW_iconst (v := -1) dX12_readsShip_26 (by decide) ?_
    refine PW_ireturn rfl (rfl) dX12_readsShip_27 (Nat.le_of_ble_eq_true rfl) (Nat.le_of_ble_eq_true rfl) ?_
    have e : pAll L B = (1, ((rn pS L B 0), some (rn pS L B 0), vy0)) := by unfold pAll pBeg; rw [if_neg (by rw [h23]; decide)]; exact pLoop_n (fun q => by cases q.1)
    rw [e]
    exact Wi_mk rfl rfl ⟨fun q => (by cases q), fun p hp => (by cases hp; exact p1), r2⟩

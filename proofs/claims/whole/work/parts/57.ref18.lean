/-! ===== the reference: rocks and hands of a text ===== -/
def ZRq (i : MI0) (Y : Nat) (y : Vy) : Prop := i Y 16 = nI (vr y) ∧ (∀ k, k < vr y → i (Y + 10) k = vR y k) ∧ i Y 17 = nI (hn (vh y)) ∧ ∀ m, m < hn (vh y) → i (Y + 11) (3 * m) = nI (hK (vh y) m) ∧ i (Y + 11) (3 * m + 1) = nI (hT (vh y) m) ∧ i (Y + 11) (3 * m + 2) = iN (hN (vh y) m)
def RDf (i i' : MI0) (Y : Nat) : Prop := (∀ k, k ≠ 15 → k ≠ 16 → k ≠ 17 → k ≠ 20 → i' Y k = i Y k) ∧ ∀ q, q ≠ Y → q ≠ Y + 10 → q ≠ Y + 11 → i' q = i q
theorem RDf.rfl' (i : MI0) (Y : Nat) : RDf i i Y := ⟨fun _ _ _ _ _ => rfl, fun _ _ _ _ => rfl⟩
theorem RDf.trans {i i1 i2 : MI0} {Y : Nat} (h1 : RDf i i1 Y) (h2 : RDf i1 i2 Y) : RDf i i2 Y := ⟨fun k a b c e => (h2.1 k a b c e).trans (h1.1 k a b c e), fun q a b c => (h2.2 q a b c).trans (h1.2 q a b c)⟩
theorem F15.rd {i i' : MI0} {Y : Nat} (h : F15 i i' Y) : RDf i i' Y := ⟨fun k a _ _ _ => h.1 k a, fun q a _ _ => h.2 q a⟩
theorem F15.z {i i' : MI0} {Y : Nat} {y : Vy} (h : F15 i i' Y) (hz : ZRq i Y y) : ZRq i' Y y := by
  unfold ZRq
  rw [h.1 16 (by decide), h.1 17 (by decide), h.2 (Y + 10) (by omega), h.2 (Y + 11) (by omega)]
  exact hz
def RRq (L : Nat) (B : Nat → Nat) (z : PT) (i : MI0) (Y : Nat) (i' : MI0) : Prop := (z.2.1 = none → ∃ r', r' ≤ L ∧ i' Y 15 = nI r' ∧ rn pS L B r' = z.1 ∧ ZRq i' Y z.2.2) ∧ (∀ p, z.2.1 = some p → i' Y 15 = nI p) ∧ RDf i i' Y
theorem rn_idem {p : Nat → Bool} {L : Nat} {B : Nat → Nat} {r : Nat} (hr : r ≤ L) : rn p L B (rn p L B r) = rn p L B r := rn_n (by
  by_cases h : rn p L B r < L
  · exact Or.inr (rn_end hr h)
  · exact Or.inl (by omega))
theorem pStop_some {L : Nat} {B : Nat → Nat} {z : PT} {p : Nat} (h : z.2.1 = some p) : (pStop L B z).2.1 = some p := by
  unfold pStop
  split
  · exact h
  · show fl z.2.1 z.1 = some p
    rw [h]; rfl
def zRk (L : Nat) (B : Nat → Nat) (sg : Int) (a : Nat) (y : Vy) : PT := if isN L B a 60 && !rkB y (iN (sg * (tV L B a : Int))) then (nx L B a, none, adR y (iN (sg * (tV L B a : Int)))) else (a, some a, y)
theorem zRk_pRock {L : Nat} {B : Nat → Nat} {sg : Int} {s : Nat} {y : Vy} (h : vr y < 6) : pRock L B sg (s, none, y) = zRk L B sg (nx L B s) y := by
  unfold pRock zRk
  rw [if_neg (show ¬ 6 ≤ vr (s, (none : Option Nat), y).2.2 from by show ¬ 6 ≤ vr y; omega)]
  rfl
theorem fail_RR {L : Nat} {B : Nat → Nat} {z : PT} {i i' : MI0} {S : MS} {Y p : Nat} (hz : z.2.1 = some p) (h15 : i' Y 15 = nI p) (hf : RDf i i' Y) : Wi (b1 ((pStop L B z).2.1 = none)) S (RRq L B (pStop L B z) i Y) (some (.int 0)) (i', S) := by
  have e := pStop_some (L := L) (B := B) hz
  rw [b1_f (by rw [e]; intro q; cases q)]
  refine Wi_mk rfl rfl ⟨fun q => (by rw [e] at q; cases q), fun p' hp => ?_, hf⟩
  rw [e] at hp
  cases hp
  exact h15
theorem stop_RR {L : Nat} {B : Nat → Nat} {a : Nat} {y : Vy} {i i1 i' : MI0} {S : MS} {Y : Nat} (hs : nx L B a ≤ L) (p1 : i' Y 15 = nI (if tT L B (nx L B a) = 3 then tE L B (nx L B a) else nx L B a)) (p2 : F15 i1 i' Y) (hZ : ZRq i1 Y y) (hf : RDf i i1 Y) : Wi (b1 ((pStop L B (nx L B a, none, y)).2.1 = none)) S (RRq L B (pStop L B (nx L B a, none, y)) i Y) (some (.int (b1 (tT L B (nx L B a) = 3)))) (i', S) := by
  unfold pStop
  by_cases h : tT L B (nx L B a) = 3
  · rw [if_pos h] at p1
    simp only [if_pos h]
    rw [b1_t h]
    exact Wi_mk rfl rfl ⟨fun _ => ⟨_, (tE_le hs).1, p1, rfl, p2.z hZ⟩, fun p hp => (by cases hp), hf.trans p2.rd⟩
  · rw [if_neg h] at p1
    simp only [if_neg h]
    rw [b1_f h]
    exact Wi_mk rfl (by rw [b1_f]; exact fun q => by cases q) ⟨fun q => (by cases q), fun p hp => (by cases hp; exact p1), hf.trans p2.rd⟩
set_option maxRecDepth 100000 in
set_option maxHeartbeats 4000000 in
theorem lpX12_readsRock {G : GE} {d : Nat} {i : MI0} {S : MS} {Y : Nat} (hY : YS S Y) {L : Nat} {B : Nat → Nat} (hT : i Y 14 = nI L ∧ ∀ j, j < L → i (Y + 9) j = nI (B j)) (hL : L ≤ 150) (hB : ∀ j, j < L → B j < 128) {y : Vy} {b : Nat} (hZ : ZRq i Y y) (hV : VV b y) (hd : 8 ≤ d) {sg : Int} {a : Nat} (haL : a ≤ L) (h6 : vr y < 6) (hN : isN L B a 60 = true) {i2 : MI0} (g15 : i2 Y 15 = nI (tE L B a)) (g20 : i2 Y 20 = nI (tV L B a)) (gf : ∀ k, k ≠ 15 → k ≠ 20 → i2 Y k = i Y k) (gq : ∀ q, q ≠ Y → i2 q = i q) : ∀ (n0 j : Nat), j ≤ vr y → vr y < j + n0 → anyB (fun k => decide (vR y k = (iN (sg * (tV L B a : Int))))) j = false → PW G iX12_readsRock d (Wi (b1 ((pStop L B (zRk L B sg a y)).2.1 = none)) S (RRq L B (pStop L B (zRk L B sg a y)) i Y)) 31 [.ref Y, .int (iN sg), .int (nI a), .int (iN (sg * (tV L B a : Int))), .int (nI j)] [] (i2, S) 0 0 := by
  have hY' := hY
  obtain ⟨Yt, ⟨Yt1, Yr1⟩, ⟨Yt2, Yr2⟩, ⟨Yt3, Yr3⟩, ⟨Yt4, Yr4⟩, ⟨Yt5, Yr5⟩, ⟨Yt6, Yr6⟩, ⟨Yt7, Yr7⟩, ⟨Yt8, Yr8⟩, ⟨Yt9, Yr9⟩, ⟨Yt10, Yr10⟩, ⟨Yt11, Yr11⟩, ⟨Yt12, Yr12⟩, ⟨Yt13, Yr13⟩, ⟨Yt14, Yr14⟩, ⟨Yt15, Yr15⟩, ⟨Yt16, Yr16⟩, ⟨Yt17, Yr17⟩, ⟨Yt18, Yr18⟩, ⟨Yt19, Yr19⟩⟩ := hY
  intro n0
  induction n0 with
  | zero => intro j h1 h2; exact absurd h2 (by omega)
  | succ n0 ih =>
    intro j hj1 hj2 v1
    refine PW_iload dX12_readsRock_31 rfl ?_
    refine PW_aload_n (i := 0) dX12_readsRock_33 rfl rfl ?_
    refine PW_giv (v := nI (vr y)) dX12_readsRock_34 fg12_154 (Yt) ((gf 16 (by decide) (by decide)).trans hZ.1) ?_
    refine PW_icmp_ge 64 dX12_readsRock_37 (by decide) (fun h37 => ?_) (fun h37 => ?_)
    · have h37 := jle h37
      have ej : j = vr y := by omega
      subst ej
      refine PW_aload_n (i := 0) dX12_readsRock_64 rfl rfl ?_
      refine PW_getR dX12_readsRock_65 fg12_37 (Yt) (Yr10) ?_
      refine PW_aload_n (i := 0) dX12_readsRock_68 rfl rfl ?_
      refine PW_giv (v := nI (vr y)) dX12_readsRock_69 fg12_154 (Yt) ((gf 16 (by decide) (by decide)).trans hZ.1) ?_
      refine PW_iload_n (i := 3) dX12_readsRock_72 rfl rfl ?_
      refine PW_ias dX12_readsRock_73 (Yt10) (by omega) (by omega) ?_
      refine PW_aload_n (i := 0) dX12_readsRock_74 rfl rfl ?_
      refine PW_dup dX12_readsRock_75 rfl ?_
      refine PW_giv (v := nI (vr y)) dX12_readsRock_76 fg12_154 (Yt) ((rI_a _ _ _ (by omega)).trans ((gf 16 (by decide) (by decide)).trans hZ.1)) ?_
      refine PW_iconst (v := 1) dX12_readsRock_79 (by decide) ?_
      refine PW_iadd dX12_readsRock_80 ?_
      refine PW_eqi (nI_1 _) ?_
      refine PW_putI dX12_readsRock_81 fr12_154 (fun h => by cases h) (Yt) ?_
      refine PW_aload_n (i := 0) dX12_readsRock_84 rfl rfl ?_
      refine PW_nm rfl (fun i4 e4 => ?_)
      have e5 : ∀ k, k ≠ 16 → i4 Y k = i2 Y k := fun k hk => by rw [e4, rI_k _ _ _ hk, rI_a _ _ _ (by omega)]; rfl
      have e6 : ∀ q, q ≠ Y → q ≠ Y + 10 → i4 q = i2 q := fun q h1 h2 => by rw [e4, rI_f _ _ h1, rI_f _ _ h2]; rfl
      have hT4 : i4 Y 14 = nI L ∧ ∀ j, j < L → i4 (Y + 9) j = nI (B j) := ⟨(e5 14 (by decide)).trans ((gf 14 (by decide) (by decide)).trans hT.1), fun q hq => by rw [e6 (Y + 9) (by omega) (by omega), gq (Y + 9) (by omega)]; exact hT.2 q hq⟩
      refine PW_callV dX12_readsRock_85 moX12_ends cv12_157 (Yt) (by omega) rfl rfl (Nat.le_of_ble_eq_true rfl) (Nat.le_of_ble_eq_true rfl) (Nat.le_of_ble_eq_true rfl) (spX12_ends (d := d - 1) (r := tE L B a) hY' hT4 hL hB (tE_le haL).1 ((e5 15 (by decide)).trans g15) (by omega)) (fun v M1 hq => ?_)
      obtain ⟨rfl, i5, rfl, q1, q2⟩ := hq
      refine PW_ireturn rfl (b1_n _) dX12_readsRock_88 (Nat.le_of_ble_eq_true rfl) (Nat.le_of_ble_eq_true rfl) ?_
      have hrk : rkB y (iN (sg * (tV L B a : Int))) = false := v1
      rw [show zRk L B sg a y = (nx L B a, none, adR y (iN (sg * (tV L B a : Int)))) from if_pos (by rw [hN, hrk]; rfl)]
      refine stop_RR (nx_le haL).1 q1 q2 ⟨?_, fun k hk => ?_, ?_, ?_⟩ ⟨fun k h1 h2 h3 h4 => (e5 k h2).trans (gf k h1 h4), fun q h1 h2 h3 => (e6 q h1 h2).trans (gq q h1)⟩
      · rw [e4, rI_s]; rfl
      · rw [e4, rI_a _ _ _ (by omega)]
        by_cases e : k = vr y
        · rw [e, rI_s]; exact (if_pos rfl).symm
        · rw [rI_k _ _ _ e, rP, gq (Y + 10) (by omega)]; refine (hZ.2.1 k ?_).trans (if_neg e).symm; have : k < vr y + 1 := hk; omega
      · rw [e5 17 (by decide), gf 17 (by decide) (by decide)]; exact hZ.2.2.1
      · rw [e6 (Y + 11) (by omega) (by omega), gq (Y + 11) (by omega)]; exact hZ.2.2.2
    · have h37 := jnle h37
      refine PW_aload_n (i := 0) dX12_readsRock_40 rfl rfl ?_
      refine PW_getR dX12_readsRock_41 fg12_37 (Yt) (Yr10) ?_
      refine PW_iload dX12_readsRock_44 rfl ?_
      refine PW_ial (v := vR y j) dX12_readsRock_46 (Yt10) (by omega) (by omega) ((congrFun (gq (Y + 10) (by omega)) j).trans (hZ.2.1 j h37)) ?_
      refine PW_iload_n (i := 3) dX12_readsRock_47 rfl rfl ?_
      refine PW_icmp_ne 58 dX12_readsRock_48 (by decide) (fun h48 => ?_) (fun h48 => ?_)
      · refine PW_inc1 dX12_readsRock_58 rfl (Nat.le_of_ble_eq_true rfl) rfl ?_
        refine PW_goto 31 dX12_readsRock_61 (by decide) ?_
        exact ih (j + 1) (by omega) (by omega) (by rw [anyB_s, v1, decide_eq_false h48]; rfl)
      · refine PW_aload_n (i := 0) dX12_readsRock_51 rfl rfl ?_
        refine PW_iload_n (i := 2) dX12_readsRock_52 rfl rfl ?_
        refine PW_putI dX12_readsRock_53 fr12_122 (fun h => by cases h) (Yt) ?_
        refine PW_nm rfl (fun i4 e4 => ?_)
        refine PW_iconst (v := 0) dX12_readsRock_56 (by decide) ?_
        refine PW_ireturn rfl (rfl) dX12_readsRock_57 (Nat.le_of_ble_eq_true rfl) (Nat.le_of_ble_eq_true rfl) ?_
        have hrk : rkB y (iN (sg * (tV L B a : Int))) = true := anyB_t (j := j) (decide_eq_true h48) h37
        rw [show zRk L B sg a y = (a, some a, y) from if_neg (by rw [hN, hrk]; decide)]
        exact fail_RR rfl (by rw [e4]; exact rI_s _ _ _ _) ⟨fun k h1 h2 h3 h4 => by rw [e4, rI_k _ _ _ h1]; exact gf k h1 h4, fun q h1 h2 h3 => by rw [e4, rI_f _ _ h1]; exact gq q h1⟩
set_option maxRecDepth 100000 in
set_option maxHeartbeats 4000000 in
theorem spX12_readsRock {G : GE} {d : Nat} {i : MI0} {S : MS} {Y : Nat} (hY : YS S Y) {L : Nat} {B : Nat → Nat} (hT : i Y 14 = nI L ∧ ∀ j, j < L → i (Y + 9) j = nI (B j)) (hL : L ≤ 150) (hB : ∀ j, j < L → B j < 128) {y : Vy} {b : Nat} (hZ : ZRq i Y y) (hV : VV b y) (hd : 8 ≤ d) {sg : Int} {r a : Nat} (hr : r ≤ L) (h15 : i Y 15 = nI r) (ha : rn pS L B r = a) (h6 : vr y < 6) : Mt G iX12_readsRock d [.ref Y, .int (iN sg)] (i, S) (Wi (b1 ((pStop L B (zRk L B sg a y)).2.1 = none)) S (RRq L B (pStop L B (zRk L B sg a y)) i Y)) := by
  have hY' := hY
  obtain ⟨Yt, ⟨Yt1, Yr1⟩, ⟨Yt2, Yr2⟩, ⟨Yt3, Yr3⟩, ⟨Yt4, Yr4⟩, ⟨Yt5, Yr5⟩, ⟨Yt6, Yr6⟩, ⟨Yt7, Yr7⟩, ⟨Yt8, Yr8⟩, ⟨Yt9, Yr9⟩, ⟨Yt10, Yr10⟩, ⟨Yt11, Yr11⟩, ⟨Yt12, Yr12⟩, ⟨Yt13, Yr13⟩, ⟨Yt14, Yr14⟩, ⟨Yt15, Yr15⟩, ⟨Yt16, Yr16⟩, ⟨Yt17, Yr17⟩, ⟨Yt18, Yr18⟩, ⟨Yt19, Yr19⟩⟩ := hY
  refine Mt_in 3 (ls := [.ref Y, .int (iN sg), .null, .null, .null]) moX12_readsRock (Nat.le_of_ble_eq_true rfl) rfl ?_
  refine PW_aload_n (i := 0) dX12_readsRock_0 rfl rfl ?_
  refine PW_callV dX12_readsRock_1 moX12_skip cv12_141 (Yt) (by omega) rfl rfl (Nat.le_of_ble_eq_true rfl) (Nat.le_of_ble_eq_true rfl) (Nat.le_of_ble_eq_true rfl) (spX12_skip (d := d - 1) hY' hT hL hB hr h15 (by omega)) (fun v M1 hq => ?_)
  obtain ⟨rfl, i1, rfl, p1, p2⟩ := hq
  rw [ha] at p1
  have haL : a ≤ L := ha ▸ rn_le hr
  have hT1 : i1 Y 14 = nI L ∧ ∀ j, j < L → i1 (Y + 9) j = nI (B j) := ⟨(p2.1 14 (by decide)).trans hT.1, fun q hq => by rw [p2.2 (Y + 9) (by omega)]; exact hT.2 q hq⟩
  have hid : rn pS L B a = a := by rw [← ha]; exact rn_idem hr
  refine PW_aload_n (i := 0) dX12_readsRock_4 rfl rfl ?_
  refine PW_giv (v := nI a) dX12_readsRock_5 fg12_122 (Yt) (p1) ?_
  refine PW_istore_n (i := 2) dX12_readsRock_8 rfl (Nat.le_of_ble_eq_true rfl) rfl ?_
  refine PW_aload_n (i := 0) dX12_readsRock_9 rfl rfl ?_
  refine PW_iconst (v := 0) dX12_readsRock_10 (by decide) ?_
  refine PW_bipush (v := 60) dX12_readsRock_11 (by decide) ?_
  refine PW_callV dX12_readsRock_13 moX12_number cv12_150 (Yt) (by omega) rfl rfl (Nat.le_of_ble_eq_true rfl) (Nat.le_of_ble_eq_true rfl) (Nat.le_of_ble_eq_true rfl) (spX12_number (d := d - 1) (m := 60) hY' hT1 hL hB haL p1 (by omega) (by omega)) (fun v M1 hq => ?_)
  rw [hid] at hq
  obtain ⟨rfl, i2, rfl, g1, g2, g3, g4⟩ := hq
  refine PW_if_ne 21 dX12_readsRock_16 (by decide) (fun h16 => ?_) (fun h16 => ?_)
  · have h16 := b2i_n.mp h16
    refine PW_iload_n (i := 1) dX12_readsRock_21 rfl rfl ?_
    refine PW_aload_n (i := 0) dX12_readsRock_22 rfl rfl ?_
    refine PW_giv (v := nI (tV L B a)) dX12_readsRock_23 fg12_147 (Yt) ((g1 h16).2) ?_
    refine PW_imul dX12_readsRock_26 ?_
    refine PW_eqi (show _ = (iN (sg * (tV L B a : Int))) by rw [nI_iN, iN_mul]) ?_
    refine PW_istore_n (i := 3) dX12_readsRock_27 rfl (Nat.le_of_ble_eq_true rfl) rfl ?_
    refine PW_iconst (v := 0) dX12_readsRock_28 (by decide) ?_
    refine PW_istore dX12_readsRock_29 (Nat.le_of_ble_eq_true rfl) rfl ?_
    exact lpX12_readsRock hY' hT hL hB hZ hV hd haL h6 h16 (g1 h16).1 (g1 h16).2 (fun k h1 h2 => (g3 k h1 h2).trans (p2.1 k h1)) (fun q hq => (g4 q hq).trans (p2.2 q hq)) (vr y + 1) 0 (by omega) (by omega) rfl
  · have h16 := b2i_0.mp h16
    refine PW_iconst (v := 0) dX12_readsRock_19 (by decide) ?_
    refine PW_ireturn rfl (rfl) dX12_readsRock_20 (Nat.le_of_ble_eq_true rfl) (Nat.le_of_ble_eq_true rfl) ?_
    rw [show zRk L B sg a y = (a, some a, y) from if_neg (by rw [h16, Bool.false_and]; decide)]
    exact fail_RR rfl (g2 (by rw [h16]; decide)) ⟨fun k h1 h2 h3 h4 => (g3 k h1 h4).trans (p2.1 k h1), fun q h1 h2 h3 => (g4 q h1).trans (p2.2 q h1)⟩
def pHk (L : Nat) (B : Nat → Nat) (a j : Nat) : Nat × Option Nat := if j = 0 then (a, none) else if j = 1 then pH1 L B a none else if j = 2 then pH2 L B a none else pH3 L B a none
def hlim (j : Nat) : Nat := if j = 0 then 5 else if j = 1 then 40 else 3
theorem pHk_s {L : Nat} {B : Nat → Nat} {a j : Nat} (hj : j < 3) : pHk L B a (j + 1) = pNum L B (hlim j) (pHk L B a j).1 (pHk L B a j).2 := by
  rcases (by omega : j = 0 ∨ j = 1 ∨ j = 2) with rfl | rfl | rfl <;> rfl
theorem pHk_no {L : Nat} {B : Nat → Nat} {a j : Nat} (hj : j < 3) (h0 : (pHk L B a j).2 = none) (hN : ¬ isN L B (pHk L B a j).1 (hlim j) = true) : (pH3 L B a none).2 = some (pHk L B a j).1 := by
  have h1 : (pHk L B a (j + 1)).2 = some (pHk L B a j).1 := by
    rw [pHk_s hj]
    unfold pNum
    rw [if_neg hN, h0]
    rfl
  have keep : ∀ k, k < 3 → (pHk L B a k).2 = some (pHk L B a j).1 → (pHk L B a (k + 1)).2 = some (pHk L B a j).1 := by
    intro k hk hs
    rw [pHk_s hk]
    unfold pNum
    split
    · exact hs
    · show fl (pHk L B a k).2 _ = _
      rw [hs]; rfl
  rcases (by omega : j = 0 ∨ j = 1 ∨ j = 2) with rfl | rfl | rfl
  · exact keep 2 (by omega) (keep 1 (by omega) h1)
  · exact keep 2 (by omega) h1
  · exact h1
def zHk (L : Nat) (B : Nat → Nat) (sg : Int) (a : Nat) (y : Vy) : PT := ((pH3 L B a none).1, (pH3 L B a none).2, if (pH3 L B a none).2 = none then adV y (tV L B a) (tV L B (pH1 L B a none).1) (sg * (tV L B (pH2 L B a none).1 : Int)) else y)
theorem zHk_pHand {L : Nat} {B : Nat → Nat} {sg : Int} {s : Nat} {y : Vy} (h : hn (vh y) < 6) : pHand L B sg (s, none, y) = zHk L B sg (nx L B s) y := by
  unfold pHand zHk
  rw [if_neg (show ¬ 6 ≤ hn (vh (s, (none : Option Nat), y).2.2) from by show ¬ 6 ≤ hn (vh y); omega)]
/-- the numbers of a hand, j of them read -/
def HDq (L : Nat) (B : Nat → Nat) (sg : Int) (a m : Nat) (i i' : MI0) (Y j : Nat) : Prop := (0 < j → i' (Y + 11) (3 * m) = nI (tV L B a)) ∧ (1 < j → i' (Y + 11) (3 * m + 1) = nI (tV L B (pH1 L B a none).1)) ∧ (2 < j → i' (Y + 11) (3 * m + 2) = iN (sg * (tV L B (pH2 L B a none).1 : Int))) ∧ (∀ k, k < 3 * m → i' (Y + 11) k = i (Y + 11) k) ∧ (∀ k, k ≠ 15 → k ≠ 20 → i' Y k = i Y k) ∧ ∀ q, q ≠ Y → q ≠ Y + 11 → i' q = i q
theorem HDq_s {L : Nat} {B : Nat → Nat} {sg : Int} {a m : Nat} {i i1 i2 i3 : MI0} {S : MS} {Y j : Nat} {v : Int32} (h : HDq L B sg a m i i1 Y j) (hj : j < 3) (g3 : ∀ k, k ≠ 15 → k ≠ 20 → i2 Y k = i1 Y k) (g4 : ∀ q, q ≠ Y → i2 q = i1 q) (e : i3 = mi (wI (i2, S) (Y + 11) (3 * m + j) v)) (hv : v = if j = 2 then iN (sg * (tV L B (pHk L B a j).1 : Int)) else nI (tV L B (pHk L B a j).1)) : HDq L B sg a m i i3 Y (j + 1) := by
  obtain ⟨h1, h2, h3, h4, h5, h6⟩ := h
  have r : ∀ k, k ≠ 3 * m + j → i3 (Y + 11) k = i1 (Y + 11) k := fun k hk => by rw [e, rI_k _ _ _ hk, rP, g4 (Y + 11) (by omega)]
  have rs : i3 (Y + 11) (3 * m + j) = v := by rw [e]; exact rI_s _ _ _ _
  refine ⟨fun _ => ?_, fun q => ?_, fun q => ?_, fun k hk => (r k (by omega)).trans (h4 k hk), fun k a b => ?_, fun q a b => ?_⟩
  · by_cases z : j = 0
    · subst z
      rw [show 3 * m = 3 * m + 0 from rfl, rs, hv]; rfl
    · rw [r _ (by omega)]; exact h1 (by omega)
  · by_cases z : j = 1
    · subst z
      rw [rs, hv]; rfl
    · rw [r _ (by omega)]; exact h2 (by omega)
  · by_cases z : j = 2
    · subst z
      rw [rs, hv]; rfl
    · rw [r _ (by omega)]; exact h3 (by omega)
  · rw [e, rI_a _ _ _ (by omega)]; exact (g3 k a b).trans (h5 k a b)
  · rw [e, rI_f _ _ b]; exact (g4 q a).trans (h6 q a b)
theorem stop_RR2 {L : Nat} {B : Nat → Nat} {s : Nat} {y : Vy} {i i1 i' : MI0} {S : MS} {Y : Nat} (hs : s ≤ L) (p1 : i' Y 15 = nI (if tT L B s = 3 then tE L B s else s)) (p2 : F15 i1 i' Y) (hZ : ZRq i1 Y y) (hf : RDf i i1 Y) : Wi (b1 ((pStop L B (s, none, y)).2.1 = none)) S (RRq L B (pStop L B (s, none, y)) i Y) (some (.int (b1 (tT L B s = 3)))) (i', S) := by
  unfold pStop
  by_cases h : tT L B s = 3
  · rw [if_pos h] at p1
    simp only [if_pos h]
    rw [b1_t h]
    exact Wi_mk rfl rfl ⟨fun _ => ⟨_, (tE_le hs).1, p1, rfl, p2.z hZ⟩, fun p hp => (by cases hp), hf.trans p2.rd⟩
  · rw [if_neg h] at p1
    simp only [if_neg h]
    rw [b1_f h]
    exact Wi_mk rfl (by rw [b1_f]; exact fun q => by cases q) ⟨fun q => (by cases q), fun p hp => (by cases hp; exact p1), hf.trans p2.rd⟩
set_option maxRecDepth 100000 in
set_option maxHeartbeats 4000000 in
theorem lpX12_readsHand {G : GE} {d : Nat} {i : MI0} {S : MS} {Y : Nat} (hY : YS S Y) {L : Nat} {B : Nat → Nat} (hT : i Y 14 = nI L ∧ ∀ j, j < L → i (Y + 9) j = nI (B j)) (hL : L ≤ 150) (hB : ∀ j, j < L → B j < 128) {y : Vy} {b : Nat} (hZ : ZRq i Y y) (hV : VV b y) (hd : 8 ≤ d) {sg : Int} {a : Nat} (h6 : hn (vh y) < 6) : ∀ (n0 j : Nat), j ≤ 3 → 3 < j + n0 → ∀ (i' : MI0) (r : Nat), r ≤ L → i' Y 15 = nI r → rn pS L B r = (pHk L B a j).1 → (pHk L B a j).2 = none → HDq L B sg a (hn (vh y)) i i' Y j → PW G iX12_readsHand d (Wi (b1 ((pStop L B (zHk L B sg a y)).2.1 = none)) S (RRq L B (pStop L B (zHk L B sg a y)) i Y)) 2 [.ref Y, .int (iN sg), .int (nI j)] [] (i', S) 0 0 := by
  have hY' := hY
  obtain ⟨Yt, ⟨Yt1, Yr1⟩, ⟨Yt2, Yr2⟩, ⟨Yt3, Yr3⟩, ⟨Yt4, Yr4⟩, ⟨Yt5, Yr5⟩, ⟨Yt6, Yr6⟩, ⟨Yt7, Yr7⟩, ⟨Yt8, Yr8⟩, ⟨Yt9, Yr9⟩, ⟨Yt10, Yr10⟩, ⟨Yt11, Yr11⟩, ⟨Yt12, Yr12⟩, ⟨Yt13, Yr13⟩, ⟨Yt14, Yr14⟩, ⟨Yt15, Yr15⟩, ⟨Yt16, Yr16⟩, ⟨Yt17, Yr17⟩, ⟨Yt18, Yr18⟩, ⟨Yt19, Yr19⟩⟩ := hY
  intro n0
  induction n0 with
  | zero => intro j h1 h2; exact absurd h2 (by omega)
  | succ n0 ih =>
    intro j hj1 hj2 i' r hr v15 hrn v0 hd0
    refine PW_iload_n (i := 2) dX12_readsHand_2 rfl rfl ?_
    refine PW_iconst (v := 3) dX12_readsHand_3 (by decide) ?_
    have hpl : (pHk L B a j).1 ≤ L := by rw [← hrn]; exact rn_le hr
    have hT1 : i' Y 14 = nI L ∧ ∀ j, j < L → i' (Y + 9) j = nI (B j) := ⟨(hd0.2.2.2.2.1 14 (by decide) (by decide)).trans hT.1, fun q hq => by rw [hd0.2.2.2.2.2 (Y + 9) (by omega) (by omega)]; exact hT.2 q hq⟩
    refine PW_icmp_ge 73 dX12_readsHand_4 (by decide) (fun h4 => ?_) (fun h4 => ?_)
    · have h4 := jle (a := 3) h4
      have ej : j = 3 := by omega
      subst ej
      refine PW_aload_n (i := 0) dX12_readsHand_73 rfl rfl ?_
      refine PW_dup dX12_readsHand_74 rfl ?_
      refine PW_giv (v := nI (hn (vh y))) dX12_readsHand_75 fg12_161 (Yt) ((hd0.2.2.2.2.1 17 (by decide) (by decide)).trans hZ.2.2.1) ?_
      refine PW_iconst (v := 1) dX12_readsHand_78 (by decide) ?_
      refine PW_iadd dX12_readsHand_79 ?_
      refine PW_eqi (nI_1 _) ?_
      refine PW_putI dX12_readsHand_80 fr12_161 (fun h => by cases h) (Yt) ?_
      refine PW_aload_n (i := 0) dX12_readsHand_83 rfl rfl ?_
      refine PW_nm rfl (fun i4 e4 => ?_)
      have e5 : ∀ k, k ≠ 17 → i4 Y k = i' Y k := fun k hk => by rw [e4, rI_k _ _ _ hk]; rfl
      have e6 : ∀ q, q ≠ Y → i4 q = i' q := fun q h1 => by rw [e4, rI_f _ _ h1]; rfl
      have hT4 : i4 Y 14 = nI L ∧ ∀ j, j < L → i4 (Y + 9) j = nI (B j) := ⟨(e5 14 (by decide)).trans hT1.1, fun q hq => by rw [e6 (Y + 9) (by omega)]; exact hT1.2 q hq⟩
      refine PW_callV dX12_readsHand_84 moX12_ends cv12_157 (Yt) (by omega) rfl rfl (Nat.le_of_ble_eq_true rfl) (Nat.le_of_ble_eq_true rfl) (Nat.le_of_ble_eq_true rfl) (spX12_ends (d := d - 1) (r := r) hY' hT4 hL hB hr ((e5 15 (by decide)).trans v15) (by omega)) (fun v M1 hq => ?_)
      rw [hrn] at hq
      obtain ⟨rfl, i5, rfl, q1, q2⟩ := hq
      refine PW_ireturn rfl (b1_n _) dX12_readsHand_87 (Nat.le_of_ble_eq_true rfl) (Nat.le_of_ble_eq_true rfl) ?_
      have v0b : (pH3 L B a none).2 = none := v0
      have ez : zHk L B sg a y = ((pHk L B a 3).1, none, adV y (tV L B a) (tV L B (pH1 L B a none).1) (sg * (tV L B (pH2 L B a none).1 : Int))) := by unfold zHk; rw [if_pos v0b, v0b]; rfl
      rw [ez]
      obtain ⟨w1, w2, w3, w4, w5, w6⟩ := hd0
      refine stop_RR2 hpl q1 q2 ⟨?_, ?_, ?_, fun m hm => ?_⟩ ⟨fun k h1 h2 h3 h4 => (e5 k h3).trans (w5 k h1 h4), fun q h1 h2 h3 => (e6 q h1).trans (w6 q h1 h3)⟩
      · rw [e5 16 (by decide), w5 16 (by decide) (by decide)]; exact hZ.1
      · rw [e6 (Y + 10) (by omega), w6 (Y + 10) (by omega) (by omega)]; exact hZ.2.1
      · rw [e4, rI_s]; rfl
      · rw [e6 (Y + 11) (by omega)]
        have hm2 : m < hn (vh y) + 1 := hm
        show _ = nI (if m = hn (vh y) then _ else _) ∧ _ = nI (if m = hn (vh y) then _ else _) ∧ _ = iN (if m = hn (vh y) then _ else _)
        by_cases e : m = hn (vh y)
        · rw [if_pos e, if_pos e, if_pos e, e]; exact ⟨w1 (by omega), w2 (by omega), w3 (by omega)⟩
        · rw [if_neg e, if_neg e, if_neg e, w4 _ (by omega), w4 _ (by omega), w4 _ (by omega)]; exact hZ.2.2.2 m (by omega)
    · have h4 := jnle (a := 3) h4
      refine PW_aload_n (i := 0) dX12_readsHand_7 rfl rfl ?_
      refine PW_iconst (v := 0) dX12_readsHand_8 (by decide) ?_
      refine PW_iload_n (i := 2) dX12_readsHand_9 rfl rfl ?_
      refine PW_if_ne 17 dX12_readsHand_10 (by decide) (fun h10 => ?_) (fun h10 => ?_)
      · have h10 := jne (b := 0) h10
        refine PW_iload_n (i := 2) dX12_readsHand_17 rfl rfl ?_
        refine PW_iconst (v := 1) dX12_readsHand_18 (by decide) ?_
        refine PW_icmp_ne 27 dX12_readsHand_19 (by decide) (fun h19 => ?_) (fun h19 => ?_)
        · have h19 := jne (b := 1) h19
          refine PW_iconst (v := 3) dX12_readsHand_27 (by decide) ?_
          have hlm : hlim j = 3 := by unfold hlim; first | rw [if_pos h10] | rw [if_neg h10, if_pos h19] | rw [if_neg h10, if_neg h19]
          refine PW_callV dX12_readsHand_28 moX12_number cv12_150 (Yt) (by omega) rfl rfl (Nat.le_of_ble_eq_true rfl) (Nat.le_of_ble_eq_true rfl) (Nat.le_of_ble_eq_true rfl) (spX12_number (d := d - 1) (m := 3) hY' hT1 hL hB hr v15 (by omega) (by omega)) (fun v M1 hq => ?_)
          rw [hrn, ← hlm] at hq
          obtain ⟨rfl, i2, rfl, g1, g2, g3, g4⟩ := hq
          refine PW_if_ne 36 dX12_readsHand_31 (by decide) (fun h31 => ?_) (fun h31 => ?_)
          · have h31 := b2i_n.mp h31
            refine PW_aload_n (i := 0) dX12_readsHand_36 rfl rfl ?_
            refine PW_getR dX12_readsHand_37 fg12_40 (Yt) (Yr11) ?_
            refine PW_iconst (v := 3) dX12_readsHand_40 (by decide) ?_
            refine PW_aload_n (i := 0) dX12_readsHand_41 rfl rfl ?_
            refine PW_giv (v := nI (hn (vh y))) dX12_readsHand_42 fg12_161 (Yt) ((g3 17 (by decide) (by decide)).trans ((hd0.2.2.2.2.1 17 (by decide) (by decide)).trans hZ.2.2.1)) ?_
            refine PW_imul dX12_readsHand_45 ?_
            refine PW_eqi (pk_mul 3 _) ?_
            refine PW_iload_n (i := 2) dX12_readsHand_46 rfl rfl ?_
            refine PW_iadd dX12_readsHand_47 ?_
            refine PW_eqi (nI_add _ _) ?_
            refine PW_iload_n (i := 2) dX12_readsHand_48 rfl rfl ?_
            refine PW_iconst (v := 2) dX12_readsHand_49 (by decide) ?_
            refine PW_icmp_ne 62 dX12_readsHand_50 (by decide) (fun h50 => ?_) (fun h50 => ?_)
            · have h50 := jne (b := 2) h50
              refine PW_aload_n (i := 0) dX12_readsHand_62 rfl rfl ?_
              refine PW_giv (v := nI (tV L B (pHk L B a j).1)) dX12_readsHand_63 fg12_147 (Yt) ((g1 h31).2) ?_
              refine PW_ias dX12_readsHand_66 (Yt11) (by omega) (by omega) ?_
              refine PW_inc1 dX12_readsHand_67 rfl (Nat.le_of_ble_eq_true rfl) rfl ?_
              refine PW_goto 2 dX12_readsHand_70 (by decide) ?_
              refine PW_nm rfl (fun i3 e3 => ?_)
              have hd3 := HDq_s hd0 h4 g3 g4 e3 (by first | (rw [if_pos h50]) | (rw [if_neg h50]))
              have e15 : i3 Y 15 = nI (tE L B (pHk L B a j).1) := by rw [e3, rI_a _ _ _ (by omega)]; exact (g1 h31).1
              have hps := pHk_s (L := L) (B := B) (a := a) h4
              have hpn : pNum L B (hlim j) (pHk L B a j).1 (pHk L B a j).2 = (nx L B (pHk L B a j).1, none) := by unfold pNum; rw [if_pos h31, v0]
              exact ih (j + 1) (by omega) (by omega) i3 (tE L B (pHk L B a j).1) (tE_le hpl).1 e15 (by rw [hps, hpn]; rfl) (by rw [hps, hpn]) hd3
            · have h50 := jeq (b := 2) h50
              refine PW_iload_n (i := 1) dX12_readsHand_53 rfl rfl ?_
              refine PW_aload_n (i := 0) dX12_readsHand_54 rfl rfl ?_
              refine PW_giv (v := nI (tV L B (pHk L B a j).1)) dX12_readsHand_55 fg12_147 (Yt) ((g1 h31).2) ?_
              refine PW_imul dX12_readsHand_58 ?_
              refine PW_eqi (show _ = iN (sg * (tV L B (pHk L B a j).1 : Int)) by rw [nI_iN, iN_mul]) ?_
              refine PW_goto 66 dX12_readsHand_59 (by decide) ?_
              refine PW_ias dX12_readsHand_66 (Yt11) (by omega) (by omega) ?_
              refine PW_inc1 dX12_readsHand_67 rfl (Nat.le_of_ble_eq_true rfl) rfl ?_
              refine PW_goto 2 dX12_readsHand_70 (by decide) ?_
              refine PW_nm rfl (fun i3 e3 => ?_)
              have hd3 := HDq_s hd0 h4 g3 g4 e3 (by first | (rw [if_pos h50]) | (rw [if_neg h50]))
              have e15 : i3 Y 15 = nI (tE L B (pHk L B a j).1) := by rw [e3, rI_a _ _ _ (by omega)]; exact (g1 h31).1
              have hps := pHk_s (L := L) (B := B) (a := a) h4
              have hpn : pNum L B (hlim j) (pHk L B a j).1 (pHk L B a j).2 = (nx L B (pHk L B a j).1, none) := by unfold pNum; rw [if_pos h31, v0]
              exact ih (j + 1) (by omega) (by omega) i3 (tE L B (pHk L B a j).1) (tE_le hpl).1 e15 (by rw [hps, hpn]; rfl) (by rw [hps, hpn]) hd3
          · have h31 := b2i_0.mp h31
            refine PW_iconst (v := 0) dX12_readsHand_34 (by decide) ?_
            refine PW_ireturn rfl (rfl) dX12_readsHand_35 (Nat.le_of_ble_eq_true rfl) (Nat.le_of_ble_eq_true rfl) ?_
            exact fail_RR (z := zHk L B sg a y) (pHk_no h4 v0 (by rw [h31]; decide)) (g2 (by rw [h31]; decide)) ⟨fun k h1 h2 h3 h4 => (g3 k h1 h4).trans (hd0.2.2.2.2.1 k h1 h4), fun q h1 h2 h3 => (g4 q h1).trans (hd0.2.2.2.2.2 q h1 h3)⟩
        · have h19 := jeq (b := 1) h19
          refine PW_bipush (v := 40) dX12_readsHand_22 (by decide) ?_
          refine PW_goto 28 dX12_readsHand_24 (by decide) ?_
          have hlm : hlim j = 40 := by unfold hlim; first | rw [if_pos h10] | rw [if_neg h10, if_pos h19] | rw [if_neg h10, if_neg h19]
          refine PW_callV dX12_readsHand_28 moX12_number cv12_150 (Yt) (by omega) rfl rfl (Nat.le_of_ble_eq_true rfl) (Nat.le_of_ble_eq_true rfl) (Nat.le_of_ble_eq_true rfl) (spX12_number (d := d - 1) (m := 40) hY' hT1 hL hB hr v15 (by omega) (by omega)) (fun v M1 hq => ?_)
          rw [hrn, ← hlm] at hq
          obtain ⟨rfl, i2, rfl, g1, g2, g3, g4⟩ := hq
          refine PW_if_ne 36 dX12_readsHand_31 (by decide) (fun h31 => ?_) (fun h31 => ?_)
          · have h31 := b2i_n.mp h31
            refine PW_aload_n (i := 0) dX12_readsHand_36 rfl rfl ?_
            refine PW_getR dX12_readsHand_37 fg12_40 (Yt) (Yr11) ?_
            refine PW_iconst (v := 3) dX12_readsHand_40 (by decide) ?_
            refine PW_aload_n (i := 0) dX12_readsHand_41 rfl rfl ?_
            refine PW_giv (v := nI (hn (vh y))) dX12_readsHand_42 fg12_161 (Yt) ((g3 17 (by decide) (by decide)).trans ((hd0.2.2.2.2.1 17 (by decide) (by decide)).trans hZ.2.2.1)) ?_
            refine PW_imul dX12_readsHand_45 ?_
            refine PW_eqi (pk_mul 3 _) ?_
            refine PW_iload_n (i := 2) dX12_readsHand_46 rfl rfl ?_
            refine PW_iadd dX12_readsHand_47 ?_
            refine PW_eqi (nI_add _ _) ?_
            refine PW_iload_n (i := 2) dX12_readsHand_48 rfl rfl ?_
            refine PW_iconst (v := 2) dX12_readsHand_49 (by decide) ?_
            refine PW_icmp_ne 62 dX12_readsHand_50 (by decide) (fun h50 => ?_) (fun h50 => ?_)
            · have h50 := jne (b := 2) h50
              refine PW_aload_n (i := 0) dX12_readsHand_62 rfl rfl ?_
              refine PW_giv (v := nI (tV L B (pHk L B a j).1)) dX12_readsHand_63 fg12_147 (Yt) ((g1 h31).2) ?_
              refine PW_ias dX12_readsHand_66 (Yt11) (by omega) (by omega) ?_
              refine PW_inc1 dX12_readsHand_67 rfl (Nat.le_of_ble_eq_true rfl) rfl ?_
              refine PW_goto 2 dX12_readsHand_70 (by decide) ?_
              refine PW_nm rfl (fun i3 e3 => ?_)
              have hd3 := HDq_s hd0 h4 g3 g4 e3 (by first | (rw [if_pos h50]) | (rw [if_neg h50]))
              have e15 : i3 Y 15 = nI (tE L B (pHk L B a j).1) := by rw [e3, rI_a _ _ _ (by omega)]; exact (g1 h31).1
              have hps := pHk_s (L := L) (B := B) (a := a) h4
              have hpn : pNum L B (hlim j) (pHk L B a j).1 (pHk L B a j).2 = (nx L B (pHk L B a j).1, none) := by unfold pNum; rw [if_pos h31, v0]
              exact ih (j + 1) (by omega) (by omega) i3 (tE L B (pHk L B a j).1) (tE_le hpl).1 e15 (by rw [hps, hpn]; rfl) (by rw [hps, hpn]) hd3
            · have h50 := jeq (b := 2) h50
              refine PW_iload_n (i := 1) dX12_readsHand_53 rfl rfl ?_
              refine PW_aload_n (i := 0) dX12_readsHand_54 rfl rfl ?_
              refine PW_giv (v := nI (tV L B (pHk L B a j).1)) dX12_readsHand_55 fg12_147 (Yt) ((g1 h31).2) ?_
              refine PW_imul dX12_readsHand_58 ?_
              refine PW_eqi (show _ = iN (sg * (tV L B (pHk L B a j).1 : Int)) by rw [nI_iN, iN_mul]) ?_
              refine PW_goto 66 dX12_readsHand_59 (by decide) ?_
              refine PW_ias dX12_readsHand_66 (Yt11) (by omega) (by omega) ?_
              refine PW_inc1 dX12_readsHand_67 rfl (Nat.le_of_ble_eq_true rfl) rfl ?_
              refine PW_goto 2 dX12_readsHand_70 (by decide) ?_
              refine PW_nm rfl (fun i3 e3 => ?_)
              have hd3 := HDq_s hd0 h4 g3 g4 e3 (by first | (rw [if_pos h50]) | (rw [if_neg h50]))
              have e15 : i3 Y 15 = nI (tE L B (pHk L B a j).1) := by rw [e3, rI_a _ _ _ (by omega)]; exact (g1 h31).1
              have hps := pHk_s (L := L) (B := B) (a := a) h4
              have hpn : pNum L B (hlim j) (pHk L B a j).1 (pHk L B a j).2 = (nx L B (pHk L B a j).1, none) := by unfold pNum; rw [if_pos h31, v0]
              exact ih (j + 1) (by omega) (by omega) i3 (tE L B (pHk L B a j).1) (tE_le hpl).1 e15 (by rw [hps, hpn]; rfl) (by rw [hps, hpn]) hd3
          · have h31 := b2i_0.mp h31
            refine PW_iconst (v := 0) dX12_readsHand_34 (by decide) ?_
            refine PW_ireturn rfl (rfl) dX12_readsHand_35 (Nat.le_of_ble_eq_true rfl) (Nat.le_of_ble_eq_true rfl) ?_
            exact fail_RR (z := zHk L B sg a y) (pHk_no h4 v0 (by rw [h31]; decide)) (g2 (by rw [h31]; decide)) ⟨fun k h1 h2 h3 h4 => (g3 k h1 h4).trans (hd0.2.2.2.2.1 k h1 h4), fun q h1 h2 h3 => (g4 q h1).trans (hd0.2.2.2.2.2 q h1 h3)⟩
      · have h10 := jeq (b := 0) h10
        refine PW_iconst (v := 5) dX12_readsHand_13 (by decide) ?_
        refine PW_goto 28 dX12_readsHand_14 (by decide) ?_
        have hlm : hlim j = 5 := by unfold hlim; first | rw [if_pos h10] | rw [if_neg h10, if_pos h19] | rw [if_neg h10, if_neg h19]
        refine PW_callV dX12_readsHand_28 moX12_number cv12_150 (Yt) (by omega) rfl rfl (Nat.le_of_ble_eq_true rfl) (Nat.le_of_ble_eq_true rfl) (Nat.le_of_ble_eq_true rfl) (spX12_number (d := d - 1) (m := 5) hY' hT1 hL hB hr v15 (by omega) (by omega)) (fun v M1 hq => ?_)
        rw [hrn, ← hlm] at hq
        obtain ⟨rfl, i2, rfl, g1, g2, g3, g4⟩ := hq
        refine PW_if_ne 36 dX12_readsHand_31 (by decide) (fun h31 => ?_) (fun h31 => ?_)
        · have h31 := b2i_n.mp h31
          refine PW_aload_n (i := 0) dX12_readsHand_36 rfl rfl ?_
          refine PW_getR dX12_readsHand_37 fg12_40 (Yt) (Yr11) ?_
          refine PW_iconst (v := 3) dX12_readsHand_40 (by decide) ?_
          refine PW_aload_n (i := 0) dX12_readsHand_41 rfl rfl ?_
          refine PW_giv (v := nI (hn (vh y))) dX12_readsHand_42 fg12_161 (Yt) ((g3 17 (by decide) (by decide)).trans ((hd0.2.2.2.2.1 17 (by decide) (by decide)).trans hZ.2.2.1)) ?_
          refine PW_imul dX12_readsHand_45 ?_
          refine PW_eqi (pk_mul 3 _) ?_
          refine PW_iload_n (i := 2) dX12_readsHand_46 rfl rfl ?_
          refine PW_iadd dX12_readsHand_47 ?_
          refine PW_eqi (nI_add _ _) ?_
          refine PW_iload_n (i := 2) dX12_readsHand_48 rfl rfl ?_
          refine PW_iconst (v := 2) dX12_readsHand_49 (by decide) ?_
          refine PW_icmp_ne 62 dX12_readsHand_50 (by decide) (fun h50 => ?_) (fun h50 => ?_)
          · have h50 := jne (b := 2) h50
            refine PW_aload_n (i := 0) dX12_readsHand_62 rfl rfl ?_
            refine PW_giv (v := nI (tV L B (pHk L B a j).1)) dX12_readsHand_63 fg12_147 (Yt) ((g1 h31).2) ?_
            refine PW_ias dX12_readsHand_66 (Yt11) (by omega) (by omega) ?_
            refine PW_inc1 dX12_readsHand_67 rfl (Nat.le_of_ble_eq_true rfl) rfl ?_
            refine PW_goto 2 dX12_readsHand_70 (by decide) ?_
            refine PW_nm rfl (fun i3 e3 => ?_)
            have hd3 := HDq_s hd0 h4 g3 g4 e3 (by first | (rw [if_pos h50]) | (rw [if_neg h50]))
            have e15 : i3 Y 15 = nI (tE L B (pHk L B a j).1) := by rw [e3, rI_a _ _ _ (by omega)]; exact (g1 h31).1
            have hps := pHk_s (L := L) (B := B) (a := a) h4
            have hpn : pNum L B (hlim j) (pHk L B a j).1 (pHk L B a j).2 = (nx L B (pHk L B a j).1, none) := by unfold pNum; rw [if_pos h31, v0]
            exact ih (j + 1) (by omega) (by omega) i3 (tE L B (pHk L B a j).1) (tE_le hpl).1 e15 (by rw [hps, hpn]; rfl) (by rw [hps, hpn]) hd3
          · have h50 := jeq (b := 2) h50
            refine PW_iload_n (i := 1) dX12_readsHand_53 rfl rfl ?_
            refine PW_aload_n (i := 0) dX12_readsHand_54 rfl rfl ?_
            refine PW_giv (v := nI (tV L B (pHk L B a j).1)) dX12_readsHand_55 fg12_147 (Yt) ((g1 h31).2) ?_
            refine PW_imul dX12_readsHand_58 ?_
            refine PW_eqi (show _ = iN (sg * (tV L B (pHk L B a j).1 : Int)) by rw [nI_iN, iN_mul]) ?_
            refine PW_goto 66 dX12_readsHand_59 (by decide) ?_
            refine PW_ias dX12_readsHand_66 (Yt11) (by omega) (by omega) ?_
            refine PW_inc1 dX12_readsHand_67 rfl (Nat.le_of_ble_eq_true rfl) rfl ?_
            refine PW_goto 2 dX12_readsHand_70 (by decide) ?_
            refine PW_nm rfl (fun i3 e3 => ?_)
            have hd3 := HDq_s hd0 h4 g3 g4 e3 (by first | (rw [if_pos h50]) | (rw [if_neg h50]))
            have e15 : i3 Y 15 = nI (tE L B (pHk L B a j).1) := by rw [e3, rI_a _ _ _ (by omega)]; exact (g1 h31).1
            have hps := pHk_s (L := L) (B := B) (a := a) h4
            have hpn : pNum L B (hlim j) (pHk L B a j).1 (pHk L B a j).2 = (nx L B (pHk L B a j).1, none) := by unfold pNum; rw [if_pos h31, v0]
            exact ih (j + 1) (by omega) (by omega) i3 (tE L B (pHk L B a j).1) (tE_le hpl).1 e15 (by rw [hps, hpn]; rfl) (by rw [hps, hpn]) hd3
        · have h31 := b2i_0.mp h31
          refine PW_iconst (v := 0) dX12_readsHand_34 (by decide) ?_
          refine PW_ireturn rfl (rfl) dX12_readsHand_35 (Nat.le_of_ble_eq_true rfl) (Nat.le_of_ble_eq_true rfl) ?_
          exact fail_RR (z := zHk L B sg a y) (pHk_no h4 v0 (by rw [h31]; decide)) (g2 (by rw [h31]; decide)) ⟨fun k h1 h2 h3 h4 => (g3 k h1 h4).trans (hd0.2.2.2.2.1 k h1 h4), fun q h1 h2 h3 => (g4 q h1).trans (hd0.2.2.2.2.2 q h1 h3)⟩
set_option maxRecDepth 100000 in
set_option maxHeartbeats 4000000 in
theorem spX12_readsHand {G : GE} {d : Nat} {i : MI0} {S : MS} {Y : Nat} (hY : YS S Y) {L : Nat} {B : Nat → Nat} (hT : i Y 14 = nI L ∧ ∀ j, j < L → i (Y + 9) j = nI (B j)) (hL : L ≤ 150) (hB : ∀ j, j < L → B j < 128) {y : Vy} {b : Nat} (hZ : ZRq i Y y) (hV : VV b y) (hd : 8 ≤ d) {sg : Int} {r a : Nat} (hr : r ≤ L) (h15 : i Y 15 = nI r) (ha : rn pS L B r = a) (h6 : hn (vh y) < 6) : Mt G iX12_readsHand d [.ref Y, .int (iN sg)] (i, S) (Wi (b1 ((pStop L B (zHk L B sg a y)).2.1 = none)) S (RRq L B (pStop L B (zHk L B sg a y)) i Y)) := by
  have hY' := hY
  obtain ⟨Yt, ⟨Yt1, Yr1⟩, ⟨Yt2, Yr2⟩, ⟨Yt3, Yr3⟩, ⟨Yt4, Yr4⟩, ⟨Yt5, Yr5⟩, ⟨Yt6, Yr6⟩, ⟨Yt7, Yr7⟩, ⟨Yt8, Yr8⟩, ⟨Yt9, Yr9⟩, ⟨Yt10, Yr10⟩, ⟨Yt11, Yr11⟩, ⟨Yt12, Yr12⟩, ⟨Yt13, Yr13⟩, ⟨Yt14, Yr14⟩, ⟨Yt15, Yr15⟩, ⟨Yt16, Yr16⟩, ⟨Yt17, Yr17⟩, ⟨Yt18, Yr18⟩, ⟨Yt19, Yr19⟩⟩ := hY
  refine Mt_in 1 (ls := [.ref Y, .int (iN sg), .null]) moX12_readsHand (Nat.le_of_ble_eq_true rfl) rfl ?_
  refine PW_iconst (v := 0) dX12_readsHand_0 (by decide) ?_
  refine PW_istore_n (i := 2) dX12_readsHand_1 rfl (Nat.le_of_ble_eq_true rfl) rfl ?_
  exact lpX12_readsHand hY' hT hL hB hZ hV hd h6 4 0 (by omega) (by omega) i r hr h15 ha rfl ⟨fun q => absurd q (Nat.lt_irrefl 0), fun q => absurd q (by omega), fun q => absurd q (by omega), fun _ _ => rfl, fun _ _ _ => rfl, fun _ _ _ => rfl⟩

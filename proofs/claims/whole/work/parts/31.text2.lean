/-! ===== Text: fail, numbers, stop, words ===== -/
set_option maxRecDepth 100000 in
set_option maxHeartbeats 4000000 in
theorem spX9_fail {G : GE} {d : Nat} {i : MI0} {S : MS} {t L : Nat} {B : Nat → Nat} (Ft : TS S t) (hL : L ≤ 150) (hB : ∀ j, j < L → B j < 128) {s : Nat} (hs : s ≤ L) (hk : TKs i t L B s) {f : Option Nat} (hf : ∀ p, f = some p → p ≤ L) (h2 : i t 2 = fI f) : Mt G iX9_fail d [.ref t] (i, S) (Wr S (fun i' => TKs i' t L B (s) ∧ i' t 2 = fI (fl f s) ∧ ∀ q, q ≠ t → i' q = i q)) := by
  refine Mt_in 0 (ls := [.ref t]) moX9_fail (Nat.le_of_ble_eq_true rfl) rfl ?_
  refine PW_aload_n (i := 0) dX9_fail_0 rfl rfl ?_
  refine PW_giv (v := fI f) dX9_fail_1 fg9_24 (Ft.1) (h2) ?_
  refine PW_iconst (v := -1) dX9_fail_4 (by decide) ?_
  refine PW_icmp_ne 16 dX9_fail_5 (by decide) (fun h5 => ?_) (fun h5 => ?_)
  · have h5 : ¬ f = none := fun q => h5 ((fI_none (fun p hp => by have := hf p hp; omega)).mpr q)
    refine PW_return rfl dX9_fail_16 (Nat.le_of_ble_eq_true rfl) (Nat.le_of_ble_eq_true rfl) ?_
    first
      | (rw [fl_id h5]; exact Wr_mk rfl ⟨hk, h2, fun _ _ => rfl⟩)
      | (subst h5; exact Wr_mk rfl ⟨hk.fr (fun a ha => by rw [rI_k _ _ _ ha]; rfl) (by rw [rI_f _ _ (by omega)]; rfl), rI_s _ _ _ _, fun q hq => by rw [rI_f _ _ hq]; rfl⟩)
  · have h5 := (fI_none (fun p hp => by have := hf p hp; omega)).mp h5
    refine PW_aload_n (i := 0) dX9_fail_8 rfl rfl ?_
    refine PW_aload_n (i := 0) dX9_fail_9 rfl rfl ?_
    refine PW_giv (v := nI s) dX9_fail_10 fg9_101 (Ft.1) (hk.2.2.1) ?_
    refine PW_putI dX9_fail_13 fr9_24 (fun h => by cases h) (Ft.1) ?_
    refine PW_return rfl dX9_fail_16 (Nat.le_of_ble_eq_true rfl) (Nat.le_of_ble_eq_true rfl) ?_
    first
      | (rw [fl_id h5]; exact Wr_mk rfl ⟨hk, h2, fun _ _ => rfl⟩)
      | (subst h5; exact Wr_mk rfl ⟨hk.fr (fun a ha => by rw [rI_k _ _ _ ha]; rfl) (by rw [rI_f _ _ (by omega)]; rfl), rI_s _ _ _ _, fun q hq => by rw [rI_f _ _ hq]; rfl⟩)
set_option maxRecDepth 100000 in
set_option maxHeartbeats 4000000 in
theorem spX9_isNumberUpTo {G : GE} {d : Nat} {i : MI0} {S : MS} {t L : Nat} {B : Nat → Nat} (Ft : TS S t) (hL : L ≤ 150) (hB : ∀ j, j < L → B j < 128) {s : Nat} (hs : s ≤ L) (hk : TKs i t L B s) {m : Nat} (hm : m < 1000) : Mt G iX9_isNumberUpTo d [.ref t, .int (nI m)] (i, S) (Rt (b2i (isN L B s m)) (i, S)) := by
  refine Mt_in 0 (ls := [.ref t, .int (nI m)]) moX9_isNumberUpTo (Nat.le_of_ble_eq_true rfl) rfl ?_
  refine PW_aload_n (i := 0) dX9_isNumberUpTo_0 rfl rfl ?_
  refine PW_giv (v := nI (tT L B s)) dX9_isNumberUpTo_1 fg9_45 (Ft.1) (hk.2.1) ?_
  refine PW_iconst (v := 2) dX9_isNumberUpTo_4 (by decide) ?_
  have ht4 := tT_le L B s
  refine PW_icmp_ne 20 dX9_isNumberUpTo_5 (by decide) (fun h5 => ?_) (fun h5 => ?_)
  · have h5 := jne (b := 2) h5
    refine PW_iconst (v := 0) dX9_isNumberUpTo_20 (by decide) ?_
    refine PW_ireturn rfl (rfl) dX9_isNumberUpTo_21 (Nat.le_of_ble_eq_true rfl) (Nat.le_of_ble_eq_true rfl) ?_
    refine rt_i ?_
    unfold isN
    first | (rw [decide_eq_false h5, Bool.false_and]; rfl) | (rw [decide_eq_true h5, decide_eq_false (by omega)]; rfl)
  · have h5 := jeq (b := 2) h5
    have h2 := tN2 h5
    refine PW_aload_n (i := 0) dX9_isNumberUpTo_8 rfl rfl ?_
    refine PW_giv (v := tN L B s) dX9_isNumberUpTo_9 fg9_70 (Ft.1) (hk.2.2.2.2) ?_
    refine PW_iload_n (i := 1) dX9_isNumberUpTo_12 rfl rfl ?_
    rw [h2.1]
    refine PW_icmp_gt 20 dX9_isNumberUpTo_13 (by decide) (fun h13 => ?_) (fun h13 => ?_)
    · have h13 := jlt h13
      refine PW_iconst (v := 0) dX9_isNumberUpTo_20 (by decide) ?_
      refine PW_ireturn rfl (rfl) dX9_isNumberUpTo_21 (Nat.le_of_ble_eq_true rfl) (Nat.le_of_ble_eq_true rfl) ?_
      refine rt_i ?_
      unfold isN
      first | (rw [decide_eq_false h5, Bool.false_and]; rfl) | (rw [decide_eq_true h5, decide_eq_false (by omega)]; rfl)
    · have h13 := jnlt h13
      refine PW_iconst (v := 1) dX9_isNumberUpTo_16 (by decide) ?_
      refine PW_goto 21 dX9_isNumberUpTo_17 (by decide) ?_
      refine PW_ireturn rfl (rfl) dX9_isNumberUpTo_21 (Nat.le_of_ble_eq_true rfl) (Nat.le_of_ble_eq_true rfl) ?_
      refine rt_i ?_
      unfold isN
      rw [decide_eq_true h5, decide_eq_true (by omega)]; rfl
set_option maxRecDepth 100000 in
set_option maxHeartbeats 4000000 in
theorem spX9_expectStop {G : GE} {d : Nat} {i : MI0} {S : MS} {t L : Nat} {B : Nat → Nat} (Ft : TS S t) (hL : L ≤ 150) (hB : ∀ j, j < L → B j < 128) {s : Nat} (hs : s ≤ L) (hk : TKs i t L B s) {f : Option Nat} (hf : ∀ p, f = some p → p ≤ L) (h2 : i t 2 = fI f) (hd : 4 ≤ d) (y : Vy) : Mt G iX9_expectStop d [.ref t] (i, S) (Wr S (fun i' => TKs i' t L B ((pStop L B (s, f, y)).1) ∧ i' t 2 = fI ((pStop L B (s, f, y)).2.1) ∧ ∀ q, q ≠ t → i' q = i q)) := by
  refine Mt_in 0 (ls := [.ref t]) moX9_expectStop (Nat.le_of_ble_eq_true rfl) rfl ?_
  refine PW_aload_n (i := 0) dX9_expectStop_0 rfl rfl ?_
  refine PW_giv (v := nI (tT L B s)) dX9_expectStop_1 fg9_45 (Ft.1) (hk.2.1) ?_
  refine PW_iconst (v := 3) dX9_expectStop_4 (by decide) ?_
  have ht4 := tT_le L B s
  refine PW_icmp_ne 15 dX9_expectStop_5 (by decide) (fun h5 => ?_) (fun h5 => ?_)
  · have h5 := jne (b := 3) h5
    refine PW_aload_n (i := 0) dX9_expectStop_15 rfl rfl ?_
    refine PW_callV dX9_expectStop_16 moX9_fail cv9_42 (Ft.1) (by omega) rfl rfl (Nat.le_of_ble_eq_true rfl) (Nat.le_of_ble_eq_true rfl) (Nat.le_of_ble_eq_true rfl) (spX9_fail (d := d - 1) Ft hL hB hs hk hf h2) (fun v M1 hq => ?_)
    obtain ⟨rfl, i1, rfl, p1, p2, p3⟩ := hq
    refine PW_return rfl dX9_expectStop_19 (Nat.le_of_ble_eq_true rfl) (Nat.le_of_ble_eq_true rfl) ?_
    unfold pStop
    first
      | (simp only [if_pos h5]; exact Wr_mk rfl ⟨p1, p2.trans h2, p3⟩)
      | (simp only [if_neg h5]; exact Wr_mk rfl ⟨p1, p2, p3⟩)
  · have h5 := jeq (b := 3) h5
    refine PW_aload_n (i := 0) dX9_expectStop_8 rfl rfl ?_
    refine PW_callV dX9_expectStop_9 moX9_advance cv9_30 (Ft.1) (by omega) rfl rfl (Nat.le_of_ble_eq_true rfl) (Nat.le_of_ble_eq_true rfl) (Nat.le_of_ble_eq_true rfl) (spX9_advance (d := d - 1) Ft hk.1 hL hB (by omega) (tE_le hs).1 hk.2.2.2.1) (fun v M1 hq => ?_)
    obtain ⟨rfl, i1, rfl, p1, p2, p3⟩ := hq
    refine PW_goto 19 dX9_expectStop_12 (by decide) ?_
    refine PW_return rfl dX9_expectStop_19 (Nat.le_of_ble_eq_true rfl) (Nat.le_of_ble_eq_true rfl) ?_
    unfold pStop
    first
      | (simp only [if_pos h5]; exact Wr_mk rfl ⟨p1, p2.trans h2, p3⟩)
      | (simp only [if_neg h5]; exact Wr_mk rfl ⟨p1, p2, p3⟩)
set_option maxRecDepth 100000 in
set_option maxHeartbeats 4000000 in
theorem spX9_takeNumber {G : GE} {d : Nat} {i : MI0} {S : MS} {t L : Nat} {B : Nat → Nat} (Ft : TS S t) (hL : L ≤ 150) (hB : ∀ j, j < L → B j < 128) {s : Nat} (hs : s ≤ L) (hk : TKs i t L B s) {f : Option Nat} (hf : ∀ p, f = some p → p ≤ L) (h2 : i t 2 = fI f) (hd : 4 ≤ d) {m : Nat} (hm : m < 1000) : Mt G iX9_takeNumberUpTo d [.ref t, .int (nI m)] (i, S) (Wi (tN L B s) S (fun i' => TKs i' t L B (pNum L B m s f).1 ∧ i' t 2 = fI (pNum L B m s f).2 ∧ ∀ q, q ≠ t → i' q = i q)) := by
  refine Mt_in 1 (ls := [.ref t, .int (nI m), .null]) moX9_takeNumberUpTo (Nat.le_of_ble_eq_true rfl) rfl ?_
  refine PW_aload_n (i := 0) dX9_takeNumberUpTo_0 rfl rfl ?_
  refine PW_giv (v := tN L B s) dX9_takeNumberUpTo_1 fg9_70 (Ft.1) (hk.2.2.2.2) ?_
  refine PW_istore_n (i := 2) dX9_takeNumberUpTo_4 rfl (Nat.le_of_ble_eq_true rfl) rfl ?_
  refine PW_aload_n (i := 0) dX9_takeNumberUpTo_5 rfl rfl ?_
  refine PW_iload_n (i := 1) dX9_takeNumberUpTo_6 rfl rfl ?_
  refine PW_callV dX9_takeNumberUpTo_7 moX9_isNumberUpTo cv9_73 (Ft.1) (by omega) rfl rfl (Nat.le_of_ble_eq_true rfl) (Nat.le_of_ble_eq_true rfl) (Nat.le_of_ble_eq_true rfl) (spX9_isNumberUpTo (d := d - 1) Ft hL hB hs hk hm) (fun v M1 hq => ?_)
  obtain ⟨rfl, rfl⟩ := hq
  refine PW_if_eq 20 dX9_takeNumberUpTo_10 (by decide) (fun h10 => ?_) (fun h10 => ?_)
  · have h10 := b2i_0.mp h10
    refine PW_aload_n (i := 0) dX9_takeNumberUpTo_20 rfl rfl ?_
    refine PW_callV dX9_takeNumberUpTo_21 moX9_fail cv9_42 (Ft.1) (by omega) rfl rfl (Nat.le_of_ble_eq_true rfl) (Nat.le_of_ble_eq_true rfl) (Nat.le_of_ble_eq_true rfl) (spX9_fail (d := d - 1) Ft hL hB hs hk hf h2) (fun v M1 hq => ?_)
    obtain ⟨rfl, i1, rfl, p1, p2, p3⟩ := hq
    refine PW_iload_n (i := 2) dX9_takeNumberUpTo_24 rfl rfl ?_
    refine PW_ireturn rfl (rfl) dX9_takeNumberUpTo_25 (Nat.le_of_ble_eq_true rfl) (Nat.le_of_ble_eq_true rfl) ?_
    unfold pNum
    first
      | (rw [if_pos h10]; exact Wi_mk rfl rfl ⟨p1, p2.trans h2, p3⟩)
      | (rw [if_neg (by rw [h10]; decide)]; exact Wi_mk rfl rfl ⟨p1, p2, p3⟩)
  · have h10 := b2i_n.mp h10
    refine PW_aload_n (i := 0) dX9_takeNumberUpTo_13 rfl rfl ?_
    refine PW_callV dX9_takeNumberUpTo_14 moX9_advance cv9_30 (Ft.1) (by omega) rfl rfl (Nat.le_of_ble_eq_true rfl) (Nat.le_of_ble_eq_true rfl) (Nat.le_of_ble_eq_true rfl) (spX9_advance (d := d - 1) Ft hk.1 hL hB (by omega) (tE_le hs).1 hk.2.2.2.1) (fun v M1 hq => ?_)
    obtain ⟨rfl, i1, rfl, p1, p2, p3⟩ := hq
    refine PW_goto 24 dX9_takeNumberUpTo_17 (by decide) ?_
    refine PW_iload_n (i := 2) dX9_takeNumberUpTo_24 rfl rfl ?_
    refine PW_ireturn rfl (rfl) dX9_takeNumberUpTo_25 (Nat.le_of_ble_eq_true rfl) (Nat.le_of_ble_eq_true rfl) ?_
    unfold pNum
    first
      | (rw [if_pos h10]; exact Wi_mk rfl rfl ⟨p1, p2.trans h2, p3⟩)
      | (rw [if_neg (by rw [h10]; decide)]; exact Wi_mk rfl rfl ⟨p1, p2, p3⟩)
set_option maxRecDepth 100000 in
set_option maxHeartbeats 4000000 in
theorem lpX9_isWord {G : GE} {d : Nat} {i : MI0} {S : MS} {t L : Nat} {B : Nat → Nat} (Ft : TS S t) (hL : L ≤ 150) (hB : ∀ j, j < L → B j < 128) {s : Nat} (hs : s ≤ L) (hk : TKs i t L B s) {w : Nat} (hw : w < 5) (hd : 6 ≤ d) (h1 : tT L B s = 1) (h4 : tE L B s - s = 4) (h5 : tE L B s ≤ L) : ∀ (n0 j : Nat), j ≤ 4 → 4 < j + n0 → allB (wdF B s w) j = true → PW G iX9_isWord d (Rt (b2i (isW L B s w)) (i, S)) 28 [.ref t, .ref (g_s G w), .int (nI j)] [] (i, S) 0 0 := by
  intro n0
  induction n0 with
  | zero => intro j h1 h2; exact absurd h2 (by omega)
  | succ n0 ih =>
    intro j hj1 hj2 a0
    refine PW_iload_n (i := 2) dX9_isWord_28 rfl rfl ?_
    refine PW_aload_n (i := 1) dX9_isWord_29 rfl rfl ?_
    refine PW_callVS (i := w) (As := []) hw dX9_isWord_30 moJ0_length_8abf5 cwRX9_104 (by omega) rfl rfl (Nat.le_of_ble_eq_true rfl) (Nat.le_of_ble_eq_true rfl) (Nat.le_of_ble_eq_true rfl) (spJ0_length (d := d - 1) hw (by omega)) (fun v M1 hq => ?_)
    obtain ⟨rfl, rfl⟩ := hq
    refine PW_icmp_ge 63 dX9_isWord_33 (by decide) (fun h33 => ?_) (fun h33 => ?_)
    · have h33 := jle (a := 4) h33
      have ej : j = 4 := by omega
      subst ej
      refine PW_iconst (v := 1) dX9_isWord_63 (by decide) ?_
      refine PW_ireturn rfl (rfl) dX9_isWord_64 (Nat.le_of_ble_eq_true rfl) (Nat.le_of_ble_eq_true rfl) ?_
      refine rt_i ?_
      unfold isW
      rw [decide_eq_true h1, decide_eq_true h4, a0]; rfl
    · have h33 := jnle (a := 4) h33
      refine PW_aload_n (i := 0) dX9_isWord_36 rfl rfl ?_
      refine PW_getR dX9_isWord_37 fg9_9 (Ft.1) (Ft.2.2) ?_
      refine PW_aload_n (i := 0) dX9_isWord_40 rfl rfl ?_
      refine PW_giv (v := nI s) dX9_isWord_41 fg9_101 (Ft.1) (hk.2.2.1) ?_
      refine PW_iload_n (i := 2) dX9_isWord_44 rfl rfl ?_
      refine PW_iadd dX9_isWord_45 ?_
      refine PW_eqi (nI_add _ _) ?_
      refine PW_ial (v := nI (B (s + j))) dX9_isWord_46 (Ft.2.1) (by decide) (by omega) (hk.1.2 (s + j) (by omega)) ?_
      refine PW_aload_n (i := 1) dX9_isWord_47 rfl rfl ?_
      refine PW_iload_n (i := 2) dX9_isWord_48 rfl rfl ?_
      refine PW_callVS (i := w) (As := [.int (nI j)]) hw dX9_isWord_49 moJ0_charAt_5068e cwRX9_109 (by omega) rfl rfl (Nat.le_of_ble_eq_true rfl) (Nat.le_of_ble_eq_true rfl) (Nat.le_of_ble_eq_true rfl) (spJ0_charAt (d := d - 1) hw h33 (by omega)) (fun v M1 hq => ?_)
      obtain ⟨rfl, rfl⟩ := hq
      refine PW_icmp_eq 57 dX9_isWord_52 (by decide) (fun h52 => ?_) (fun h52 => ?_)
      · refine PW_inc1 dX9_isWord_57 rfl (Nat.le_of_ble_eq_true rfl) rfl ?_
        refine PW_goto 28 dX9_isWord_60 (by decide) ?_
        exact ih (j + 1) (by omega) (by omega) (allB_s a0 (decide_eq_true h52))
      · refine PW_iconst (v := 0) dX9_isWord_55 (by decide) ?_
        refine PW_ireturn rfl (rfl) dX9_isWord_56 (Nat.le_of_ble_eq_true rfl) (Nat.le_of_ble_eq_true rfl) ?_
        refine rt_i ?_
        unfold isW
        rw [allB_f (j := j) (decide_eq_false h52) h33, Bool.and_false, Bool.and_false]; rfl
set_option maxRecDepth 100000 in
set_option maxHeartbeats 4000000 in
theorem spX9_isWord {G : GE} {d : Nat} {i : MI0} {S : MS} {t L : Nat} {B : Nat → Nat} (Ft : TS S t) (hL : L ≤ 150) (hB : ∀ j, j < L → B j < 128) {s : Nat} (hs : s ≤ L) (hk : TKs i t L B s) {w : Nat} (hw : w < 5) (hd : 6 ≤ d) : Mt G iX9_isWord d [.ref t, .ref (g_s G w)] (i, S) (Rt (b2i (isW L B s w)) (i, S)) := by
  refine Mt_in 1 (ls := [.ref t, .ref (g_s G w), .null]) moX9_isWord (Nat.le_of_ble_eq_true rfl) rfl ?_
  refine PW_aload_n (i := 0) dX9_isWord_0 rfl rfl ?_
  refine PW_giv (v := nI (tT L B s)) dX9_isWord_1 fg9_45 (Ft.1) (hk.2.1) ?_
  refine PW_iconst (v := 1) dX9_isWord_4 (by decide) ?_
  have ht4 := tT_le L B s
  have he := tE_le (B := B) hs
  refine PW_icmp_ne 24 dX9_isWord_5 (by decide) (fun h5 => ?_) (fun h5 => ?_)
  · have h5 := jne (b := 1) h5
    refine PW_iconst (v := 0) dX9_isWord_24 (by decide) ?_
    refine PW_ireturn rfl (rfl) dX9_isWord_25 (Nat.le_of_ble_eq_true rfl) (Nat.le_of_ble_eq_true rfl) ?_
    refine rt_i ?_
    unfold isW
    first | (rw [decide_eq_false h5, Bool.false_and]; rfl) | (rw [decide_eq_true h5, decide_eq_false h21, Bool.false_and, Bool.and_false]; rfl)
  · have h5 := jeq (b := 1) h5
    refine PW_aload_n (i := 0) dX9_isWord_8 rfl rfl ?_
    refine PW_giv (v := nI (tE L B s)) dX9_isWord_9 fg9_27 (Ft.1) (hk.2.2.2.1) ?_
    refine PW_aload_n (i := 0) dX9_isWord_12 rfl rfl ?_
    refine PW_giv (v := nI s) dX9_isWord_13 fg9_101 (Ft.1) (hk.2.2.1) ?_
    refine PW_isub dX9_isWord_16 ?_
    refine PW_eqi (pk_sub (by omega)) ?_
    refine PW_aload_n (i := 1) dX9_isWord_17 rfl rfl ?_
    refine PW_callVS (i := w) (As := []) hw dX9_isWord_18 moJ0_length_8abf5 cwRX9_104 (by omega) rfl rfl (Nat.le_of_ble_eq_true rfl) (Nat.le_of_ble_eq_true rfl) (Nat.le_of_ble_eq_true rfl) (spJ0_length (d := d - 1) hw (by omega)) (fun v M1 hq => ?_)
    obtain ⟨rfl, rfl⟩ := hq
    refine PW_icmp_eq 26 dX9_isWord_21 (by decide) (fun h21 => ?_) (fun h21 => ?_)
    · have h21 := jeq (b := 4) h21
      refine PW_iconst (v := 0) dX9_isWord_26 (by decide) ?_
      refine PW_istore_n (i := 2) dX9_isWord_27 rfl (Nat.le_of_ble_eq_true rfl) rfl ?_
      exact lpX9_isWord Ft hL hB hs hk hw hd h5 h21 he.1 5 0 (by omega) (by omega) rfl
    · have h21 := jne (b := 4) h21
      refine PW_iconst (v := 0) dX9_isWord_24 (by decide) ?_
      refine PW_ireturn rfl (rfl) dX9_isWord_25 (Nat.le_of_ble_eq_true rfl) (Nat.le_of_ble_eq_true rfl) ?_
      refine rt_i ?_
      unfold isW
      first | (rw [decide_eq_false h5, Bool.false_and]; rfl) | (rw [decide_eq_true h5, decide_eq_false h21, Bool.false_and, Bool.and_false]; rfl)

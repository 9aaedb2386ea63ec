/-! ===== the kinds, and small static methods ===== -/
set_option maxRecDepth 100000 in
set_option maxHeartbeats 4000000 in
theorem spX11_isWithin {G : GE} {d : Nat} {M : Mm} (n lo hi : Int32) : Mt G iX11_isWithin d [.int n, .int lo, .int hi] M (Rt (b1 (lo ≤ n ∧ n ≤ hi)) M) := by
  refine Mt_in 0 (ls := [.int n, .int lo, .int hi]) moX11_isWithin (Nat.le_of_ble_eq_true rfl) rfl ?_
  refine PW_iload_n (i := 0) dX11_isWithin_0 rfl rfl ?_
  refine PW_iload_n (i := 1) dX11_isWithin_1 rfl rfl ?_
  refine PW_icmp_lt 14 dX11_isWithin_2 (by decide) (fun h2 => ?_) (fun h2 => ?_)
  · refine PW_iconst (v := 0) dX11_isWithin_14 (by decide) ?_
    refine PW_ireturn rfl (rfl) dX11_isWithin_15 (Nat.le_of_ble_eq_true rfl) (Nat.le_of_ble_eq_true rfl) ?_
    first | exact rt_f (fun q => absurd h7 ((n32 _ _).mpr q.2)) | exact rt_f (fun q => absurd h2 ((n32 _ _).mpr q.1))
  · refine PW_iload_n (i := 0) dX11_isWithin_5 rfl rfl ?_
    refine PW_iload_n (i := 2) dX11_isWithin_6 rfl rfl ?_
    refine PW_icmp_gt 14 dX11_isWithin_7 (by decide) (fun h7 => ?_) (fun h7 => ?_)
    · refine PW_iconst (v := 0) dX11_isWithin_14 (by decide) ?_
      refine PW_ireturn rfl (rfl) dX11_isWithin_15 (Nat.le_of_ble_eq_true rfl) (Nat.le_of_ble_eq_true rfl) ?_
      first | exact rt_f (fun q => absurd h7 ((n32 _ _).mpr q.2)) | exact rt_f (fun q => absurd h2 ((n32 _ _).mpr q.1))
    · refine PW_iconst (v := 1) dX11_isWithin_10 (by decide) ?_
      refine PW_goto 15 dX11_isWithin_11 (by decide) ?_
      refine PW_ireturn rfl (rfl) dX11_isWithin_15 (Nat.le_of_ble_eq_true rfl) (Nat.le_of_ble_eq_true rfl) ?_
      exact rt_t ⟨(n32 _ _).mp h2, (n32 _ _).mp h7⟩
set_option maxRecDepth 100000 in
set_option maxHeartbeats 4000000 in
theorem spX12_in {G : GE} {d : Nat} {M : Mm} (n lo hi : Int32) : Mt G iX12_in d [.int n, .int lo, .int hi] M (Rt (b1 (lo ≤ n ∧ n ≤ hi)) M) := by
  refine Mt_in 0 (ls := [.int n, .int lo, .int hi]) moX12_in (Nat.le_of_ble_eq_true rfl) rfl ?_
  refine PW_iload_n (i := 0) dX12_in_0 rfl rfl ?_
  refine PW_iload_n (i := 1) dX12_in_1 rfl rfl ?_
  refine PW_icmp_lt 14 dX12_in_2 (by decide) (fun h2 => ?_) (fun h2 => ?_)
  · refine PW_iconst (v := 0) dX12_in_14 (by decide) ?_
    refine PW_ireturn rfl (rfl) dX12_in_15 (Nat.le_of_ble_eq_true rfl) (Nat.le_of_ble_eq_true rfl) ?_
    first | exact rt_f (fun q => absurd h7 ((n32 _ _).mpr q.2)) | exact rt_f (fun q => absurd h2 ((n32 _ _).mpr q.1))
  · refine PW_iload_n (i := 0) dX12_in_5 rfl rfl ?_
    refine PW_iload_n (i := 2) dX12_in_6 rfl rfl ?_
    refine PW_icmp_gt 14 dX12_in_7 (by decide) (fun h7 => ?_) (fun h7 => ?_)
    · refine PW_iconst (v := 0) dX12_in_14 (by decide) ?_
      refine PW_ireturn rfl (rfl) dX12_in_15 (Nat.le_of_ble_eq_true rfl) (Nat.le_of_ble_eq_true rfl) ?_
      first | exact rt_f (fun q => absurd h7 ((n32 _ _).mpr q.2)) | exact rt_f (fun q => absurd h2 ((n32 _ _).mpr q.1))
    · refine PW_iconst (v := 1) dX12_in_10 (by decide) ?_
      refine PW_goto 15 dX12_in_11 (by decide) ?_
      refine PW_ireturn rfl (rfl) dX12_in_15 (Nat.le_of_ble_eq_true rfl) (Nat.le_of_ble_eq_true rfl) ?_
      exact rt_t ⟨(n32 _ _).mp h2, (n32 _ _).mp h7⟩
set_option maxRecDepth 100000 in
set_option maxHeartbeats 4000000 in
theorem spX11_isPlace {G : GE} {d : Nat} {M : Mm} (hd : 1 ≤ d) (n : Int32) : Mt G iX11_isPlace d [.int n] M (Rt (b1 ((-60 : Int32) ≤ n ∧ n ≤ 60)) M) := by
  refine Mt_in 0 (ls := [.int n]) moX11_isPlace (Nat.le_of_ble_eq_true rfl) rfl ?_
  refine PW_iload_n (i := 0) dX11_isPlace_0 rfl rfl ?_
  refine PW_bipush (v := -60) dX11_isPlace_1 (by decide) ?_
  refine PW_bipush (v := 60) dX11_isPlace_3 (by decide) ?_
  refine PW_callS dX11_isPlace_5 moX11_isWithin cs11_116 (by omega) rfl rfl (Nat.le_of_ble_eq_true rfl) (Nat.le_of_ble_eq_true rfl) (Nat.le_of_ble_eq_true rfl) (spX11_isWithin (d := d - 1) _ _ _) (fun v M1 hq => ?_)
  obtain ⟨rfl, rfl⟩ := hq
  refine PW_ireturn rfl (b1_n _) dX11_isPlace_8 (Nat.le_of_ble_eq_true rfl) (Nat.le_of_ble_eq_true rfl) ?_
  exact rt_i rfl
set_option maxRecDepth 100000 in
set_option maxHeartbeats 4000000 in
theorem spX11_isNods {G : GE} {d : Nat} {M : Mm} (hd : 1 ≤ d) (n : Int32) : Mt G iX11_isNods d [.int n] M (Rt (b1 ((-3 : Int32) ≤ n ∧ n ≤ 3)) M) := by
  refine Mt_in 0 (ls := [.int n]) moX11_isNods (Nat.le_of_ble_eq_true rfl) rfl ?_
  refine PW_iload_n (i := 0) dX11_isNods_0 rfl rfl ?_
  refine PW_bipush (v := -3) dX11_isNods_1 (by decide) ?_
  refine PW_iconst (v := 3) dX11_isNods_3 (by decide) ?_
  refine PW_callS dX11_isNods_4 moX11_isWithin cs11_116 (by omega) rfl rfl (Nat.le_of_ble_eq_true rfl) (Nat.le_of_ble_eq_true rfl) (Nat.le_of_ble_eq_true rfl) (spX11_isWithin (d := d - 1) _ _ _) (fun v M1 hq => ?_)
  obtain ⟨rfl, rfl⟩ := hq
  refine PW_ireturn rfl (b1_n _) dX11_isNods_7 (Nat.le_of_ble_eq_true rfl) (Nat.le_of_ble_eq_true rfl) ?_
  exact rt_i rfl
set_option maxRecDepth 100000 in
set_option maxHeartbeats 4000000 in
theorem spX11_holds {G : GE} {d : Nat} {M : Mm} (s h : Int32) : Mt G iX11_holds d [.int s, .int h] M (Rt (b1 (s >>> (h &&& 31) &&& 1 = 1)) M) := by
  refine Mt_in 0 (ls := [.int s, .int h]) moX11_holds (Nat.le_of_ble_eq_true rfl) rfl ?_
  refine PW_iload_n (i := 0) dX11_holds_0 rfl rfl ?_
  refine PW_iload_n (i := 1) dX11_holds_1 rfl rfl ?_
  refine PW_ishr dX11_holds_2 ?_
  refine PW_iconst (v := 1) dX11_holds_3 (by decide) ?_
  refine PW_iand dX11_holds_4 ?_
  refine PW_iconst (v := 1) dX11_holds_5 (by decide) ?_
  refine PW_icmp_ne 13 dX11_holds_6 (by decide) (fun h6 => ?_) (fun h6 => ?_)
  · refine PW_iconst (v := 0) dX11_holds_13 (by decide) ?_
    refine PW_ireturn rfl (rfl) dX11_holds_14 (Nat.le_of_ble_eq_true rfl) (Nat.le_of_ble_eq_true rfl) ?_
    exact rt_f h6
  · refine PW_iconst (v := 1) dX11_holds_9 (by decide) ?_
    refine PW_goto 14 dX11_holds_10 (by decide) ?_
    refine PW_ireturn rfl (rfl) dX11_holds_14 (Nat.le_of_ble_eq_true rfl) (Nat.le_of_ble_eq_true rfl) ?_
    exact rt_t h6
set_option maxRecDepth 100000 in
set_option maxHeartbeats 4000000 in
theorem spX12_has {G : GE} {d : Nat} {M : Mm} (s h : Int32) : Mt G iX12_has d [.int s, .int h] M (Rt (b1 (s >>> (h &&& 31) &&& 1 = 1)) M) := by
  refine Mt_in 0 (ls := [.int s, .int h]) moX12_has (Nat.le_of_ble_eq_true rfl) rfl ?_
  refine PW_iload_n (i := 0) dX12_has_0 rfl rfl ?_
  refine PW_iload_n (i := 1) dX12_has_1 rfl rfl ?_
  refine PW_ishr dX12_has_2 ?_
  refine PW_iconst (v := 1) dX12_has_3 (by decide) ?_
  refine PW_iand dX12_has_4 ?_
  refine PW_iconst (v := 1) dX12_has_5 (by decide) ?_
  refine PW_icmp_ne 13 dX12_has_6 (by decide) (fun h6 => ?_) (fun h6 => ?_)
  · refine PW_iconst (v := 0) dX12_has_13 (by decide) ?_
    refine PW_ireturn rfl (rfl) dX12_has_14 (Nat.le_of_ble_eq_true rfl) (Nat.le_of_ble_eq_true rfl) ?_
    exact rt_f h6
  · refine PW_iconst (v := 1) dX12_has_9 (by decide) ?_
    refine PW_goto 14 dX12_has_10 (by decide) ?_
    refine PW_ireturn rfl (rfl) dX12_has_14 (Nat.le_of_ble_eq_true rfl) (Nat.le_of_ble_eq_true rfl) ?_
    exact rt_t h6
set_option maxRecDepth 100000 in
set_option maxHeartbeats 4000000 in
theorem spJ6_compare {G : GE} {d : Nat} {M : Mm} (x y : Int32) : Mt G iJ6_compare_7cf53 d [.int x, .int y] M (Rt (if x < y then -1 else if x = y then 0 else 1) M) := by
  refine Mt_in 0 (ls := [.int x, .int y]) moJ6_compare_7cf53 (Nat.le_of_ble_eq_true rfl) rfl ?_
  refine PW_iload_n (i := 0) dJ6_compare_7cf53_0 rfl rfl ?_
  refine PW_iload_n (i := 1) dJ6_compare_7cf53_1 rfl rfl ?_
  refine PW_icmp_ge 9 dJ6_compare_7cf53_2 (by decide) (fun h2 => ?_) (fun h2 => ?_)
  · refine PW_iload_n (i := 0) dJ6_compare_7cf53_9 rfl rfl ?_
    refine PW_iload_n (i := 1) dJ6_compare_7cf53_10 rfl rfl ?_
    refine PW_icmp_ne 18 dJ6_compare_7cf53_11 (by decide) (fun h11 => ?_) (fun h11 => ?_)
    · refine PW_iconst (v := 1) dJ6_compare_7cf53_18 (by decide) ?_
      refine PW_ireturn rfl (rfl) dJ6_compare_7cf53_19 (Nat.le_of_ble_eq_true rfl) (Nat.le_of_ble_eq_true rfl) ?_
      exact rt_i (by rw [if_neg (fun q => absurd q (Int32.not_lt.mpr h2)), if_neg h11])
    · refine PW_iconst (v := 0) dJ6_compare_7cf53_14 (by decide) ?_
      refine PW_goto 19 dJ6_compare_7cf53_15 (by decide) ?_
      refine PW_ireturn rfl (rfl) dJ6_compare_7cf53_19 (Nat.le_of_ble_eq_true rfl) (Nat.le_of_ble_eq_true rfl) ?_
      exact rt_i (by rw [if_neg (fun q => absurd q (Int32.not_lt.mpr h2)), if_pos h11])
  · refine PW_iconst (v := -1) dJ6_compare_7cf53_5 (by decide) ?_
    refine PW_goto 19 dJ6_compare_7cf53_6 (by decide) ?_
    refine PW_ireturn rfl (rfl) dJ6_compare_7cf53_19 (Nat.le_of_ble_eq_true rfl) (Nat.le_of_ble_eq_true rfl) ?_
    exact rt_i (by rw [if_pos ((n32' _ _).mp h2)])
set_option maxRecDepth 100000 in
set_option maxHeartbeats 4000000 in
theorem spX7_sleepy {G : GE} {d : Nat} {M : Mm} {b w t : Nat} {fed : Bool} : Mt G iX7_sleepy d [.ref b, .int (nI w), .int (b2i fed), .int (nI t)] M (Rt (nI t) M) := by
  refine Mt_in 0 (ls := [.ref b, .int (nI w), .int (b2i fed), .int (nI t)]) moX7_sleepy (Nat.le_of_ble_eq_true rfl) rfl ?_
  refine PW_iload_n (i := 3) dX7_sleepy_0 rfl rfl ?_
  refine PW_ireturn rfl (rfl) dX7_sleepy_1 (Nat.le_of_ble_eq_true rfl) (Nat.le_of_ble_eq_true rfl) ?_
  exact rt_i rfl
set_option maxRecDepth 100000 in
set_option maxHeartbeats 4000000 in
theorem spX1_sleepy {G : GE} {d : Nat} {M : Mm} (hd : 1 ≤ d) {b ci w t : Nat} {fed : Bool} (hcl : ∃ r : vw_C, vwCl[ci]? = some r ∧ ci < 13) (ht : mt M b = (ci, 0)) (hw : w < 2 ^ 30) (h9 : t < 2 ^ 20) : Mt G iX1_sleepy d [.ref b, .int (nI w), .int (b2i fed), .int (nI t)] M (Rt (nI (slp 1 t w fed)) M) := by
  refine Mt_in 1 (ls := [.ref b, .int (nI w), .int (b2i fed), .int (nI t), .null]) moX1_sleepy (Nat.le_of_ble_eq_true rfl) rfl ?_
  refine PW_aload_n (i := 0) dX1_sleepy_0 rfl rfl ?_
  refine PW_iload_n (i := 1) dX1_sleepy_1 rfl rfl ?_
  refine PW_iload_n (i := 2) dX1_sleepy_2 rfl rfl ?_
  refine PW_iload_n (i := 3) dX1_sleepy_3 rfl rfl ?_
  refine PW_callSU dX1_sleepy_4 moX7_sleepy cv1_7 (hcl) (ht) (by omega) rfl rfl (Nat.le_of_ble_eq_true rfl) (Nat.le_of_ble_eq_true rfl) (Nat.le_of_ble_eq_true rfl) (spX7_sleepy (d := d - 1)) (fun v M1 hq => ?_)
  obtain ⟨rfl, rfl⟩ := hq
  refine PW_istore dX1_sleepy_7 (Nat.le_of_ble_eq_true rfl) rfl ?_
  refine PW_iload_n (i := 1) dX1_sleepy_9 rfl rfl ?_
  refine PW_iconst (v := 4) dX1_sleepy_10 (by decide) ?_
  refine PW_irem dX1_sleepy_11 (by decide) ?_
  refine PW_eqi (rem_c (by omega) 4 (by decide) (by decide) rfl) ?_
  refine PW_if_ne 26 dX1_sleepy_12 (by decide) (fun h12 => ?_) (fun h12 => ?_)
  · have h12 : ¬ w % 4 = 0 := fun q => h12 ((nI_e0 (by omega)).mpr q)
    refine PW_iload dX1_sleepy_26 rfl ?_
    refine PW_ireturn rfl (rfl) dX1_sleepy_28 (Nat.le_of_ble_eq_true rfl) (Nat.le_of_ble_eq_true rfl) ?_
    refine rt_i ?_
    rw [slp_1]
    first | (rw [if_neg h12]; done) | (rw [if_pos h12]; exact max0 (c := 3) (by omega) (by decide))
  · have h12 := (nI_e0 (by omega)).mp h12
    refine PW_iconst (v := 0) dX1_sleepy_15 (by decide) ?_
    refine PW_iload dX1_sleepy_16 rfl ?_
    refine PW_iconst (v := 3) dX1_sleepy_18 (by decide) ?_
    refine PW_isub dX1_sleepy_19 ?_
    refine PW_max dX1_sleepy_20 mm1_11 mw_max (Nat.le_of_ble_eq_true rfl) (Nat.le_of_ble_eq_true rfl) (Nat.le_of_ble_eq_true rfl) ?_
    refine PW_goto 28 dX1_sleepy_23 (by decide) ?_
    refine PW_ireturn rfl (rfl) dX1_sleepy_28 (Nat.le_of_ble_eq_true rfl) (Nat.le_of_ble_eq_true rfl) ?_
    refine rt_i ?_
    rw [slp_1]
    first | (rw [if_neg h12]; done) | (rw [if_pos h12]; exact max0 (c := 3) (by omega) (by decide))
set_option maxRecDepth 100000 in
set_option maxHeartbeats 4000000 in
theorem spX8_sleepy {G : GE} {d : Nat} {M : Mm} (hd : 1 ≤ d) {b ci w t : Nat} {fed : Bool} (hcl : ∃ r : vw_C, vwCl[ci]? = some r ∧ ci < 13) (ht : mt M b = (ci, 0)) (hw : w < 2 ^ 30) (h9 : t < 2 ^ 20) : Mt G iX8_sleepy d [.ref b, .int (nI w), .int (b2i fed), .int (nI t)] M (Rt (nI (slp 2 t w fed)) M) := by
  refine Mt_in 1 (ls := [.ref b, .int (nI w), .int (b2i fed), .int (nI t), .null]) moX8_sleepy (Nat.le_of_ble_eq_true rfl) rfl ?_
  refine PW_aload_n (i := 0) dX8_sleepy_0 rfl rfl ?_
  refine PW_iload_n (i := 1) dX8_sleepy_1 rfl rfl ?_
  refine PW_iload_n (i := 2) dX8_sleepy_2 rfl rfl ?_
  refine PW_iload_n (i := 3) dX8_sleepy_3 rfl rfl ?_
  refine PW_callSU dX8_sleepy_4 moX7_sleepy cv8_7 (hcl) (ht) (by omega) rfl rfl (Nat.le_of_ble_eq_true rfl) (Nat.le_of_ble_eq_true rfl) (Nat.le_of_ble_eq_true rfl) (spX7_sleepy (d := d - 1)) (fun v M1 hq => ?_)
  obtain ⟨rfl, rfl⟩ := hq
  refine PW_istore dX8_sleepy_7 (Nat.le_of_ble_eq_true rfl) rfl ?_
  refine PW_iload_n (i := 2) dX8_sleepy_9 rfl rfl ?_
  refine PW_if_eq 18 dX8_sleepy_10 (by decide) (fun h10 => ?_) (fun h10 => ?_)
  · have h10 := b2i_0.mp h10
    refine PW_iload dX8_sleepy_18 rfl ?_
    refine PW_iconst (v := 2) dX8_sleepy_20 (by decide) ?_
    refine PW_idiv dX8_sleepy_21 (by decide) ?_
    refine PW_ireturn rfl (rfl) dX8_sleepy_22 (Nat.le_of_ble_eq_true rfl) (Nat.le_of_ble_eq_true rfl) ?_
    refine rt_i ?_
    subst h10
    rw [slp_2]
    first | rfl | exact pk_div (by omega) (by decide) (by decide)
  · have h10 := b2i_n.mp h10
    refine PW_iload dX8_sleepy_13 rfl ?_
    refine PW_goto 22 dX8_sleepy_15 (by decide) ?_
    refine PW_ireturn rfl (rfl) dX8_sleepy_22 (Nat.le_of_ble_eq_true rfl) (Nat.le_of_ble_eq_true rfl) ?_
    refine rt_i ?_
    subst h10
    rw [slp_2]
    first | rfl | exact pk_div (by omega) (by decide) (by decide)
set_option maxRecDepth 100000 in
set_option maxHeartbeats 4000000 in
theorem spX2_sleepy {G : GE} {d : Nat} {M : Mm} (hd : 1 ≤ d) {b ci w t : Nat} {fed : Bool} (hcl : ∃ r : vw_C, vwCl[ci]? = some r ∧ ci < 13) (ht : mt M b = (ci, 0)) (hw : w < 2 ^ 30) (h9 : t < 2 ^ 20) : Mt G iX2_sleepy d [.ref b, .int (nI w), .int (b2i fed), .int (nI t)] M (Rt (nI (slp 3 t w fed)) M) := by
  refine Mt_in 1 (ls := [.ref b, .int (nI w), .int (b2i fed), .int (nI t), .null]) moX2_sleepy (Nat.le_of_ble_eq_true rfl) rfl ?_
  refine PW_aload_n (i := 0) dX2_sleepy_0 rfl rfl ?_
  refine PW_iload_n (i := 1) dX2_sleepy_1 rfl rfl ?_
  refine PW_iload_n (i := 2) dX2_sleepy_2 rfl rfl ?_
  refine PW_iload_n (i := 3) dX2_sleepy_3 rfl rfl ?_
  refine PW_callSU dX2_sleepy_4 moX7_sleepy cv2_7 (hcl) (ht) (by omega) rfl rfl (Nat.le_of_ble_eq_true rfl) (Nat.le_of_ble_eq_true rfl) (Nat.le_of_ble_eq_true rfl) (spX7_sleepy (d := d - 1)) (fun v M1 hq => ?_)
  obtain ⟨rfl, rfl⟩ := hq
  refine PW_istore dX2_sleepy_7 (Nat.le_of_ble_eq_true rfl) rfl ?_
  refine PW_iload_n (i := 2) dX2_sleepy_9 rfl rfl ?_
  refine PW_if_eq 20 dX2_sleepy_10 (by decide) (fun h10 => ?_) (fun h10 => ?_)
  · have h10 := b2i_0.mp h10
    refine PW_iload dX2_sleepy_20 rfl ?_
    refine PW_ireturn rfl (rfl) dX2_sleepy_22 (Nat.le_of_ble_eq_true rfl) (Nat.le_of_ble_eq_true rfl) ?_
    refine rt_i ?_
    subst h10
    rw [slp_3]
    first | rfl | exact pk_mul 2 t
  · have h10 := b2i_n.mp h10
    refine PW_iconst (v := 2) dX2_sleepy_13 (by decide) ?_
    refine PW_iload dX2_sleepy_14 rfl ?_
    refine PW_imul dX2_sleepy_16 ?_
    refine PW_goto 22 dX2_sleepy_17 (by decide) ?_
    refine PW_ireturn rfl (rfl) dX2_sleepy_22 (Nat.le_of_ble_eq_true rfl) (Nat.le_of_ble_eq_true rfl) ?_
    refine rt_i ?_
    subst h10
    rw [slp_3]
    first | rfl | exact pk_mul 2 t
set_option maxRecDepth 100000 in
set_option maxHeartbeats 4000000 in
theorem spX5_sleepy {G : GE} {d : Nat} {M : Mm} (hd : 2 ≤ d) {b ci w t : Nat} {fed : Bool} (hcl : ∃ r : vw_C, vwCl[ci]? = some r ∧ ci < 13) (ht : mt M b = (ci, 0)) (hw : w < 2 ^ 30) (h9 : t < 2 ^ 20) : Mt G iX5_sleepy d [.ref b, .int (nI w), .int (b2i fed), .int (nI t)] M (Rt (nI (slp 4 t w fed)) M) := by
  refine Mt_in 1 (ls := [.ref b, .int (nI w), .int (b2i fed), .int (nI t), .null]) moX5_sleepy (Nat.le_of_ble_eq_true rfl) rfl ?_
  refine PW_aload_n (i := 0) dX5_sleepy_0 rfl rfl ?_
  refine PW_iload_n (i := 1) dX5_sleepy_1 rfl rfl ?_
  refine PW_iload_n (i := 2) dX5_sleepy_2 rfl rfl ?_
  refine PW_iload_n (i := 3) dX5_sleepy_3 rfl rfl ?_
  refine PW_callSU dX5_sleepy_4 moX1_sleepy cv5_7 (hcl) (ht) (by omega) rfl rfl (Nat.le_of_ble_eq_true rfl) (Nat.le_of_ble_eq_true rfl) (Nat.le_of_ble_eq_true rfl) (spX1_sleepy (d := d - 1) (by omega) hcl ht hw h9) (fun v M1 hq => ?_)
  obtain ⟨rfl, rfl⟩ := hq
  refine PW_istore dX5_sleepy_7 (Nat.le_of_ble_eq_true rfl) rfl ?_
  refine PW_iload_n (i := 1) dX5_sleepy_9 rfl rfl ?_
  refine PW_bipush (v := 7) dX5_sleepy_10 (by decide) ?_
  refine PW_irem dX5_sleepy_12 (by decide) ?_
  refine PW_eqi (rem_c (by omega) 7 (by decide) (by decide) rfl) ?_
  refine PW_iconst (v := 3) dX5_sleepy_13 (by decide) ?_
  refine PW_icmp_ne 24 dX5_sleepy_14 (by decide) (fun h14 => ?_) (fun h14 => ?_)
  · have h14 : ¬ w % 7 = 3 := fun q => h14 ((nI_ec 3 (by omega) (by decide) rfl).mpr q)
    refine PW_iload dX5_sleepy_24 rfl ?_
    refine PW_ireturn rfl (rfl) dX5_sleepy_26 (Nat.le_of_ble_eq_true rfl) (Nat.le_of_ble_eq_true rfl) ?_
    refine rt_i ?_
    rw [slp_4]
    first | (rw [if_neg h14, Nat.add_zero]; done) | (rw [if_pos h14]; exact nI_add _ 5)
  · have h14 := (nI_ec 3 (by omega) (by decide) rfl).mp h14
    refine PW_iload dX5_sleepy_17 rfl ?_
    refine PW_iconst (v := 5) dX5_sleepy_19 (by decide) ?_
    refine PW_iadd dX5_sleepy_20 ?_
    refine PW_goto 26 dX5_sleepy_21 (by decide) ?_
    refine PW_ireturn rfl (rfl) dX5_sleepy_26 (Nat.le_of_ble_eq_true rfl) (Nat.le_of_ble_eq_true rfl) ?_
    refine rt_i ?_
    rw [slp_4]
    first | (rw [if_neg h14, Nat.add_zero]; done) | (rw [if_pos h14]; exact nI_add _ 5)
set_option maxRecDepth 100000 in
set_option maxHeartbeats 4000000 in
theorem spX0_sleepy {G : GE} {d : Nat} {M : Mm} {b w t : Nat} {fed : Bool} : Mt G iX0_sleepy d [.ref b, .int (nI w), .int (b2i fed), .int (nI t)] M (Rt (nI (slp 5 t w fed)) M) := by
  refine Mt_in 0 (ls := [.ref b, .int (nI w), .int (b2i fed), .int (nI t)]) moX0_sleepy (Nat.le_of_ble_eq_true rfl) rfl ?_
  refine PW_iconst (v := 0) dX0_sleepy_0 (by decide) ?_
  refine PW_ireturn rfl (rfl) dX0_sleepy_1 (Nat.le_of_ble_eq_true rfl) (Nat.le_of_ble_eq_true rfl) ?_
  exact rt_i rfl
set_option maxRecDepth 100000 in
set_option maxHeartbeats 4000000 in
theorem spX7_tires {G : GE} {d : Nat} {M : Mm} {b : Nat} : Mt G iX7_tires d [.ref b] M (Rt 1 M) := by
  refine Mt_in 0 (ls := [.ref b]) moX7_tires (Nat.le_of_ble_eq_true rfl) rfl ?_
  refine PW_iconst (v := 1) dX7_tires_0 (by decide) ?_
  refine PW_ireturn rfl (rfl) dX7_tires_1 (Nat.le_of_ble_eq_true rfl) (Nat.le_of_ble_eq_true rfl) ?_
  exact rt_i rfl
set_option maxRecDepth 100000 in
set_option maxHeartbeats 4000000 in
theorem spX8_tires {G : GE} {d : Nat} {M : Mm} (hd : 1 ≤ d) {b ci : Nat} (hcl : ∃ r : vw_C, vwCl[ci]? = some r ∧ ci < 13) (ht : mt M b = (ci, 0)) : Mt G iX8_tires d [.ref b] M (Rt 2 M) := by
  refine Mt_in 0 (ls := [.ref b]) moX8_tires (Nat.le_of_ble_eq_true rfl) rfl ?_
  refine PW_aload_n (i := 0) dX8_tires_0 rfl rfl ?_
  refine PW_callSU dX8_tires_1 moX7_tires cv8_11 (hcl) (ht) (by omega) rfl rfl (Nat.le_of_ble_eq_true rfl) (Nat.le_of_ble_eq_true rfl) (Nat.le_of_ble_eq_true rfl) (spX7_tires (d := d - 1)) (fun v M1 hq => ?_)
  obtain ⟨rfl, rfl⟩ := hq
  refine PW_iconst (v := 1) dX8_tires_4 (by decide) ?_
  refine PW_iadd dX8_tires_5 ?_
  refine PW_ireturn rfl (rfl) dX8_tires_6 (Nat.le_of_ble_eq_true rfl) (Nat.le_of_ble_eq_true rfl) ?_
  exact rt_i rfl
set_option maxRecDepth 100000 in
set_option maxHeartbeats 4000000 in
theorem spX0_tires {G : GE} {d : Nat} {M : Mm} (hd : 2 ≤ d) {b ci : Nat} (hcl : ∃ r : vw_C, vwCl[ci]? = some r ∧ ci < 13) (ht : mt M b = (ci, 0)) : Mt G iX0_tires d [.ref b] M (Rt 0 M) := by
  refine Mt_in 0 (ls := [.ref b]) moX0_tires (Nat.le_of_ble_eq_true rfl) rfl ?_
  refine PW_aload_n (i := 0) dX0_tires_0 rfl rfl ?_
  refine PW_callSU dX0_tires_1 moX8_tires cv0_7 (hcl) (ht) (by omega) rfl rfl (Nat.le_of_ble_eq_true rfl) (Nat.le_of_ble_eq_true rfl) (Nat.le_of_ble_eq_true rfl) (spX8_tires (d := d - 1) (by omega) hcl ht) (fun v M1 hq => ?_)
  obtain ⟨rfl, rfl⟩ := hq
  refine PW_iconst (v := 2) dX0_tires_4 (by decide) ?_
  refine PW_isub dX0_tires_5 ?_
  refine PW_ireturn rfl (rfl) dX0_tires_6 (Nat.le_of_ble_eq_true rfl) (Nat.le_of_ble_eq_true rfl) ?_
  exact rt_i rfl

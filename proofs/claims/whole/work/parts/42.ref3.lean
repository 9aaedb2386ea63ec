/-! ===== the reference: ship, rock, hand, type, clear ===== -/
set_option maxRecDepth 100000 in
set_option maxHeartbeats 4000000 in
theorem spX12_bad {G : GE} {d : Nat} {i : MI0} {S : MS} {Y : Nat} (hY : YS S Y) {s : Ab} (hR : MR i S Y s) : Mt G iX12_bad d [.ref Y] (i, S) (Wi (-2) S (fun i' => MR i' S Y (bad s) ∧ ∀ q, q ≠ Y + 1 → i' q = i q)) := by
  have hY' := hY
  obtain ⟨Yt, ⟨Yt1, Yr1⟩, ⟨Yt2, Yr2⟩, ⟨Yt3, Yr3⟩, ⟨Yt4, Yr4⟩, ⟨Yt5, Yr5⟩, ⟨Yt6, Yr6⟩, ⟨Yt7, Yr7⟩, ⟨Yt8, Yr8⟩, ⟨Yt9, Yr9⟩, ⟨Yt10, Yr10⟩, ⟨Yt11, Yr11⟩, ⟨Yt12, Yr12⟩, ⟨Yt13, Yr13⟩, ⟨Yt14, Yr14⟩, ⟨Yt15, Yr15⟩, ⟨Yt16, Yr16⟩, ⟨Yt17, Yr17⟩, ⟨Yt18, Yr18⟩, ⟨Yt19, Yr19⟩⟩ := hY
  refine Mt_in 0 (ls := [.ref Y]) moX12_bad (Nat.le_of_ble_eq_true rfl) rfl ?_
  refine PW_aload_n (i := 0) dX12_bad_0 rfl rfl ?_
  refine PW_getR dX12_bad_1 fg12_1 (Yt) (Yr1) ?_
  refine PW_iconst (v := 0) dX12_bad_4 (by decide) ?_
  refine PW_dup2 dX12_bad_5 rfl rfl ?_
  refine PW_ial (j := 0) (v := aX s) dX12_bad_6 (Yt1) (by omega) (by decide) (hR.2.2.2.2.1.1) ?_
  refine PW_iconst (v := 1) dX12_bad_7 (by decide) ?_
  refine PW_iadd dX12_bad_8 ?_
  refine PW_ias (j := 0) dX12_bad_9 (Yt1) (by omega) (by decide) ?_
  refine PW_bipush (v := -2) dX12_bad_10 (by decide) ?_
  refine PW_ireturn rfl (rfl) dX12_bad_12 (Nat.le_of_ble_eq_true rfl) (Nat.le_of_ble_eq_true rfl) ?_
  refine Wi_mk rfl rfl ⟨hR.rf (s' := bad s) rfl rfl rfl rfl rfl rfl rfl ⟨?_, ?_, ?_⟩ (fun q hq => rI_f _ _ hq), fun q hq => rI_f _ _ hq⟩
  · simp (disch := omega) only [rI_s, rI_k, rI_a, rI_f, rA_s, rA_n, rA_f, rP, rP_f]; rfl
  · simp (disch := omega) only [rI_s, rI_k, rI_a, rI_f, rA_s, rA_n, rA_f, rP, rP_f]; exact hR.2.2.2.2.1.2.1
  · simp (disch := omega) only [rI_s, rI_k, rI_a, rI_f, rA_s, rA_n, rA_f, rP, rP_f]; exact hR.2.2.2.2.1.2.2
set_option maxRecDepth 100000 in
set_option maxHeartbeats 4000000 in
theorem spX12_ten {G : GE} {d : Nat} {i : MI0} {S : MS} {Y : Nat} (hY : YS S Y) {s : Ab} (hR : MR i S Y s) : Mt G iX12_ten d [.ref Y] (i, S) (Wi (-10) S (fun i' => MR i' S Y (bad s) ∧ ∀ q, q ≠ Y + 1 → i' q = i q)) := by
  have hY' := hY
  obtain ⟨Yt, ⟨Yt1, Yr1⟩, ⟨Yt2, Yr2⟩, ⟨Yt3, Yr3⟩, ⟨Yt4, Yr4⟩, ⟨Yt5, Yr5⟩, ⟨Yt6, Yr6⟩, ⟨Yt7, Yr7⟩, ⟨Yt8, Yr8⟩, ⟨Yt9, Yr9⟩, ⟨Yt10, Yr10⟩, ⟨Yt11, Yr11⟩, ⟨Yt12, Yr12⟩, ⟨Yt13, Yr13⟩, ⟨Yt14, Yr14⟩, ⟨Yt15, Yr15⟩, ⟨Yt16, Yr16⟩, ⟨Yt17, Yr17⟩, ⟨Yt18, Yr18⟩, ⟨Yt19, Yr19⟩⟩ := hY
  refine Mt_in 0 (ls := [.ref Y]) moX12_ten (Nat.le_of_ble_eq_true rfl) rfl ?_
  refine PW_aload_n (i := 0) dX12_ten_0 rfl rfl ?_
  refine PW_getR dX12_ten_1 fg12_1 (Yt) (Yr1) ?_
  refine PW_iconst (v := 0) dX12_ten_4 (by decide) ?_
  refine PW_dup2 dX12_ten_5 rfl rfl ?_
  refine PW_ial (j := 0) (v := aX s) dX12_ten_6 (Yt1) (by omega) (by decide) (hR.2.2.2.2.1.1) ?_
  refine PW_iconst (v := 1) dX12_ten_7 (by decide) ?_
  refine PW_iadd dX12_ten_8 ?_
  refine PW_ias (j := 0) dX12_ten_9 (Yt1) (by omega) (by decide) ?_
  refine PW_bipush (v := -10) dX12_ten_10 (by decide) ?_
  refine PW_ireturn rfl (rfl) dX12_ten_12 (Nat.le_of_ble_eq_true rfl) (Nat.le_of_ble_eq_true rfl) ?_
  refine Wi_mk rfl rfl ⟨hR.rf (s' := bad s) rfl rfl rfl rfl rfl rfl rfl ⟨?_, ?_, ?_⟩ (fun q hq => rI_f _ _ hq), fun q hq => rI_f _ _ hq⟩
  · simp (disch := omega) only [rI_s, rI_k, rI_a, rI_f, rA_s, rA_n, rA_f, rP, rP_f]; rfl
  · simp (disch := omega) only [rI_s, rI_k, rI_a, rI_f, rA_s, rA_n, rA_f, rP, rP_f]; exact hR.2.2.2.2.1.2.1
  · simp (disch := omega) only [rI_s, rI_k, rI_a, rI_f, rA_s, rA_n, rA_f, rP, rP_f]; exact hR.2.2.2.2.1.2.2
set_option maxRecDepth 100000 in
set_option maxHeartbeats 4000000 in
theorem spX12_manyBad {G : GE} {d : Nat} {i : MI0} {S : MS} {Y : Nat} (hY : YS S Y) {s : Ab} (hR : MR i S Y s) : Mt G iX12_manyBad d [.ref Y] (i, S) (Wi (-10000) S (fun i' => MR i' S Y (bad s) ∧ ∀ q, q ≠ Y + 1 → i' q = i q)) := by
  have hY' := hY
  obtain ⟨Yt, ⟨Yt1, Yr1⟩, ⟨Yt2, Yr2⟩, ⟨Yt3, Yr3⟩, ⟨Yt4, Yr4⟩, ⟨Yt5, Yr5⟩, ⟨Yt6, Yr6⟩, ⟨Yt7, Yr7⟩, ⟨Yt8, Yr8⟩, ⟨Yt9, Yr9⟩, ⟨Yt10, Yr10⟩, ⟨Yt11, Yr11⟩, ⟨Yt12, Yr12⟩, ⟨Yt13, Yr13⟩, ⟨Yt14, Yr14⟩, ⟨Yt15, Yr15⟩, ⟨Yt16, Yr16⟩, ⟨Yt17, Yr17⟩, ⟨Yt18, Yr18⟩, ⟨Yt19, Yr19⟩⟩ := hY
  refine Mt_in 0 (ls := [.ref Y]) moX12_manyBad (Nat.le_of_ble_eq_true rfl) rfl ?_
  refine PW_aload_n (i := 0) dX12_manyBad_0 rfl rfl ?_
  refine PW_getR dX12_manyBad_1 fg12_1 (Yt) (Yr1) ?_
  refine PW_iconst (v := 0) dX12_manyBad_4 (by decide) ?_
  refine PW_dup2 dX12_manyBad_5 rfl rfl ?_
  refine PW_ial (j := 0) (v := aX s) dX12_manyBad_6 (Yt1) (by omega) (by decide) (hR.2.2.2.2.1.1) ?_
  refine PW_iconst (v := 1) dX12_manyBad_7 (by decide) ?_
  refine PW_iadd dX12_manyBad_8 ?_
  refine PW_ias (j := 0) dX12_manyBad_9 (Yt1) (by omega) (by decide) ?_
  refine PW_sipush (v := -10000) dX12_manyBad_10 (by decide) ?_
  refine PW_ireturn rfl (rfl) dX12_manyBad_13 (Nat.le_of_ble_eq_true rfl) (Nat.le_of_ble_eq_true rfl) ?_
  refine Wi_mk rfl rfl ⟨hR.rf (s' := bad s) rfl rfl rfl rfl rfl rfl rfl ⟨?_, ?_, ?_⟩ (fun q hq => rI_f _ _ hq), fun q hq => rI_f _ _ hq⟩
  · simp (disch := omega) only [rI_s, rI_k, rI_a, rI_f, rA_s, rA_n, rA_f, rP, rP_f]; rfl
  · simp (disch := omega) only [rI_s, rI_k, rI_a, rI_f, rA_s, rA_n, rA_f, rP, rP_f]; exact hR.2.2.2.2.1.2.1
  · simp (disch := omega) only [rI_s, rI_k, rI_a, rI_f, rA_s, rA_n, rA_f, rP, rP_f]; exact hR.2.2.2.2.1.2.2
set_option maxRecDepth 100000 in
set_option maxHeartbeats 4000000 in
theorem spX12_no {G : GE} {d : Nat} {i : MI0} {S : MS} {Y : Nat} (hY : YS S Y) {s : Ab} (hR : MR i S Y s) : Mt G iX12_no d [.ref Y] (i, S) (Wi (-3) S (fun i' => MR i' S Y (noo s) ∧ ∀ q, q ≠ Y + 1 → i' q = i q)) := by
  have hY' := hY
  obtain ⟨Yt, ⟨Yt1, Yr1⟩, ⟨Yt2, Yr2⟩, ⟨Yt3, Yr3⟩, ⟨Yt4, Yr4⟩, ⟨Yt5, Yr5⟩, ⟨Yt6, Yr6⟩, ⟨Yt7, Yr7⟩, ⟨Yt8, Yr8⟩, ⟨Yt9, Yr9⟩, ⟨Yt10, Yr10⟩, ⟨Yt11, Yr11⟩, ⟨Yt12, Yr12⟩, ⟨Yt13, Yr13⟩, ⟨Yt14, Yr14⟩, ⟨Yt15, Yr15⟩, ⟨Yt16, Yr16⟩, ⟨Yt17, Yr17⟩, ⟨Yt18, Yr18⟩, ⟨Yt19, Yr19⟩⟩ := hY
  refine Mt_in 0 (ls := [.ref Y]) moX12_no (Nat.le_of_ble_eq_true rfl) rfl ?_
  refine PW_aload_n (i := 0) dX12_no_0 rfl rfl ?_
  refine PW_getR dX12_no_1 fg12_1 (Yt) (Yr1) ?_
  refine PW_iconst (v := 1) dX12_no_4 (by decide) ?_
  refine PW_dup2 dX12_no_5 rfl rfl ?_
  refine PW_ial (j := 1) (v := aN s) dX12_no_6 (Yt1) (by omega) (by decide) (hR.2.2.2.2.1.2.1) ?_
  refine PW_iconst (v := 1) dX12_no_7 (by decide) ?_
  refine PW_iadd dX12_no_8 ?_
  refine PW_ias (j := 1) dX12_no_9 (Yt1) (by omega) (by decide) ?_
  refine PW_bipush (v := -3) dX12_no_10 (by decide) ?_
  refine PW_ireturn rfl (rfl) dX12_no_12 (Nat.le_of_ble_eq_true rfl) (Nat.le_of_ble_eq_true rfl) ?_
  refine Wi_mk rfl rfl ⟨hR.rf (s' := noo s) rfl rfl rfl rfl rfl rfl rfl ⟨?_, ?_, ?_⟩ (fun q hq => rI_f _ _ hq), fun q hq => rI_f _ _ hq⟩
  · simp (disch := omega) only [rI_s, rI_k, rI_a, rI_f, rA_s, rA_n, rA_f, rP, rP_f]; exact hR.2.2.2.2.1.1
  · simp (disch := omega) only [rI_s, rI_k, rI_a, rI_f, rA_s, rA_n, rA_f, rP, rP_f]; rfl
  · simp (disch := omega) only [rI_s, rI_k, rI_a, rI_f, rA_s, rA_n, rA_f, rP, rP_f]; exact hR.2.2.2.2.1.2.2
set_option maxRecDepth 100000 in
set_option maxHeartbeats 4000000 in
theorem spX12_full {G : GE} {d : Nat} {i : MI0} {S : MS} {Y : Nat} (hY : YS S Y) {s : Ab} (hR : MR i S Y s) : Mt G iX12_full d [.ref Y] (i, S) (Wi (-4) S (fun i' => MR i' S Y (ful s) ∧ ∀ q, q ≠ Y + 1 → i' q = i q)) := by
  have hY' := hY
  obtain ⟨Yt, ⟨Yt1, Yr1⟩, ⟨Yt2, Yr2⟩, ⟨Yt3, Yr3⟩, ⟨Yt4, Yr4⟩, ⟨Yt5, Yr5⟩, ⟨Yt6, Yr6⟩, ⟨Yt7, Yr7⟩, ⟨Yt8, Yr8⟩, ⟨Yt9, Yr9⟩, ⟨Yt10, Yr10⟩, ⟨Yt11, Yr11⟩, ⟨Yt12, Yr12⟩, ⟨Yt13, Yr13⟩, ⟨Yt14, Yr14⟩, ⟨Yt15, Yr15⟩, ⟨Yt16, Yr16⟩, ⟨Yt17, Yr17⟩, ⟨Yt18, Yr18⟩, ⟨Yt19, Yr19⟩⟩ := hY
  refine Mt_in 0 (ls := [.ref Y]) moX12_full (Nat.le_of_ble_eq_true rfl) rfl ?_
  refine PW_aload_n (i := 0) dX12_full_0 rfl rfl ?_
  refine PW_getR dX12_full_1 fg12_1 (Yt) (Yr1) ?_
  refine PW_iconst (v := 2) dX12_full_4 (by decide) ?_
  refine PW_dup2 dX12_full_5 rfl rfl ?_
  refine PW_ial (j := 2) (v := aF s) dX12_full_6 (Yt1) (by omega) (by decide) (hR.2.2.2.2.1.2.2) ?_
  refine PW_iconst (v := 1) dX12_full_7 (by decide) ?_
  refine PW_iadd dX12_full_8 ?_
  refine PW_ias (j := 2) dX12_full_9 (Yt1) (by omega) (by decide) ?_
  refine PW_bipush (v := -4) dX12_full_10 (by decide) ?_
  refine PW_ireturn rfl (rfl) dX12_full_12 (Nat.le_of_ble_eq_true rfl) (Nat.le_of_ble_eq_true rfl) ?_
  refine Wi_mk rfl rfl ⟨hR.rf (s' := ful s) rfl rfl rfl rfl rfl rfl rfl ⟨?_, ?_, ?_⟩ (fun q hq => rI_f _ _ hq), fun q hq => rI_f _ _ hq⟩
  · simp (disch := omega) only [rI_s, rI_k, rI_a, rI_f, rA_s, rA_n, rA_f, rP, rP_f]; exact hR.2.2.2.2.1.1
  · simp (disch := omega) only [rI_s, rI_k, rI_a, rI_f, rA_s, rA_n, rA_f, rP, rP_f]; exact hR.2.2.2.2.1.2.1
  · simp (disch := omega) only [rI_s, rI_k, rI_a, rI_f, rA_s, rA_n, rA_f, rP, rP_f]; rfl
set_option maxRecDepth 100000 in
set_option maxHeartbeats 4000000 in
theorem spX12_isHand {G : GE} {d : Nat} {i : MI0} {S : MS} {Y : Nat} (hY : YS S Y) {h : Hm} (hH : MH i Y h) (hd : 1 ≤ d) (k : Int32) : Mt G iX12_isHand d [.ref Y, .int k] (i, S) (Rt (b1 (0 ≤ k ∧ k ≤ nI (hn h) - 1)) (i, S)) := by
  have hY' := hY
  obtain ⟨Yt, ⟨Yt1, Yr1⟩, ⟨Yt2, Yr2⟩, ⟨Yt3, Yr3⟩, ⟨Yt4, Yr4⟩, ⟨Yt5, Yr5⟩, ⟨Yt6, Yr6⟩, ⟨Yt7, Yr7⟩, ⟨Yt8, Yr8⟩, ⟨Yt9, Yr9⟩, ⟨Yt10, Yr10⟩, ⟨Yt11, Yr11⟩, ⟨Yt12, Yr12⟩, ⟨Yt13, Yr13⟩, ⟨Yt14, Yr14⟩, ⟨Yt15, Yr15⟩, ⟨Yt16, Yr16⟩, ⟨Yt17, Yr17⟩, ⟨Yt18, Yr18⟩, ⟨Yt19, Yr19⟩⟩ := hY
  refine Mt_in 0 (ls := [.ref Y, .int k]) moX12_isHand (Nat.le_of_ble_eq_true rfl) rfl ?_
  refine PW_iload_n (i := 1) dX12_isHand_0 rfl rfl ?_
  refine PW_iconst (v := 0) dX12_isHand_1 (by decide) ?_
  refine PW_aload_n (i := 0) dX12_isHand_2 rfl rfl ?_
  refine PW_giv (v := nI (hn h)) dX12_isHand_3 fg12_74 (Yt) (hH.1) ?_
  refine PW_iconst (v := 1) dX12_isHand_6 (by decide) ?_
  refine PW_isub dX12_isHand_7 ?_
  refine PW_callS dX12_isHand_8 moX12_in cs12_93 (by omega) rfl rfl (Nat.le_of_ble_eq_true rfl) (Nat.le_of_ble_eq_true rfl) (Nat.le_of_ble_eq_true rfl) (spX12_in (d := d - 1) _ _ _) (fun v M1 hq => ?_)
  obtain ⟨rfl, rfl⟩ := hq
  refine PW_ireturn rfl (b1_n _) dX12_isHand_11 (Nat.le_of_ble_eq_true rfl) (Nat.le_of_ble_eq_true rfl) ?_
  exact rt_i rfl
theorem anyB_s (f : Nat → Bool) (n : Nat) : anyB f (n + 1) = (anyB f n || f n) := rfl
set_option maxRecDepth 100000 in
set_option maxHeartbeats 4000000 in
theorem lpX12_isRock {G : GE} {d : Nat} {i : MI0} {S : MS} {Y : Nat} (hY : YS S Y) {y : Vy} (hM : MV i Y y) (hr6 : vr y ≤ 6) (p : Int32) : ∀ (n0 j : Nat), j ≤ vr y → vr y < j + n0 → PW G iX12_isRock d (Rt (b2i (rkB y p)) (i, S)) 4 [.ref Y, .int p, .int (b2i (anyB (fun j => decide (vR y j = p)) j)), .int (nI j)] [] (i, S) 0 0 := by
  have hY' := hY
  obtain ⟨Yt, ⟨Yt1, Yr1⟩, ⟨Yt2, Yr2⟩, ⟨Yt3, Yr3⟩, ⟨Yt4, Yr4⟩, ⟨Yt5, Yr5⟩, ⟨Yt6, Yr6⟩, ⟨Yt7, Yr7⟩, ⟨Yt8, Yr8⟩, ⟨Yt9, Yr9⟩, ⟨Yt10, Yr10⟩, ⟨Yt11, Yr11⟩, ⟨Yt12, Yr12⟩, ⟨Yt13, Yr13⟩, ⟨Yt14, Yr14⟩, ⟨Yt15, Yr15⟩, ⟨Yt16, Yr16⟩, ⟨Yt17, Yr17⟩, ⟨Yt18, Yr18⟩, ⟨Yt19, Yr19⟩⟩ := hY
  intro n0
  induction n0 with
  | zero => intro j h1 h2; exact absurd h2 (by omega)
  | succ n0 ih =>
    intro j hj1 hj2 
    refine PW_iload_n (i := 3) dX12_isRock_4 rfl rfl ?_
    refine PW_aload_n (i := 0) dX12_isRock_5 rfl rfl ?_
    refine PW_giv (v := nI (vr y)) dX12_isRock_6 fg12_84 (Yt) (hM.2.1) ?_
    refine PW_icmp_ge 38 dX12_isRock_9 (by decide) (fun h9 => ?_) (fun h9 => ?_)
    · have h9 := jle h9
      have ej : j = vr y := by omega
      subst ej
      refine PW_iload_n (i := 2) dX12_isRock_38 rfl rfl ?_
      refine PW_ireturn rfl (by cases anyB (fun j => decide (vR y j = p)) (vr y) <;> rfl) dX12_isRock_39 (Nat.le_of_ble_eq_true rfl) (Nat.le_of_ble_eq_true rfl) ?_
      exact rt_i rfl
    · have h9 := jnle h9
      refine PW_iload_n (i := 2) dX12_isRock_12 rfl rfl ?_
      refine PW_if_ne 26 dX12_isRock_13 (by decide) (fun h13 => ?_) (fun h13 => ?_)
      · have h13 := b2i_n.mp h13
        refine PW_iconst (v := 1) dX12_isRock_26 (by decide) ?_
        refine PW_goto 31 dX12_isRock_27 (by decide) ?_
        refine PW_istore_n (i := 2) dX12_isRock_31 rfl (Nat.le_of_ble_eq_true rfl) rfl ?_
        refine PW_inc1 dX12_isRock_32 rfl (Nat.le_of_ble_eq_true rfl) rfl ?_
        refine PW_goto 4 dX12_isRock_35 (by decide) ?_
        have q := ih (j + 1) (by omega) (by omega)
        rw [anyB_s] at q
        first | (rw [h13, Bool.true_or] at q; exact q) | (rw [h13, Bool.false_or, decide_eq_true h23] at q; exact q) | (rw [h13, Bool.false_or, decide_eq_false h23] at q; exact q)
      · have h13 := b2i_0.mp h13
        refine PW_aload_n (i := 0) dX12_isRock_16 rfl rfl ?_
        refine PW_getR dX12_isRock_17 fg12_25 (Yt) (Yr6) ?_
        refine PW_iload_n (i := 3) dX12_isRock_20 rfl rfl ?_
        refine PW_ial (v := vR y j) dX12_isRock_21 (Yt6) (by omega) (by omega) (hM.2.2.2.2.1 j h9) ?_
        refine PW_iload_n (i := 1) dX12_isRock_22 rfl rfl ?_
        refine PW_icmp_ne 30 dX12_isRock_23 (by decide) (fun h23 => ?_) (fun h23 => ?_)
        · refine PW_iconst (v := 0) dX12_isRock_30 (by decide) ?_
          refine PW_istore_n (i := 2) dX12_isRock_31 rfl (Nat.le_of_ble_eq_true rfl) rfl ?_
          refine PW_inc1 dX12_isRock_32 rfl (Nat.le_of_ble_eq_true rfl) rfl ?_
          refine PW_goto 4 dX12_isRock_35 (by decide) ?_
          have q := ih (j + 1) (by omega) (by omega)
          rw [anyB_s] at q
          first | (rw [h13, Bool.true_or] at q; exact q) | (rw [h13, Bool.false_or, decide_eq_true h23] at q; exact q) | (rw [h13, Bool.false_or, decide_eq_false h23] at q; exact q)
        · refine PW_iconst (v := 1) dX12_isRock_26 (by decide) ?_
          refine PW_goto 31 dX12_isRock_27 (by decide) ?_
          refine PW_istore_n (i := 2) dX12_isRock_31 rfl (Nat.le_of_ble_eq_true rfl) rfl ?_
          refine PW_inc1 dX12_isRock_32 rfl (Nat.le_of_ble_eq_true rfl) rfl ?_
          refine PW_goto 4 dX12_isRock_35 (by decide) ?_
          have q := ih (j + 1) (by omega) (by omega)
          rw [anyB_s] at q
          first | (rw [h13, Bool.true_or] at q; exact q) | (rw [h13, Bool.false_or, decide_eq_true h23] at q; exact q) | (rw [h13, Bool.false_or, decide_eq_false h23] at q; exact q)
set_option maxRecDepth 100000 in
set_option maxHeartbeats 4000000 in
theorem spX12_isRock {G : GE} {d : Nat} {i : MI0} {S : MS} {Y : Nat} (hY : YS S Y) {y : Vy} (hM : MV i Y y) (hr6 : vr y ≤ 6) (p : Int32) : Mt G iX12_isRock d [.ref Y, .int p] (i, S) (Rt (b2i (rkB y p)) (i, S)) := by
  have hY' := hY
  obtain ⟨Yt, ⟨Yt1, Yr1⟩, ⟨Yt2, Yr2⟩, ⟨Yt3, Yr3⟩, ⟨Yt4, Yr4⟩, ⟨Yt5, Yr5⟩, ⟨Yt6, Yr6⟩, ⟨Yt7, Yr7⟩, ⟨Yt8, Yr8⟩, ⟨Yt9, Yr9⟩, ⟨Yt10, Yr10⟩, ⟨Yt11, Yr11⟩, ⟨Yt12, Yr12⟩, ⟨Yt13, Yr13⟩, ⟨Yt14, Yr14⟩, ⟨Yt15, Yr15⟩, ⟨Yt16, Yr16⟩, ⟨Yt17, Yr17⟩, ⟨Yt18, Yr18⟩, ⟨Yt19, Yr19⟩⟩ := hY
  refine Mt_in 2 (ls := [.ref Y, .int p, .null, .null]) moX12_isRock (Nat.le_of_ble_eq_true rfl) rfl ?_
  refine PW_iconst (v := 0) dX12_isRock_0 (by decide) ?_
  refine PW_istore_n (i := 2) dX12_isRock_1 rfl (Nat.le_of_ble_eq_true rfl) rfl ?_
  refine PW_iconst (v := 0) dX12_isRock_2 (by decide) ?_
  refine PW_istore_n (i := 3) dX12_isRock_3 rfl (Nat.le_of_ble_eq_true rfl) rfl ?_
  exact lpX12_isRock hY' hM hr6 p (vr y + 1) 0 (by omega) (by omega)
set_option maxRecDepth 100000 in
set_option maxHeartbeats 4000000 in
theorem spX12_begin {G : GE} {d : Nat} {i : MI0} {S : MS} {Y : Nat} (hY : YS S Y) : Mt G iX12_begin d [.ref Y] (i, S) (Wr S (fun i' => MV i' Y vy0 ∧ (∀ k, k ≠ 1 → k ≠ 2 → k ≠ 3 → k ≠ 4 → k ≠ 5 → k ≠ 22 → i' Y k = i Y k) ∧ ∀ q, q ≠ Y → i' q = i q)) := by
  have hY' := hY
  obtain ⟨Yt, ⟨Yt1, Yr1⟩, ⟨Yt2, Yr2⟩, ⟨Yt3, Yr3⟩, ⟨Yt4, Yr4⟩, ⟨Yt5, Yr5⟩, ⟨Yt6, Yr6⟩, ⟨Yt7, Yr7⟩, ⟨Yt8, Yr8⟩, ⟨Yt9, Yr9⟩, ⟨Yt10, Yr10⟩, ⟨Yt11, Yr11⟩, ⟨Yt12, Yr12⟩, ⟨Yt13, Yr13⟩, ⟨Yt14, Yr14⟩, ⟨Yt15, Yr15⟩, ⟨Yt16, Yr16⟩, ⟨Yt17, Yr17⟩, ⟨Yt18, Yr18⟩, ⟨Yt19, Yr19⟩⟩ := hY
  refine Mt_in 0 (ls := [.ref Y]) moX12_begin (Nat.le_of_ble_eq_true rfl) rfl ?_
  refine PW_aload_n (i := 0) dX12_begin_0 rfl rfl ?_
  refine PW_iconst (v := 0) dX12_begin_1 (by decide) ?_
  refine PW_putI dX12_begin_2 fr12_74 (fun h => by cases h) (Yt) ?_
  refine PW_aload_n (i := 0) dX12_begin_5 rfl rfl ?_
  refine PW_iconst (v := 0) dX12_begin_6 (by decide) ?_
  refine PW_putI dX12_begin_7 fr12_78 (fun h => by cases h) (Yt) ?_
  refine PW_aload_n (i := 0) dX12_begin_10 rfl rfl ?_
  refine PW_iconst (v := 0) dX12_begin_11 (by decide) ?_
  refine PW_putI dX12_begin_12 fr12_81 (fun h => by cases h) (Yt) ?_
  refine PW_aload_n (i := 0) dX12_begin_15 rfl rfl ?_
  refine PW_iconst (v := 0) dX12_begin_16 (by decide) ?_
  refine PW_putI dX12_begin_17 fr12_84 (fun h => by cases h) (Yt) ?_
  refine PW_aload_n (i := 0) dX12_begin_20 rfl rfl ?_
  refine PW_iconst (v := 0) dX12_begin_21 (by decide) ?_
  refine PW_putI dX12_begin_22 fr12_87 (fun h => by cases h) (Yt) ?_
  refine PW_aload_n (i := 0) dX12_begin_25 rfl rfl ?_
  refine PW_iconst (v := 0) dX12_begin_26 (by decide) ?_
  refine PW_putI dX12_begin_27 fr12_90 (fun h => by cases h) (Yt) ?_
  refine PW_return rfl dX12_begin_30 (Nat.le_of_ble_eq_true rfl) (Nat.le_of_ble_eq_true rfl) ?_
  refine Wr_mk rfl ⟨⟨⟨?_, ?_, ?_, fun j hj => absurd hj (Nat.not_lt_zero j)⟩, ?_, ?_, ?_, fun j hj => absurd hj (Nat.not_lt_zero j), fun j hj => absurd hj (Nat.not_lt_zero j), fun j hj => absurd hj (Nat.not_lt_zero j)⟩, ?_, ?_⟩
  · simp (disch := omega) only [rI_s, rI_k, rI_a, rI_f, rA_s, rA_n, rA_f, rP, rP_f]; rfl
  · simp (disch := omega) only [rI_s, rI_k, rI_a, rI_f, rA_s, rA_n, rA_f, rP, rP_f]; rfl
  · simp (disch := omega) only [rI_s, rI_k, rI_a, rI_f, rA_s, rA_n, rA_f, rP, rP_f]; rfl
  · simp (disch := omega) only [rI_s, rI_k, rI_a, rI_f, rA_s, rA_n, rA_f, rP, rP_f]; rfl
  · simp (disch := omega) only [rI_s, rI_k, rI_a, rI_f, rA_s, rA_n, rA_f, rP, rP_f]; rfl
  · simp (disch := omega) only [rI_s, rI_k, rI_a, rI_f, rA_s, rA_n, rA_f, rP, rP_f]; rfl
  · intro k h1 h2 h3 h4 h5 h6; simp (disch := omega) only [rI_s, rI_k, rI_a, rI_f, rA_s, rA_n, rA_f, rP, rP_f]
  · intro q hq; simp (disch := omega) only [rI_s, rI_k, rI_a, rI_f, rA_s, rA_n, rA_f, rP, rP_f]
set_option maxRecDepth 100000 in
set_option maxHeartbeats 4000000 in
theorem spX12_ship {G : GE} {d : Nat} {i : MI0} {S : MS} {Y : Nat} (hY : YS S Y) {s : Ab} {b : Nat} (hR : MR i S Y s) (hV : AV b s) (hb : b ≤ 100) (hd : 12 ≤ d) : Mt G iX12_ship d [.ref Y] (i, S) (OpM Y (i, S) (.int (oShip s).1) (oShip s).2) := by
  have hY' := hY
  obtain ⟨Yt, ⟨Yt1, Yr1⟩, ⟨Yt2, Yr2⟩, ⟨Yt3, Yr3⟩, ⟨Yt4, Yr4⟩, ⟨Yt5, Yr5⟩, ⟨Yt6, Yr6⟩, ⟨Yt7, Yr7⟩, ⟨Yt8, Yr8⟩, ⟨Yt9, Yr9⟩, ⟨Yt10, Yr10⟩, ⟨Yt11, Yr11⟩, ⟨Yt12, Yr12⟩, ⟨Yt13, Yr13⟩, ⟨Yt14, Yr14⟩, ⟨Yt15, Yr15⟩, ⟨Yt16, Yr16⟩, ⟨Yt17, Yr17⟩, ⟨Yt18, Yr18⟩, ⟨Yt19, Yr19⟩⟩ := hY
  have hR' := hR
  have hV' := hV
  obtain ⟨Rm, Ri0, Ri1, Rk, Rx, Rt, Rl⟩ := hR
  have Rh := Rm.1
  obtain ⟨Av, Ai, At, Ab', Aa, Aw⟩ := hV
  have Ah := Av.1
  have Ah1 := Ah.1
  have Av1 := Av.2.1
  have Av2 := Av.2.2.1
  have Av3 := Av.2.2.2.1
  refine Mt_in 1 (ls := [.ref Y, .null]) moX12_ship (Nat.le_of_ble_eq_true rfl) rfl ?_
  refine PW_aload_n (i := 0) dX12_ship_0 rfl rfl ?_
  refine PW_giv (v := nI (hn (vh (aV s)))) dX12_ship_1 fg12_74 (Yt) (Rh.1) ?_
  refine PW_istore_n (i := 1) dX12_ship_4 rfl (Nat.le_of_ble_eq_true rfl) rfl ?_
  refine PW_aload_n (i := 0) dX12_ship_5 rfl rfl ?_
  refine PW_callV dX12_ship_6 moX12_begin cv12_71 (Yt) (by omega) rfl rfl (Nat.le_of_ble_eq_true rfl) (Nat.le_of_ble_eq_true rfl) (Nat.le_of_ble_eq_true rfl) (spX12_begin (d := d - 1) hY') (fun v M1 hq => ?_)
  obtain ⟨rfl, i1, rfl, p1, p2, p3⟩ := hq
  refine PW_iload_n (i := 1) dX12_ship_9 rfl rfl ?_
  refine PW_ireturn rfl (rfl) dX12_ship_10 (Nat.le_of_ble_eq_true rfl) (Nat.le_of_ble_eq_true rfl) ?_
  exact OpM_i (o := oShip s) rfl hY' (hR'.mv p1 (p2 14 (by decide) (by decide) (by decide) (by decide) (by decide) (by decide)) (fun q hq => p3 q (by omega))) (fun q hq => p3 q (by omega))
set_option maxRecDepth 100000 in
set_option maxHeartbeats 4000000 in
theorem spX12_addRock {G : GE} {d : Nat} {i : MI0} {S : MS} {Y : Nat} (hY : YS S Y) {y : Vy} {b : Nat} (hM : MV i Y y) (hV : VV b y) (h6 : vr y < 6) (p : Int32) : Mt G iX12_addRock d [.ref Y, .int p] (i, S) (Wi (nI (vr y + 1)) S (fun i' => MV i' Y (adR y p) ∧ (∀ k, k ≠ 4 → i' Y k = i Y k) ∧ ∀ q, q ≠ Y → q ≠ Y + 6 → i' q = i q)) := by
  have hY' := hY
  obtain ⟨Yt, ⟨Yt1, Yr1⟩, ⟨Yt2, Yr2⟩, ⟨Yt3, Yr3⟩, ⟨Yt4, Yr4⟩, ⟨Yt5, Yr5⟩, ⟨Yt6, Yr6⟩, ⟨Yt7, Yr7⟩, ⟨Yt8, Yr8⟩, ⟨Yt9, Yr9⟩, ⟨Yt10, Yr10⟩, ⟨Yt11, Yr11⟩, ⟨Yt12, Yr12⟩, ⟨Yt13, Yr13⟩, ⟨Yt14, Yr14⟩, ⟨Yt15, Yr15⟩, ⟨Yt16, Yr16⟩, ⟨Yt17, Yr17⟩, ⟨Yt18, Yr18⟩, ⟨Yt19, Yr19⟩⟩ := hY
  have h61 := hV.1.1
  obtain ⟨m1, m2, m3, m4, m5, m6, m7⟩ := hM
  refine Mt_in 0 (ls := [.ref Y, .int p]) moX12_addRock (Nat.le_of_ble_eq_true rfl) rfl ?_
  refine PW_aload_n (i := 0) dX12_addRock_0 rfl rfl ?_
  refine PW_getR dX12_addRock_1 fg12_25 (Yt) (Yr6) ?_
  refine PW_aload_n (i := 0) dX12_addRock_4 rfl rfl ?_
  refine PW_giv (v := nI (vr y)) dX12_addRock_5 fg12_84 (Yt) (m2) ?_
  refine PW_iload_n (i := 1) dX12_addRock_8 rfl rfl ?_
  refine PW_ias dX12_addRock_9 (Yt6) (by omega) (by omega) ?_
  refine PW_aload_n (i := 0) dX12_addRock_10 rfl rfl ?_
  refine PW_dup dX12_addRock_11 rfl ?_
  refine PW_giv (v := nI (vr y)) dX12_addRock_12 fg12_84 (Yt) (by first | exact m2 | (simp (disch := omega) only [rI_s, rI_k, rI_a, rI_f, rA_s, rA_n, rA_f, rP, rP_f]; exact m2)) ?_
  refine PW_iconst (v := 1) dX12_addRock_15 (by decide) ?_
  refine PW_iadd dX12_addRock_16 ?_
  refine PW_eqi (nI_1 _) ?_
  refine PW_putI dX12_addRock_17 fr12_84 (fun h => by cases h) (Yt) ?_
  refine PW_aload_n (i := 0) dX12_addRock_20 rfl rfl ?_
  refine PW_giv (v := nI (vr y + 1)) dX12_addRock_21 fg12_84 (Yt) (rI_s _ _ _ _) ?_
  refine PW_ireturn rfl (rfl) dX12_addRock_24 (Nat.le_of_ble_eq_true rfl) (Nat.le_of_ble_eq_true rfl) ?_
  refine Wi_mk rfl rfl ⟨⟨m1.kp h61 (by simp (disch := omega) only [rI_s, rI_k, rI_a, rI_f, rA_s, rA_n, rA_f, rP, rP_f]) (by simp (disch := omega) only [rI_s, rI_k, rI_a, rI_f, rA_s, rA_n, rA_f, rP, rP_f]) (by simp (disch := omega) only [rI_s, rI_k, rI_a, rI_f, rA_s, rA_n, rA_f, rP, rP_f]) (fun j hj => by refine ⟨?_, ?_, ?_, ?_⟩ <;> simp (disch := omega) only [rI_s, rI_k, rI_a, rI_f, rA_s, rA_n, rA_f, rP, rP_f]), ?_, ?_, ?_, fun j hj => ?_, ?_, ?_⟩, fun k hk => by simp (disch := omega) only [rI_s, rI_k, rI_a, rI_f, rA_s, rA_n, rA_f, rP, rP_f], fun q h1 h2 => by simp (disch := omega) only [rI_s, rI_k, rI_a, rI_f, rA_s, rA_n, rA_f, rP, rP_f]⟩
  · simp (disch := omega) only [rI_s, rI_k, rI_a, rI_f, rA_s, rA_n, rA_f, rP, rP_f]; rfl
  · simp (disch := omega) only [rI_s, rI_k, rI_a, rI_f, rA_s, rA_n, rA_f, rP, rP_f]; exact m3
  · simp (disch := omega) only [rI_s, rI_k, rI_a, rI_f, rA_s, rA_n, rA_f, rP, rP_f]; exact m4
  · by_cases e : j = vr y
    · rw [e]; simp (disch := omega) only [rI_s, rI_k, rI_a, rI_f, rA_s, rA_n, rA_f, rP, rP_f]; exact (if_pos rfl).symm
    · simp (disch := omega) only [rI_s, rI_k, rI_a, rI_f, rA_s, rA_n, rA_f, rP, rP_f]; refine (m5 j ?_).trans (if_neg e).symm; have : j < vr y + 1 := hj; omega
  · simp (disch := omega) only [rI_s, rI_k, rI_a, rI_f, rA_s, rA_n, rA_f, rP, rP_f]; exact m6
  · simp (disch := omega) only [rI_s, rI_k, rI_a, rI_f, rA_s, rA_n, rA_f, rP, rP_f]; exact m7
set_option maxRecDepth 100000 in
set_option maxHeartbeats 4000000 in
theorem spX12_rock {G : GE} {d : Nat} {i : MI0} {S : MS} {Y : Nat} (hY : YS S Y) {s : Ab} {b : Nat} (hR : MR i S Y s) (hV : AV b s) (hb : b ≤ 100) (hd : 12 ≤ d) (p : Int32) : Mt G iX12_rock d [.ref Y, .int p] (i, S) (OpM Y (i, S) (.int (oRock s p).1) (oRock s p).2) := by
  have hY' := hY
  obtain ⟨Yt, ⟨Yt1, Yr1⟩, ⟨Yt2, Yr2⟩, ⟨Yt3, Yr3⟩, ⟨Yt4, Yr4⟩, ⟨Yt5, Yr5⟩, ⟨Yt6, Yr6⟩, ⟨Yt7, Yr7⟩, ⟨Yt8, Yr8⟩, ⟨Yt9, Yr9⟩, ⟨Yt10, Yr10⟩, ⟨Yt11, Yr11⟩, ⟨Yt12, Yr12⟩, ⟨Yt13, Yr13⟩, ⟨Yt14, Yr14⟩, ⟨Yt15, Yr15⟩, ⟨Yt16, Yr16⟩, ⟨Yt17, Yr17⟩, ⟨Yt18, Yr18⟩, ⟨Yt19, Yr19⟩⟩ := hY
  have hR' := hR
  have hV' := hV
  obtain ⟨Rm, Ri0, Ri1, Rk, Rx, Rt, Rl⟩ := hR
  have Rh := Rm.1
  obtain ⟨Av, Ai, At, Ab', Aa, Aw⟩ := hV
  have Ah := Av.1
  have Ah1 := Ah.1
  have Av1 := Av.2.1
  have Av2 := Av.2.2.1
  have Av3 := Av.2.2.2.1
  refine Mt_in 0 (ls := [.ref Y, .int p]) moX12_rock (Nat.le_of_ble_eq_true rfl) rfl ?_
  refine PW_iload_n (i := 1) dX12_rock_0 rfl rfl ?_
  refine PW_bipush (v := -60) dX12_rock_1 (by decide) ?_
  refine PW_bipush (v := 60) dX12_rock_3 (by decide) ?_
  refine PW_callS dX12_rock_5 moX12_in cs12_93 (by omega) rfl rfl (Nat.le_of_ble_eq_true rfl) (Nat.le_of_ble_eq_true rfl) (Nat.le_of_ble_eq_true rfl) (spX12_in (d := d - 1) _ _ _) (fun v M1 hq => ?_)
  obtain ⟨rfl, rfl⟩ := hq
  refine PW_if_ne 16 dX12_rock_8 (by decide) (fun h8 => ?_) (fun h8 => ?_)
  · have h8 := b1_1.mp h8
    refine PW_aload_n (i := 0) dX12_rock_16 rfl rfl ?_
    refine PW_iload_n (i := 1) dX12_rock_17 rfl rfl ?_
    refine PW_callV dX12_rock_18 moX12_isRock cv12_101 (Yt) (by omega) rfl rfl (Nat.le_of_ble_eq_true rfl) (Nat.le_of_ble_eq_true rfl) (Nat.le_of_ble_eq_true rfl) (spX12_isRock (d := d - 1) hY' Rm (by omega) _) (fun v M1 hq => ?_)
    obtain ⟨rfl, rfl⟩ := hq
    refine PW_if_eq 29 dX12_rock_21 (by decide) (fun h21 => ?_) (fun h21 => ?_)
    · have h21 := b2i_0.mp h21
      refine PW_aload_n (i := 0) dX12_rock_29 rfl rfl ?_
      refine PW_giv (v := nI (vr (aV s))) dX12_rock_30 fg12_84 (Yt) (Rm.2.1) ?_
      refine PW_bipush (v := 6) dX12_rock_33 (by decide) ?_
      refine PW_icmp_ne 45 dX12_rock_35 (by decide) (fun h35 => ?_) (fun h35 => ?_)
      · have h35 := jne (b := 6) h35
        refine PW_aload_n (i := 0) dX12_rock_45 rfl rfl ?_
        refine PW_iload_n (i := 1) dX12_rock_46 rfl rfl ?_
        refine PW_callV dX12_rock_47 moX12_addRock cv12_111 (Yt) (by omega) rfl rfl (Nat.le_of_ble_eq_true rfl) (Nat.le_of_ble_eq_true rfl) (Nat.le_of_ble_eq_true rfl) (spX12_addRock (d := d - 1) hY' Rm Av (by omega) _) (fun v M1 hq => ?_)
        obtain ⟨rfl, i1, rfl, p1, p2, p3⟩ := hq
        refine PW_ireturn rfl (rfl) dX12_rock_50 (Nat.le_of_ble_eq_true rfl) (Nat.le_of_ble_eq_true rfl) ?_
        first | exact OpM_i (by unfold oRock; rw [if_pos h8, if_neg (by rw [h21]; decide), if_neg (by omega)]) hY' c1 (fun q hq => c2 q (by omega)) | exact OpM_i (by unfold oRock; rw [if_pos h8, if_neg (by rw [h21]; decide), if_pos (by omega)]) hY' (hR'.mv p1 (p2 14 (by decide)) (fun q hq => p3 q (by omega) (by omega))) (fun q hq => p3 q (by omega) (by omega))
      · have h35 := jeq (b := 6) h35
        refine PW_aload_n (i := 0) dX12_rock_38 rfl rfl ?_
        refine PW_callV dX12_rock_39 moX12_full cv12_108 (Yt) (by omega) rfl rfl (Nat.le_of_ble_eq_true rfl) (Nat.le_of_ble_eq_true rfl) (Nat.le_of_ble_eq_true rfl) (spX12_full (d := d - 1) hY' hR') (fun v M1 hq => ?_)
        obtain ⟨rfl, i1, rfl, c1, c2⟩ := hq
        refine PW_goto 50 dX12_rock_42 (by decide) ?_
        refine PW_ireturn rfl (rfl) dX12_rock_50 (Nat.le_of_ble_eq_true rfl) (Nat.le_of_ble_eq_true rfl) ?_
        first | exact OpM_i (by unfold oRock; rw [if_pos h8, if_neg (by rw [h21]; decide), if_neg (by omega)]) hY' c1 (fun q hq => c2 q (by omega)) | exact OpM_i (by unfold oRock; rw [if_pos h8, if_neg (by rw [h21]; decide), if_pos (by omega)]) hY' (hR'.mv p1 (p2 14 (by decide)) (fun q hq => p3 q (by omega) (by omega))) (fun q hq => p3 q (by omega) (by omega))
    · have h21 := b2i_n.mp h21
      refine PW_aload_n (i := 0) dX12_rock_24 rfl rfl ?_
      refine PW_callV dX12_rock_25 moX12_no cv12_105 (Yt) (by omega) rfl rfl (Nat.le_of_ble_eq_true rfl) (Nat.le_of_ble_eq_true rfl) (Nat.le_of_ble_eq_true rfl) (spX12_no (d := d - 1) hY' hR') (fun v M1 hq => ?_)
      obtain ⟨rfl, i1, rfl, c1, c2⟩ := hq
      refine PW_ireturn rfl (rfl) dX12_rock_28 (Nat.le_of_ble_eq_true rfl) (Nat.le_of_ble_eq_true rfl) ?_
      exact OpM_i (by unfold oRock; rw [if_pos h8, if_pos h21]) hY' c1 (fun q hq => c2 q (by omega))
  · have h8 := b1_0.mp h8
    refine PW_aload_n (i := 0) dX12_rock_11 rfl rfl ?_
    refine PW_callV dX12_rock_12 moX12_bad cv12_97 (Yt) (by omega) rfl rfl (Nat.le_of_ble_eq_true rfl) (Nat.le_of_ble_eq_true rfl) (Nat.le_of_ble_eq_true rfl) (spX12_bad (d := d - 1) hY' hR') (fun v M1 hq => ?_)
    obtain ⟨rfl, i1, rfl, c1, c2⟩ := hq
    refine PW_ireturn rfl (rfl) dX12_rock_15 (Nat.le_of_ble_eq_true rfl) (Nat.le_of_ble_eq_true rfl) ?_
    exact OpM_i (by unfold oRock; rw [if_neg h8]) hY' c1 (fun q hq => c2 q (by omega))
set_option maxRecDepth 100000 in
set_option maxHeartbeats 4000000 in
theorem spX12_addHand {G : GE} {d : Nat} {i : MI0} {S : MS} {Y : Nat} (hY : YS S Y) {y : Vy} {b : Nat} (hM : MV i Y y) (hV : VV b y) (h6 : hn (vh y) < 6) (k t : Nat) (n : Int) : Mt G iX12_addHand d [.ref Y, .int (nI k), .int (nI t), .int (iN n)] (i, S) (Wi (nI (hn (vh y))) S (fun i' => MV i' Y (adV y k t n) ∧ (∀ k, k ≠ 1 → k ≠ 22 → i' Y k = i Y k) ∧ ∀ q, q ≠ Y → q ≠ Y + 2 → q ≠ Y + 3 → q ≠ Y + 4 → q ≠ Y + 5 → i' q = i q)) := by
  have hY' := hY
  obtain ⟨Yt, ⟨Yt1, Yr1⟩, ⟨Yt2, Yr2⟩, ⟨Yt3, Yr3⟩, ⟨Yt4, Yr4⟩, ⟨Yt5, Yr5⟩, ⟨Yt6, Yr6⟩, ⟨Yt7, Yr7⟩, ⟨Yt8, Yr8⟩, ⟨Yt9, Yr9⟩, ⟨Yt10, Yr10⟩, ⟨Yt11, Yr11⟩, ⟨Yt12, Yr12⟩, ⟨Yt13, Yr13⟩, ⟨Yt14, Yr14⟩, ⟨Yt15, Yr15⟩, ⟨Yt16, Yr16⟩, ⟨Yt17, Yr17⟩, ⟨Yt18, Yr18⟩, ⟨Yt19, Yr19⟩⟩ := hY
  have h61 := hV.1.1
  obtain ⟨m1, m2, m3, m4, m5, m6, m7⟩ := hM
  refine Mt_in 0 (ls := [.ref Y, .int (nI k), .int (nI t), .int (iN n)]) moX12_addHand (Nat.le_of_ble_eq_true rfl) rfl ?_
  refine PW_aload_n (i := 0) dX12_addHand_0 rfl rfl ?_
  refine PW_getR dX12_addHand_1 fg12_13 (Yt) (Yr2) ?_
  refine PW_aload_n (i := 0) dX12_addHand_4 rfl rfl ?_
  refine PW_giv (v := nI (hn (vh y))) dX12_addHand_5 fg12_74 (Yt) (m1.1) ?_
  refine PW_iload_n (i := 1) dX12_addHand_8 rfl rfl ?_
  refine PW_ias dX12_addHand_9 (Yt2) (by omega) (by omega) ?_
  refine PW_aload_n (i := 0) dX12_addHand_10 rfl rfl ?_
  refine PW_getR dX12_addHand_11 fg12_16 (Yt) (Yr3) ?_
  refine PW_aload_n (i := 0) dX12_addHand_14 rfl rfl ?_
  refine PW_giv (v := nI (hn (vh y))) dX12_addHand_15 fg12_74 (Yt) (by first | exact m1.1 | (simp (disch := omega) only [rI_s, rI_k, rI_a, rI_f, rA_s, rA_n, rA_f, rP, rP_f]; exact m1.1)) ?_
  refine PW_iload_n (i := 2) dX12_addHand_18 rfl rfl ?_
  refine PW_ias dX12_addHand_19 (Yt3) (by omega) (by omega) ?_
  refine PW_aload_n (i := 0) dX12_addHand_20 rfl rfl ?_
  refine PW_getR dX12_addHand_21 fg12_19 (Yt) (Yr4) ?_
  refine PW_aload_n (i := 0) dX12_addHand_24 rfl rfl ?_
  refine PW_giv (v := nI (hn (vh y))) dX12_addHand_25 fg12_74 (Yt) (by first | exact m1.1 | (simp (disch := omega) only [rI_s, rI_k, rI_a, rI_f, rA_s, rA_n, rA_f, rP, rP_f]; exact m1.1)) ?_
  refine PW_iload_n (i := 3) dX12_addHand_28 rfl rfl ?_
  refine PW_ias dX12_addHand_29 (Yt4) (by omega) (by omega) ?_
  refine PW_aload_n (i := 0) dX12_addHand_30 rfl rfl ?_
  refine PW_getR dX12_addHand_31 fg12_22 (Yt) (Yr5) ?_
  refine PW_aload_n (i := 0) dX12_addHand_34 rfl rfl ?_
  refine PW_giv (v := nI (hn (vh y))) dX12_addHand_35 fg12_74 (Yt) (by first | exact m1.1 | (simp (disch := omega) only [rI_s, rI_k, rI_a, rI_f, rA_s, rA_n, rA_f, rP, rP_f]; exact m1.1)) ?_
  refine PW_iconst (v := 0) dX12_addHand_38 (by decide) ?_
  refine PW_ias dX12_addHand_39 (Yt5) (by omega) (by omega) ?_
  refine PW_aload_n (i := 0) dX12_addHand_40 rfl rfl ?_
  refine PW_dup dX12_addHand_41 rfl ?_
  refine PW_giv (v := nI (hn (vh y))) dX12_addHand_42 fg12_74 (Yt) (by first | exact m1.1 | (simp (disch := omega) only [rI_s, rI_k, rI_a, rI_f, rA_s, rA_n, rA_f, rP, rP_f]; exact m1.1)) ?_
  refine PW_iconst (v := 1) dX12_addHand_45 (by decide) ?_
  refine PW_iadd dX12_addHand_46 ?_
  refine PW_eqi (nI_1 _) ?_
  refine PW_putI dX12_addHand_47 fr12_74 (fun h => by cases h) (Yt) ?_
  refine PW_aload_n (i := 0) dX12_addHand_50 rfl rfl ?_
  refine PW_iconst (v := 0) dX12_addHand_51 (by decide) ?_
  refine PW_putI dX12_addHand_52 fr12_90 (fun h => by cases h) (Yt) ?_
  refine PW_aload_n (i := 0) dX12_addHand_55 rfl rfl ?_
  refine PW_giv (v := nI (hn (vh y) + 1)) dX12_addHand_56 fg12_74 (Yt) (by simp (disch := omega) only [rI_s, rI_k, rI_a, rI_f, rA_s, rA_n, rA_f, rP, rP_f]) ?_
  refine PW_iconst (v := 1) dX12_addHand_59 (by decide) ?_
  refine PW_isub dX12_addHand_60 ?_
  refine PW_eqi (nI_pred _) ?_
  refine PW_ireturn rfl (rfl) dX12_addHand_61 (Nat.le_of_ble_eq_true rfl) (Nat.le_of_ble_eq_true rfl) ?_
  refine Wi_mk rfl rfl ⟨⟨⟨?_, ?_, ?_, fun j hj => ⟨?_, ?_, ?_, ?_⟩⟩, ?_, ?_, ?_, ?_, ?_, fun u hu => absurd hu (Nat.not_lt_zero u)⟩, fun k h1 h2 => by simp (disch := omega) only [rI_s, rI_k, rI_a, rI_f, rA_s, rA_n, rA_f, rP, rP_f], fun q h1 h2 h3 h4 h5 => by simp (disch := omega) only [rI_s, rI_k, rI_a, rI_f, rA_s, rA_n, rA_f, rP, rP_f]⟩
  · simp (disch := omega) only [rI_s, rI_k, rI_a, rI_f, rA_s, rA_n, rA_f, rP, rP_f]; rfl
  · simp (disch := omega) only [rI_s, rI_k, rI_a, rI_f, rA_s, rA_n, rA_f, rP, rP_f]; exact m1.2.1
  · simp (disch := omega) only [rI_s, rI_k, rI_a, rI_f, rA_s, rA_n, rA_f, rP, rP_f]; exact m1.2.2.1
  · by_cases e : j = hn (vh y)
    · rw [e]; simp (disch := omega) only [rI_s, rI_k, rI_a, rI_f, rA_s, rA_n, rA_f, rP, rP_f]; exact (congrArg nI (if_pos rfl)).symm
    · simp (disch := omega) only [rI_s, rI_k, rI_a, rI_f, rA_s, rA_n, rA_f, rP, rP_f]; exact (m1.2.2.2 j (by have : j < hn (vh y) + 1 := hj; omega)).1.trans (congrArg nI (if_neg e)).symm
  · by_cases e : j = hn (vh y)
    · rw [e]; simp (disch := omega) only [rI_s, rI_k, rI_a, rI_f, rA_s, rA_n, rA_f, rP, rP_f]; exact (congrArg nI (if_pos rfl)).symm
    · simp (disch := omega) only [rI_s, rI_k, rI_a, rI_f, rA_s, rA_n, rA_f, rP, rP_f]; exact (m1.2.2.2 j (by have : j < hn (vh y) + 1 := hj; omega)).2.1.trans (congrArg nI (if_neg e)).symm
  · by_cases e : j = hn (vh y)
    · rw [e]; simp (disch := omega) only [rI_s, rI_k, rI_a, rI_f, rA_s, rA_n, rA_f, rP, rP_f]; exact (congrArg iN (if_pos rfl)).symm
    · simp (disch := omega) only [rI_s, rI_k, rI_a, rI_f, rA_s, rA_n, rA_f, rP, rP_f]; exact (m1.2.2.2 j (by have : j < hn (vh y) + 1 := hj; omega)).2.2.1.trans (congrArg iN (if_neg e)).symm
  · by_cases e : j = hn (vh y)
    · rw [e]; simp (disch := omega) only [rI_s, rI_k, rI_a, rI_f, rA_s, rA_n, rA_f, rP, rP_f]; rw [show (hf (vh (adV y k t n))).testBit (hn (vh y)) = false from Nat.testBit_lt_two_pow hV.1.2.1]; rfl
    · simp (disch := omega) only [rI_s, rI_k, rI_a, rI_f, rA_s, rA_n, rA_f, rP, rP_f]; exact (m1.2.2.2 j (by have : j < hn (vh y) + 1 := hj; omega)).2.2.2
  · simp (disch := omega) only [rI_s, rI_k, rI_a, rI_f, rA_s, rA_n, rA_f, rP, rP_f]; exact m2
  · simp (disch := omega) only [rI_s, rI_k, rI_a, rI_f, rA_s, rA_n, rA_f, rP, rP_f]; exact m3
  · simp (disch := omega) only [rI_s, rI_k, rI_a, rI_f, rA_s, rA_n, rA_f, rP, rP_f]; rfl
  · simp (disch := omega) only [rI_s, rI_k, rI_a, rI_f, rA_s, rA_n, rA_f, rP, rP_f]; exact m5
  · simp (disch := omega) only [rI_s, rI_k, rI_a, rI_f, rA_s, rA_n, rA_f, rP, rP_f]; exact m6
set_option maxRecDepth 100000 in
set_option maxHeartbeats 4000000 in
theorem spX12_hand {G : GE} {d : Nat} {i : MI0} {S : MS} {Y : Nat} (hY : YS S Y) {s : Ab} {b : Nat} (hR : MR i S Y s) (hV : AV b s) (hb : b ≤ 100) (hd : 12 ≤ d) (k t n : Int32) : Mt G iX12_hand d [.ref Y, .int k, .int t, .int n] (i, S) (OpM Y (i, S) (.int (oHand s k t n).1) (oHand s k t n).2) := by
  have hY' := hY
  obtain ⟨Yt, ⟨Yt1, Yr1⟩, ⟨Yt2, Yr2⟩, ⟨Yt3, Yr3⟩, ⟨Yt4, Yr4⟩, ⟨Yt5, Yr5⟩, ⟨Yt6, Yr6⟩, ⟨Yt7, Yr7⟩, ⟨Yt8, Yr8⟩, ⟨Yt9, Yr9⟩, ⟨Yt10, Yr10⟩, ⟨Yt11, Yr11⟩, ⟨Yt12, Yr12⟩, ⟨Yt13, Yr13⟩, ⟨Yt14, Yr14⟩, ⟨Yt15, Yr15⟩, ⟨Yt16, Yr16⟩, ⟨Yt17, Yr17⟩, ⟨Yt18, Yr18⟩, ⟨Yt19, Yr19⟩⟩ := hY
  have hR' := hR
  have hV' := hV
  obtain ⟨Rm, Ri0, Ri1, Rk, Rx, Rt, Rl⟩ := hR
  have Rh := Rm.1
  obtain ⟨Av, Ai, At, Ab', Aa, Aw⟩ := hV
  have Ah := Av.1
  have Ah1 := Ah.1
  have Av1 := Av.2.1
  have Av2 := Av.2.2.1
  have Av3 := Av.2.2.2.1
  refine Mt_in 0 (ls := [.ref Y, .int k, .int t, .int n]) moX12_hand (Nat.le_of_ble_eq_true rfl) rfl ?_
  refine PW_iload_n (i := 1) dX12_hand_0 rfl rfl ?_
  refine PW_iconst (v := 0) dX12_hand_1 (by decide) ?_
  refine PW_iconst (v := 5) dX12_hand_2 (by decide) ?_
  refine PW_callS dX12_hand_3 moX12_in cs12_93 (by omega) rfl rfl (Nat.le_of_ble_eq_true rfl) (Nat.le_of_ble_eq_true rfl) (Nat.le_of_ble_eq_true rfl) (spX12_in (d := d - 1) _ _ _) (fun v M1 hq => ?_)
  obtain ⟨rfl, rfl⟩ := hq
  refine PW_if_eq 29 dX12_hand_6 (by decide) (fun h6 => ?_) (fun h6 => ?_)
  · have h6 := b1_0.mp h6
    refine PW_aload_n (i := 0) dX12_hand_29 rfl rfl ?_
    refine PW_callV dX12_hand_30 moX12_bad cv12_97 (Yt) (by omega) rfl rfl (Nat.le_of_ble_eq_true rfl) (Nat.le_of_ble_eq_true rfl) (Nat.le_of_ble_eq_true rfl) (spX12_bad (d := d - 1) hY' hR') (fun v M1 hq => ?_)
    obtain ⟨rfl, i1, rfl, c1, c2⟩ := hq
    refine PW_ireturn rfl (rfl) dX12_hand_33 (Nat.le_of_ble_eq_true rfl) (Nat.le_of_ble_eq_true rfl) ?_
    exact OpM_i (by unfold oHand; rw [if_neg (fun q => by first | exact h6 q.1 | exact h16 q.2.1 | exact h26 q.2.2)]) hY' c1 (fun q hq => c2 q (by omega))
  · have h6 := b1_1.mp h6
    refine PW_iload_n (i := 2) dX12_hand_9 rfl rfl ?_
    refine PW_iconst (v := 0) dX12_hand_10 (by decide) ?_
    refine PW_bipush (v := 40) dX12_hand_11 (by decide) ?_
    refine PW_callS dX12_hand_13 moX12_in cs12_93 (by omega) rfl rfl (Nat.le_of_ble_eq_true rfl) (Nat.le_of_ble_eq_true rfl) (Nat.le_of_ble_eq_true rfl) (spX12_in (d := d - 1) _ _ _) (fun v M1 hq => ?_)
    obtain ⟨rfl, rfl⟩ := hq
    refine PW_if_eq 29 dX12_hand_16 (by decide) (fun h16 => ?_) (fun h16 => ?_)
    · have h16 := b1_0.mp h16
      refine PW_aload_n (i := 0) dX12_hand_29 rfl rfl ?_
      refine PW_callV dX12_hand_30 moX12_bad cv12_97 (Yt) (by omega) rfl rfl (Nat.le_of_ble_eq_true rfl) (Nat.le_of_ble_eq_true rfl) (Nat.le_of_ble_eq_true rfl) (spX12_bad (d := d - 1) hY' hR') (fun v M1 hq => ?_)
      obtain ⟨rfl, i1, rfl, c1, c2⟩ := hq
      refine PW_ireturn rfl (rfl) dX12_hand_33 (Nat.le_of_ble_eq_true rfl) (Nat.le_of_ble_eq_true rfl) ?_
      exact OpM_i (by unfold oHand; rw [if_neg (fun q => by first | exact h6 q.1 | exact h16 q.2.1 | exact h26 q.2.2)]) hY' c1 (fun q hq => c2 q (by omega))
    · have h16 := b1_1.mp h16
      refine PW_iload_n (i := 3) dX12_hand_19 rfl rfl ?_
      refine PW_bipush (v := -3) dX12_hand_20 (by decide) ?_
      refine PW_iconst (v := 3) dX12_hand_22 (by decide) ?_
      refine PW_callS dX12_hand_23 moX12_in cs12_93 (by omega) rfl rfl (Nat.le_of_ble_eq_true rfl) (Nat.le_of_ble_eq_true rfl) (Nat.le_of_ble_eq_true rfl) (spX12_in (d := d - 1) _ _ _) (fun v M1 hq => ?_)
      obtain ⟨rfl, rfl⟩ := hq
      refine PW_if_ne 34 dX12_hand_26 (by decide) (fun h26 => ?_) (fun h26 => ?_)
      · have h26 := b1_1.mp h26
        refine PW_aload_n (i := 0) dX12_hand_34 rfl rfl ?_
        refine PW_giv (v := nI (hn (vh (aV s)))) dX12_hand_35 fg12_74 (Yt) (Rh.1) ?_
        refine PW_bipush (v := 6) dX12_hand_38 (by decide) ?_
        refine PW_icmp_ne 50 dX12_hand_40 (by decide) (fun h40 => ?_) (fun h40 => ?_)
        · have h40 := jne (b := 6) h40
          refine PW_aload_n (i := 0) dX12_hand_50 rfl rfl ?_
          refine PW_iload_n (i := 1) dX12_hand_51 rfl rfl ?_
          refine PW_iload_n (i := 2) dX12_hand_52 rfl rfl ?_
          refine PW_iload_n (i := 3) dX12_hand_53 rfl rfl ?_
          have k1 := cl_of (n := 5) h6 rfl (by decide)
          have k2 := cl_of (n := 40) h16 rfl (by decide)
          have k3 := iN_of n
          refine PW_eqS (show _ = [.int (iN n.toInt), .int (nI t.toNatClampNeg), .int (nI k.toNatClampNeg), .ref Y] by rw [← k3, ← k2.1, ← k1.1]; rfl) ?_
          refine PW_callV dX12_hand_54 moX12_addHand cv12_115 (Yt) (by omega) rfl rfl (Nat.le_of_ble_eq_true rfl) (Nat.le_of_ble_eq_true rfl) (Nat.le_of_ble_eq_true rfl) (spX12_addHand (d := d - 1) hY' Rm Av (by omega) _ _ _) (fun v M1 hq => ?_)
          obtain ⟨rfl, i1, rfl, p1, p2, p3⟩ := hq
          refine PW_ireturn rfl (rfl) dX12_hand_57 (Nat.le_of_ble_eq_true rfl) (Nat.le_of_ble_eq_true rfl) ?_
          first | exact OpM_i (by unfold oHand; rw [if_pos ⟨h6, h16, h26⟩, if_neg (by omega)]) hY' c1 (fun q hq => c2 q (by omega)) | exact OpM_i (by unfold oHand; rw [if_pos ⟨h6, h16, h26⟩, if_pos (by omega)]) hY' (hR'.mv p1 (p2 14 (by decide) (by decide)) (fun q hq => p3 q (by omega) (by omega) (by omega) (by omega) (by omega))) (fun q hq => p3 q (by omega) (by omega) (by omega) (by omega) (by omega))
        · have h40 := jeq (b := 6) h40
          refine PW_aload_n (i := 0) dX12_hand_43 rfl rfl ?_
          refine PW_callV dX12_hand_44 moX12_full cv12_108 (Yt) (by omega) rfl rfl (Nat.le_of_ble_eq_true rfl) (Nat.le_of_ble_eq_true rfl) (Nat.le_of_ble_eq_true rfl) (spX12_full (d := d - 1) hY' hR') (fun v M1 hq => ?_)
          obtain ⟨rfl, i1, rfl, c1, c2⟩ := hq
          refine PW_goto 57 dX12_hand_47 (by decide) ?_
          refine PW_ireturn rfl (rfl) dX12_hand_57 (Nat.le_of_ble_eq_true rfl) (Nat.le_of_ble_eq_true rfl) ?_
          first | exact OpM_i (by unfold oHand; rw [if_pos ⟨h6, h16, h26⟩, if_neg (by omega)]) hY' c1 (fun q hq => c2 q (by omega)) | exact OpM_i (by unfold oHand; rw [if_pos ⟨h6, h16, h26⟩, if_pos (by omega)]) hY' (hR'.mv p1 (p2 14 (by decide) (by decide)) (fun q hq => p3 q (by omega) (by omega) (by omega) (by omega) (by omega))) (fun q hq => p3 q (by omega) (by omega) (by omega) (by omega) (by omega))
      · have h26 := b1_0.mp h26
        refine PW_aload_n (i := 0) dX12_hand_29 rfl rfl ?_
        refine PW_callV dX12_hand_30 moX12_bad cv12_97 (Yt) (by omega) rfl rfl (Nat.le_of_ble_eq_true rfl) (Nat.le_of_ble_eq_true rfl) (Nat.le_of_ble_eq_true rfl) (spX12_bad (d := d - 1) hY' hR') (fun v M1 hq => ?_)
        obtain ⟨rfl, i1, rfl, c1, c2⟩ := hq
        refine PW_ireturn rfl (rfl) dX12_hand_33 (Nat.le_of_ble_eq_true rfl) (Nat.le_of_ble_eq_true rfl) ?_
        exact OpM_i (by unfold oHand; rw [if_neg (fun q => by first | exact h6 q.1 | exact h16 q.2.1 | exact h26 q.2.2)]) hY' c1 (fun q hq => c2 q (by omega))
theorem MR.st {i i' : MI0} {S : MS} {Y : Nat} {s : Ab} {n : Nat} {f : Nat → Nat} (hR : MR i S Y s) (ht : i' Y 14 = nI n ∧ ∀ j, j < n → i' (Y + 9) j = nI (f j)) (e0 : ∀ k, k ≠ 14 → i' Y k = i Y k) (e : ∀ q, q ≠ Y → q ≠ Y + 9 → i' q = i q) : MR i' S Y (setT s n f) := by
  obtain ⟨⟨m1, m2, m3, m4, m5, m6, m7⟩, r2, r3, r4, r5, r6, r7⟩ := hR
  show MR i' S Y (aV s, aI s, aK s, n, f, aA s, aW s, aX s, aN s, aF s)
  unfold MR MV MH
  rw [e0 1 (by decide), e0 2 (by decide), e0 3 (by decide), e0 4 (by decide), e0 5 (by decide), e0 22 (by decide), e (Y + 1) (by omega) (by omega), e (Y + 2) (by omega) (by omega), e (Y + 3) (by omega) (by omega), e (Y + 4) (by omega) (by omega), e (Y + 5) (by omega) (by omega), e (Y + 6) (by omega) (by omega), e (Y + 7) (by omega) (by omega), e (Y + 8) (by omega) (by omega), e (Y + 12) (by omega) (by omega), e (Y + 18) (by omega) (by omega), e (Y + 19) (by omega) (by omega)]
  exact ⟨⟨m1, m2, m3, m4, m5, m6, m7⟩, r2, r3, r4, r5, ht, r7⟩
set_option maxRecDepth 100000 in
set_option maxHeartbeats 4000000 in
theorem spX12_type {G : GE} {d : Nat} {i : MI0} {S : MS} {Y : Nat} (hY : YS S Y) {s : Ab} {b : Nat} (hR : MR i S Y s) (hV : AV b s) (hb : b ≤ 100) (hd : 12 ≤ d) (c : Int32) : Mt G iX12_type d [.ref Y, .int c] (i, S) (OpM Y (i, S) (.int (oType s c).1) (oType s c).2) := by
  have hY' := hY
  obtain ⟨Yt, ⟨Yt1, Yr1⟩, ⟨Yt2, Yr2⟩, ⟨Yt3, Yr3⟩, ⟨Yt4, Yr4⟩, ⟨Yt5, Yr5⟩, ⟨Yt6, Yr6⟩, ⟨Yt7, Yr7⟩, ⟨Yt8, Yr8⟩, ⟨Yt9, Yr9⟩, ⟨Yt10, Yr10⟩, ⟨Yt11, Yr11⟩, ⟨Yt12, Yr12⟩, ⟨Yt13, Yr13⟩, ⟨Yt14, Yr14⟩, ⟨Yt15, Yr15⟩, ⟨Yt16, Yr16⟩, ⟨Yt17, Yr17⟩, ⟨Yt18, Yr18⟩, ⟨Yt19, Yr19⟩⟩ := hY
  have hR' := hR
  have hV' := hV
  obtain ⟨Rm, Ri0, Ri1, Rk, Rx, Rt, Rl⟩ := hR
  have Rh := Rm.1
  obtain ⟨Av, Ai, At, Ab', Aa, Aw⟩ := hV
  have Ah := Av.1
  have Ah1 := Ah.1
  have Av1 := Av.2.1
  have Av2 := Av.2.2.1
  have Av3 := Av.2.2.2.1
  refine Mt_in 0 (ls := [.ref Y, .int c]) moX12_type (Nat.le_of_ble_eq_true rfl) rfl ?_
  refine PW_iload_n (i := 1) dX12_type_0 rfl rfl ?_
  refine PW_iconst (v := 0) dX12_type_1 (by decide) ?_
  refine PW_bipush (v := 127) dX12_type_2 (by decide) ?_
  refine PW_callS dX12_type_4 moX12_in cs12_93 (by omega) rfl rfl (Nat.le_of_ble_eq_true rfl) (Nat.le_of_ble_eq_true rfl) (Nat.le_of_ble_eq_true rfl) (spX12_in (d := d - 1) _ _ _) (fun v M1 hq => ?_)
  obtain ⟨rfl, rfl⟩ := hq
  refine PW_if_ne 15 dX12_type_7 (by decide) (fun h7 => ?_) (fun h7 => ?_)
  · have h7 := b1_1.mp h7
    refine PW_aload_n (i := 0) dX12_type_15 rfl rfl ?_
    refine PW_giv (v := nI (aL s)) dX12_type_16 fg12_119 (Yt) (Rt.1) ?_
    refine PW_sipush (v := 150) dX12_type_19 (by decide) ?_
    refine PW_icmp_ne 30 dX12_type_22 (by decide) (fun h22 => ?_) (fun h22 => ?_)
    · have h22 := jne (b := 150) h22
      refine PW_aload_n (i := 0) dX12_type_30 rfl rfl ?_
      refine PW_getR dX12_type_31 fg12_34 (Yt) (Yr9) ?_
      refine PW_aload_n (i := 0) dX12_type_34 rfl rfl ?_
      refine PW_giv (v := nI (aL s)) dX12_type_35 fg12_119 (Yt) (Rt.1) ?_
      refine PW_iload_n (i := 1) dX12_type_38 rfl rfl ?_
      refine PW_ias dX12_type_39 (Yt9) (by omega) (by omega) ?_
      refine PW_aload_n (i := 0) dX12_type_40 rfl rfl ?_
      refine PW_dup dX12_type_41 rfl ?_
      refine PW_giv (v := nI (aL s)) dX12_type_42 fg12_119 (Yt) (by first | exact Rt.1 | (simp (disch := omega) only [rI_s, rI_k, rI_a, rI_f, rA_s, rA_n, rA_f, rP, rP_f]; exact Rt.1)) ?_
      refine PW_iconst (v := 1) dX12_type_45 (by decide) ?_
      refine PW_iadd dX12_type_46 ?_
      refine PW_eqi (nI_1 _) ?_
      refine PW_putI dX12_type_47 fr12_119 (fun h => by cases h) (Yt) ?_
      refine PW_nm rfl (fun i1 e1 => ?_)
      refine PW_aload_n (i := 0) dX12_type_50 rfl rfl ?_
      refine PW_giv (v := nI (aL s + 1)) dX12_type_51 fg12_119 (Yt) (e1 ▸ rI_s _ _ _ _) ?_
      refine PW_ireturn rfl (rfl) dX12_type_54 (Nat.le_of_ble_eq_true rfl) (Nat.le_of_ble_eq_true rfl) ?_
      have k1 := cl_of (n := 127) h7 rfl (by decide)
      refine OpM_i (by unfold oType; rw [if_pos h7, if_pos (by omega)]) hY' (hR'.st ⟨by rw [e1]; exact rI_s _ _ _ _, fun j hj => ?_⟩ (fun k hk => by rw [e1, rI_k _ _ _ hk, rI_a _ _ _ (by omega)]; rfl) (fun q h1 h2 => by rw [e1, rI_f _ _ h1, rI_f _ _ h2]; rfl)) (fun q hq => by rw [e1, rI_f _ _ (by omega), rI_f _ _ (by omega)]; rfl)
      by_cases e : j = aL s
      · rw [if_pos e, e, e1, rI_a _ _ _ (by omega), rI_s]; exact k1.1
      · rw [if_neg e, e1, rI_a _ _ _ (by omega), rI_k _ _ _ e]; exact Rt.2 j (by omega)
    · have h22 := jeq (b := 150) h22
      refine PW_aload_n (i := 0) dX12_type_25 rfl rfl ?_
      refine PW_callV dX12_type_26 moX12_full cv12_108 (Yt) (by omega) rfl rfl (Nat.le_of_ble_eq_true rfl) (Nat.le_of_ble_eq_true rfl) (Nat.le_of_ble_eq_true rfl) (spX12_full (d := d - 1) hY' hR') (fun v M1 hq => ?_)
      obtain ⟨rfl, i1, rfl, c1, c2⟩ := hq
      refine PW_ireturn rfl (rfl) dX12_type_29 (Nat.le_of_ble_eq_true rfl) (Nat.le_of_ble_eq_true rfl) ?_
      exact OpM_i (by unfold oType; rw [if_pos h7, if_neg (by omega)]) hY' c1 (fun q hq => c2 q (by omega))
  · have h7 := b1_0.mp h7
    refine PW_aload_n (i := 0) dX12_type_10 rfl rfl ?_
    refine PW_callV dX12_type_11 moX12_bad cv12_97 (Yt) (by omega) rfl rfl (Nat.le_of_ble_eq_true rfl) (Nat.le_of_ble_eq_true rfl) (Nat.le_of_ble_eq_true rfl) (spX12_bad (d := d - 1) hY' hR') (fun v M1 hq => ?_)
    obtain ⟨rfl, i1, rfl, c1, c2⟩ := hq
    refine PW_ireturn rfl (rfl) dX12_type_14 (Nat.le_of_ble_eq_true rfl) (Nat.le_of_ble_eq_true rfl) ?_
    exact OpM_i (by unfold oType; rw [if_neg h7]) hY' c1 (fun q hq => c2 q (by omega))
set_option maxRecDepth 100000 in
set_option maxHeartbeats 4000000 in
theorem spX12_clear {G : GE} {d : Nat} {i : MI0} {S : MS} {Y : Nat} (hY : YS S Y) {s : Ab} {b : Nat} (hR : MR i S Y s) (hV : AV b s) (hb : b ≤ 100) (hd : 12 ≤ d) : Mt G iX12_clear d [.ref Y] (i, S) (OpM Y (i, S) (.int (oClear s).1) (oClear s).2) := by
  have hY' := hY
  obtain ⟨Yt, ⟨Yt1, Yr1⟩, ⟨Yt2, Yr2⟩, ⟨Yt3, Yr3⟩, ⟨Yt4, Yr4⟩, ⟨Yt5, Yr5⟩, ⟨Yt6, Yr6⟩, ⟨Yt7, Yr7⟩, ⟨Yt8, Yr8⟩, ⟨Yt9, Yr9⟩, ⟨Yt10, Yr10⟩, ⟨Yt11, Yr11⟩, ⟨Yt12, Yr12⟩, ⟨Yt13, Yr13⟩, ⟨Yt14, Yr14⟩, ⟨Yt15, Yr15⟩, ⟨Yt16, Yr16⟩, ⟨Yt17, Yr17⟩, ⟨Yt18, Yr18⟩, ⟨Yt19, Yr19⟩⟩ := hY
  have hR' := hR
  have hV' := hV
  obtain ⟨Rm, Ri0, Ri1, Rk, Rx, Rt, Rl⟩ := hR
  have Rh := Rm.1
  obtain ⟨Av, Ai, At, Ab', Aa, Aw⟩ := hV
  have Ah := Av.1
  have Ah1 := Ah.1
  have Av1 := Av.2.1
  have Av2 := Av.2.2.1
  have Av3 := Av.2.2.2.1
  refine Mt_in 1 (ls := [.ref Y, .null]) moX12_clear (Nat.le_of_ble_eq_true rfl) rfl ?_
  refine PW_aload_n (i := 0) dX12_clear_0 rfl rfl ?_
  refine PW_giv (v := nI (aL s)) dX12_clear_1 fg12_119 (Yt) (Rt.1) ?_
  refine PW_istore_n (i := 1) dX12_clear_4 rfl (Nat.le_of_ble_eq_true rfl) rfl ?_
  refine PW_aload_n (i := 0) dX12_clear_5 rfl rfl ?_
  refine PW_iconst (v := 0) dX12_clear_6 (by decide) ?_
  refine PW_putI dX12_clear_7 fr12_119 (fun h => by cases h) (Yt) ?_
  refine PW_nm rfl (fun i1 e1 => ?_)
  refine PW_iload_n (i := 1) dX12_clear_10 rfl rfl ?_
  refine PW_ireturn rfl (rfl) dX12_clear_11 (Nat.le_of_ble_eq_true rfl) (Nat.le_of_ble_eq_true rfl) ?_
  exact OpM_i (o := oClear s) rfl hY' (hR'.st ⟨by rw [e1]; exact rI_s _ _ _ _, fun j hj => absurd hj (Nat.not_lt_zero j)⟩ (fun k hk => by rw [e1, rI_k _ _ _ hk]; rfl) (fun q h1 h2 => by rw [e1, rI_f _ _ h1]; rfl)) (fun q hq => by rw [e1, rI_f _ _ (by omega)]; rfl)

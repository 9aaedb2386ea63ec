/-! ===== the reference: sleepy, steers, pass ===== -/
/-! ===== the reference: where its cells lie ===== -/
def YS (S : MS) (Y : Nat) : Prop := sT S Y = (12, 0) ∧ (sT S (Y + 1) = (13, 3) ∧ sR S Y 0 = some (Y + 1)) ∧ (sT S (Y + 2) = (13, 6) ∧ sR S Y 6 = some (Y + 2)) ∧ (sT S (Y + 3) = (13, 6) ∧ sR S Y 7 = some (Y + 3)) ∧ (sT S (Y + 4) = (13, 6) ∧ sR S Y 8 = some (Y + 4)) ∧ (sT S (Y + 5) = (13, 6) ∧ sR S Y 9 = some (Y + 5)) ∧ (sT S (Y + 6) = (13, 6) ∧ sR S Y 10 = some (Y + 6)) ∧ (sT S (Y + 7) = (13, 6) ∧ sR S Y 11 = some (Y + 7)) ∧ (sT S (Y + 8) = (13, 6) ∧ sR S Y 12 = some (Y + 8)) ∧ (sT S (Y + 9) = (13, 150) ∧ sR S Y 13 = some (Y + 9)) ∧ (sT S (Y + 10) = (13, 6) ∧ sR S Y 18 = some (Y + 10)) ∧ (sT S (Y + 11) = (13, 18) ∧ sR S Y 19 = some (Y + 11)) ∧ (sT S (Y + 12) = (13, 112) ∧ sR S Y 21 = some (Y + 12)) ∧ (sT S (Y + 13) = (13, 14) ∧ sR S Y 23 = some (Y + 13)) ∧ (sT S (Y + 14) = (13, 4) ∧ sR S Y 24 = some (Y + 14)) ∧ (sT S (Y + 15) = (13, 4) ∧ sR S Y 25 = some (Y + 15)) ∧ (sT S (Y + 16) = (13, 21) ∧ sR S Y 26 = some (Y + 16)) ∧ (sT S (Y + 17) = (13, 147) ∧ sR S Y 27 = some (Y + 17)) ∧ (sT S (Y + 18) = (13, 320) ∧ sR S Y 30 = some (Y + 18)) ∧ (sT S (Y + 19) = (13, 2) ∧ sR S Y 31 = some (Y + 19))
/-- its helm -/
def MH (i : MI0) (Y : Nat) (h : Hm) : Prop := i Y 1 = nI (hn h) ∧ i Y 2 = iN (hp h) ∧ i Y 3 = nI (hw h) ∧ ∀ j, j < hn h → i (Y + 2) j = nI (hK h j) ∧ i (Y + 3) j = nI (hT h j) ∧ i (Y + 4) j = iN (hN h j) ∧ i (Y + 5) j = b2i ((hf h).testBit j)
/-- but for place, watches, tired and fed the same -/
def CQ (i i' : MI0) (Y : Nat) : Prop := (∀ k, k ≠ 2 → k ≠ 3 → i' Y k = i Y k) ∧ ∀ q, q ≠ Y → q ≠ Y + 3 → q ≠ Y + 5 → i' q = i q
theorem CQ.rfl' (i : MI0) (Y : Nat) : CQ i i Y := ⟨fun _ _ _ => rfl, fun _ _ _ _ => rfl⟩
theorem CQ.trans {i i1 i2 : MI0} {Y : Nat} (h1 : CQ i i1 Y) (h2 : CQ i1 i2 Y) : CQ i i2 Y := ⟨fun k a b => (h2.1 k a b).trans (h1.1 k a b), fun q a b c => (h2.2 q a b c).trans (h1.2 q a b c)⟩
/-- and but for rows of no worth -/
def CT (i i' : MI0) (Y : Nat) : Prop := (∀ k, k ≠ 2 → k ≠ 3 → i' Y k = i Y k) ∧ ∀ q, q ≠ Y → q ≠ Y + 3 → q ≠ Y + 5 → (q < Y + 14 ∨ Y + 17 < q) → i' q = i q
theorem CQ.t {i i' : MI0} {Y : Nat} (h : CQ i i' Y) : CT i i' Y := ⟨h.1, fun q a b c _ => h.2 q a b c⟩
theorem CT.trans {i i1 i2 : MI0} {Y : Nat} (h1 : CT i i1 Y) (h2 : CT i1 i2 Y) : CT i i2 Y := ⟨fun k a b => (h2.1 k a b).trans (h1.1 k a b), fun q a b c e => (h2.2 q a b c e).trans (h1.2 q a b c e)⟩
theorem slpF (k t w : Nat) (f : Bool) (hk : k < 6) : slp k t w f = if k = 0 then t else if k = 1 then (if w % 4 = 0 then t - 3 else t) else if k = 2 then (if f then t else t / 2) else if k = 3 then (if f then 2 * t else t) else if k = 4 then (if w % 4 = 0 then t - 3 else t) + (if w % 7 = 3 then 5 else 0) else 0 := rfl
set_option maxRecDepth 100000 in
set_option maxHeartbeats 4000000 in
theorem spX12_sleepyBy {G : GE} {d : Nat} {M : Mm} {k n w : Nat} {f : Bool} (hk : k < 6) (hn : n < 2 ^ 20) (hw : w < 2 ^ 30) : Mt G iX12_sleepyBy d [.int (nI k), .int (nI n), .int (b2i f), .int (nI w)] M (Rt (nI (slp k n w f)) M) := by
  rcases (by omega : k = 0 ∨ k = 1 ∨ k = 2 ∨ k = 3 ∨ k = 4 ∨ k = 5) with rfl | rfl | rfl | rfl | rfl | rfl
  · refine Mt_in 1 (ls := [.int (nI 0), .int (nI n), .int (b2i f), .int (nI w), .null]) moX12_sleepyBy (Nat.le_of_ble_eq_true rfl) rfl ?_
    refine PW_iload_n (i := 3) dX12_sleepyBy_0 rfl rfl ?_
    refine PW_iconst (v := 4) dX12_sleepyBy_1 (by decide) ?_
    refine PW_irem dX12_sleepyBy_2 (by decide) ?_
    refine PW_eqi (rem_c (by omega) 4 (by decide) (by decide) rfl) ?_
    refine PW_if_ne 21 dX12_sleepyBy_3 (by decide) (fun h3 => ?_) (fun h3 => ?_)
    · have h3 : ¬ w % 4 = 0 := fun q => h3 ((nI_e0 (by omega)).mpr q)
      refine PW_iload_n (i := 1) dX12_sleepyBy_21 rfl rfl ?_
      refine PW_istore dX12_sleepyBy_22 (Nat.le_of_ble_eq_true rfl) rfl ?_
      refine PW_iload_n (i := 0) dX12_sleepyBy_24 rfl rfl ?_
      refine PW_tableOut 106 dX12_sleepyBy_25 (Or.inl (by decide)) (by decide) ?_
      refine PW_iload_n (i := 1) dX12_sleepyBy_106 rfl rfl ?_
      refine PW_ireturn rfl (rfl) dX12_sleepyBy_107 (Nat.le_of_ble_eq_true rfl) (Nat.le_of_ble_eq_true rfl) ?_
      exact rt_i rfl
    · have h3 := (nI_e0 (by omega)).mp h3
      refine PW_iload_n (i := 1) dX12_sleepyBy_6 rfl rfl ?_
      refine PW_iconst (v := 3) dX12_sleepyBy_7 (by decide) ?_
      refine PW_icmp_ge 15 dX12_sleepyBy_8 (by decide) (fun h8 => ?_) (fun h8 => ?_)
      · have h8 := jle (a := 3) h8
        refine PW_iload_n (i := 1) dX12_sleepyBy_15 rfl rfl ?_
        refine PW_iconst (v := 3) dX12_sleepyBy_16 (by decide) ?_
        refine PW_isub dX12_sleepyBy_17 ?_
        refine PW_goto 22 dX12_sleepyBy_18 (by decide) ?_
        refine PW_istore dX12_sleepyBy_22 (Nat.le_of_ble_eq_true rfl) rfl ?_
        refine PW_iload_n (i := 0) dX12_sleepyBy_24 rfl rfl ?_
        refine PW_tableOut 106 dX12_sleepyBy_25 (Or.inl (by decide)) (by decide) ?_
        refine PW_iload_n (i := 1) dX12_sleepyBy_106 rfl rfl ?_
        refine PW_ireturn rfl (rfl) dX12_sleepyBy_107 (Nat.le_of_ble_eq_true rfl) (Nat.le_of_ble_eq_true rfl) ?_
        exact rt_i rfl
      · have h8 := jnle (a := 3) h8
        refine PW_iconst (v := 0) dX12_sleepyBy_11 (by decide) ?_
        refine PW_goto 22 dX12_sleepyBy_12 (by decide) ?_
        refine PW_istore dX12_sleepyBy_22 (Nat.le_of_ble_eq_true rfl) rfl ?_
        refine PW_iload_n (i := 0) dX12_sleepyBy_24 rfl rfl ?_
        refine PW_tableOut 106 dX12_sleepyBy_25 (Or.inl (by decide)) (by decide) ?_
        refine PW_iload_n (i := 1) dX12_sleepyBy_106 rfl rfl ?_
        refine PW_ireturn rfl (rfl) dX12_sleepyBy_107 (Nat.le_of_ble_eq_true rfl) (Nat.le_of_ble_eq_true rfl) ?_
        exact rt_i rfl
  · refine Mt_in 1 (ls := [.int (nI 1), .int (nI n), .int (b2i f), .int (nI w), .null]) moX12_sleepyBy (Nat.le_of_ble_eq_true rfl) rfl ?_
    refine PW_iload_n (i := 3) dX12_sleepyBy_0 rfl rfl ?_
    refine PW_iconst (v := 4) dX12_sleepyBy_1 (by decide) ?_
    refine PW_irem dX12_sleepyBy_2 (by decide) ?_
    refine PW_eqi (rem_c (by omega) 4 (by decide) (by decide) rfl) ?_
    refine PW_if_ne 21 dX12_sleepyBy_3 (by decide) (fun h3 => ?_) (fun h3 => ?_)
    · have h3 : ¬ w % 4 = 0 := fun q => h3 ((nI_e0 (by omega)).mpr q)
      refine PW_iload_n (i := 1) dX12_sleepyBy_21 rfl rfl ?_
      refine PW_istore dX12_sleepyBy_22 (Nat.le_of_ble_eq_true rfl) rfl ?_
      refine PW_iload_n (i := 0) dX12_sleepyBy_24 rfl rfl ?_
      refine PW_tableIn 60 dX12_sleepyBy_25 (by decide) (by decide) rfl (by decide) ?_
      refine PW_iload dX12_sleepyBy_60 rfl ?_
      refine PW_ireturn rfl (rfl) dX12_sleepyBy_62 (Nat.le_of_ble_eq_true rfl) (Nat.le_of_ble_eq_true rfl) ?_
      refine rt_i ?_
      rw [slp_1]
      first | (rw [if_neg h3]; done) | (rw [if_pos h3]; first | exact pk_sub (b := 3) (by omega) | (rw [show n - 3 = 0 by omega]; rfl))
    · have h3 := (nI_e0 (by omega)).mp h3
      refine PW_iload_n (i := 1) dX12_sleepyBy_6 rfl rfl ?_
      refine PW_iconst (v := 3) dX12_sleepyBy_7 (by decide) ?_
      refine PW_icmp_ge 15 dX12_sleepyBy_8 (by decide) (fun h8 => ?_) (fun h8 => ?_)
      · have h8 := jle (a := 3) h8
        refine PW_iload_n (i := 1) dX12_sleepyBy_15 rfl rfl ?_
        refine PW_iconst (v := 3) dX12_sleepyBy_16 (by decide) ?_
        refine PW_isub dX12_sleepyBy_17 ?_
        refine PW_goto 22 dX12_sleepyBy_18 (by decide) ?_
        refine PW_istore dX12_sleepyBy_22 (Nat.le_of_ble_eq_true rfl) rfl ?_
        refine PW_iload_n (i := 0) dX12_sleepyBy_24 rfl rfl ?_
        refine PW_tableIn 60 dX12_sleepyBy_25 (by decide) (by decide) rfl (by decide) ?_
        refine PW_iload dX12_sleepyBy_60 rfl ?_
        refine PW_ireturn rfl (rfl) dX12_sleepyBy_62 (Nat.le_of_ble_eq_true rfl) (Nat.le_of_ble_eq_true rfl) ?_
        refine rt_i ?_
        rw [slp_1]
        first | (rw [if_neg h3]; done) | (rw [if_pos h3]; first | exact pk_sub (b := 3) (by omega) | (rw [show n - 3 = 0 by omega]; rfl))
      · have h8 := jnle (a := 3) h8
        refine PW_iconst (v := 0) dX12_sleepyBy_11 (by decide) ?_
        refine PW_goto 22 dX12_sleepyBy_12 (by decide) ?_
        refine PW_istore dX12_sleepyBy_22 (Nat.le_of_ble_eq_true rfl) rfl ?_
        refine PW_iload_n (i := 0) dX12_sleepyBy_24 rfl rfl ?_
        refine PW_tableIn 60 dX12_sleepyBy_25 (by decide) (by decide) rfl (by decide) ?_
        refine PW_iload dX12_sleepyBy_60 rfl ?_
        refine PW_ireturn rfl (rfl) dX12_sleepyBy_62 (Nat.le_of_ble_eq_true rfl) (Nat.le_of_ble_eq_true rfl) ?_
        refine rt_i ?_
        rw [slp_1]
        first | (rw [if_neg h3]; done) | (rw [if_pos h3]; first | exact pk_sub (b := 3) (by omega) | (rw [show n - 3 = 0 by omega]; rfl))
  · refine Mt_in 1 (ls := [.int (nI 2), .int (nI n), .int (b2i f), .int (nI w), .null]) moX12_sleepyBy (Nat.le_of_ble_eq_true rfl) rfl ?_
    refine PW_iload_n (i := 3) dX12_sleepyBy_0 rfl rfl ?_
    refine PW_iconst (v := 4) dX12_sleepyBy_1 (by decide) ?_
    refine PW_irem dX12_sleepyBy_2 (by decide) ?_
    refine PW_eqi (rem_c (by omega) 4 (by decide) (by decide) rfl) ?_
    refine PW_if_ne 21 dX12_sleepyBy_3 (by decide) (fun h3 => ?_) (fun h3 => ?_)
    · have h3 : ¬ w % 4 = 0 := fun q => h3 ((nI_e0 (by omega)).mpr q)
      refine PW_iload_n (i := 1) dX12_sleepyBy_21 rfl rfl ?_
      refine PW_istore dX12_sleepyBy_22 (Nat.le_of_ble_eq_true rfl) rfl ?_
      refine PW_iload_n (i := 0) dX12_sleepyBy_24 rfl rfl ?_
      refine PW_tableIn 63 dX12_sleepyBy_25 (by decide) (by decide) rfl (by decide) ?_
      refine PW_iload_n (i := 2) dX12_sleepyBy_63 rfl rfl ?_
      refine PW_if_eq 71 dX12_sleepyBy_64 (by decide) (fun h64 => ?_) (fun h64 => ?_)
      · have h64 := b2i_0.mp h64
        refine PW_iload_n (i := 1) dX12_sleepyBy_71 rfl rfl ?_
        refine PW_iconst (v := 2) dX12_sleepyBy_72 (by decide) ?_
        refine PW_idiv dX12_sleepyBy_73 (by decide) ?_
        refine PW_ireturn rfl (rfl) dX12_sleepyBy_74 (Nat.le_of_ble_eq_true rfl) (Nat.le_of_ble_eq_true rfl) ?_
        refine rt_i ?_
        rw [slp_2]
        first | (rw [h64]; rfl) | (rw [h64]; exact pk_div (d := 2) (by omega) (by decide) (by decide))
      · have h64 := b2i_n.mp h64
        refine PW_iload_n (i := 1) dX12_sleepyBy_67 rfl rfl ?_
        refine PW_goto 74 dX12_sleepyBy_68 (by decide) ?_
        refine PW_ireturn rfl (rfl) dX12_sleepyBy_74 (Nat.le_of_ble_eq_true rfl) (Nat.le_of_ble_eq_true rfl) ?_
        refine rt_i ?_
        rw [slp_2]
        first | (rw [h64]; rfl) | (rw [h64]; exact pk_div (d := 2) (by omega) (by decide) (by decide))
    · have h3 := (nI_e0 (by omega)).mp h3
      refine PW_iload_n (i := 1) dX12_sleepyBy_6 rfl rfl ?_
      refine PW_iconst (v := 3) dX12_sleepyBy_7 (by decide) ?_
      refine PW_icmp_ge 15 dX12_sleepyBy_8 (by decide) (fun h8 => ?_) (fun h8 => ?_)
      · have h8 := jle (a := 3) h8
        refine PW_iload_n (i := 1) dX12_sleepyBy_15 rfl rfl ?_
        refine PW_iconst (v := 3) dX12_sleepyBy_16 (by decide) ?_
        refine PW_isub dX12_sleepyBy_17 ?_
        refine PW_goto 22 dX12_sleepyBy_18 (by decide) ?_
        refine PW_istore dX12_sleepyBy_22 (Nat.le_of_ble_eq_true rfl) rfl ?_
        refine PW_iload_n (i := 0) dX12_sleepyBy_24 rfl rfl ?_
        refine PW_tableIn 63 dX12_sleepyBy_25 (by decide) (by decide) rfl (by decide) ?_
        refine PW_iload_n (i := 2) dX12_sleepyBy_63 rfl rfl ?_
        refine PW_if_eq 71 dX12_sleepyBy_64 (by decide) (fun h64 => ?_) (fun h64 => ?_)
        · have h64 := b2i_0.mp h64
          refine PW_iload_n (i := 1) dX12_sleepyBy_71 rfl rfl ?_
          refine PW_iconst (v := 2) dX12_sleepyBy_72 (by decide) ?_
          refine PW_idiv dX12_sleepyBy_73 (by decide) ?_
          refine PW_ireturn rfl (rfl) dX12_sleepyBy_74 (Nat.le_of_ble_eq_true rfl) (Nat.le_of_ble_eq_true rfl) ?_
          refine rt_i ?_
          rw [slp_2]
          first | (rw [h64]; rfl) | (rw [h64]; exact pk_div (d := 2) (by omega) (by decide) (by decide))
        · have h64 := b2i_n.mp h64
          refine PW_iload_n (i := 1) dX12_sleepyBy_67 rfl rfl ?_
          refine PW_goto 74 dX12_sleepyBy_68 (by decide) ?_
          refine PW_ireturn rfl (rfl) dX12_sleepyBy_74 (Nat.le_of_ble_eq_true rfl) (Nat.le_of_ble_eq_true rfl) ?_
          refine rt_i ?_
          rw [slp_2]
          first | (rw [h64]; rfl) | (rw [h64]; exact pk_div (d := 2) (by omega) (by decide) (by decide))
      · have h8 := jnle (a := 3) h8
        refine PW_iconst (v := 0) dX12_sleepyBy_11 (by decide) ?_
        refine PW_goto 22 dX12_sleepyBy_12 (by decide) ?_
        refine PW_istore dX12_sleepyBy_22 (Nat.le_of_ble_eq_true rfl) rfl ?_
        refine PW_iload_n (i := 0) dX12_sleepyBy_24 rfl rfl ?_
        refine PW_tableIn 63 dX12_sleepyBy_25 (by decide) (by decide) rfl (by decide) ?_
        refine PW_iload_n (i := 2) dX12_sleepyBy_63 rfl rfl ?_
        refine PW_if_eq 71 dX12_sleepyBy_64 (by decide) (fun h64 => ?_) (fun h64 => ?_)
        · have h64 := b2i_0.mp h64
          refine PW_iload_n (i := 1) dX12_sleepyBy_71 rfl rfl ?_
          refine PW_iconst (v := 2) dX12_sleepyBy_72 (by decide) ?_
          refine PW_idiv dX12_sleepyBy_73 (by decide) ?_
          refine PW_ireturn rfl (rfl) dX12_sleepyBy_74 (Nat.le_of_ble_eq_true rfl) (Nat.le_of_ble_eq_true rfl) ?_
          refine rt_i ?_
          rw [slp_2]
          first | (rw [h64]; rfl) | (rw [h64]; exact pk_div (d := 2) (by omega) (by decide) (by decide))
        · have h64 := b2i_n.mp h64
          refine PW_iload_n (i := 1) dX12_sleepyBy_67 rfl rfl ?_
          refine PW_goto 74 dX12_sleepyBy_68 (by decide) ?_
          refine PW_ireturn rfl (rfl) dX12_sleepyBy_74 (Nat.le_of_ble_eq_true rfl) (Nat.le_of_ble_eq_true rfl) ?_
          refine rt_i ?_
          rw [slp_2]
          first | (rw [h64]; rfl) | (rw [h64]; exact pk_div (d := 2) (by omega) (by decide) (by decide))
  · refine Mt_in 1 (ls := [.int (nI 3), .int (nI n), .int (b2i f), .int (nI w), .null]) moX12_sleepyBy (Nat.le_of_ble_eq_true rfl) rfl ?_
    refine PW_iload_n (i := 3) dX12_sleepyBy_0 rfl rfl ?_
    refine PW_iconst (v := 4) dX12_sleepyBy_1 (by decide) ?_
    refine PW_irem dX12_sleepyBy_2 (by decide) ?_
    refine PW_eqi (rem_c (by omega) 4 (by decide) (by decide) rfl) ?_
    refine PW_if_ne 21 dX12_sleepyBy_3 (by decide) (fun h3 => ?_) (fun h3 => ?_)
    · have h3 : ¬ w % 4 = 0 := fun q => h3 ((nI_e0 (by omega)).mpr q)
      refine PW_iload_n (i := 1) dX12_sleepyBy_21 rfl rfl ?_
      refine PW_istore dX12_sleepyBy_22 (Nat.le_of_ble_eq_true rfl) rfl ?_
      refine PW_iload_n (i := 0) dX12_sleepyBy_24 rfl rfl ?_
      refine PW_tableIn 75 dX12_sleepyBy_25 (by decide) (by decide) rfl (by decide) ?_
      refine PW_iload_n (i := 2) dX12_sleepyBy_75 rfl rfl ?_
      refine PW_if_eq 85 dX12_sleepyBy_76 (by decide) (fun h76 => ?_) (fun h76 => ?_)
      · have h76 := b2i_0.mp h76
        refine PW_iload_n (i := 1) dX12_sleepyBy_85 rfl rfl ?_
        refine PW_ireturn rfl (rfl) dX12_sleepyBy_86 (Nat.le_of_ble_eq_true rfl) (Nat.le_of_ble_eq_true rfl) ?_
        refine rt_i ?_
        rw [slp_3]
        first | (rw [h76]; rfl) | (rw [h76]; exact pk_mul 2 n)
      · have h76 := b2i_n.mp h76
        refine PW_iconst (v := 2) dX12_sleepyBy_79 (by decide) ?_
        refine PW_iload_n (i := 1) dX12_sleepyBy_80 rfl rfl ?_
        refine PW_imul dX12_sleepyBy_81 ?_
        refine PW_goto 86 dX12_sleepyBy_82 (by decide) ?_
        refine PW_ireturn rfl (rfl) dX12_sleepyBy_86 (Nat.le_of_ble_eq_true rfl) (Nat.le_of_ble_eq_true rfl) ?_
        refine rt_i ?_
        rw [slp_3]
        first | (rw [h76]; rfl) | (rw [h76]; exact pk_mul 2 n)
    · have h3 := (nI_e0 (by omega)).mp h3
      refine PW_iload_n (i := 1) dX12_sleepyBy_6 rfl rfl ?_
      refine PW_iconst (v := 3) dX12_sleepyBy_7 (by decide) ?_
      refine PW_icmp_ge 15 dX12_sleepyBy_8 (by decide) (fun h8 => ?_) (fun h8 => ?_)
      · have h8 := jle (a := 3) h8
        refine PW_iload_n (i := 1) dX12_sleepyBy_15 rfl rfl ?_
        refine PW_iconst (v := 3) dX12_sleepyBy_16 (by decide) ?_
        refine PW_isub dX12_sleepyBy_17 ?_
        refine PW_goto 22 dX12_sleepyBy_18 (by decide) ?_
        refine PW_istore dX12_sleepyBy_22 (Nat.le_of_ble_eq_true rfl) rfl ?_
        refine PW_iload_n (i := 0) dX12_sleepyBy_24 rfl rfl ?_
        refine PW_tableIn 75 dX12_sleepyBy_25 (by decide) (by decide) rfl (by decide) ?_
        refine PW_iload_n (i := 2) dX12_sleepyBy_75 rfl rfl ?_
        refine PW_if_eq 85 dX12_sleepyBy_76 (by decide) (fun h76 => ?_) (fun h76 => ?_)
        · have h76 := b2i_0.mp h76
          refine PW_iload_n (i := 1) dX12_sleepyBy_85 rfl rfl ?_
          refine PW_ireturn rfl (rfl) dX12_sleepyBy_86 (Nat.le_of_ble_eq_true rfl) (Nat.le_of_ble_eq_true rfl) ?_
          refine rt_i ?_
          rw [slp_3]
          first | (rw [h76]; rfl) | (rw [h76]; exact pk_mul 2 n)
        · have h76 := b2i_n.mp h76
          refine PW_iconst (v := 2) dX12_sleepyBy_79 (by decide) ?_
          refine PW_iload_n (i := 1) dX12_sleepyBy_80 rfl rfl ?_
          refine PW_imul dX12_sleepyBy_81 ?_
          refine PW_goto 86 dX12_sleepyBy_82 (by decide) ?_
          refine PW_ireturn rfl (rfl) dX12_sleepyBy_86 (Nat.le_of_ble_eq_true rfl) (Nat.le_of_ble_eq_true rfl) ?_
          refine rt_i ?_
          rw [slp_3]
          first | (rw [h76]; rfl) | (rw [h76]; exact pk_mul 2 n)
      · have h8 := jnle (a := 3) h8
        refine PW_iconst (v := 0) dX12_sleepyBy_11 (by decide) ?_
        refine PW_goto 22 dX12_sleepyBy_12 (by decide) ?_
        refine PW_istore dX12_sleepyBy_22 (Nat.le_of_ble_eq_true rfl) rfl ?_
        refine PW_iload_n (i := 0) dX12_sleepyBy_24 rfl rfl ?_
        refine PW_tableIn 75 dX12_sleepyBy_25 (by decide) (by decide) rfl (by decide) ?_
        refine PW_iload_n (i := 2) dX12_sleepyBy_75 rfl rfl ?_
        refine PW_if_eq 85 dX12_sleepyBy_76 (by decide) (fun h76 => ?_) (fun h76 => ?_)
        · have h76 := b2i_0.mp h76
          refine PW_iload_n (i := 1) dX12_sleepyBy_85 rfl rfl ?_
          refine PW_ireturn rfl (rfl) dX12_sleepyBy_86 (Nat.le_of_ble_eq_true rfl) (Nat.le_of_ble_eq_true rfl) ?_
          refine rt_i ?_
          rw [slp_3]
          first | (rw [h76]; rfl) | (rw [h76]; exact pk_mul 2 n)
        · have h76 := b2i_n.mp h76
          refine PW_iconst (v := 2) dX12_sleepyBy_79 (by decide) ?_
          refine PW_iload_n (i := 1) dX12_sleepyBy_80 rfl rfl ?_
          refine PW_imul dX12_sleepyBy_81 ?_
          refine PW_goto 86 dX12_sleepyBy_82 (by decide) ?_
          refine PW_ireturn rfl (rfl) dX12_sleepyBy_86 (Nat.le_of_ble_eq_true rfl) (Nat.le_of_ble_eq_true rfl) ?_
          refine rt_i ?_
          rw [slp_3]
          first | (rw [h76]; rfl) | (rw [h76]; exact pk_mul 2 n)
  · refine Mt_in 1 (ls := [.int (nI 4), .int (nI n), .int (b2i f), .int (nI w), .null]) moX12_sleepyBy (Nat.le_of_ble_eq_true rfl) rfl ?_
    refine PW_iload_n (i := 3) dX12_sleepyBy_0 rfl rfl ?_
    refine PW_iconst (v := 4) dX12_sleepyBy_1 (by decide) ?_
    refine PW_irem dX12_sleepyBy_2 (by decide) ?_
    refine PW_eqi (rem_c (by omega) 4 (by decide) (by decide) rfl) ?_
    refine PW_if_ne 21 dX12_sleepyBy_3 (by decide) (fun h3 => ?_) (fun h3 => ?_)
    · have h3 : ¬ w % 4 = 0 := fun q => h3 ((nI_e0 (by omega)).mpr q)
      refine PW_iload_n (i := 1) dX12_sleepyBy_21 rfl rfl ?_
      refine PW_istore dX12_sleepyBy_22 (Nat.le_of_ble_eq_true rfl) rfl ?_
      refine PW_iload_n (i := 0) dX12_sleepyBy_24 rfl rfl ?_
      refine PW_tableIn 87 dX12_sleepyBy_25 (by decide) (by decide) rfl (by decide) ?_
      refine PW_iload dX12_sleepyBy_87 rfl ?_
      refine PW_iload_n (i := 3) dX12_sleepyBy_89 rfl rfl ?_
      refine PW_bipush (v := 7) dX12_sleepyBy_90 (by decide) ?_
      refine PW_irem dX12_sleepyBy_92 (by decide) ?_
      refine PW_eqi (rem_c (by omega) 7 (by decide) (by decide) rfl) ?_
      refine PW_iconst (v := 3) dX12_sleepyBy_93 (by decide) ?_
      refine PW_icmp_ne 101 dX12_sleepyBy_94 (by decide) (fun h94 => ?_) (fun h94 => ?_)
      · have h94 : ¬ w % 7 = 3 := fun q => h94 ((nI_ec 3 (by omega) (by decide) rfl).mpr q)
        refine PW_iconst (v := 0) dX12_sleepyBy_101 (by decide) ?_
        refine PW_iadd dX12_sleepyBy_102 ?_
        refine PW_ireturn rfl (rfl) dX12_sleepyBy_103 (Nat.le_of_ble_eq_true rfl) (Nat.le_of_ble_eq_true rfl) ?_
        refine rt_i ?_
        rw [slp_4, slp_1]
        first | (rw [if_neg h3]) | (rw [if_pos h3])
        first | rw [if_neg h94] | rw [if_pos h94]
        first | exact nI_add _ 5 | exact nI_add _ 0 | (rw [show (nI n - 3) = nI (n - 3) from pk_sub (b := 3) (by omega)]; first | exact nI_add _ 5 | exact nI_add _ 0) | (rw [show n - 3 = 0 by omega]; rfl)
      · have h94 := (nI_ec 3 (by omega) (by decide) rfl).mp h94
        refine PW_iconst (v := 5) dX12_sleepyBy_97 (by decide) ?_
        refine PW_goto 102 dX12_sleepyBy_98 (by decide) ?_
        refine PW_iadd dX12_sleepyBy_102 ?_
        refine PW_ireturn rfl (rfl) dX12_sleepyBy_103 (Nat.le_of_ble_eq_true rfl) (Nat.le_of_ble_eq_true rfl) ?_
        refine rt_i ?_
        rw [slp_4, slp_1]
        first | (rw [if_neg h3]) | (rw [if_pos h3])
        first | rw [if_neg h94] | rw [if_pos h94]
        first | exact nI_add _ 5 | exact nI_add _ 0 | (rw [show (nI n - 3) = nI (n - 3) from pk_sub (b := 3) (by omega)]; first | exact nI_add _ 5 | exact nI_add _ 0) | (rw [show n - 3 = 0 by omega]; rfl)
    · have h3 := (nI_e0 (by omega)).mp h3
      refine PW_iload_n (i := 1) dX12_sleepyBy_6 rfl rfl ?_
      refine PW_iconst (v := 3) dX12_sleepyBy_7 (by decide) ?_
      refine PW_icmp_ge 15 dX12_sleepyBy_8 (by decide) (fun h8 => ?_) (fun h8 => ?_)
      · have h8 := jle (a := 3) h8
        refine PW_iload_n (i := 1) dX12_sleepyBy_15 rfl rfl ?_
        refine PW_iconst (v := 3) dX12_sleepyBy_16 (by decide) ?_
        refine PW_isub dX12_sleepyBy_17 ?_
        refine PW_goto 22 dX12_sleepyBy_18 (by decide) ?_
        refine PW_istore dX12_sleepyBy_22 (Nat.le_of_ble_eq_true rfl) rfl ?_
        refine PW_iload_n (i := 0) dX12_sleepyBy_24 rfl rfl ?_
        refine PW_tableIn 87 dX12_sleepyBy_25 (by decide) (by decide) rfl (by decide) ?_
        refine PW_iload dX12_sleepyBy_87 rfl ?_
        refine PW_iload_n (i := 3) dX12_sleepyBy_89 rfl rfl ?_
        refine PW_bipush (v := 7) dX12_sleepyBy_90 (by decide) ?_
        refine PW_irem dX12_sleepyBy_92 (by decide) ?_
        refine PW_eqi (rem_c (by omega) 7 (by decide) (by decide) rfl) ?_
        refine PW_iconst (v := 3) dX12_sleepyBy_93 (by decide) ?_
        refine PW_icmp_ne 101 dX12_sleepyBy_94 (by decide) (fun h94 => ?_) (fun h94 => ?_)
        · have h94 : ¬ w % 7 = 3 := fun q => h94 ((nI_ec 3 (by omega) (by decide) rfl).mpr q)
          refine PW_iconst (v := 0) dX12_sleepyBy_101 (by decide) ?_
          refine PW_iadd dX12_sleepyBy_102 ?_
          refine PW_ireturn rfl (rfl) dX12_sleepyBy_103 (Nat.le_of_ble_eq_true rfl) (Nat.le_of_ble_eq_true rfl) ?_
          refine rt_i ?_
          rw [slp_4, slp_1]
          first | (rw [if_neg h3]) | (rw [if_pos h3])
          first | rw [if_neg h94] | rw [if_pos h94]
          first | exact nI_add _ 5 | exact nI_add _ 0 | (rw [show (nI n - 3) = nI (n - 3) from pk_sub (b := 3) (by omega)]; first | exact nI_add _ 5 | exact nI_add _ 0) | (rw [show n - 3 = 0 by omega]; rfl)
        · have h94 := (nI_ec 3 (by omega) (by decide) rfl).mp h94
          refine PW_iconst (v := 5) dX12_sleepyBy_97 (by decide) ?_
          refine PW_goto 102 dX12_sleepyBy_98 (by decide) ?_
          refine PW_iadd dX12_sleepyBy_102 ?_
          refine PW_ireturn rfl (rfl) dX12_sleepyBy_103 (Nat.le_of_ble_eq_true rfl) (Nat.le_of_ble_eq_true rfl) ?_
          refine rt_i ?_
          rw [slp_4, slp_1]
          first | (rw [if_neg h3]) | (rw [if_pos h3])
          first | rw [if_neg h94] | rw [if_pos h94]
          first | exact nI_add _ 5 | exact nI_add _ 0 | (rw [show (nI n - 3) = nI (n - 3) from pk_sub (b := 3) (by omega)]; first | exact nI_add _ 5 | exact nI_add _ 0) | (rw [show n - 3 = 0 by omega]; rfl)
      · have h8 := jnle (a := 3) h8
        refine PW_iconst (v := 0) dX12_sleepyBy_11 (by decide) ?_
        refine PW_goto 22 dX12_sleepyBy_12 (by decide) ?_
        refine PW_istore dX12_sleepyBy_22 (Nat.le_of_ble_eq_true rfl) rfl ?_
        refine PW_iload_n (i := 0) dX12_sleepyBy_24 rfl rfl ?_
        refine PW_tableIn 87 dX12_sleepyBy_25 (by decide) (by decide) rfl (by decide) ?_
        refine PW_iload dX12_sleepyBy_87 rfl ?_
        refine PW_iload_n (i := 3) dX12_sleepyBy_89 rfl rfl ?_
        refine PW_bipush (v := 7) dX12_sleepyBy_90 (by decide) ?_
        refine PW_irem dX12_sleepyBy_92 (by decide) ?_
        refine PW_eqi (rem_c (by omega) 7 (by decide) (by decide) rfl) ?_
        refine PW_iconst (v := 3) dX12_sleepyBy_93 (by decide) ?_
        refine PW_icmp_ne 101 dX12_sleepyBy_94 (by decide) (fun h94 => ?_) (fun h94 => ?_)
        · have h94 : ¬ w % 7 = 3 := fun q => h94 ((nI_ec 3 (by omega) (by decide) rfl).mpr q)
          refine PW_iconst (v := 0) dX12_sleepyBy_101 (by decide) ?_
          refine PW_iadd dX12_sleepyBy_102 ?_
          refine PW_ireturn rfl (rfl) dX12_sleepyBy_103 (Nat.le_of_ble_eq_true rfl) (Nat.le_of_ble_eq_true rfl) ?_
          refine rt_i ?_
          rw [slp_4, slp_1]
          first | (rw [if_neg h3]) | (rw [if_pos h3])
          first | rw [if_neg h94] | rw [if_pos h94]
          first | exact nI_add _ 5 | exact nI_add _ 0 | (rw [show (nI n - 3) = nI (n - 3) from pk_sub (b := 3) (by omega)]; first | exact nI_add _ 5 | exact nI_add _ 0) | (rw [show n - 3 = 0 by omega]; rfl)
        · have h94 := (nI_ec 3 (by omega) (by decide) rfl).mp h94
          refine PW_iconst (v := 5) dX12_sleepyBy_97 (by decide) ?_
          refine PW_goto 102 dX12_sleepyBy_98 (by decide) ?_
          refine PW_iadd dX12_sleepyBy_102 ?_
          refine PW_ireturn rfl (rfl) dX12_sleepyBy_103 (Nat.le_of_ble_eq_true rfl) (Nat.le_of_ble_eq_true rfl) ?_
          refine rt_i ?_
          rw [slp_4, slp_1]
          first | (rw [if_neg h3]) | (rw [if_pos h3])
          first | rw [if_neg h94] | rw [if_pos h94]
          first | exact nI_add _ 5 | exact nI_add _ 0 | (rw [show (nI n - 3) = nI (n - 3) from pk_sub (b := 3) (by omega)]; first | exact nI_add _ 5 | exact nI_add _ 0) | (rw [show n - 3 = 0 by omega]; rfl)
  · refine Mt_in 1 (ls := [.int (nI 5), .int (nI n), .int (b2i f), .int (nI w), .null]) moX12_sleepyBy (Nat.le_of_ble_eq_true rfl) rfl ?_
    refine PW_iload_n (i := 3) dX12_sleepyBy_0 rfl rfl ?_
    refine PW_iconst (v := 4) dX12_sleepyBy_1 (by decide) ?_
    refine PW_irem dX12_sleepyBy_2 (by decide) ?_
    refine PW_eqi (rem_c (by omega) 4 (by decide) (by decide) rfl) ?_
    refine PW_if_ne 21 dX12_sleepyBy_3 (by decide) (fun h3 => ?_) (fun h3 => ?_)
    · have h3 : ¬ w % 4 = 0 := fun q => h3 ((nI_e0 (by omega)).mpr q)
      refine PW_iload_n (i := 1) dX12_sleepyBy_21 rfl rfl ?_
      refine PW_istore dX12_sleepyBy_22 (Nat.le_of_ble_eq_true rfl) rfl ?_
      refine PW_iload_n (i := 0) dX12_sleepyBy_24 rfl rfl ?_
      refine PW_tableIn 104 dX12_sleepyBy_25 (by decide) (by decide) rfl (by decide) ?_
      refine PW_iconst (v := 0) dX12_sleepyBy_104 (by decide) ?_
      refine PW_ireturn rfl (rfl) dX12_sleepyBy_105 (Nat.le_of_ble_eq_true rfl) (Nat.le_of_ble_eq_true rfl) ?_
      exact rt_i rfl
    · have h3 := (nI_e0 (by omega)).mp h3
      refine PW_iload_n (i := 1) dX12_sleepyBy_6 rfl rfl ?_
      refine PW_iconst (v := 3) dX12_sleepyBy_7 (by decide) ?_
      refine PW_icmp_ge 15 dX12_sleepyBy_8 (by decide) (fun h8 => ?_) (fun h8 => ?_)
      · have h8 := jle (a := 3) h8
        refine PW_iload_n (i := 1) dX12_sleepyBy_15 rfl rfl ?_
        refine PW_iconst (v := 3) dX12_sleepyBy_16 (by decide) ?_
        refine PW_isub dX12_sleepyBy_17 ?_
        refine PW_goto 22 dX12_sleepyBy_18 (by decide) ?_
        refine PW_istore dX12_sleepyBy_22 (Nat.le_of_ble_eq_true rfl) rfl ?_
        refine PW_iload_n (i := 0) dX12_sleepyBy_24 rfl rfl ?_
        refine PW_tableIn 104 dX12_sleepyBy_25 (by decide) (by decide) rfl (by decide) ?_
        refine PW_iconst (v := 0) dX12_sleepyBy_104 (by decide) ?_
        refine PW_ireturn rfl (rfl) dX12_sleepyBy_105 (Nat.le_of_ble_eq_true rfl) (Nat.le_of_ble_eq_true rfl) ?_
        exact rt_i rfl
      · have h8 := jnle (a := 3) h8
        refine PW_iconst (v := 0) dX12_sleepyBy_11 (by decide) ?_
        refine PW_goto 22 dX12_sleepyBy_12 (by decide) ?_
        refine PW_istore dX12_sleepyBy_22 (Nat.le_of_ble_eq_true rfl) rfl ?_
        refine PW_iload_n (i := 0) dX12_sleepyBy_24 rfl rfl ?_
        refine PW_tableIn 104 dX12_sleepyBy_25 (by decide) (by decide) rfl (by decide) ?_
        refine PW_iconst (v := 0) dX12_sleepyBy_104 (by decide) ?_
        refine PW_ireturn rfl (rfl) dX12_sleepyBy_105 (Nat.le_of_ble_eq_true rfl) (Nat.le_of_ble_eq_true rfl) ?_
        exact rt_i rfl
set_option maxRecDepth 100000 in
set_option maxHeartbeats 4000000 in
theorem spX12_moreBy {G : GE} {d : Nat} {M : Mm} {k : Nat} (hk : k < 6) : Mt G iX12_moreBy d [.int (nI k)] M (Rt (nI (mor k)) M) := by
  refine Mt_in 0 (ls := [.int (nI k)]) moX12_moreBy (Nat.le_of_ble_eq_true rfl) rfl ?_
  refine PW_iload_n (i := 0) dX12_moreBy_0 rfl rfl ?_
  refine PW_iconst (v := 2) dX12_moreBy_1 (by decide) ?_
  refine PW_icmp_ne 9 dX12_moreBy_2 (by decide) (fun h2 => ?_) (fun h2 => ?_)
  · have h2 := jne (b := 2) h2
    refine PW_iload_n (i := 0) dX12_moreBy_9 rfl rfl ?_
    refine PW_iconst (v := 5) dX12_moreBy_10 (by decide) ?_
    refine PW_icmp_ne 18 dX12_moreBy_11 (by decide) (fun h11 => ?_) (fun h11 => ?_)
    · have h11 := jne (b := 5) h11
      refine PW_iconst (v := 1) dX12_moreBy_18 (by decide) ?_
      refine PW_ireturn rfl (rfl) dX12_moreBy_19 (Nat.le_of_ble_eq_true rfl) (Nat.le_of_ble_eq_true rfl) ?_
      refine rt_i ?_
      unfold mor
      first | (rw [if_pos h2]; rfl) | (rw [if_neg h2, if_pos h11]; rfl) | (rw [if_neg h2, if_neg h11]; rfl)
    · have h11 := jeq (b := 5) h11
      refine PW_iconst (v := 0) dX12_moreBy_14 (by decide) ?_
      refine PW_goto 19 dX12_moreBy_15 (by decide) ?_
      refine PW_ireturn rfl (rfl) dX12_moreBy_19 (Nat.le_of_ble_eq_true rfl) (Nat.le_of_ble_eq_true rfl) ?_
      refine rt_i ?_
      unfold mor
      first | (rw [if_pos h2]; rfl) | (rw [if_neg h2, if_pos h11]; rfl) | (rw [if_neg h2, if_neg h11]; rfl)
  · have h2 := jeq (b := 2) h2
    refine PW_iconst (v := 2) dX12_moreBy_5 (by decide) ?_
    refine PW_goto 19 dX12_moreBy_6 (by decide) ?_
    refine PW_ireturn rfl (rfl) dX12_moreBy_19 (Nat.le_of_ble_eq_true rfl) (Nat.le_of_ble_eq_true rfl) ?_
    refine rt_i ?_
    unfold mor
    first | (rw [if_pos h2]; rfl) | (rw [if_neg h2, if_pos h11]; rfl) | (rw [if_neg h2, if_neg h11]; rfl)
set_option maxRecDepth 100000 in
set_option maxHeartbeats 4000000 in
theorem spX12_sleepy {G : GE} {d : Nat} {i : MI0} {S : MS} {Y : Nat} (hY : YS S Y) {b : Nat} {h : Hm} (hH : MH i Y h) (hV : HV b h) (hb : b ≤ 1000) (hd : 2 ≤ d) {j : Nat} (hj : j < hn h) : Mt G iX12_sleepy d [.ref Y, .int (nI j)] (i, S) (Rt (nI (sly h (hf h) j)) (i, S)) := by
  have hY' := hY
  obtain ⟨Yt, ⟨Yt1, Yr1⟩, ⟨Yt2, Yr2⟩, ⟨Yt3, Yr3⟩, ⟨Yt4, Yr4⟩, ⟨Yt5, Yr5⟩, ⟨Yt6, Yr6⟩, ⟨Yt7, Yr7⟩, ⟨Yt8, Yr8⟩, ⟨Yt9, Yr9⟩, ⟨Yt10, Yr10⟩, ⟨Yt11, Yr11⟩, ⟨Yt12, Yr12⟩, ⟨Yt13, Yr13⟩, ⟨Yt14, Yr14⟩, ⟨Yt15, Yr15⟩, ⟨Yt16, Yr16⟩, ⟨Yt17, Yr17⟩, ⟨Yt18, Yr18⟩, ⟨Yt19, Yr19⟩⟩ := hY
  refine Mt_in 0 (ls := [.ref Y, .int (nI j)]) moX12_sleepy (Nat.le_of_ble_eq_true rfl) rfl ?_
  refine PW_aload_n (i := 0) dX12_sleepy_0 rfl rfl ?_
  refine PW_getR dX12_sleepy_1 fg12_13 (Yt) (Yr2) ?_
  refine PW_iload_n (i := 1) dX12_sleepy_4 rfl rfl ?_
  have h61 := hV.1
  have h66 := hV.2.2.2.2.2 j hj
  have h63 := hV.2.2.1
  refine PW_ial (v := nI (hK h j)) dX12_sleepy_5 (Yt2) (by omega) (by omega) ((hH.2.2.2 j hj).1) ?_
  refine PW_aload_n (i := 0) dX12_sleepy_6 rfl rfl ?_
  refine PW_getR dX12_sleepy_7 fg12_16 (Yt) (Yr3) ?_
  refine PW_iload_n (i := 1) dX12_sleepy_10 rfl rfl ?_
  refine PW_ial (v := nI (hT h j)) dX12_sleepy_11 (Yt3) (by omega) (by omega) ((hH.2.2.2 j hj).2.1) ?_
  refine PW_aload_n (i := 0) dX12_sleepy_12 rfl rfl ?_
  refine PW_getR dX12_sleepy_13 fg12_22 (Yt) (Yr5) ?_
  refine PW_iload_n (i := 1) dX12_sleepy_16 rfl rfl ?_
  refine PW_ial (v := b2i ((hf h).testBit j)) dX12_sleepy_17 (Yt5) (by omega) (by omega) ((hH.2.2.2 j hj).2.2.2) ?_
  refine PW_iconst (v := 1) dX12_sleepy_18 (by decide) ?_
  refine PW_icmp_ne 26 dX12_sleepy_19 (by decide) (fun h19 => ?_) (fun h19 => ?_)
  · have h19 : (hf h).testBit j = false := by cases q : (hf h).testBit j with | false => rfl | true => exact absurd (by rw [q]; rfl) h19
    refine PW_iconst (v := 0) dX12_sleepy_26 (by decide) ?_
    refine PW_aload_n (i := 0) dX12_sleepy_27 rfl rfl ?_
    first | refine PW_eqS (show _ = [.ref Y, .int (b2i ((hf h).testBit j)), .int (nI (hT h j)), .int (nI (hK h j))] by rw [h19]; rfl) ?_
    refine PW_giv (v := nI (hw h)) dX12_sleepy_28 fg12_81 (Yt) (hH.2.2.1) ?_
    refine PW_callS dX12_sleepy_31 moX12_sleepyBy cs12_179 (by omega) rfl rfl (Nat.le_of_ble_eq_true rfl) (Nat.le_of_ble_eq_true rfl) (Nat.le_of_ble_eq_true rfl) (spX12_sleepyBy (d := d - 1) (k := hK h j) (n := hT h j) (w := hw h) (f := (hf h).testBit j) (by omega) (by omega) (by omega)) (fun v M1 hq => ?_)
    obtain ⟨rfl, rfl⟩ := hq
    refine PW_ireturn rfl (rfl) dX12_sleepy_34 (Nat.le_of_ble_eq_true rfl) (Nat.le_of_ble_eq_true rfl) ?_
    exact rt_i rfl
  · have h19 : (hf h).testBit j = true := by cases q : (hf h).testBit j with | false => rw [q] at h19; exact absurd h19 (by decide) | true => rfl
    refine PW_iconst (v := 1) dX12_sleepy_22 (by decide) ?_
    refine PW_goto 27 dX12_sleepy_23 (by decide) ?_
    refine PW_aload_n (i := 0) dX12_sleepy_27 rfl rfl ?_
    first | refine PW_eqS (show _ = [.ref Y, .int (b2i ((hf h).testBit j)), .int (nI (hT h j)), .int (nI (hK h j))] by rw [h19]; rfl) ?_
    refine PW_giv (v := nI (hw h)) dX12_sleepy_28 fg12_81 (Yt) (hH.2.2.1) ?_
    refine PW_callS dX12_sleepy_31 moX12_sleepyBy cs12_179 (by omega) rfl rfl (Nat.le_of_ble_eq_true rfl) (Nat.le_of_ble_eq_true rfl) (Nat.le_of_ble_eq_true rfl) (spX12_sleepyBy (d := d - 1) (k := hK h j) (n := hT h j) (w := hw h) (f := (hf h).testBit j) (by omega) (by omega) (by omega)) (fun v M1 hq => ?_)
    obtain ⟨rfl, rfl⟩ := hq
    refine PW_ireturn rfl (rfl) dX12_sleepy_34 (Nat.le_of_ble_eq_true rfl) (Nat.le_of_ble_eq_true rfl) ?_
    exact rt_i rfl
set_option maxRecDepth 100000 in
set_option maxHeartbeats 4000000 in
theorem lpX12_steers {G : GE} {d : Nat} {i : MI0} {S : MS} {Y : Nat} (hY : YS S Y) {b : Nat} {h : Hm} (hH : MH i Y h) (hV : HV b h) (hb : b ≤ 1000) (hd : 3 ≤ d) : ∀ (n0 j : Nat), j ≤ hn h → hn h < j + n0 → ∀ (z4 : Value), PW G iX12_steers d (Rt (pI (stw h (hf h))) (i, S)) 6 [.ref Y, .int (pI (bst (sly h (hf h)) j).1), .int (nI (bst (sly h (hf h)) j).2), .int (nI j), z4] [] (i, S) 0 0 := by
  have hY' := hY
  obtain ⟨Yt, ⟨Yt1, Yr1⟩, ⟨Yt2, Yr2⟩, ⟨Yt3, Yr3⟩, ⟨Yt4, Yr4⟩, ⟨Yt5, Yr5⟩, ⟨Yt6, Yr6⟩, ⟨Yt7, Yr7⟩, ⟨Yt8, Yr8⟩, ⟨Yt9, Yr9⟩, ⟨Yt10, Yr10⟩, ⟨Yt11, Yr11⟩, ⟨Yt12, Yr12⟩, ⟨Yt13, Yr13⟩, ⟨Yt14, Yr14⟩, ⟨Yt15, Yr15⟩, ⟨Yt16, Yr16⟩, ⟨Yt17, Yr17⟩, ⟨Yt18, Yr18⟩, ⟨Yt19, Yr19⟩⟩ := hY
  intro n0
  induction n0 with
  | zero => intro j h1 h2; exact absurd h2 (by omega)
  | succ n0 ih =>
    intro j hj1 hj2 z4
    refine PW_iload_n (i := 3) dX12_steers_6 rfl rfl ?_
    refine PW_aload_n (i := 0) dX12_steers_7 rfl rfl ?_
    refine PW_giv (v := nI (hn h)) dX12_steers_8 fg12_74 (Yt) (hH.1) ?_
    have h61 := hV.1
    refine PW_icmp_ge 52 dX12_steers_11 (by decide) (fun h11 => ?_) (fun h11 => ?_)
    · have h11 := jle h11
      have ej : j = hn h := by omega
      subst ej
      refine PW_iload_n (i := 1) dX12_steers_52 rfl rfl ?_
      refine PW_ireturn rfl (rfl) dX12_steers_53 (Nat.le_of_ble_eq_true rfl) (Nat.le_of_ble_eq_true rfl) ?_
      exact rt_i rfl
    · have h11 := jnle h11
      have Fs1 := sly_le hV (hf h) h11
      have Fs2 := bst_203 hV (hf h) hj1
      have h61 := hV.1
      refine PW_aload_n (i := 0) dX12_steers_14 rfl rfl ?_
      refine PW_iload_n (i := 3) dX12_steers_15 rfl rfl ?_
      refine PW_callV dX12_steers_16 moX12_sleepy cv12_183 (Yt) (by omega) rfl rfl (Nat.le_of_ble_eq_true rfl) (Nat.le_of_ble_eq_true rfl) (Nat.le_of_ble_eq_true rfl) (spX12_sleepy (d := d - 1) hY' hH hV hb (by omega) h11) (fun v M1 hq => ?_)
      obtain ⟨rfl, rfl⟩ := hq
      refine PW_istore dX12_steers_19 (Nat.le_of_ble_eq_true rfl) rfl ?_
      refine PW_iload dX12_steers_21 rfl ?_
      refine PW_iload_n (i := 2) dX12_steers_23 rfl rfl ?_
      refine PW_icmp_le 31 dX12_steers_24 (by decide) (fun h24 => ?_) (fun h24 => ?_)
      · have h24 := jle h24
        refine PW_iload_n (i := 1) dX12_steers_31 rfl rfl ?_
        refine PW_istore_n (i := 1) dX12_steers_32 rfl (Nat.le_of_ble_eq_true rfl) rfl ?_
        refine PW_iload dX12_steers_33 rfl ?_
        refine PW_iload_n (i := 2) dX12_steers_35 rfl rfl ?_
        refine PW_icmp_le 44 dX12_steers_36 (by decide) (fun h36 => ?_) (fun h36 => ?_)
        · have h36 := jle h36
          refine PW_iload_n (i := 2) dX12_steers_44 rfl rfl ?_
          refine PW_istore_n (i := 2) dX12_steers_45 rfl (Nat.le_of_ble_eq_true rfl) rfl ?_
          refine PW_inc1 dX12_steers_46 rfl (Nat.le_of_ble_eq_true rfl) rfl ?_
          refine PW_goto 6 dX12_steers_49 (by decide) ?_
          have q := ih (j + 1) (by omega) (by omega) (.int (nI (sly h (hf h) j)))
          first | (rw [bst_n (j := j) (f := sly h (hf h)) (by omega)] at q; exact q) | (rw [bst_s (j := j) (f := sly h (hf h)) (by omega)] at q; simp only [pI_s] at q; exact q) | (exfalso; omega)
        · have h36 := jnle h36
          refine PW_iload dX12_steers_39 rfl ?_
          refine PW_goto 45 dX12_steers_41 (by decide) ?_
          refine PW_istore_n (i := 2) dX12_steers_45 rfl (Nat.le_of_ble_eq_true rfl) rfl ?_
          refine PW_inc1 dX12_steers_46 rfl (Nat.le_of_ble_eq_true rfl) rfl ?_
          refine PW_goto 6 dX12_steers_49 (by decide) ?_
          have q := ih (j + 1) (by omega) (by omega) (.int (nI (sly h (hf h) j)))
          first | (rw [bst_n (j := j) (f := sly h (hf h)) (by omega)] at q; exact q) | (rw [bst_s (j := j) (f := sly h (hf h)) (by omega)] at q; simp only [pI_s] at q; exact q) | (exfalso; omega)
      · have h24 := jnle h24
        refine PW_iload_n (i := 3) dX12_steers_27 rfl rfl ?_
        refine PW_goto 32 dX12_steers_28 (by decide) ?_
        refine PW_istore_n (i := 1) dX12_steers_32 rfl (Nat.le_of_ble_eq_true rfl) rfl ?_
        refine PW_iload dX12_steers_33 rfl ?_
        refine PW_iload_n (i := 2) dX12_steers_35 rfl rfl ?_
        refine PW_icmp_le 44 dX12_steers_36 (by decide) (fun h36 => ?_) (fun h36 => ?_)
        · have h36 := jle h36
          refine PW_iload_n (i := 2) dX12_steers_44 rfl rfl ?_
          refine PW_istore_n (i := 2) dX12_steers_45 rfl (Nat.le_of_ble_eq_true rfl) rfl ?_
          refine PW_inc1 dX12_steers_46 rfl (Nat.le_of_ble_eq_true rfl) rfl ?_
          refine PW_goto 6 dX12_steers_49 (by decide) ?_
          have q := ih (j + 1) (by omega) (by omega) (.int (nI (sly h (hf h) j)))
          first | (rw [bst_n (j := j) (f := sly h (hf h)) (by omega)] at q; exact q) | (rw [bst_s (j := j) (f := sly h (hf h)) (by omega)] at q; simp only [pI_s] at q; exact q) | (exfalso; omega)
        · have h36 := jnle h36
          refine PW_iload dX12_steers_39 rfl ?_
          refine PW_goto 45 dX12_steers_41 (by decide) ?_
          refine PW_istore_n (i := 2) dX12_steers_45 rfl (Nat.le_of_ble_eq_true rfl) rfl ?_
          refine PW_inc1 dX12_steers_46 rfl (Nat.le_of_ble_eq_true rfl) rfl ?_
          refine PW_goto 6 dX12_steers_49 (by decide) ?_
          have q := ih (j + 1) (by omega) (by omega) (.int (nI (sly h (hf h) j)))
          first | (rw [bst_n (j := j) (f := sly h (hf h)) (by omega)] at q; exact q) | (rw [bst_s (j := j) (f := sly h (hf h)) (by omega)] at q; simp only [pI_s] at q; exact q) | (exfalso; omega)
set_option maxRecDepth 100000 in
set_option maxHeartbeats 4000000 in
theorem spX12_steers {G : GE} {d : Nat} {i : MI0} {S : MS} {Y : Nat} (hY : YS S Y) {b : Nat} {h : Hm} (hH : MH i Y h) (hV : HV b h) (hb : b ≤ 1000) (hd : 3 ≤ d) : Mt G iX12_steers d [.ref Y] (i, S) (Rt (pI (stw h (hf h))) (i, S)) := by
  have hY' := hY
  obtain ⟨Yt, ⟨Yt1, Yr1⟩, ⟨Yt2, Yr2⟩, ⟨Yt3, Yr3⟩, ⟨Yt4, Yr4⟩, ⟨Yt5, Yr5⟩, ⟨Yt6, Yr6⟩, ⟨Yt7, Yr7⟩, ⟨Yt8, Yr8⟩, ⟨Yt9, Yr9⟩, ⟨Yt10, Yr10⟩, ⟨Yt11, Yr11⟩, ⟨Yt12, Yr12⟩, ⟨Yt13, Yr13⟩, ⟨Yt14, Yr14⟩, ⟨Yt15, Yr15⟩, ⟨Yt16, Yr16⟩, ⟨Yt17, Yr17⟩, ⟨Yt18, Yr18⟩, ⟨Yt19, Yr19⟩⟩ := hY
  refine Mt_in 4 (ls := [.ref Y, .null, .null, .null, .null]) moX12_steers (Nat.le_of_ble_eq_true rfl) rfl ?_
  refine PW_iconst (v := -1) dX12_steers_0 (by decide) ?_
  refine PW_istore_n (i := 1) dX12_steers_1 rfl (Nat.le_of_ble_eq_true rfl) rfl ?_
  refine PW_iconst (v := 0) dX12_steers_2 (by decide) ?_
  refine PW_istore_n (i := 2) dX12_steers_3 rfl (Nat.le_of_ble_eq_true rfl) rfl ?_
  refine PW_iconst (v := 0) dX12_steers_4 (by decide) ?_
  refine PW_istore_n (i := 3) dX12_steers_5 rfl (Nat.le_of_ble_eq_true rfl) rfl ?_
  exact lpX12_steers hY' hH hV hb hd (hn h + 1) 0 (by omega) (by omega) .null
/-- pass's loop, j of the crew done -/
def GP (i i' : MI0) (Y : Nat) (h : Hm) (w j : Nat) : Prop := i' Y 2 = iN (hp (goH h w)) ∧ (∀ k, k ≠ 2 → i' Y k = i Y k) ∧ (∀ q, q ≠ Y → q ≠ Y + 3 → q ≠ Y + 5 → i' q = i q) ∧ (∀ q, q < j → i' (Y + 3) q = nI (hT (goH h w) q) ∧ i' (Y + 5) q = 0) ∧ ∀ q, j ≤ q → i' (Y + 3) q = i (Y + 3) q
theorem pI_m1 {w : Nat} (hw : w < 1000) : pI w = -1 ↔ w = 0 := by
  rw [← pI_0, pI_inj hw (by decide)]
theorem GP_s {i i' i2 : MI0} {S : MS} {Y : Nat} {h : Hm} {w j : Nat} {v : Int32} (g : GP i i' Y h w j) (e : i2 = mi (wI (wI (i', S) (Y + 3) j v) (Y + 5) j 0)) (hv : v = nI (hT (goH h w) j)) : GP i i2 Y h w (j + 1) := by
  obtain ⟨g1, g2, g3, g4, g5⟩ := g
  subst e
  refine ⟨?_, fun k hk => ?_, fun q h1 h2 h3 => ?_, fun q hq => ?_, fun q hq => ?_⟩
  · rw [rI_a _ _ _ (by omega), rI_a _ _ _ (by omega)]; exact g1
  · rw [rI_a _ _ _ (by omega), rI_a _ _ _ (by omega)]; exact g2 k hk
  · rw [rI_f _ _ h3, rI_f _ _ h2]; exact g3 q h1 h2 h3
  · by_cases e : q = j
    · rw [e, rI_s, rI_a _ _ _ (by omega), rI_s]; exact ⟨hv, rfl⟩
    · rw [rI_a _ _ _ (by omega), rI_k _ _ _ e, rI_k _ _ _ e, rI_a _ _ _ (by omega)]; exact g4 q (by omega)
  · rw [rI_a _ _ _ (by omega), rI_k _ _ _ (by omega)]; exact g5 q (by omega)
theorem GP_end {i i' i2 : MI0} {S : MS} {Y : Nat} {h : Hm} {w : Nat} {u : Int32} (hH : MH i Y h) (g : GP i i' Y h w (hn h)) (e : i2 = mi (wI (i', S) Y 3 u)) (hu : u = nI (hw h + 1)) : MH i2 Y (goH h w) ∧ CQ i i2 Y := by
  obtain ⟨g1, g2, g3, g4, g5⟩ := g
  subst e
  refine ⟨⟨?_, ?_, ?_, fun j hj => ⟨?_, ?_, ?_, ?_⟩⟩, fun k h1 h2 => ?_, fun q h1 h2 h3 => ?_⟩
  · rw [rI_k _ _ _ (by decide)]; exact (g2 1 (by decide)).trans hH.1
  · rw [rI_k _ _ _ (by decide)]; exact g1
  · rw [rI_s, hu]; rfl
  · rw [rI_a _ _ _ (by omega)]; exact (congrFun (g3 (Y + 2) (by omega) (by omega) (by omega)) j).trans (hH.2.2.2 j hj).1
  · rw [rI_a _ _ _ (by omega)]; exact (g4 j hj).1
  · rw [rI_a _ _ _ (by omega)]; exact (congrFun (g3 (Y + 4) (by omega) (by omega) (by omega)) j).trans (hH.2.2.2 j hj).2.2.1
  · rw [rI_a _ _ _ (by omega)]; rw [show (hf (goH h w)).testBit j = false from Nat.zero_testBit j]; exact (g4 j hj).2
  · rw [rI_k _ _ _ h2]; exact g2 k h1
  · rw [rI_f _ _ h1]; exact g3 q h1 h2 h3
set_option maxRecDepth 100000 in
set_option maxHeartbeats 4000000 in
theorem lpX12_pass {G : GE} {d : Nat} {i : MI0} {S : MS} {Y : Nat} (hY : YS S Y) {b : Nat} {h : Hm} (hH : MH i Y h) (hV : HV b h) (hb : b ≤ 1000) (hd : 4 ≤ d) {w : Nat} (hw9 : w ≤ hn h) : ∀ (n0 j : Nat), j ≤ hn h → hn h < j + n0 → ∀ (i' : MI0) (z3 : Value), GP i i' Y h w j → PW G iX12_pass d (Wi (pI w) S (fun i' => MH i' Y (goH h w) ∧ CQ i i' Y)) 31 [.ref Y, .int (pI w), .int (nI j), z3] [] (i', S) 0 0 := by
  have hY' := hY
  obtain ⟨Yt, ⟨Yt1, Yr1⟩, ⟨Yt2, Yr2⟩, ⟨Yt3, Yr3⟩, ⟨Yt4, Yr4⟩, ⟨Yt5, Yr5⟩, ⟨Yt6, Yr6⟩, ⟨Yt7, Yr7⟩, ⟨Yt8, Yr8⟩, ⟨Yt9, Yr9⟩, ⟨Yt10, Yr10⟩, ⟨Yt11, Yr11⟩, ⟨Yt12, Yr12⟩, ⟨Yt13, Yr13⟩, ⟨Yt14, Yr14⟩, ⟨Yt15, Yr15⟩, ⟨Yt16, Yr16⟩, ⟨Yt17, Yr17⟩, ⟨Yt18, Yr18⟩, ⟨Yt19, Yr19⟩⟩ := hY
  intro n0
  induction n0 with
  | zero => intro j h1 h2; exact absurd h2 (by omega)
  | succ n0 ih =>
    intro j hj1 hj2 i' z3 gp
    refine PW_iload_n (i := 2) dX12_pass_31 rfl rfl ?_
    refine PW_aload_n (i := 0) dX12_pass_32 rfl rfl ?_
    refine PW_giv (v := nI (hn h)) dX12_pass_33 fg12_74 (Yt) ((gp.2.1 1 (by decide)).trans hH.1) ?_
    have h61 := hV.1
    have h63 := hV.2.2.1
    refine PW_icmp_ge 117 dX12_pass_36 (by decide) (fun h36 => ?_) (fun h36 => ?_)
    · have h36 := jle h36
      have ej : j = hn h := by omega
      subst ej
      refine PW_aload_n (i := 0) dX12_pass_117 rfl rfl ?_
      refine PW_dup dX12_pass_118 rfl ?_
      refine PW_giv (v := nI (hw h)) dX12_pass_119 fg12_81 (Yt) ((gp.2.1 3 (by decide)).trans hH.2.2.1) ?_
      refine PW_iconst (v := 1) dX12_pass_122 (by decide) ?_
      refine PW_iadd dX12_pass_123 ?_
      refine PW_eqi (nI_1 _) ?_
      refine PW_putI dX12_pass_124 fr12_81 (fun h => by cases h) (Yt) ?_
      refine PW_iload_n (i := 1) dX12_pass_127 rfl rfl ?_
      refine PW_ireturn rfl (rfl) dX12_pass_128 (Nat.le_of_ble_eq_true rfl) (Nat.le_of_ble_eq_true rfl) ?_
      exact Wi_mk rfl rfl (GP_end hH gp rfl rfl)
    · have h36 := jnle h36
      have h66 := hV.2.2.2.2.2 j h36
      have hm := mor_le (hK h j)
      refine PW_aload_n (i := 0) dX12_pass_39 rfl rfl ?_
      refine PW_getR dX12_pass_40 fg12_16 (Yt) (Yr3) ?_
      refine PW_iload_n (i := 2) dX12_pass_43 rfl rfl ?_
      refine PW_ial (v := nI (hT h j)) dX12_pass_44 (Yt3) (by omega) (by omega) ((gp.2.2.2.2 j (Nat.le_refl _)).trans (hH.2.2.2 j h36).2.1) ?_
      refine PW_aload_n (i := 0) dX12_pass_45 rfl rfl ?_
      refine PW_getR dX12_pass_46 fg12_13 (Yt) (Yr2) ?_
      refine PW_iload_n (i := 2) dX12_pass_49 rfl rfl ?_
      refine PW_ial (v := nI (hK h j)) dX12_pass_50 (Yt2) (by omega) (by omega) ((congrFun (gp.2.2.1 (Y + 2) (by omega) (by omega) (by omega)) j).trans (hH.2.2.2 j h36).1) ?_
      refine PW_callS dX12_pass_51 moX12_moreBy cs12_189 (by omega) rfl rfl (Nat.le_of_ble_eq_true rfl) (Nat.le_of_ble_eq_true rfl) (Nat.le_of_ble_eq_true rfl) (spX12_moreBy (d := d - 1) (by omega)) (fun v M1 hq => ?_)
      obtain ⟨rfl, rfl⟩ := hq
      refine PW_iadd dX12_pass_54 ?_
      refine PW_eqi (nI_add _ _) ?_
      refine PW_istore_n (i := 3) dX12_pass_55 rfl (Nat.le_of_ble_eq_true rfl) rfl ?_
      refine PW_aload_n (i := 0) dX12_pass_56 rfl rfl ?_
      refine PW_getR dX12_pass_57 fg12_16 (Yt) (Yr3) ?_
      refine PW_iload_n (i := 2) dX12_pass_60 rfl rfl ?_
      refine PW_iload_n (i := 2) dX12_pass_61 rfl rfl ?_
      refine PW_iload_n (i := 1) dX12_pass_62 rfl rfl ?_
      refine PW_icmp_ne 91 dX12_pass_63 (by decide) (fun h63 => ?_) (fun h63 => ?_)
      · have h63b : ¬ w = j + 1 := fun q => h63 ((pI_eq (by omega) (by omega)).mpr q)
        refine PW_iload_n (i := 3) dX12_pass_91 rfl rfl ?_
        refine PW_bipush (v := 99) dX12_pass_92 (by decide) ?_
        refine PW_icmp_le 102 dX12_pass_94 (by decide) (fun h94 => ?_) (fun h94 => ?_)
        · have h94 := jle (b := 99) h94
          refine PW_iload_n (i := 3) dX12_pass_102 rfl rfl ?_
          refine PW_ias dX12_pass_103 (Yt3) (by omega) (by omega) ?_
          refine PW_aload_n (i := 0) dX12_pass_104 rfl rfl ?_
          refine PW_getR dX12_pass_105 fg12_22 (Yt) (Yr5) ?_
          refine PW_iload_n (i := 2) dX12_pass_108 rfl rfl ?_
          refine PW_iconst (v := 0) dX12_pass_109 (by decide) ?_
          refine PW_ias dX12_pass_110 (Yt5) (by omega) (by omega) ?_
          refine PW_inc1 dX12_pass_111 rfl (Nat.le_of_ble_eq_true rfl) rfl ?_
          refine PW_goto 31 dX12_pass_114 (by decide) ?_
          refine PW_nm rfl (fun i2 e2 => ?_)
          refine ih (j + 1) (by omega) (by omega) i2 _ (GP_s gp e2 ?_)
          show _ = nI (if w = j + 1 then hT h j - 4 else min 99 (hT h j + mor (hK h j)))
          first | (rw [if_neg h63b]; first | (rw [Nat.min_eq_left (by omega)]; rfl) | (rw [Nat.min_eq_right (by omega)]; done)) | (rw [if_pos h63b]; first | (rw [show hT h j - 4 = 0 by omega]; rfl) | exact pk_sub (b := 4) (by omega))
        · have h94 := jnle (b := 99) h94
          refine PW_bipush (v := 99) dX12_pass_97 (by decide) ?_
          refine PW_goto 103 dX12_pass_99 (by decide) ?_
          refine PW_ias dX12_pass_103 (Yt3) (by omega) (by omega) ?_
          refine PW_aload_n (i := 0) dX12_pass_104 rfl rfl ?_
          refine PW_getR dX12_pass_105 fg12_22 (Yt) (Yr5) ?_
          refine PW_iload_n (i := 2) dX12_pass_108 rfl rfl ?_
          refine PW_iconst (v := 0) dX12_pass_109 (by decide) ?_
          refine PW_ias dX12_pass_110 (Yt5) (by omega) (by omega) ?_
          refine PW_inc1 dX12_pass_111 rfl (Nat.le_of_ble_eq_true rfl) rfl ?_
          refine PW_goto 31 dX12_pass_114 (by decide) ?_
          refine PW_nm rfl (fun i2 e2 => ?_)
          refine ih (j + 1) (by omega) (by omega) i2 _ (GP_s gp e2 ?_)
          show _ = nI (if w = j + 1 then hT h j - 4 else min 99 (hT h j + mor (hK h j)))
          first | (rw [if_neg h63b]; first | (rw [Nat.min_eq_left (by omega)]; rfl) | (rw [Nat.min_eq_right (by omega)]; done)) | (rw [if_pos h63b]; first | (rw [show hT h j - 4 = 0 by omega]; rfl) | exact pk_sub (b := 4) (by omega))
      · have h63b := (pI_eq (by omega) (by omega)).mp h63
        refine PW_aload_n (i := 0) dX12_pass_66 rfl rfl ?_
        refine PW_getR dX12_pass_67 fg12_16 (Yt) (Yr3) ?_
        refine PW_iload_n (i := 2) dX12_pass_70 rfl rfl ?_
        refine PW_ial (v := nI (hT h j)) dX12_pass_71 (Yt3) (by omega) (by omega) ((gp.2.2.2.2 j (Nat.le_refl _)).trans (hH.2.2.2 j h36).2.1) ?_
        refine PW_iconst (v := 4) dX12_pass_72 (by decide) ?_
        refine PW_icmp_ge 80 dX12_pass_73 (by decide) (fun h73 => ?_) (fun h73 => ?_)
        · have h73 := jle (a := 4) h73
          refine PW_aload_n (i := 0) dX12_pass_80 rfl rfl ?_
          refine PW_getR dX12_pass_81 fg12_16 (Yt) (Yr3) ?_
          refine PW_iload_n (i := 2) dX12_pass_84 rfl rfl ?_
          refine PW_ial (v := nI (hT h j)) dX12_pass_85 (Yt3) (by omega) (by omega) ((gp.2.2.2.2 j (Nat.le_refl _)).trans (hH.2.2.2 j h36).2.1) ?_
          refine PW_iconst (v := 4) dX12_pass_86 (by decide) ?_
          refine PW_isub dX12_pass_87 ?_
          refine PW_goto 103 dX12_pass_88 (by decide) ?_
          refine PW_ias dX12_pass_103 (Yt3) (by omega) (by omega) ?_
          refine PW_aload_n (i := 0) dX12_pass_104 rfl rfl ?_
          refine PW_getR dX12_pass_105 fg12_22 (Yt) (Yr5) ?_
          refine PW_iload_n (i := 2) dX12_pass_108 rfl rfl ?_
          refine PW_iconst (v := 0) dX12_pass_109 (by decide) ?_
          refine PW_ias dX12_pass_110 (Yt5) (by omega) (by omega) ?_
          refine PW_inc1 dX12_pass_111 rfl (Nat.le_of_ble_eq_true rfl) rfl ?_
          refine PW_goto 31 dX12_pass_114 (by decide) ?_
          refine PW_nm rfl (fun i2 e2 => ?_)
          refine ih (j + 1) (by omega) (by omega) i2 _ (GP_s gp e2 ?_)
          show _ = nI (if w = j + 1 then hT h j - 4 else min 99 (hT h j + mor (hK h j)))
          first | (rw [if_neg h63b]; first | (rw [Nat.min_eq_left (by omega)]; rfl) | (rw [Nat.min_eq_right (by omega)]; done)) | (rw [if_pos h63b]; first | (rw [show hT h j - 4 = 0 by omega]; rfl) | exact pk_sub (b := 4) (by omega))
        · have h73 := jnle (a := 4) h73
          refine PW_iconst (v := 0) dX12_pass_76 (by decide) ?_
          refine PW_goto 103 dX12_pass_77 (by decide) ?_
          refine PW_ias dX12_pass_103 (Yt3) (by omega) (by omega) ?_
          refine PW_aload_n (i := 0) dX12_pass_104 rfl rfl ?_
          refine PW_getR dX12_pass_105 fg12_22 (Yt) (Yr5) ?_
          refine PW_iload_n (i := 2) dX12_pass_108 rfl rfl ?_
          refine PW_iconst (v := 0) dX12_pass_109 (by decide) ?_
          refine PW_ias dX12_pass_110 (Yt5) (by omega) (by omega) ?_
          refine PW_inc1 dX12_pass_111 rfl (Nat.le_of_ble_eq_true rfl) rfl ?_
          refine PW_goto 31 dX12_pass_114 (by decide) ?_
          refine PW_nm rfl (fun i2 e2 => ?_)
          refine ih (j + 1) (by omega) (by omega) i2 _ (GP_s gp e2 ?_)
          show _ = nI (if w = j + 1 then hT h j - 4 else min 99 (hT h j + mor (hK h j)))
          first | (rw [if_neg h63b]; first | (rw [Nat.min_eq_left (by omega)]; rfl) | (rw [Nat.min_eq_right (by omega)]; done)) | (rw [if_pos h63b]; first | (rw [show hT h j - 4 = 0 by omega]; rfl) | exact pk_sub (b := 4) (by omega))
set_option maxRecDepth 100000 in
set_option maxHeartbeats 4000000 in
theorem spX12_pass {G : GE} {d : Nat} {i : MI0} {S : MS} {Y : Nat} (hY : YS S Y) {b : Nat} {h : Hm} (hH : MH i Y h) (hV : HV b h) (hb : b ≤ 1000) (hd : 4 ≤ d) : Mt G iX12_pass d [.ref Y] (i, S) (Wi (pI (stw h (hf h))) S (fun i' => MH i' Y (pas h) ∧ CQ i i' Y)) := by
  have hY' := hY
  obtain ⟨Yt, ⟨Yt1, Yr1⟩, ⟨Yt2, Yr2⟩, ⟨Yt3, Yr3⟩, ⟨Yt4, Yr4⟩, ⟨Yt5, Yr5⟩, ⟨Yt6, Yr6⟩, ⟨Yt7, Yr7⟩, ⟨Yt8, Yr8⟩, ⟨Yt9, Yr9⟩, ⟨Yt10, Yr10⟩, ⟨Yt11, Yr11⟩, ⟨Yt12, Yr12⟩, ⟨Yt13, Yr13⟩, ⟨Yt14, Yr14⟩, ⟨Yt15, Yr15⟩, ⟨Yt16, Yr16⟩, ⟨Yt17, Yr17⟩, ⟨Yt18, Yr18⟩, ⟨Yt19, Yr19⟩⟩ := hY
  refine Mt_in 3 (ls := [.ref Y, .null, .null, .null]) moX12_pass (Nat.le_of_ble_eq_true rfl) rfl ?_
  refine PW_aload_n (i := 0) dX12_pass_0 rfl rfl ?_
  refine PW_callV dX12_pass_1 moX12_steers cv12_186 (Yt) (by omega) rfl rfl (Nat.le_of_ble_eq_true rfl) (Nat.le_of_ble_eq_true rfl) (Nat.le_of_ble_eq_true rfl) (spX12_steers (d := d - 1) hY' hH hV hb (by omega)) (fun v M1 hq => ?_)
  obtain ⟨rfl, rfl⟩ := hq
  have hw9 := stw_le h (hf h)
  have h61 := hV.1
  generalize ew : stw h (hf h) = w at hw9
  refine PW_istore_n (i := 1) dX12_pass_4 rfl (Nat.le_of_ble_eq_true rfl) rfl ?_
  refine PW_aload_n (i := 0) dX12_pass_5 rfl rfl ?_
  refine PW_dup dX12_pass_6 rfl ?_
  refine PW_giv (v := iN (hp h)) dX12_pass_7 fg12_78 (Yt) (hH.2.1) ?_
  refine PW_iload_n (i := 1) dX12_pass_10 rfl rfl ?_
  refine PW_iconst (v := -1) dX12_pass_11 (by decide) ?_
  refine PW_icmp_ne 19 dX12_pass_12 (by decide) (fun h12 => ?_) (fun h12 => ?_)
  · have h12 : ¬ w = 0 := fun q => h12 ((pI_m1 (by omega)).mpr q)
    refine PW_aload_n (i := 0) dX12_pass_19 rfl rfl ?_
    refine PW_getR dX12_pass_20 fg12_19 (Yt) (Yr4) ?_
    refine PW_iload_n (i := 1) dX12_pass_23 rfl rfl ?_
    refine PW_eqi (show pI w = nI (w - 1) by rw [show w = (w - 1) + 1 by omega]; exact pI_s _) ?_
    refine PW_ial (v := iN (hN h (w - 1))) dX12_pass_24 (Yt4) (by omega) (by omega) ((hH.2.2.2 (w - 1) (by omega)).2.2.1) ?_
    refine PW_iadd dX12_pass_25 ?_
    refine PW_putI dX12_pass_26 fr12_78 (fun h => by cases h) (Yt) ?_
    refine PW_iconst (v := 0) dX12_pass_29 (by decide) ?_
    refine PW_istore_n (i := 2) dX12_pass_30 rfl (Nat.le_of_ble_eq_true rfl) rfl ?_
    refine PW_nm rfl (fun i2 e2 => ?_)
    unfold pas
    rw [ew]
    refine lpX12_pass hY' hH hV hb hd hw9 (hn h + 1) 0 (by omega) (by omega) i2 _ ⟨?_, fun k hk => by rw [e2, rI_k _ _ _ hk]; rfl, fun q h1 h2 h3 => by rw [e2, rI_f _ _ h1]; rfl, fun q hq => absurd hq (Nat.not_lt_zero q), fun q hq => by rw [e2, rI_f _ _ (by omega)]; rfl⟩
    rw [e2, rI_s]
    show _ = iN (if w = 0 then hp h else hp h + hN h (w - 1))
    first | (rw [if_pos h12, show (0 : Int32) = iN 0 from rfl, iN_add, Int.add_zero]) | (rw [if_neg h12, iN_add])
  · have h12 := (pI_m1 (by omega)).mp h12
    refine PW_iconst (v := 0) dX12_pass_15 (by decide) ?_
    refine PW_goto 25 dX12_pass_16 (by decide) ?_
    refine PW_iadd dX12_pass_25 ?_
    refine PW_putI dX12_pass_26 fr12_78 (fun h => by cases h) (Yt) ?_
    refine PW_iconst (v := 0) dX12_pass_29 (by decide) ?_
    refine PW_istore_n (i := 2) dX12_pass_30 rfl (Nat.le_of_ble_eq_true rfl) rfl ?_
    refine PW_nm rfl (fun i2 e2 => ?_)
    unfold pas
    rw [ew]
    refine lpX12_pass hY' hH hV hb hd hw9 (hn h + 1) 0 (by omega) (by omega) i2 _ ⟨?_, fun k hk => by rw [e2, rI_k _ _ _ hk]; rfl, fun q h1 h2 h3 => by rw [e2, rI_f _ _ h1]; rfl, fun q hq => absurd hq (Nat.not_lt_zero q), fun q hq => by rw [e2, rI_f _ _ (by omega)]; rfl⟩
    rw [e2, rI_s]
    show _ = iN (if w = 0 then hp h else hp h + hN h (w - 1))
    first | (rw [if_pos h12, show (0 : Int32) = iN 0 from rfl, iN_add, Int.add_zero]) | (rw [if_neg h12, iN_add])

/-! ===== the reference: fedBy, placeBy ===== -/
def dgt (B x t : Nat) : Nat := x / B ^ t % B
def cwN (B x : Nat) : Nat → Nat
  | 0 => 0
  | j + 1 => cwN B x j + pk1 (dgt B x j)
theorem pk1_le (k : Nat) : pk1 k ≤ 1 := by unfold pk1; split <;> omega
theorem cwN_le (B x : Nat) : ∀ j, cwN B x j ≤ j
  | 0 => Nat.le_refl _
  | j + 1 => by
    have := cwN_le B x j
    have := pk1_le (dgt B x j)
    unfold cwN
    omega
def lw (B n x k : Nat) : Nat := dgt B x (n - 1 - k)
theorem dgt_lt {B x t : Nat} (h : 0 < B) : dgt B x t < B := Nat.mod_lt _ h
def stpN (h : Hm) (w : Nat → Nat) : Nat → Hm
  | 0 => h
  | k + 1 => stp (stpN h w k) (w k)
theorem stpN_V {b : Nat} {h : Hm} (hv : HV b h) (w : Nat → Nat) : ∀ k, HV (b + k) (stpN h w k)
  | 0 => hv
  | k + 1 => stp_V (stpN_V hv w k) (w k)
theorem stpN_n (h : Hm) (w : Nat → Nat) : ∀ k, hn (stpN h w k) = hn h
  | 0 => rfl
  | k + 1 => stpN_n h w k
def fdh (h : Hm) (j : Nat) : Hm := (hn h, hK h, hT h, hN h, hp h, hw h, hf h ||| 2 ^ j)
theorem fdh_V {b : Nat} {h : Hm} {j : Nat} (hv : HV b h) (hj : j < hn h) : HV b (fdh h j) :=
  ⟨hv.1, Nat.or_lt_two_pow hv.2.1 (Nat.pow_lt_pow_right (by decide) hj), hv.2.2⟩
theorem pas_fdh (h : Hm) (j : Nat) : pas (fdh h j) = stp h (j + 1) := by
  unfold stp
  rw [if_neg (by omega), show j + 1 - 1 = j by omega]
  rfl
theorem pas_0 (h : Hm) : pas h = stp h 0 := rfl
theorem MH.fd {i i' : MI0} {S : MS} {Y j : Nat} {h : Hm} (m1 : MH i Y h) (e : i' = mi (wI (i, S) (Y + 5) j 1)) : MH i' Y (fdh h j) := by
  subst e
  refine ⟨?_, ?_, ?_, fun a ha => ⟨?_, ?_, ?_, ?_⟩⟩
  · rw [rI_a _ _ _ (by omega)]; exact m1.1
  · rw [rI_a _ _ _ (by omega)]; exact m1.2.1
  · rw [rI_a _ _ _ (by omega)]; exact m1.2.2.1
  · rw [rI_a _ _ _ (by omega)]; exact (m1.2.2.2 a ha).1
  · rw [rI_a _ _ _ (by omega)]; exact (m1.2.2.2 a ha).2.1
  · rw [rI_a _ _ _ (by omega)]; exact (m1.2.2.2 a ha).2.2.1
  · rw [show (hf (fdh h j)).testBit a = ((hf h).testBit a || decide (j = a)) from fd_bit]
    by_cases q : a = j
    · rw [q, rI_s, decide_eq_true rfl, Bool.or_true]; rfl
    · rw [rI_k _ _ _ q, decide_eq_false (fun z => q z.symm), Bool.or_false]; exact (m1.2.2.2 a ha).2.2.2
theorem div_pow_s (x B j : Nat) : x / B ^ j / B = x / B ^ (j + 1) := by rw [Nat.div_div_eq_div_mul, Nat.pow_succ]
set_option maxRecDepth 100000 in
set_option maxHeartbeats 4000000 in
theorem lpX12_fedBy {G : GE} {d : Nat} {i : MI0} {S : MS} {Y : Nat} (hY : YS S Y) {B x n : Nat} (hB1 : 1 ≤ B) (hB7 : B ≤ 7) (h1 : i Y 1 = nI (B - 1)) (hx : x < 2 ^ 30) (hn4 : n ≤ 4) (hn1 : 1 ≤ n) : ∀ (n0 j : Nat), j ≤ n → n < j + n0 → ∀ (i' : MI0), (∀ k, n ≤ k + j → k < n → i' (Y + 14) k = nI (lw B n x k)) → (∀ q, q ≠ Y + 14 → i' q = i q) → PW G iX12_fedBy d (Wi (nI (cwN B x n)) S (fun i' => (∀ k, k < n → i' (Y + 14) k = nI (lw B n x k)) ∧ ∀ q, q ≠ Y + 14 → i' q = i q)) 10 [.ref Y, .int (nI x), .int (nI n), .int (nI (x / B ^ j)), .int (nI (cwN B x j)), .int (iN ((n : Int) - 1 - (j : Int)))] [] (i', S) 0 0 := by
  have hY' := hY
  obtain ⟨Yt, ⟨Yt1, Yr1⟩, ⟨Yt2, Yr2⟩, ⟨Yt3, Yr3⟩, ⟨Yt4, Yr4⟩, ⟨Yt5, Yr5⟩, ⟨Yt6, Yr6⟩, ⟨Yt7, Yr7⟩, ⟨Yt8, Yr8⟩, ⟨Yt9, Yr9⟩, ⟨Yt10, Yr10⟩, ⟨Yt11, Yr11⟩, ⟨Yt12, Yr12⟩, ⟨Yt13, Yr13⟩, ⟨Yt14, Yr14⟩, ⟨Yt15, Yr15⟩, ⟨Yt16, Yr16⟩, ⟨Yt17, Yr17⟩, ⟨Yt18, Yr18⟩, ⟨Yt19, Yr19⟩⟩ := hY
  intro n0
  induction n0 with
  | zero => intro j h1 h2; exact absurd h2 (by omega)
  | succ n0 ih =>
    intro j hj1 hj2 i' v1 v2
    refine PW_iload dX12_fedBy_10 rfl ?_
    have hxj : x / B ^ j ≤ x := Nat.div_le_self _ _
    have hcw := cwN_le B x j
    refine PW_if_lt 65 dX12_fedBy_12 (by decide) (fun h12 => ?_) (fun h12 => ?_)
    · have h12 := (iN_lt (y := 0) (by omega) (by omega) (by omega) (by omega)).mp h12
      have ej : j = n := by omega
      subst ej
      refine PW_iload dX12_fedBy_65 rfl ?_
      refine PW_ireturn rfl (rfl) dX12_fedBy_67 (Nat.le_of_ble_eq_true rfl) (Nat.le_of_ble_eq_true rfl) ?_
      exact Wi_mk rfl rfl ⟨fun k hk => v1 k (by omega) hk, v2⟩
    · have h12 : ¬ (n : Int) - 1 - (j : Int) < 0 := fun q => h12 ((iN_lt (y := 0) (by omega) (by omega) (by omega) (by omega)).mpr q)
      have hd7 : dgt B x j < B := dgt_lt (by omega)
      refine PW_aload_n (i := 0) dX12_fedBy_15 rfl rfl ?_
      refine PW_getR dX12_fedBy_16 fg12_49 (Yt) (Yr14) ?_
      refine PW_iload dX12_fedBy_19 rfl ?_
      refine PW_eqi (show iN ((n : Int) - 1 - (j : Int)) = nI (n - 1 - j) by rw [nI_iN]; congr 1; omega) ?_
      refine PW_iload_n (i := 3) dX12_fedBy_21 rfl rfl ?_
      refine PW_aload_n (i := 0) dX12_fedBy_22 rfl rfl ?_
      refine PW_giv (v := nI (B - 1)) dX12_fedBy_23 fg12_74 (Yt) ((congrFun (v2 Y (by omega)) 1).trans h1) ?_
      refine PW_iconst (v := 1) dX12_fedBy_26 (by decide) ?_
      refine PW_iadd dX12_fedBy_27 ?_
      refine PW_eqi (show nI (B - 1) + 1 = nI B by rw [nI_1]; congr 1; omega) ?_
      refine PW_irem dX12_fedBy_28 (fun q => absurd (jeq (b := 0) q) (by omega)) ?_
      refine PW_eqi (show _ = nI (dgt B x j) from pk_rem (by omega) (by omega) (by omega)) ?_
      refine PW_ias dX12_fedBy_29 (Yt14) (by omega) (by omega) ?_
      refine PW_nm rfl (fun i2 e2 => ?_)
      have e3 : ∀ q, q ≠ Y + 14 → i2 q = i' q := fun q hq => by rw [e2, rI_f _ _ hq]; rfl
      refine PW_iload_n (i := 3) dX12_fedBy_30 rfl rfl ?_
      refine PW_aload_n (i := 0) dX12_fedBy_31 rfl rfl ?_
      refine PW_giv (v := nI (B - 1)) dX12_fedBy_32 fg12_74 (Yt) ((congrFun (e3 Y (by omega)) 1).trans ((congrFun (v2 Y (by omega)) 1).trans h1)) ?_
      refine PW_iconst (v := 1) dX12_fedBy_35 (by decide) ?_
      refine PW_iadd dX12_fedBy_36 ?_
      refine PW_eqi (show nI (B - 1) + 1 = nI B by rw [nI_1]; congr 1; omega) ?_
      refine PW_idiv dX12_fedBy_37 (fun q => absurd (jeq (b := 0) q) (by omega)) ?_
      refine PW_eqi (show _ = nI (x / B ^ (j + 1)) by rw [← div_pow_s]; exact pk_div (by omega) (by omega) (by omega)) ?_
      refine PW_istore_n (i := 3) dX12_fedBy_38 rfl (Nat.le_of_ble_eq_true rfl) rfl ?_
      refine PW_iload dX12_fedBy_39 rfl ?_
      refine PW_aload_n (i := 0) dX12_fedBy_41 rfl rfl ?_
      refine PW_getR dX12_fedBy_42 fg12_49 (Yt) (Yr14) ?_
      refine PW_iload dX12_fedBy_45 rfl ?_
      refine PW_eqi (show iN ((n : Int) - 1 - (j : Int)) = nI (n - 1 - j) by rw [nI_iN]; congr 1; omega) ?_
      refine PW_ial (v := nI (dgt B x j)) dX12_fedBy_47 (Yt14) (by omega) (by omega) (by rw [e2]; exact rI_s _ _ _ _) ?_
      refine PW_if_le 55 dX12_fedBy_48 (by decide) (fun h48 => ?_) (fun h48 => ?_)
      · have h48 := jle (b := 0) h48
        have hpk : pk1 (dgt B x j) = 0 := if_pos (by omega)
        refine PW_iconst (v := 0) dX12_fedBy_55 (by decide) ?_
        refine PW_iadd dX12_fedBy_56 ?_
        refine PW_eqi (show _ = nI (cwN B x (j + 1)) from by rw [cwN, hpk]; first | exact nI_add _ 1 | exact nI_add _ 0) ?_
        refine PW_istore dX12_fedBy_57 (Nat.le_of_ble_eq_true rfl) rfl ?_
        refine PW_iinc dX12_fedBy_59 rfl (Nat.le_of_ble_eq_true rfl) rfl ?_
        refine PW_goto 10 dX12_fedBy_62 (by decide) ?_
        have q := ih (j + 1) (by omega) (by omega) i2 (fun k h1 h2 => ?_) (fun q hq => (e3 q hq).trans (v2 q hq))
        · rw [show iN ((n : Int) - 1 - ((j + 1 : Nat) : Int)) = iN ((n : Int) - 1 - (j : Int)) + Int32.ofInt (-1) by rw [show Int32.ofInt (-1) = iN (-1) from rfl, iN_add]; congr 1; omega] at q
          exact q
        · by_cases e : k = n - 1 - j
          · rw [e, e2, rI_s]; unfold lw; congr 2; omega
          · rw [e2, rI_k _ _ _ e]; exact v1 k (by omega) h2
      · have h48 := jnle (b := 0) h48
        have hpk : pk1 (dgt B x j) = 1 := if_neg (by omega)
        refine PW_iconst (v := 1) dX12_fedBy_51 (by decide) ?_
        refine PW_goto 56 dX12_fedBy_52 (by decide) ?_
        refine PW_iadd dX12_fedBy_56 ?_
        refine PW_eqi (show _ = nI (cwN B x (j + 1)) from by rw [cwN, hpk]; first | exact nI_add _ 1 | exact nI_add _ 0) ?_
        refine PW_istore dX12_fedBy_57 (Nat.le_of_ble_eq_true rfl) rfl ?_
        refine PW_iinc dX12_fedBy_59 rfl (Nat.le_of_ble_eq_true rfl) rfl ?_
        refine PW_goto 10 dX12_fedBy_62 (by decide) ?_
        have q := ih (j + 1) (by omega) (by omega) i2 (fun k h1 h2 => ?_) (fun q hq => (e3 q hq).trans (v2 q hq))
        · rw [show iN ((n : Int) - 1 - ((j + 1 : Nat) : Int)) = iN ((n : Int) - 1 - (j : Int)) + Int32.ofInt (-1) by rw [show Int32.ofInt (-1) = iN (-1) from rfl, iN_add]; congr 1; omega] at q
          exact q
        · by_cases e : k = n - 1 - j
          · rw [e, e2, rI_s]; unfold lw; congr 2; omega
          · rw [e2, rI_k _ _ _ e]; exact v1 k (by omega) h2
set_option maxRecDepth 100000 in
set_option maxHeartbeats 4000000 in
theorem spX12_fedBy {G : GE} {d : Nat} {i : MI0} {S : MS} {Y : Nat} (hY : YS S Y) {B x n : Nat} (hB1 : 1 ≤ B) (hB7 : B ≤ 7) (h1 : i Y 1 = nI (B - 1)) (hx : x < 2 ^ 30) (hn4 : n ≤ 4) (hn1 : 1 ≤ n) : Mt G iX12_fedBy d [.ref Y, .int (nI x), .int (nI n)] (i, S) (Wi (nI (cwN B x n)) S (fun i' => (∀ k, k < n → i' (Y + 14) k = nI (lw B n x k)) ∧ ∀ q, q ≠ Y + 14 → i' q = i q)) := by
  have hY' := hY
  obtain ⟨Yt, ⟨Yt1, Yr1⟩, ⟨Yt2, Yr2⟩, ⟨Yt3, Yr3⟩, ⟨Yt4, Yr4⟩, ⟨Yt5, Yr5⟩, ⟨Yt6, Yr6⟩, ⟨Yt7, Yr7⟩, ⟨Yt8, Yr8⟩, ⟨Yt9, Yr9⟩, ⟨Yt10, Yr10⟩, ⟨Yt11, Yr11⟩, ⟨Yt12, Yr12⟩, ⟨Yt13, Yr13⟩, ⟨Yt14, Yr14⟩, ⟨Yt15, Yr15⟩, ⟨Yt16, Yr16⟩, ⟨Yt17, Yr17⟩, ⟨Yt18, Yr18⟩, ⟨Yt19, Yr19⟩⟩ := hY
  refine Mt_in 3 (ls := [.ref Y, .int (nI x), .int (nI n), .null, .null, .null]) moX12_fedBy (Nat.le_of_ble_eq_true rfl) rfl ?_
  refine PW_iload_n (i := 1) dX12_fedBy_0 rfl rfl ?_
  refine PW_istore_n (i := 3) dX12_fedBy_1 rfl (Nat.le_of_ble_eq_true rfl) rfl ?_
  refine PW_iconst (v := 0) dX12_fedBy_2 (by decide) ?_
  refine PW_istore dX12_fedBy_3 (Nat.le_of_ble_eq_true rfl) rfl ?_
  refine PW_iload_n (i := 2) dX12_fedBy_5 rfl rfl ?_
  refine PW_iconst (v := 1) dX12_fedBy_6 (by decide) ?_
  refine PW_isub dX12_fedBy_7 ?_
  refine PW_eqi (show nI n - 1 = iN ((n : Int) - 1 - ((0 : Nat) : Int)) by rw [nI_iN, show (1 : Int32) = iN 1 from rfl, iN_sub]; congr 1; omega) ?_
  refine PW_istore dX12_fedBy_8 (Nat.le_of_ble_eq_true rfl) rfl ?_
  have q := lpX12_fedBy (G := G) (d := d) hY' hB1 hB7 h1 hx hn4 hn1 (n + 1) 0 (by omega) (by omega) i (fun k h1 h2 => absurd h2 (by omega)) (fun _ _ => rfl)
  rw [Nat.pow_zero, Nat.div_one] at q
  exact q
set_option maxRecDepth 100000 in
set_option maxHeartbeats 4000000 in
theorem lpX12_placeBy {G : GE} {d : Nat} {i : MI0} {S : MS} {Y : Nat} (hY : YS S Y) {b : Nat} {h : Hm} (hH : MH i Y h) (hV : HV b h) (hb : b + 61 ≤ 1000) (hd : 7 ≤ d) {n : Nat} {w : Nat → Nat} (hn4 : n ≤ 4) (hl : ∀ k, k < n → i (Y + 14) k = nI (w k)) (hw9 : ∀ k, k < n → w k ≤ hn h) {i1 : MI0} (p1 : SVd (i1 (Y + 13)) 0 i Y) (p2 : ∀ q, q ≠ Y + 13 → i1 q = i q) : ∀ (n0 j : Nat), j ≤ n → n < j + n0 → ∀ (i' : MI0), MH i' Y (stpN h w j) → CQ i1 i' Y → PW G iX12_placeBy d (Wi (iN (hp (stpN h w n))) S (fun i' => EQ2 i i' Y ∧ ∀ q, q ≠ Y → q ≠ Y + 3 → q ≠ Y + 5 → q ≠ Y + 13 → i' q = i q)) 6 [.ref Y, .int (nI n), .int (nI j)] [] (i', S) 0 0 := by
  have hY' := hY
  obtain ⟨Yt, ⟨Yt1, Yr1⟩, ⟨Yt2, Yr2⟩, ⟨Yt3, Yr3⟩, ⟨Yt4, Yr4⟩, ⟨Yt5, Yr5⟩, ⟨Yt6, Yr6⟩, ⟨Yt7, Yr7⟩, ⟨Yt8, Yr8⟩, ⟨Yt9, Yr9⟩, ⟨Yt10, Yr10⟩, ⟨Yt11, Yr11⟩, ⟨Yt12, Yr12⟩, ⟨Yt13, Yr13⟩, ⟨Yt14, Yr14⟩, ⟨Yt15, Yr15⟩, ⟨Yt16, Yr16⟩, ⟨Yt17, Yr17⟩, ⟨Yt18, Yr18⟩, ⟨Yt19, Yr19⟩⟩ := hY
  intro n0
  induction n0 with
  | zero => intro j h1 h2; exact absurd h2 (by omega)
  | succ n0 ih =>
    intro j hj1 hj2 i' v1 v2
    refine PW_iload_n (i := 2) dX12_placeBy_6 rfl rfl ?_
    refine PW_iload_n (i := 1) dX12_placeBy_7 rfl rfl ?_
    have h61 := hV.1
    have Fv := stpN_V hV w j
    refine PW_icmp_ge 45 dX12_placeBy_8 (by decide) (fun h8 => ?_) (fun h8 => ?_)
    · have h8 := jle h8
      have ej : j = n := by omega
      subst ej
      refine PW_aload_n (i := 0) dX12_placeBy_45 rfl rfl ?_
      refine PW_giv (v := iN (hp (stpN h w j))) dX12_placeBy_46 fg12_78 (Yt) (v1.2.1) ?_
      refine PW_istore_n (i := 2) dX12_placeBy_49 rfl (Nat.le_of_ble_eq_true rfl) rfl ?_
      refine PW_aload_n (i := 0) dX12_placeBy_50 rfl rfl ?_
      refine PW_callV dX12_placeBy_51 moX12_back cv12_221 (Yt) (by omega) rfl rfl (Nat.le_of_ble_eq_true rfl) (Nat.le_of_ble_eq_true rfl) (Nat.le_of_ble_eq_true rfl) (spX12_back (d := d - 1) hY' (by omega) p1 p2 v2.t) (fun v M1 hq => ?_)
      obtain ⟨rfl, i4, rfl, eq, ex⟩ := hq
      refine PW_iload_n (i := 2) dX12_placeBy_54 rfl rfl ?_
      refine PW_ireturn rfl (rfl) dX12_placeBy_55 (Nat.le_of_ble_eq_true rfl) (Nat.le_of_ble_eq_true rfl) ?_
      exact Wi_mk rfl rfl ⟨eq, fun q h1 h2 h3 h4 => by rw [rP_f, ex q h1 h2 h3, v2.2 q h1 h2 h3, p2 q h4]⟩
    · have h8 := jnle h8
      have hw7 := hw9 j h8
      refine PW_aload_n (i := 0) dX12_placeBy_11 rfl rfl ?_
      refine PW_getR dX12_placeBy_12 fg12_49 (Yt) (Yr14) ?_
      refine PW_iload_n (i := 2) dX12_placeBy_15 rfl rfl ?_
      refine PW_ial (v := nI (w j)) dX12_placeBy_16 (Yt14) (by omega) (by omega) ((congrFun (v2.2 (Y + 14) (by omega) (by omega) (by omega)) j).trans ((congrFun (p2 (Y + 14) (by omega)) j).trans (hl j h8))) ?_
      refine PW_if_le 34 dX12_placeBy_17 (by decide) (fun h17 => ?_) (fun h17 => ?_)
      · have h17 := jle (b := 0) h17
        have hz : w j = 0 := by omega
        have t1 := v1
        have t2 : CQ i1 i' Y := v2
        have t3 := Fv
        refine PW_aload_n (i := 0) dX12_placeBy_34 rfl rfl ?_
        refine PW_callV dX12_placeBy_35 moX12_pass cv12_205 (Yt) (by omega) rfl rfl (Nat.le_of_ble_eq_true rfl) (Nat.le_of_ble_eq_true rfl) (Nat.le_of_ble_eq_true rfl) (spX12_pass (d := d - 1) hY' t1 t3 (by omega) (by omega)) (fun v M1 hq => ?_)
        obtain ⟨rfl, i3, rfl, a1, a2⟩ := hq
        refine PW_pop dX12_placeBy_38 rfl ?_
        refine PW_inc1 dX12_placeBy_39 rfl (Nat.le_of_ble_eq_true rfl) rfl ?_
        refine PW_goto 6 dX12_placeBy_42 (by decide) ?_
        exact ih (j + 1) (by omega) (by omega) i3 (by first | (show MH i3 Y (stp (stpN h w j) (w j)); rw [hz, ← pas_0]; exact a1) | (show MH i3 Y (stp (stpN h w j) (w j)); rw [show w j = (w j - 1) + 1 by omega, ← pas_fdh]; exact a1)) (t2.trans a2)
      · have h17 := jnle (b := 0) h17
        refine PW_aload_n (i := 0) dX12_placeBy_20 rfl rfl ?_
        refine PW_getR dX12_placeBy_21 fg12_22 (Yt) (Yr5) ?_
        refine PW_aload_n (i := 0) dX12_placeBy_24 rfl rfl ?_
        refine PW_getR dX12_placeBy_25 fg12_49 (Yt) (Yr14) ?_
        refine PW_iload_n (i := 2) dX12_placeBy_28 rfl rfl ?_
        refine PW_ial (v := nI (w j)) dX12_placeBy_29 (Yt14) (by omega) (by omega) ((congrFun (v2.2 (Y + 14) (by omega) (by omega) (by omega)) j).trans ((congrFun (p2 (Y + 14) (by omega)) j).trans (hl j h8))) ?_
        refine PW_iconst (v := 1) dX12_placeBy_30 (by decide) ?_
        refine PW_isub dX12_placeBy_31 ?_
        refine PW_eqi (show nI (w j) - 1 = nI (w j - 1) by rw [show w j = (w j - 1) + 1 by omega]; exact nI_pred _) ?_
        refine PW_iconst (v := 1) dX12_placeBy_32 (by decide) ?_
        refine PW_ias dX12_placeBy_33 (Yt5) (by omega) (by omega) ?_
        refine PW_nm rfl (fun i2 e2 => ?_)
        have t1 : MH i2 Y (fdh (stpN h w j) (w j - 1)) := v1.fd e2
        have t2 : CQ i1 i2 Y := v2.trans (⟨fun k h1 h2 => by rw [e2, rI_f _ _ (by omega)]; rfl, fun q h1 h2 h3 => by rw [e2, rI_f _ _ h3]; rfl⟩ : CQ i' i2 Y)
        have t3 := fdh_V (j := w j - 1) Fv (by rw [stpN_n]; omega)
        refine PW_aload_n (i := 0) dX12_placeBy_34 rfl rfl ?_
        refine PW_callV dX12_placeBy_35 moX12_pass cv12_205 (Yt) (by omega) rfl rfl (Nat.le_of_ble_eq_true rfl) (Nat.le_of_ble_eq_true rfl) (Nat.le_of_ble_eq_true rfl) (spX12_pass (d := d - 1) hY' t1 t3 (by omega) (by omega)) (fun v M1 hq => ?_)
        obtain ⟨rfl, i3, rfl, a1, a2⟩ := hq
        refine PW_pop dX12_placeBy_38 rfl ?_
        refine PW_inc1 dX12_placeBy_39 rfl (Nat.le_of_ble_eq_true rfl) rfl ?_
        refine PW_goto 6 dX12_placeBy_42 (by decide) ?_
        exact ih (j + 1) (by omega) (by omega) i3 (by first | (show MH i3 Y (stp (stpN h w j) (w j)); rw [hz, ← pas_0]; exact a1) | (show MH i3 Y (stp (stpN h w j) (w j)); rw [show w j = (w j - 1) + 1 by omega, ← pas_fdh]; exact a1)) (t2.trans a2)
set_option maxRecDepth 100000 in
set_option maxHeartbeats 4000000 in
theorem spX12_placeBy {G : GE} {d : Nat} {i : MI0} {S : MS} {Y : Nat} (hY : YS S Y) {b : Nat} {h : Hm} (hH : MH i Y h) (hV : HV b h) (hb : b + 61 ≤ 1000) (hd : 7 ≤ d) {n : Nat} {w : Nat → Nat} (hn4 : n ≤ 4) (hl : ∀ k, k < n → i (Y + 14) k = nI (w k)) (hw9 : ∀ k, k < n → w k ≤ hn h) : Mt G iX12_placeBy d [.ref Y, .int (nI n)] (i, S) (Wi (iN (hp (stpN h w n))) S (fun i' => EQ2 i i' Y ∧ ∀ q, q ≠ Y → q ≠ Y + 3 → q ≠ Y + 5 → q ≠ Y + 13 → i' q = i q)) := by
  have hY' := hY
  obtain ⟨Yt, ⟨Yt1, Yr1⟩, ⟨Yt2, Yr2⟩, ⟨Yt3, Yr3⟩, ⟨Yt4, Yr4⟩, ⟨Yt5, Yr5⟩, ⟨Yt6, Yr6⟩, ⟨Yt7, Yr7⟩, ⟨Yt8, Yr8⟩, ⟨Yt9, Yr9⟩, ⟨Yt10, Yr10⟩, ⟨Yt11, Yr11⟩, ⟨Yt12, Yr12⟩, ⟨Yt13, Yr13⟩, ⟨Yt14, Yr14⟩, ⟨Yt15, Yr15⟩, ⟨Yt16, Yr16⟩, ⟨Yt17, Yr17⟩, ⟨Yt18, Yr18⟩, ⟨Yt19, Yr19⟩⟩ := hY
  refine Mt_in 1 (ls := [.ref Y, .int (nI n), .null]) moX12_placeBy (Nat.le_of_ble_eq_true rfl) rfl ?_
  refine PW_aload_n (i := 0) dX12_placeBy_0 rfl rfl ?_
  refine PW_callV dX12_placeBy_1 moX12_puts cv12_214 (Yt) (by omega) rfl rfl (Nat.le_of_ble_eq_true rfl) (Nat.le_of_ble_eq_true rfl) (Nat.le_of_ble_eq_true rfl) (spX12_puts (d := d - 1) hY' (by omega)) (fun v M1 hq => ?_)
  obtain ⟨rfl, i1, rfl, p1, p2⟩ := hq
  have Rh1 : MH i1 Y h := hH.kp hV.1 (by rw [p2 Y (by omega)]) (by rw [p2 Y (by omega)]) (by rw [p2 Y (by omega)]) (fun j hj => ⟨by rw [p2 _ (by omega)], by rw [p2 _ (by omega)], by rw [p2 _ (by omega)], by rw [p2 _ (by omega)]⟩)
  refine PW_iconst (v := 0) dX12_placeBy_4 (by decide) ?_
  refine PW_istore_n (i := 2) dX12_placeBy_5 rfl (Nat.le_of_ble_eq_true rfl) rfl ?_
  exact lpX12_placeBy hY' hH hV hb hd hn4 hl hw9 p1 p2 (n + 1) 0 (by omega) (by omega) i1 Rh1 (CQ.rfl' i1 Y)

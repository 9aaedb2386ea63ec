/-! ===== Course ===== -/
theorem PW_nm {G : GE} {I : MI} {d : Nat} {Post : Option Value → Mm → Prop} {pc : Nat} {ls st : List Value} {M' : Mm} {S : MS} {nc ns : Nat} (h2 : M'.2 = S) (k : ∀ i1 : MI0, i1 = mi M' → PW G I d Post pc ls st (i1, S) nc ns) : PW G I d Post pc ls st M' nc ns := by
  subst h2
  exact k M'.1 rfl
theorem rI_f (M : Mm) {a k : Nat} (v : Int32) {b : Nat} (h : b ≠ a) : mi (wI M a k v) b = mi M b := funext (fun j => rI_a M v j h)
theorem rA_f (M : Mm) {a : Nat} (f : Nat → Int32) {b : Nat} (h : b ≠ a) : mi (wA M a f) b = mi M b := funext (fun j => rA_n M f j h)
theorem rP_f (i : MI0) (S : MS) (b : Nat) : mi (i, S) b = i b := rfl
theorem HR.kp {i i' : MI0} {a : Nat} {h : Hm} (hr : HR i a h) (e : ∀ q, a ≤ q → q ≤ a + 3 → i' q = i q) : HR i' a h :=
  hr.keep (e _ (by omega) (by omega)) (e _ (by omega) (by omega)) (e _ (by omega) (by omega)) (e _ (by omega) (by omega))
/-! ===== Course ===== -/
def pasN (h : Hm) : Nat → Hm
  | 0 => h
  | k + 1 => pas (pasN h k)
theorem pasN_V {b : Nat} {h : Hm} (hv : HV b h) : ∀ k, HV (b + k) (pasN h k)
  | 0 => hv
  | k + 1 => pas_V (pasN_V hv k)
def CU (S : MS) (X c : Nat) : Prop := sT S c = (3, 0) ∧ sT S (c + 1) = (13, 61) ∧ sT S (c + 2) = (13, 61) ∧ sR S c 0 = some (c + 3) ∧ sR S c 1 = some (c + 1) ∧ sR S c 2 = some (c + 2) ∧ HS S X (c + 3)
/-- who steers in the j-th watch from here, nobody fed any more -/
def stN (h : Hm) (j : Nat) : Nat := stw (pasN h j) (hf (pasN h j))
/-- the course's rows, below n -/
def CW (i : MI0) (c : Nat) (h : Hm) (n : Nat) : Prop := ∀ k, k < n → i (c + 1) k = iN (hp (pasN h k)) ∧ i (c + 2) k = pI (stN h k)
/-- in how many of the first m watches k steers -/
def tst (h : Hm) (k : Nat) : Nat → Nat
  | 0 => 0
  | m + 1 => tst h k m + if stN h m = k + 1 then 1 else 0
theorem tst_le (h : Hm) (k : Nat) : ∀ m, tst h k m ≤ m
  | 0 => Nat.le_refl _
  | m + 1 => by
    have := tst_le h k m
    unfold tst
    split <;> omega
theorem tst_y {h : Hm} {k m : Nat} (q : stN h m = k + 1) : tst h k (m + 1) = tst h k m + 1 := by rw [tst, if_pos q]
theorem tst_n {h : Hm} {k m : Nat} (q : ¬ stN h m = k + 1) : tst h k (m + 1) = tst h k m := by rw [tst, if_neg q]; rfl
theorem stN_le (h : Hm) (j : Nat) : stN h j ≤ hn (pasN h j) := stw_le _ _
theorem pasN_n (h : Hm) : ∀ j, hn (pasN h j) = hn h
  | 0 => rfl
  | j + 1 => pasN_n h j
theorem CW_s {i i' : MI0} {c n : Nat} {h : Hm} (hw : CW i c h n) (e1 : ∀ k, k < n → i' (c + 1) k = i (c + 1) k) (e2 : ∀ k, k < n → i' (c + 2) k = i (c + 2) k) (e3 : i' (c + 1) n = iN (hp (pasN h n))) (e4 : i' (c + 2) n = pI (stN h n)) : CW i' c h (n + 1) := by
  intro k hk
  by_cases e : k = n
  · rw [e]; exact ⟨e3, e4⟩
  · rw [e1 k (by omega), e2 k (by omega)]
    exact hw k (by omega)
theorem hf64 {b : Nat} {h : Hm} (hv : HV b h) : hf h < 64 := by
  have h3 : 2 ^ hn h ≤ 2 ^ 6 := Nat.pow_le_pow_right (by decide) hv.1
  have := hv.2.1
  omega
set_option maxRecDepth 100000 in
set_option maxHeartbeats 4000000 in
theorem lpX3_run {G : GE} {d : Nat} {i : MI0} {S : MS} {X c b : Nat} {h : Hm} (hd : 7 ≤ d) (hK0 : KS S X) (hU : CU S X c) (hV : HV b h) (hb : b + 61 ≤ 1000) {m : Nat} (hm : m ≤ 60) (z1 : Value) : ∀ (n0 j : Nat), j ≤ m + 1 → m + 1 < j + n0 → ∀ (i' : MI0), HR i' (c + 3) (pasN h j) → CW i' c h j → (∀ q, (q < c ∨ c + 6 < q) → i' q = i q) → PW G iX3_run d (Wr S (fun i' => CW i' c h (m + 1) ∧ ∀ q, (q < c ∨ c + 6 < q) → i' q = i q)) 10 [.ref c, z1, .int (nI m), .int (nI j)] [] (i', S) 0 0 := by
  have hU' := hU
  obtain ⟨Fc0, Fc1, Fc2, Fc4, Fc5, Fc6, Fc3⟩ := hU
  intro n0
  induction n0 with
  | zero => intro j h1 h2; exact absurd h2 (by omega)
  | succ n0 ih =>
    intro j hj1 hj2 i' r1 r2 r3
    refine PW_iload_n (i := 3) dX3_run_10 rfl rfl ?_
    refine PW_iload_n (i := 2) dX3_run_11 rfl rfl ?_
    refine PW_icmp_gt 73 dX3_run_12 (by decide) (fun h12 => ?_) (fun h12 => ?_)
    · have h12 := jlt h12
      have ej : j = m + 1 := by omega
      subst ej
      refine PW_return rfl dX3_run_73 (Nat.le_of_ble_eq_true rfl) (Nat.le_of_ble_eq_true rfl) ?_
      exact Wr_mk rfl ⟨r2, r3⟩
    · have h12 := jnlt h12
      refine PW_iload_n (i := 3) dX3_run_15 rfl rfl ?_
      refine PW_bipush (v := 60) dX3_run_16 (by decide) ?_
      refine PW_icmp_gt 73 dX3_run_18 (by decide) (fun q => absurd (jlt (a := 60) q) (by omega)) (fun _ => ?_)
      refine PW_aload_n (i := 0) dX3_run_21 rfl rfl ?_
      refine PW_getR dX3_run_22 fg3_9 (Fc0) (Fc5) ?_
      refine PW_iload_n (i := 3) dX3_run_25 rfl rfl ?_
      refine PW_aload_n (i := 0) dX3_run_26 rfl rfl ?_
      refine PW_getR dX3_run_27 fg3_23 (Fc0) (Fc4) ?_
      refine PW_giv (v := iN (hp (pasN h j))) dX3_run_30 fg3_31 (Fc3.1) (r1.2.1) ?_
      refine PW_ias dX3_run_33 (Fc1) (by decide) (by omega) ?_
      refine PW_aload_n (i := 0) dX3_run_34 rfl rfl ?_
      refine PW_getR dX3_run_35 fg3_15 (Fc0) (Fc6) ?_
      refine PW_iload_n (i := 3) dX3_run_38 rfl rfl ?_
      refine PW_aload_n (i := 0) dX3_run_39 rfl rfl ?_
      refine PW_getR dX3_run_40 fg3_23 (Fc0) (Fc4) ?_
      refine PW_aload_n (i := 0) dX3_run_43 rfl rfl ?_
      refine PW_getR dX3_run_44 fg3_23 (Fc0) (Fc4) ?_
      refine PW_giv (v := nI (hf (pasN h j))) dX3_run_47 fg3_35 (Fc3.1) ((rI_a _ _ _ (by omega)).trans r1.2.2.2.1) ?_
      have Fv := pasN_V hV j
      have Ff := hf64 Fv
      refine PW_nm rfl (fun i1 e1 => ?_)
      have r4 : HR i1 (c + 3) (pasN h j) := r1.kp (fun q h1 h2 => by rw [e1]; exact rI_f _ _ (by omega))
      refine PW_callV dX3_run_50 moX4_steerer cv3_38 (Fc3.1) (by omega) rfl rfl (Nat.le_of_ble_eq_true rfl) (Nat.le_of_ble_eq_true rfl) (Nat.le_of_ble_eq_true rfl) (spX4_steerer (d := d - 1) (by omega) hK0 Fc3 r4 Fv (by omega) (by omega)) (fun v M1 hq => ?_)
      obtain ⟨rfl, rfl⟩ := hq
      refine PW_ias dX3_run_53 (Fc2) (by decide) (by omega) ?_
      refine PW_aload_n (i := 0) dX3_run_54 rfl rfl ?_
      refine PW_getR dX3_run_55 fg3_23 (Fc0) (Fc4) ?_
      refine PW_aload_n (i := 0) dX3_run_58 rfl rfl ?_
      refine PW_getR dX3_run_59 fg3_15 (Fc0) (Fc6) ?_
      refine PW_iload_n (i := 3) dX3_run_62 rfl rfl ?_
      refine PW_ial (v := pI (stN h j)) dX3_run_63 (Fc2) (by decide) (by omega) (rI_s _ _ _ _) ?_
      refine PW_nm rfl (fun i2 e2 => ?_)
      have r5 : HR i2 (c + 3) (pasN h j) := r4.kp (fun q h1 h2 => by rw [e2]; exact rI_f _ _ (by omega))
      refine PW_callV dX3_run_64 moX4_go cv3_42 (Fc3.1) (by omega) rfl rfl (Nat.le_of_ble_eq_true rfl) (Nat.le_of_ble_eq_true rfl) (Nat.le_of_ble_eq_true rfl) (spX4_go (d := d - 1) (w := stN h j) (by omega) hK0 Fc3 r5 Fv (by omega) (stw_le _ _)) (fun v M1 hq => ?_)
      obtain ⟨rfl, i3, rfl, p1, p2⟩ := hq
      refine PW_inc1 dX3_run_67 rfl (Nat.le_of_ble_eq_true rfl) rfl ?_
      refine PW_goto 10 dX3_run_70 (by decide) ?_
      refine ih (j + 1) (by omega) (by omega) i3 p1 (CW_s r2 ?_ ?_ ?_ ?_) ?_
      · intro k hk; rw [p2 _ (by omega) (by omega), e2, rI_f _ _ (by omega), rP_f, e1]; exact rI_k _ _ _ (by omega)
      · intro k hk; rw [p2 _ (by omega) (by omega), e2, rI_k _ _ _ (by omega), rP, e1, rI_f _ _ (by omega)]; rfl
      · rw [p2 _ (by omega) (by omega), e2, rI_f _ _ (by omega), rP_f, e1]; exact rI_s _ _ _ _
      · rw [p2 _ (by omega) (by omega), e2]; exact rI_s _ _ _ _
      · intro q hq; rw [p2 _ (by omega) (by omega), e2, rI_f _ _ (by omega), rP_f, e1, rI_f _ _ (by omega)]; exact r3 q hq
set_option maxRecDepth 100000 in
set_option maxHeartbeats 4000000 in
theorem spX3_run {G : GE} {d : Nat} {i : MI0} {S : MS} {X c b : Nat} {h : Hm} (hd : 7 ≤ d) (hK0 : KS S X) (hU : CU S X c) (hV : HV b h) (hb : b + 61 ≤ 1000) {m : Nat} (hm : m ≤ 60) {Y a : Nat} (hSa : HS S Y a) (hR : HR i a h) (hac : a + 4 ≤ c ∨ c + 7 ≤ a) : Mt G iX3_run d [.ref c, .ref a, .int (nI m)] (i, S) (Wr S (fun i' => CW i' c h (m + 1) ∧ ∀ q, (q < c ∨ c + 6 < q) → i' q = i q)) := by
  have hU' := hU
  obtain ⟨Fc0, Fc1, Fc2, Fc4, Fc5, Fc6, Fc3⟩ := hU
  refine Mt_in 1 (ls := [.ref c, .ref a, .int (nI m), .null]) moX3_run (Nat.le_of_ble_eq_true rfl) rfl ?_
  refine PW_aload_n (i := 0) dX3_run_0 rfl rfl ?_
  refine PW_getR dX3_run_1 fg3_23 (Fc0) (Fc4) ?_
  refine PW_aload_n (i := 1) dX3_run_4 rfl rfl ?_
  refine PW_callV dX3_run_5 moX4_take cv3_27 (Fc3.1) (by omega) rfl rfl (Nat.le_of_ble_eq_true rfl) (Nat.le_of_ble_eq_true rfl) (Nat.le_of_ble_eq_true rfl) (spX4_take (d := d - 1) Fc3 hSa hR hV.1 (by omega)) (fun v M1 hq => ?_)
  obtain ⟨rfl, i3, rfl, p1, p2⟩ := hq
  refine PW_iconst (v := 0) dX3_run_8 (by decide) ?_
  refine PW_istore_n (i := 3) dX3_run_9 rfl (Nat.le_of_ble_eq_true rfl) rfl ?_
  exact PW_mono (fun v M' hw => ⟨hw.1, hw.2.choose, hw.2.choose_spec.1, hw.2.choose_spec.2.1, fun q hq => (hw.2.choose_spec.2.2 q hq).trans (p2 q (by omega))⟩) (lpX3_run (i := i3) hd hK0 hU' hV hb hm _ (m + 2) 0 (by omega) (by omega) i3 p1 (fun k hk => absurd hk (Nat.not_lt_zero k)) (fun _ _ => rfl))
set_option maxRecDepth 100000 in
set_option maxHeartbeats 4000000 in
theorem lpX3_times {G : GE} {d : Nat} {i : MI0} {S : MS} {X c : Nat} {h : Hm} (hU : CU S X c) {k m n : Nat} (hk : k < 1000) (hm : m ≤ 61) (h6 : hn h ≤ 6) (hW : CW i c h n) (hmn : m ≤ n) : ∀ (n0 j : Nat), j ≤ m → m < j + n0 → PW G iX3_timesSteered d (Rt (nI (tst h k m)) (i, S)) 5 [.ref c, .int (nI k), .int (nI m), .int (nI (tst h k j)), .int (nI j)] [] (i, S) 0 0 := by
  have hU' := hU
  obtain ⟨Fc0, Fc1, Fc2, Fc4, Fc5, Fc6, Fc3⟩ := hU
  intro n0
  induction n0 with
  | zero => intro j h1 h2; exact absurd h2 (by omega)
  | succ n0 ih =>
    intro j hj1 hj2 
    refine PW_iload dX3_timesSteered_5 rfl ?_
    refine PW_iload_n (i := 2) dX3_timesSteered_7 rfl rfl ?_
    refine PW_icmp_ge 38 dX3_timesSteered_8 (by decide) (fun h8 => ?_) (fun h8 => ?_)
    · have h8 := jle h8
      have ej : j = m := by omega
      subst ej
      refine PW_iload_n (i := 3) dX3_timesSteered_38 rfl rfl ?_
      refine PW_ireturn rfl (rfl) dX3_timesSteered_39 (Nat.le_of_ble_eq_true rfl) (Nat.le_of_ble_eq_true rfl) ?_
      exact rt_i rfl
    · have h8 := jnle h8
      refine PW_iload dX3_timesSteered_11 rfl ?_
      refine PW_bipush (v := 60) dX3_timesSteered_13 (by decide) ?_
      refine PW_icmp_gt 38 dX3_timesSteered_15 (by decide) (fun q => absurd (jlt (a := 60) q) (by omega)) (fun _ => ?_)
      refine PW_aload_n (i := 0) dX3_timesSteered_18 rfl rfl ?_
      refine PW_getR dX3_timesSteered_19 fg3_15 (Fc0) (Fc6) ?_
      refine PW_iload dX3_timesSteered_22 rfl ?_
      have Fw := stN_le h j
      rw [pasN_n] at Fw
      refine PW_ial (v := pI (stN h j)) dX3_timesSteered_24 (Fc2) (by decide) (by omega) ((hW j (by omega)).2) ?_
      refine PW_iload_n (i := 1) dX3_timesSteered_25 rfl rfl ?_
      refine PW_icmp_ne 32 dX3_timesSteered_26 (by decide) (fun h26 => ?_) (fun h26 => ?_)
      · have h26 : ¬ stN h j = k + 1 := fun q => h26 (((pI_eq (by omega) hk).mpr q).symm)
        refine PW_inc1 dX3_timesSteered_32 rfl (Nat.le_of_ble_eq_true rfl) rfl ?_
        refine PW_goto 5 dX3_timesSteered_35 (by decide) ?_
        have q := ih (j + 1) (by omega) (by omega)
        first | (rw [tst_y h26] at q; exact q) | (rw [tst_n h26] at q; exact q)
      · have h26 : stN h j = k + 1 := (pI_eq (by omega) hk).mp h26.symm
        refine PW_inc1 dX3_timesSteered_29 rfl (Nat.le_of_ble_eq_true rfl) rfl ?_
        refine PW_inc1 dX3_timesSteered_32 rfl (Nat.le_of_ble_eq_true rfl) rfl ?_
        refine PW_goto 5 dX3_timesSteered_35 (by decide) ?_
        have q := ih (j + 1) (by omega) (by omega)
        first | (rw [tst_y h26] at q; exact q) | (rw [tst_n h26] at q; exact q)
set_option maxRecDepth 100000 in
set_option maxHeartbeats 4000000 in
theorem spX3_times {G : GE} {d : Nat} {i : MI0} {S : MS} {X c : Nat} {h : Hm} (hU : CU S X c) {k m n : Nat} (hk : k < 1000) (hm : m ≤ 61) (h6 : hn h ≤ 6) (hW : CW i c h n) (hmn : m ≤ n) : Mt G iX3_timesSteered d [.ref c, .int (nI k), .int (nI m)] (i, S) (Rt (nI (tst h k m)) (i, S)) := by
  refine Mt_in 2 (ls := [.ref c, .int (nI k), .int (nI m), .null, .null]) moX3_timesSteered (Nat.le_of_ble_eq_true rfl) rfl ?_
  refine PW_iconst (v := 0) dX3_timesSteered_0 (by decide) ?_
  refine PW_istore_n (i := 3) dX3_timesSteered_1 rfl (Nat.le_of_ble_eq_true rfl) rfl ?_
  refine PW_iconst (v := 0) dX3_timesSteered_2 (by decide) ?_
  refine PW_istore dX3_timesSteered_3 (Nat.le_of_ble_eq_true rfl) rfl ?_
  exact lpX3_times hU hk hm h6 hW hmn (m + 1) 0 (by omega) (by omega)

/-! ===== the reference: odds ===== -/
set_option maxRecDepth 100000 in
set_option maxHeartbeats 4000000 in
theorem lpX12_lay {G : GE} {d : Nat} {i : MI0} {S : MS} {Y : Nat} (hY : YS S Y) {u w : Nat} (hu : u < 2 ^ 60) (hw : w < 2 ^ 60) (hw0 : 0 < w) (hg0 : 0 < Nat.gcd u w) : ∀ (n0 x y : Nat) (z9 : Value), y < n0 → Nat.gcd x y = Nat.gcd u w → x < 2 ^ 60 → y < 2 ^ 60 → PW G iX12_lay d (fun r M' => r = none ∧ M' = wL (wL (i, S) Y 28 (lN (u / Nat.gcd u w))) Y 29 (lN (w / Nat.gcd u w))) 6 [.ref Y, .long (lN u), .null, .long (lN w), .null, .long (lN x), .null, .long (lN y), .null, z9, .null] [] (i, S) 0 0 := by
  have hY' := hY
  obtain ⟨Yt, ⟨Yt1, Yr1⟩, ⟨Yt2, Yr2⟩, ⟨Yt3, Yr3⟩, ⟨Yt4, Yr4⟩, ⟨Yt5, Yr5⟩, ⟨Yt6, Yr6⟩, ⟨Yt7, Yr7⟩, ⟨Yt8, Yr8⟩, ⟨Yt9, Yr9⟩, ⟨Yt10, Yr10⟩, ⟨Yt11, Yr11⟩, ⟨Yt12, Yr12⟩, ⟨Yt13, Yr13⟩, ⟨Yt14, Yr14⟩, ⟨Yt15, Yr15⟩, ⟨Yt16, Yr16⟩, ⟨Yt17, Yr17⟩, ⟨Yt18, Yr18⟩, ⟨Yt19, Yr19⟩⟩ := hY
  intro n0
  induction n0 with
  | zero => intro x y z9 hy; exact absurd hy (by omega)
  | succ n0 ih =>
    intro x y z9 hy hg hx1 hy1
    refine PW_lload dX12_lay_6 rfl ?_
    refine PW_lconst (v := 0) dX12_lay_8 (by decide) ?_
    refine PW_lcmp dX12_lay_9 ?_
    refine PW_if_eq 31 dX12_lay_10 (by decide) (fun h10 => ?_) (fun h10 => ?_)
    · have h10 := (pk_lEQ (b := 0) (by omega) (by decide)).mp ((lg_cmp_eq _ _).mp h10)
      subst h10
      rw [Nat.gcd_zero_right] at hg
      subst hg
      refine PW_aload_n (i := 0) dX12_lay_31 rfl rfl ?_
      refine PW_lload_n (i := 1) dX12_lay_32 rfl rfl ?_
      refine PW_lload dX12_lay_33 rfl ?_
      refine PW_ldiv dX12_lay_35 (fun q => absurd ((pk_lEQ (b := 0) (by omega) (by decide)).mp q) (by omega)) ?_
      refine PW_eql (pk_lDiv (by omega) (by omega) (by omega)) ?_
      refine PW_putL dX12_lay_36 fr12_249 (fun h => by cases h) (Yt) ?_
      refine PW_aload_n (i := 0) dX12_lay_39 rfl rfl ?_
      refine PW_lload_n (i := 3) dX12_lay_40 rfl rfl ?_
      refine PW_lload dX12_lay_41 rfl ?_
      refine PW_ldiv dX12_lay_43 (fun q => absurd ((pk_lEQ (b := 0) (by omega) (by decide)).mp q) (by omega)) ?_
      refine PW_eql (pk_lDiv (by omega) (by omega) (by omega)) ?_
      refine PW_putL dX12_lay_44 fr12_61 (fun h => by cases h) (Yt) ?_
      refine PW_return rfl dX12_lay_47 (Nat.le_of_ble_eq_true rfl) (Nat.le_of_ble_eq_true rfl) ?_
      exact ⟨rfl, rfl⟩
    · have h10 : ¬ y = 0 := fun q => h10 ((lg_cmp_eq _ _).mpr (by rw [q]; rfl))
      refine PW_lload dX12_lay_13 rfl ?_
      refine PW_lload dX12_lay_15 rfl ?_
      refine PW_lrem dX12_lay_17 (fun q => absurd ((pk_lEQ (b := 0) (by omega) (by decide)).mp q) h10) ?_
      refine PW_eql (pk_lRem (by omega) (by omega) (by omega)) ?_
      refine PW_lstore dX12_lay_18 (Nat.le_of_ble_eq_true rfl) rfl ?_
      refine PW_lload dX12_lay_20 rfl ?_
      refine PW_lstore dX12_lay_22 (Nat.le_of_ble_eq_true rfl) rfl ?_
      refine PW_lload dX12_lay_24 rfl ?_
      refine PW_lstore dX12_lay_26 (Nat.le_of_ble_eq_true rfl) rfl ?_
      refine PW_goto 6 dX12_lay_28 (by decide) ?_
      have hm := Nat.mod_lt x (show 0 < y by omega)
      exact ih y (x % y) _ (by omega) (by rw [Nat.gcd_comm, ← Nat.gcd_rec, Nat.gcd_comm]; exact hg) (by omega) (by omega)
set_option maxRecDepth 100000 in
set_option maxHeartbeats 4000000 in
theorem spX12_lay {G : GE} {d : Nat} {i : MI0} {S : MS} {Y : Nat} (hY : YS S Y) {u w : Nat} (hu : u < 2 ^ 60) (hw : w < 2 ^ 60) (hw0 : 0 < w) : Mt G iX12_lay d [.ref Y, .long (lN u), .long (lN w)] (i, S) (fun r M' => r = none ∧ M' = wL (wL (i, S) Y 28 (lN (u / Nat.gcd u w))) Y 29 (lN (w / Nat.gcd u w))) := by
  have hY' := hY
  obtain ⟨Yt, ⟨Yt1, Yr1⟩, ⟨Yt2, Yr2⟩, ⟨Yt3, Yr3⟩, ⟨Yt4, Yr4⟩, ⟨Yt5, Yr5⟩, ⟨Yt6, Yr6⟩, ⟨Yt7, Yr7⟩, ⟨Yt8, Yr8⟩, ⟨Yt9, Yr9⟩, ⟨Yt10, Yr10⟩, ⟨Yt11, Yr11⟩, ⟨Yt12, Yr12⟩, ⟨Yt13, Yr13⟩, ⟨Yt14, Yr14⟩, ⟨Yt15, Yr15⟩, ⟨Yt16, Yr16⟩, ⟨Yt17, Yr17⟩, ⟨Yt18, Yr18⟩, ⟨Yt19, Yr19⟩⟩ := hY
  refine Mt_in 6 (ls := [.ref Y, .long (lN u), .null, .long (lN w), .null, .null, .null, .null, .null, .null, .null]) moX12_lay (Nat.le_of_ble_eq_true rfl) rfl ?_
  refine PW_lload_n (i := 1) dX12_lay_0 rfl rfl ?_
  refine PW_lstore dX12_lay_1 (Nat.le_of_ble_eq_true rfl) rfl ?_
  refine PW_lload_n (i := 3) dX12_lay_3 rfl rfl ?_
  refine PW_lstore dX12_lay_4 (Nat.le_of_ble_eq_true rfl) rfl ?_
  exact lpX12_lay hY' hu hw hw0 (Nat.gcd_pos_of_pos_right _ hw0) (w + 1) u w _ (by omega) rfl hu hw
def wgF (g c j : Nat) : Nat := if g.testBit j then c else 10 - c
def sumN (f : Nat → Nat) : Nat → Nat
  | 0 => 0
  | n + 1 => sumN f n + f n
theorem sumN_s (f : Nat → Nat) (n : Nat) : sumN f (n + 1) = sumN f n + f n := rfl
theorem prodN_s (f : Nat → Nat) (n : Nat) : prodN f (n + 1) = prodN f n * f n := rfl
theorem sumN_le {f : Nat → Nat} {B : Nat} : ∀ {n : Nat}, (∀ j, j < n → f j ≤ B) → sumN f n ≤ n * B
  | 0, _ => by rw [Nat.zero_mul]; exact Nat.le_refl _
  | n + 1, h => by
    have h1 := sumN_le (n := n) (fun j hj => h j (by omega))
    have h2 := h n (by omega)
    rw [sumN, Nat.succ_mul]
    omega
def odF (h : Hm) (a c g : Nat) : Nat := if stw h g = a + 1 then prodN (wgF g c) (hn h) else 0
def odS (h : Hm) (a c : Nat) : Nat := sumN (odF h a c) (2 ^ hn h)
theorem odS_le {b : Nat} {h : Hm} {a c : Nat} (hv : HV b h) (hc : c ≤ 10) : odS h a c ≤ 64000000 := by
  have h6 : 2 ^ hn h ≤ 2 ^ 6 := Nat.pow_le_pow_right (by decide) hv.1
  have h10 : 10 ^ hn h ≤ 10 ^ 6 := Nat.pow_le_pow_right (by decide) hv.1
  have q := sumN_le (f := odF h a c) (B := 1000000) (n := 2 ^ hn h) (fun g hg => by
    unfold odF
    split
    · have := prodN_le (f := wgF g c) (n := hn h) (fun j _ => by unfold wgF; split <;> omega)
      omega
    · omega)
  unfold odS
  have : 2 ^ hn h * 1000000 ≤ 2 ^ 6 * 1000000 := Nat.mul_le_mul_right _ h6
  omega
def rOdds (s : Ab) (k c : Int32) : Int32 × Ab := if isH s k ∧ ((0 : Int32) ≤ c ∧ c ≤ 10) then (1, setF s (odS (vh (aV s)) k.toNatClampNeg c.toNatClampNeg / Nat.gcd (odS (vh (aV s)) k.toNatClampNeg c.toNatClampNeg) (10 ^ hn (vh (aV s)))) (10 ^ hn (vh (aV s)) / Nat.gcd (odS (vh (aV s)) k.toNatClampNeg c.toNatClampNeg) (10 ^ hn (vh (aV s))))) else (-2, bad s)
theorem MR.sf {i : MI0} {S : MS} {Y : Nat} {s : Ab} {u w : Nat} (hR : MR i S Y s) : MR i (wL (wL (i, S) Y 28 (lN u)) Y 29 (lN w)).2 Y (setF s u w) := by
  obtain ⟨r1, r2, r3, r4, r5, r6, r7⟩ := hR
  refine ⟨r1, r2, r3, r4, r5, r6, ?_, ?_⟩
  · exact (rLk _ _ (by decide)).trans (rLs _ _ _ _)
  · exact rLs _ _ _ _
set_option maxRecDepth 100000 in
set_option maxHeartbeats 4000000 in
theorem lpX12_odds3 {G : GE} {d : Nat} {i : MI0} {S : MS} {Y : Nat} (hY : YS S Y) {s : Ab} {b : Nat} (hR : MR i S Y s) (hV : AV b s) (hb : b ≤ 100) (hd : 12 ≤ d) {a c : Nat} (ha : a < hn (vh (aV s))) (hc : c ≤ 10) (hk : isH s (nI a) ∧ ((0 : Int32) ≤ nI c ∧ nI c ≤ 10)) {g : Nat} (hg : g < 64) (ko : ∀ z8 z10, PW G iX12_odds d (OpM Y (i, S) (.int (rOdds s (nI a) (nI c)).1) (rOdds s (nI a) (nI c)).2) 57 [.ref Y, .int (nI a), .int (nI c), .long (lN (sumN (odF (vh (aV s)) a c) (g + 1))), .null, .long (lN (10 ^ hn (vh (aV s)))), .null, .int (nI (g + 1)), z8, .null, z10] [] (i, S) 0 0) : ∀ (n0 j : Nat), j ≤ hn (vh (aV s)) → hn (vh (aV s)) < j + n0 → PW G iX12_odds d (OpM Y (i, S) (.int (rOdds s (nI a) (nI c)).1) (rOdds s (nI a) (nI c)).2) 74 [.ref Y, .int (nI a), .int (nI c), .long (lN (sumN (odF (vh (aV s)) a c) g)), .null, .long (lN (10 ^ hn (vh (aV s)))), .null, .int (nI g), .long (lN (prodN (wgF g c) j)), .null, .int (nI j)] [] (i, S) 0 0 := by
  have hY' := hY
  obtain ⟨Yt, ⟨Yt1, Yr1⟩, ⟨Yt2, Yr2⟩, ⟨Yt3, Yr3⟩, ⟨Yt4, Yr4⟩, ⟨Yt5, Yr5⟩, ⟨Yt6, Yr6⟩, ⟨Yt7, Yr7⟩, ⟨Yt8, Yr8⟩, ⟨Yt9, Yr9⟩, ⟨Yt10, Yr10⟩, ⟨Yt11, Yr11⟩, ⟨Yt12, Yr12⟩, ⟨Yt13, Yr13⟩, ⟨Yt14, Yr14⟩, ⟨Yt15, Yr15⟩, ⟨Yt16, Yr16⟩, ⟨Yt17, Yr17⟩, ⟨Yt18, Yr18⟩, ⟨Yt19, Yr19⟩⟩ := hY
  have hR' := hR
  have hV' := hV
  obtain ⟨Rm, Ri0, Ri1, Rk, Rx, Rt, Rl⟩ := hR
  have Rh := Rm.1
  obtain ⟨Av, Ai, At, Ab', Aa, Aw⟩ := hV
  have Ah := Av.1
  have Ah1 := Ah.1
  have Av1 := Av.2.1
  have Av2 := Av.2.2.1
  have Av3 := Av.2.2.2.1
  intro n0
  induction n0 with
  | zero => intro j h1 h2; exact absurd h2 (by omega)
  | succ n0 ih =>
    intro j hj1 hj2 
    refine PW_iload dX12_odds_74 rfl ?_
    refine PW_aload_n (i := 0) dX12_odds_76 rfl rfl ?_
    refine PW_giv (v := nI (hn (vh (aV s)))) dX12_odds_77 fg12_74 (Yt) (Rh.1) ?_
    refine PW_icmp_ge 114 dX12_odds_80 (by decide) (fun h80 => ?_) (fun h80 => ?_)
    · have h80 := jle h80
      have ej : j = hn (vh (aV s)) := by omega
      subst ej
      refine PW_lload_n (i := 3) dX12_odds_114 rfl rfl ?_
      refine PW_aload_n (i := 0) dX12_odds_115 rfl rfl ?_
      refine PW_iload dX12_odds_116 rfl ?_
      refine PW_callV dX12_odds_118 moX12_steersBy cv12_231 (Yt) (by omega) rfl rfl (Nat.le_of_ble_eq_true rfl) (Nat.le_of_ble_eq_true rfl) (Nat.le_of_ble_eq_true rfl) (spX12_steersBy (d := d - 1) hY' Rh Ah (by omega) (by omega) (by omega)) (fun v M1 hq => ?_)
      obtain ⟨rfl, rfl⟩ := hq
      refine PW_iload_n (i := 1) dX12_odds_121 rfl rfl ?_
      have hw6 := stw_le (vh (aV s)) g
      refine PW_icmp_ne 130 dX12_odds_122 (by decide) (fun h122 => ?_) (fun h122 => ?_)
      · have h122 : ¬ stw (vh (aV s)) g = a + 1 := fun q => h122 ((pI_eq (by omega) (by omega)).mpr q).symm
        have hod : lN (odF (vh (aV s)) a c g) = 0 := by unfold odF; rw [if_neg h122]; rfl
        refine PW_lconst (v := 0) dX12_odds_130 (by decide) ?_
        refine PW_ladd dX12_odds_131 ?_
        refine PW_eql (show _ = lN (sumN (odF (vh (aV s)) a c) (g + 1)) from by rw [sumN_s, ← lN_add, hod]) ?_
        refine PW_lstore_n (i := 3) dX12_odds_132 rfl (Nat.le_of_ble_eq_true rfl) rfl ?_
        refine PW_inc1 dX12_odds_133 rfl (Nat.le_of_ble_eq_true rfl) rfl ?_
        refine PW_goto 57 dX12_odds_136 (by decide) ?_
        exact ko _ _
      · have h122 := (pI_eq (by omega) (by omega)).mp h122.symm
        have hod : lN (odF (vh (aV s)) a c g) = lN (prodN (wgF g c) (hn (vh (aV s)))) := by unfold odF; rw [if_pos h122]
        refine PW_lload dX12_odds_125 rfl ?_
        refine PW_goto 131 dX12_odds_127 (by decide) ?_
        refine PW_ladd dX12_odds_131 ?_
        refine PW_eql (show _ = lN (sumN (odF (vh (aV s)) a c) (g + 1)) from by rw [sumN_s, ← lN_add, hod]) ?_
        refine PW_lstore_n (i := 3) dX12_odds_132 rfl (Nat.le_of_ble_eq_true rfl) rfl ?_
        refine PW_inc1 dX12_odds_133 rfl (Nat.le_of_ble_eq_true rfl) rfl ?_
        refine PW_goto 57 dX12_odds_136 (by decide) ?_
        exact ko _ _
    · have h80 := jnle h80
      refine PW_lload dX12_odds_83 rfl ?_
      refine PW_iload dX12_odds_85 rfl ?_
      refine PW_iload dX12_odds_87 rfl ?_
      refine PW_callS dX12_odds_89 moX12_has cs12_243 (by omega) rfl rfl (Nat.le_of_ble_eq_true rfl) (Nat.le_of_ble_eq_true rfl) (Nat.le_of_ble_eq_true rfl) (spX12_has (d := d - 1) _ _) (fun v M1 hq => ?_)
      obtain ⟨rfl, rfl⟩ := hq
      rw [hold_b (by omega) (by omega)]
      refine PW_if_eq 100 dX12_odds_92 (by decide) (fun h92 => ?_) (fun h92 => ?_)
      · have h92 := b2i_0.mp h92
        have hwg : wgF g c j = 10 - c := by unfold wgF; rw [h92]; rfl
        refine PW_bipush (v := 10) dX12_odds_100 (by decide) ?_
        refine PW_iload_n (i := 2) dX12_odds_102 rfl rfl ?_
        refine PW_isub dX12_odds_103 ?_
        refine PW_eqi (pk_sub (a := 10) (b := c) hc) ?_
        refine PW_i2l dX12_odds_104 ?_
        refine PW_lmul dX12_odds_105 ?_
        refine PW_eql (show _ = lN (prodN (wgF g c) (j + 1)) from by rw [nI_l (by omega), lN_mul, prodN_s, hwg]) ?_
        refine PW_lstore dX12_odds_106 (Nat.le_of_ble_eq_true rfl) rfl ?_
        refine PW_inc1 dX12_odds_108 rfl (Nat.le_of_ble_eq_true rfl) rfl ?_
        refine PW_goto 74 dX12_odds_111 (by decide) ?_
        exact ih (j + 1) (by omega) (by omega)
      · have h92 := b2i_n.mp h92
        have hwg : wgF g c j = c := by unfold wgF; rw [h92]; rfl
        refine PW_iload_n (i := 2) dX12_odds_95 rfl rfl ?_
        refine PW_i2l dX12_odds_96 ?_
        refine PW_goto 105 dX12_odds_97 (by decide) ?_
        refine PW_lmul dX12_odds_105 ?_
        refine PW_eql (show _ = lN (prodN (wgF g c) (j + 1)) from by rw [nI_l (by omega), lN_mul, prodN_s, hwg]) ?_
        refine PW_lstore dX12_odds_106 (Nat.le_of_ble_eq_true rfl) rfl ?_
        refine PW_inc1 dX12_odds_108 rfl (Nat.le_of_ble_eq_true rfl) rfl ?_
        refine PW_goto 74 dX12_odds_111 (by decide) ?_
        exact ih (j + 1) (by omega) (by omega)
set_option maxRecDepth 100000 in
set_option maxHeartbeats 4000000 in
theorem lpX12_odds2 {G : GE} {d : Nat} {i : MI0} {S : MS} {Y : Nat} (hY : YS S Y) {s : Ab} {b : Nat} (hR : MR i S Y s) (hV : AV b s) (hb : b ≤ 100) (hd : 12 ≤ d) {a c : Nat} (ha : a < hn (vh (aV s))) (hc : c ≤ 10) (hk : isH s (nI a) ∧ ((0 : Int32) ≤ nI c ∧ nI c ≤ 10)) : ∀ (n0 j : Nat), j ≤ 2 ^ hn (vh (aV s)) → 2 ^ hn (vh (aV s)) < j + n0 → ∀ (z8 z10 : Value), PW G iX12_odds d (OpM Y (i, S) (.int (rOdds s (nI a) (nI c)).1) (rOdds s (nI a) (nI c)).2) 57 [.ref Y, .int (nI a), .int (nI c), .long (lN (sumN (odF (vh (aV s)) a c) j)), .null, .long (lN (10 ^ hn (vh (aV s)))), .null, .int (nI j), z8, .null, z10] [] (i, S) 0 0 := by
  have hY' := hY
  obtain ⟨Yt, ⟨Yt1, Yr1⟩, ⟨Yt2, Yr2⟩, ⟨Yt3, Yr3⟩, ⟨Yt4, Yr4⟩, ⟨Yt5, Yr5⟩, ⟨Yt6, Yr6⟩, ⟨Yt7, Yr7⟩, ⟨Yt8, Yr8⟩, ⟨Yt9, Yr9⟩, ⟨Yt10, Yr10⟩, ⟨Yt11, Yr11⟩, ⟨Yt12, Yr12⟩, ⟨Yt13, Yr13⟩, ⟨Yt14, Yr14⟩, ⟨Yt15, Yr15⟩, ⟨Yt16, Yr16⟩, ⟨Yt17, Yr17⟩, ⟨Yt18, Yr18⟩, ⟨Yt19, Yr19⟩⟩ := hY
  have hR' := hR
  have hV' := hV
  obtain ⟨Rm, Ri0, Ri1, Rk, Rx, Rt, Rl⟩ := hR
  have Rh := Rm.1
  obtain ⟨Av, Ai, At, Ab', Aa, Aw⟩ := hV
  have Ah := Av.1
  have Ah1 := Ah.1
  have Av1 := Av.2.1
  have Av2 := Av.2.2.1
  have Av3 := Av.2.2.2.1
  intro n0
  induction n0 with
  | zero => intro j h1 h2; exact absurd h2 (by omega)
  | succ n0 ih =>
    intro j hj1 hj2 z8 z10
    refine PW_iload dX12_odds_57 rfl ?_
    refine PW_iconst (v := 1) dX12_odds_59 (by decide) ?_
    refine PW_aload_n (i := 0) dX12_odds_60 rfl rfl ?_
    refine PW_giv (v := nI (hn (vh (aV s)))) dX12_odds_61 fg12_74 (Yt) (Rh.1) ?_
    refine PW_ishl dX12_odds_64 ?_
    refine PW_eqi (one_shl (k := hn (vh (aV s))) (by omega)) ?_
    have h64 : 2 ^ hn (vh (aV s)) ≤ 2 ^ 6 := Nat.pow_le_pow_right (by decide) Ah1
    refine PW_icmp_ge 139 dX12_odds_65 (by decide) (fun h65 => ?_) (fun h65 => ?_)
    · have h65 := jle h65
      have ej : j = 2 ^ hn (vh (aV s)) := by omega
      subst ej
      refine PW_aload_n (i := 0) dX12_odds_139 rfl rfl ?_
      refine PW_lload_n (i := 3) dX12_odds_140 rfl rfl ?_
      refine PW_lload dX12_odds_141 rfl ?_
      have h6 : 10 ^ hn (vh (aV s)) ≤ 10 ^ 6 := Nat.pow_le_pow_right (by decide) Ah1
      have hq9 := odS_le (a := a) Ah hc
      refine PW_callV dX12_odds_143 moX12_lay cv12_254 (Yt) (by omega) rfl rfl (Nat.le_of_ble_eq_true rfl) (Nat.le_of_ble_eq_true rfl) (Nat.le_of_ble_eq_true rfl) (spX12_lay (d := d - 1) hY' (u := odS (vh (aV s)) a c) (w := 10 ^ hn (vh (aV s))) (by omega) (by omega) (Nat.pow_pos (by decide))) (fun v M1 hq => ?_)
      obtain ⟨rfl, rfl⟩ := hq
      refine PW_iconst (v := 1) dX12_odds_146 (by decide) ?_
      refine PW_ireturn rfl (rfl) dX12_odds_147 (Nat.le_of_ble_eq_true rfl) (Nat.le_of_ble_eq_true rfl) ?_
      have e : rOdds s (nI a) (nI c) = (1, setF s (odS (vh (aV s)) a c / Nat.gcd (odS (vh (aV s)) a c) (10 ^ hn (vh (aV s)))) (10 ^ hn (vh (aV s)) / Nat.gcd (odS (vh (aV s)) a c) (10 ^ hn (vh (aV s))))) := by unfold rOdds; rw [if_pos hk, cln (by omega), cln (by omega)]
      exact OpM_iL e hY' (hR'.sf) (fun q hq => (rLa _ _ hq).trans (rLa _ _ hq))
    · have h65 := jnle h65
      refine PW_lconst (v := 1) dX12_odds_68 (by decide) ?_
      refine PW_lstore dX12_odds_69 (Nat.le_of_ble_eq_true rfl) rfl ?_
      refine PW_iconst (v := 0) dX12_odds_71 (by decide) ?_
      refine PW_istore dX12_odds_72 (Nat.le_of_ble_eq_true rfl) rfl ?_
      exact lpX12_odds3 hY' hR' hV' hb hd ha hc hk (g := j) (by omega) (fun z8 z10 => ih (j + 1) (by omega) (by omega) z8 z10) (hn (vh (aV s)) + 1) 0 (by omega) (by omega)
set_option maxRecDepth 100000 in
set_option maxHeartbeats 4000000 in
theorem lpX12_odds1 {G : GE} {d : Nat} {i : MI0} {S : MS} {Y : Nat} (hY : YS S Y) {s : Ab} {b : Nat} (hR : MR i S Y s) (hV : AV b s) (hb : b ≤ 100) (hd : 12 ≤ d) {a c : Nat} (ha : a < hn (vh (aV s))) (hc : c ≤ 10) (hk : isH s (nI a) ∧ ((0 : Int32) ≤ nI c ∧ nI c ≤ 10)) : ∀ (n0 j : Nat), j ≤ hn (vh (aV s)) → hn (vh (aV s)) < j + n0 → PW G iX12_odds d (OpM Y (i, S) (.int (rOdds s (nI a) (nI c)).1) (rOdds s (nI a) (nI c)).2) 31 [.ref Y, .int (nI a), .int (nI c), .long (lN 0), .null, .long (lN (10 ^ j)), .null, .int (nI j), .null, .null, .null] [] (i, S) 0 0 := by
  have hY' := hY
  obtain ⟨Yt, ⟨Yt1, Yr1⟩, ⟨Yt2, Yr2⟩, ⟨Yt3, Yr3⟩, ⟨Yt4, Yr4⟩, ⟨Yt5, Yr5⟩, ⟨Yt6, Yr6⟩, ⟨Yt7, Yr7⟩, ⟨Yt8, Yr8⟩, ⟨Yt9, Yr9⟩, ⟨Yt10, Yr10⟩, ⟨Yt11, Yr11⟩, ⟨Yt12, Yr12⟩, ⟨Yt13, Yr13⟩, ⟨Yt14, Yr14⟩, ⟨Yt15, Yr15⟩, ⟨Yt16, Yr16⟩, ⟨Yt17, Yr17⟩, ⟨Yt18, Yr18⟩, ⟨Yt19, Yr19⟩⟩ := hY
  have hR' := hR
  have hV' := hV
  obtain ⟨Rm, Ri0, Ri1, Rk, Rx, Rt, Rl⟩ := hR
  have Rh := Rm.1
  obtain ⟨Av, Ai, At, Ab', Aa, Aw⟩ := hV
  have Ah := Av.1
  have Ah1 := Ah.1
  have Av1 := Av.2.1
  have Av2 := Av.2.2.1
  have Av3 := Av.2.2.2.1
  intro n0
  induction n0 with
  | zero => intro j h1 h2; exact absurd h2 (by omega)
  | succ n0 ih =>
    intro j hj1 hj2 
    refine PW_iload dX12_odds_31 rfl ?_
    refine PW_aload_n (i := 0) dX12_odds_33 rfl rfl ?_
    refine PW_giv (v := nI (hn (vh (aV s)))) dX12_odds_34 fg12_74 (Yt) (Rh.1) ?_
    refine PW_icmp_ge 54 dX12_odds_37 (by decide) (fun h37 => ?_) (fun h37 => ?_)
    · have h37 := jle h37
      have ej : j = hn (vh (aV s)) := by omega
      subst ej
      refine PW_iconst (v := 0) dX12_odds_54 (by decide) ?_
      refine PW_istore dX12_odds_55 (Nat.le_of_ble_eq_true rfl) rfl ?_
      exact lpX12_odds2 hY' hR' hV' hb hd ha hc hk (2 ^ hn (vh (aV s)) + 1) 0 (Nat.zero_le _) (by rw [Nat.zero_add]; exact Nat.lt_succ_self _) _ _
    · have h37 := jnle h37
      refine PW_lload dX12_odds_40 rfl ?_
      refine PW_ldc2 dX12_odds_42 kc12_252 ?_
      refine PW_lmul dX12_odds_45 ?_
      refine PW_eql (show _ = lN (10 ^ (j + 1)) from lN_mul _ 10) ?_
      refine PW_lstore dX12_odds_46 (Nat.le_of_ble_eq_true rfl) rfl ?_
      refine PW_inc1 dX12_odds_48 rfl (Nat.le_of_ble_eq_true rfl) rfl ?_
      refine PW_goto 31 dX12_odds_51 (by decide) ?_
      exact ih (j + 1) (by omega) (by omega)
set_option maxRecDepth 100000 in
set_option maxHeartbeats 4000000 in
theorem spX12_odds {G : GE} {d : Nat} {i : MI0} {S : MS} {Y : Nat} (hY : YS S Y) {s : Ab} {b : Nat} (hR : MR i S Y s) (hV : AV b s) (hb : b ≤ 100) (hd : 12 ≤ d) (k l : Int32) : Mt G iX12_odds d [.ref Y, .int k, .int l] (i, S) (OpM Y (i, S) (.int (rOdds s k l).1) (rOdds s k l).2) := by
  have hY' := hY
  obtain ⟨Yt, ⟨Yt1, Yr1⟩, ⟨Yt2, Yr2⟩, ⟨Yt3, Yr3⟩, ⟨Yt4, Yr4⟩, ⟨Yt5, Yr5⟩, ⟨Yt6, Yr6⟩, ⟨Yt7, Yr7⟩, ⟨Yt8, Yr8⟩, ⟨Yt9, Yr9⟩, ⟨Yt10, Yr10⟩, ⟨Yt11, Yr11⟩, ⟨Yt12, Yr12⟩, ⟨Yt13, Yr13⟩, ⟨Yt14, Yr14⟩, ⟨Yt15, Yr15⟩, ⟨Yt16, Yr16⟩, ⟨Yt17, Yr17⟩, ⟨Yt18, Yr18⟩, ⟨Yt19, Yr19⟩⟩ := hY
  have hR' := hR
  have hV' := hV
  obtain ⟨Rm, Ri0, Ri1, Rk, Rx, Rt, Rl⟩ := hR
  have Rh := Rm.1
  obtain ⟨Av, Ai, At, Ab', Aa, Aw⟩ := hV
  have Ah := Av.1
  have Ah1 := Ah.1
  have Av1 := Av.2.1
  have Av2 := Av.2.2.1
  have Av3 := Av.2.2.2.1
  refine Mt_in 8 (ls := [.ref Y, .int k, .int l, .null, .null, .null, .null, .null, .null, .null, .null]) moX12_odds (Nat.le_of_ble_eq_true rfl) rfl ?_
  refine PW_aload_n (i := 0) dX12_odds_0 rfl rfl ?_
  refine PW_iload_n (i := 1) dX12_odds_1 rfl rfl ?_
  refine PW_callV dX12_odds_2 moX12_isHand cv12_199 (Yt) (by omega) rfl rfl (Nat.le_of_ble_eq_true rfl) (Nat.le_of_ble_eq_true rfl) (Nat.le_of_ble_eq_true rfl) (spX12_isHand (d := d - 1) hY' Rh (by omega) _) (fun v M1 hq => ?_)
  obtain ⟨rfl, rfl⟩ := hq
  refine PW_if_eq 18 dX12_odds_5 (by decide) (fun h5 => ?_) (fun h5 => ?_)
  · have h5 := b1_0.mp h5
    refine PW_aload_n (i := 0) dX12_odds_18 rfl rfl ?_
    refine PW_callV dX12_odds_19 moX12_bad cv12_97 (Yt) (by omega) rfl rfl (Nat.le_of_ble_eq_true rfl) (Nat.le_of_ble_eq_true rfl) (Nat.le_of_ble_eq_true rfl) (spX12_bad (d := d - 1) hY' hR') (fun v M1 hq => ?_)
    obtain ⟨rfl, i1, rfl, c1, c2⟩ := hq
    refine PW_ireturn rfl (rfl) dX12_odds_22 (Nat.le_of_ble_eq_true rfl) (Nat.le_of_ble_eq_true rfl) ?_
    exact OpM_i (by unfold rOdds; rw [if_neg (fun q => by first | exact h5 q.1 | exact h15 q.2)]) hY' c1 (fun q hq => c2 q (by omega))
  · have h5 := b1_1.mp h5
    refine PW_iload_n (i := 2) dX12_odds_8 rfl rfl ?_
    refine PW_iconst (v := 0) dX12_odds_9 (by decide) ?_
    refine PW_bipush (v := 10) dX12_odds_10 (by decide) ?_
    refine PW_callS dX12_odds_12 moX12_in cs12_93 (by omega) rfl rfl (Nat.le_of_ble_eq_true rfl) (Nat.le_of_ble_eq_true rfl) (Nat.le_of_ble_eq_true rfl) (spX12_in (d := d - 1) _ _ _) (fun v M1 hq => ?_)
    obtain ⟨rfl, rfl⟩ := hq
    refine PW_if_ne 23 dX12_odds_15 (by decide) (fun h15 => ?_) (fun h15 => ?_)
    · have h15 := b1_1.mp h15
      obtain ⟨j, hj, rfl⟩ := isH_of hV' h5
      have ek : (nI j).toNatClampNeg = j := cln (by omega)
      obtain ⟨c, hc, rfl⟩ := within_of (n := 10) h15 rfl rfl (by decide)
      refine PW_lconst (v := 0) dX12_odds_23 (by decide) ?_
      refine PW_lstore_n (i := 3) dX12_odds_24 rfl (Nat.le_of_ble_eq_true rfl) rfl ?_
      refine PW_lconst (v := 1) dX12_odds_25 (by decide) ?_
      refine PW_lstore dX12_odds_26 (Nat.le_of_ble_eq_true rfl) rfl ?_
      refine PW_iconst (v := 0) dX12_odds_28 (by decide) ?_
      refine PW_istore dX12_odds_29 (Nat.le_of_ble_eq_true rfl) rfl ?_
      exact lpX12_odds1 hY' hR' hV' hb hd hj hc ⟨h5, h15⟩ (hn (vh (aV s)) + 1) 0 (by omega) (by omega)
    · have h15 := b1_0.mp h15
      refine PW_aload_n (i := 0) dX12_odds_18 rfl rfl ?_
      refine PW_callV dX12_odds_19 moX12_bad cv12_97 (Yt) (by omega) rfl rfl (Nat.le_of_ble_eq_true rfl) (Nat.le_of_ble_eq_true rfl) (Nat.le_of_ble_eq_true rfl) (spX12_bad (d := d - 1) hY' hR') (fun v M1 hq => ?_)
      obtain ⟨rfl, i1, rfl, c1, c2⟩ := hq
      refine PW_ireturn rfl (rfl) dX12_odds_22 (Nat.le_of_ble_eq_true rfl) (Nat.le_of_ble_eq_true rfl) ?_
      exact OpM_i (by unfold rOdds; rw [if_neg (fun q => by first | exact h5 q.1 | exact h15 q.2)]) hY' c1 (fun q hq => c2 q (by omega))

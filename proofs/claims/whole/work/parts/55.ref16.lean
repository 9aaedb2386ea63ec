/-! ===== the reference: peas ===== -/
def mfO : PSt → Nat
  | none => 5
  | some q => q.1
theorem lsO_m {c : Nat} {st : PSt} (hc : c ≤ 4) : lsO c st = true ↔ c < mfO st := by
  match st with
  | none => exact ⟨fun _ => Nat.lt_succ_of_le hc, fun _ => rfl⟩
  | some q => exact ⟨fun h => of_decide_eq_true h, fun h => decide_eq_true h⟩
/-- the ways in their order, the first x tried -/
def rpS (h : Hm) (p : Int) (n : Nat) : Nat → PSt
  | 0 => none
  | x + 1 => if lsO (cwN (hn h + 1) x n) (rpS h p n x) && decide (hp (stpN h (lw (hn h + 1) n x) n) = p) then some (cwN (hn h + 1) x n, lw (hn h + 1) n x) else rpS h p n x
theorem rpS_t {h : Hm} {p : Int} {n x : Nat} (h1 : lsO (cwN (hn h + 1) x n) (rpS h p n x) = true) (h2 : hp (stpN h (lw (hn h + 1) n x) n) = p) : rpS h p n (x + 1) = some (cwN (hn h + 1) x n, lw (hn h + 1) n x) := by
  rw [rpS, h1, decide_eq_true h2]; rfl
theorem rpS_f {h : Hm} {p : Int} {n x : Nat} (h1 : ¬ (lsO (cwN (hn h + 1) x n) (rpS h p n x) = true ∧ hp (stpN h (lw (hn h + 1) n x) n) = p)) : rpS h p n (x + 1) = rpS h p n x := by
  rw [rpS, if_neg]
  intro q
  rw [Bool.and_eq_true] at q
  exact h1 ⟨q.1, of_decide_eq_true q.2⟩
theorem rpS_le {h : Hm} {p : Int} {n : Nat} (hn4 : n ≤ 4) : ∀ x, mfO (rpS h p n x) ≤ 5
  | 0 => Nat.le_refl _
  | x + 1 => by
    have := rpS_le hn4 x (h := h) (p := p)
    unfold rpS
    split
    · exact Nat.le_succ_of_le (Nat.le_trans (cwN_le _ _ _) hn4)
    · exact this
theorem rpS_5 {h : Hm} {p : Int} {n : Nat} (hn4 : n ≤ 4) : ∀ x, mfO (rpS h p n x) = 5 → rpS h p n x = none
  | 0, _ => rfl
  | x + 1, hx => by
    unfold rpS at hx ⊢
    split at hx
    · have := cwN_le (hn h + 1) x n
      rw [show mfO (some (cwN (hn h + 1) x n, lw (hn h + 1) n x)) = cwN (hn h + 1) x n from rfl] at hx
      omega
    · rename_i q
      rw [if_neg q]
      exact rpS_5 hn4 x hx
def BLq (i : MI0) (Y n : Nat) (st : PSt) : Prop := ∀ c L, st = some (c, L) → ∀ k, k < n → i (Y + 15) k = nI (L k)
def rPeas (s : Ab) (p n k : Int32) : Int32 × Ab := if ((-60 : Int32) ≤ p ∧ p ≤ 60) ∧ ((1 : Int32) ≤ n ∧ n ≤ 4) ∧ (-1 : Int32) ≤ k then (peaA (rpS (vh (aV s)) p.toInt n.toNatClampNeg ((hn (vh (aV s)) + 1) ^ n.toNatClampNeg)) n k, s) else (-10, bad s)
theorem dig_I {k : Nat} (hk : k ≤ 6) : (if nI k = 0 then (6 : Int32) else nI k - 1) = nI (dig k) := by
  unfold dig
  by_cases h : k = 0
  · rw [if_pos h, h]; rfl
  · rw [if_neg h, if_neg (show ¬ nI k = 0 from fun q => h (jeq (b := 0) q))]
    have := nI_pred (k - 1)
    rw [show k - 1 + 1 = k by omega] at this
    exact this
theorem pow_B {B n : Nat} (h7 : B ≤ 7) (hn4 : n ≤ 4) : B ^ n ≤ 2401 := Nat.le_trans (Nat.pow_le_pow_left h7 n) (Nat.le_trans (Nat.pow_le_pow_right (by decide) hn4) (by decide))
set_option maxRecDepth 100000 in
set_option maxHeartbeats 4000000 in
theorem tlX12_peas {G : GE} {d : Nat} {i : MI0} {S : MS} {Y : Nat} (hY : YS S Y) {s : Ab} {b : Nat} (hR : MR i S Y s) (hV : AV b s) (hb : b ≤ 100) (hd : 12 ≤ d) {p k : Int32} {n : Nat} (hn1 : 1 ≤ n) (hn4 : n ≤ 4) (hc : ((-60 : Int32) ≤ p ∧ p ≤ 60) ∧ ((1 : Int32) ≤ nI n ∧ nI n ≤ 4) ∧ (-1 : Int32) ≤ k) {i5 : MI0} (eq : EQ2 i i5 Y) (hbl : BLq i5 Y n (rpS (vh (aV s)) p.toInt n ((hn (vh (aV s)) + 1) ^ n))) (hLw : ∀ c L, (rpS (vh (aV s)) p.toInt n ((hn (vh (aV s)) + 1) ^ n)) = some (c, L) → ∀ j, j < n → L j ≤ 6) (z6 z7 z8 : Value) : PW G iX12_peas d (OpM Y (i, S) (.int (rPeas s p (nI n) k).1) (rPeas s p (nI n) k).2) 136 [.ref Y, .int p, .int (nI n), .int k, .int (nI ((hn (vh (aV s)) + 1) ^ n)), .int (nI (mfO (rpS (vh (aV s)) p.toInt n ((hn (vh (aV s)) + 1) ^ n)))), z6, z7, z8] [] (i5, S) 0 0 := by
  have hY' := hY
  obtain ⟨Yt, ⟨Yt1, Yr1⟩, ⟨Yt2, Yr2⟩, ⟨Yt3, Yr3⟩, ⟨Yt4, Yr4⟩, ⟨Yt5, Yr5⟩, ⟨Yt6, Yr6⟩, ⟨Yt7, Yr7⟩, ⟨Yt8, Yr8⟩, ⟨Yt9, Yr9⟩, ⟨Yt10, Yr10⟩, ⟨Yt11, Yr11⟩, ⟨Yt12, Yr12⟩, ⟨Yt13, Yr13⟩, ⟨Yt14, Yr14⟩, ⟨Yt15, Yr15⟩, ⟨Yt16, Yr16⟩, ⟨Yt17, Yr17⟩, ⟨Yt18, Yr18⟩, ⟨Yt19, Yr19⟩⟩ := hY
  have hR' := hR
  have hV' := hV
  obtain ⟨Rm, Ri0, Ri1, Rk, Rx, Rt, Rl⟩ := hR
  have Rh := Rm.1
  obtain ⟨Av, Ai, At, Ab', Aa, Aw⟩ := hV
  have Ah := Av.1
  have Ah1 := Ah.1
  have Av1 := Av.2.1
  have Av2 := Av.2.2.1
  have Av3 := Av.2.2.2.1
  refine PW_iload dX12_peas_136 rfl ?_
  refine PW_iconst (v := 5) dX12_peas_138 (by decide) ?_
  have h5 := rpS_le (h := (vh (aV s))) (p := p.toInt) hn4 ((hn (vh (aV s)) + 1) ^ n)
  refine PW_icmp_ne 144 dX12_peas_139 (by decide) (fun h139 => ?_) (fun h139 => ?_)
  · have h139 : ¬ mfO (rpS (vh (aV s)) p.toInt n ((hn (vh (aV s)) + 1) ^ n)) = 5 := fun q => h139 (by rw [q]; rfl)
    obtain ⟨⟨cc, L⟩, hst⟩ : ∃ q, (rpS (vh (aV s)) p.toInt n ((hn (vh (aV s)) + 1) ^ n)) = some q := by
      match q : (rpS (vh (aV s)) p.toInt n ((hn (vh (aV s)) + 1) ^ n)) with
      | none => rw [q] at h139; exact absurd rfl h139
      | some z => exact ⟨z, rfl⟩
    refine PW_iload_n (i := 3) dX12_peas_144 rfl rfl ?_
    refine PW_iload_n (i := 2) dX12_peas_145 rfl rfl ?_
    refine PW_icmp_lt 152 dX12_peas_146 (by decide) (fun h146 => ?_) (fun h146 => ?_)
    · refine PW_iload_n (i := 3) dX12_peas_152 rfl rfl ?_
      refine PW_iconst (v := -1) dX12_peas_153 (by decide) ?_
      refine PW_icmp_ne 162 dX12_peas_154 (by decide) (fun h154 => ?_) (fun h154 => ?_)
      · refine PW_aload_n (i := 0) dX12_peas_162 rfl rfl ?_
        refine PW_getR dX12_peas_163 fg12_52 (Yt) (Yr15) ?_
        refine PW_iload_n (i := 3) dX12_peas_166 rfl rfl ?_
        obtain ⟨j, hj, rfl⟩ := idx_of hc.2.2 h154 (fun q => absurd q (by first | exact Int32.not_le.mpr h146)) (by omega)
        have ej : (nI j).toNatClampNeg = j := cln (by omega)
        have hL6 := hLw cc L hst j hj
        refine PW_ial (v := nI (L j)) dX12_peas_167 (Yt15) (by omega) (by omega) (hbl cc L hst j hj) ?_
        refine PW_if_ne 176 dX12_peas_168 (by decide) (fun h168 => ?_) (fun h168 => ?_)
        · refine PW_aload_n (i := 0) dX12_peas_176 rfl rfl ?_
          refine PW_getR dX12_peas_177 fg12_52 (Yt) (Yr15) ?_
          refine PW_iload_n (i := 3) dX12_peas_180 rfl rfl ?_
          refine PW_ial (v := nI (L j)) dX12_peas_181 (Yt15) (by omega) (by omega) (hbl cc L hst j hj) ?_
          refine PW_iconst (v := 1) dX12_peas_182 (by decide) ?_
          refine PW_isub dX12_peas_183 ?_
          refine PW_ireturn rfl (rfl) dX12_peas_184 (Nat.le_of_ble_eq_true rfl) (Nat.le_of_ble_eq_true rfl) ?_
          first
            | exact OpM_i (by unfold rPeas; rw [if_pos hc, cln (by omega), hst]; unfold peaA; dsimp only; rw [if_pos h154]; rfl) hY' (eq.mr hR' hV') eq.fr
            | exact OpM_i (by unfold rPeas; rw [if_pos hc, cln (by omega), hst]; unfold peaA; dsimp only; rw [if_neg h154, if_neg (Int32.not_le.mpr h146), ej, ← dig_I hL6, if_pos h168]) hY' (eq.mr hR' hV') eq.fr
            | exact OpM_i (by unfold rPeas; rw [if_pos hc, cln (by omega), hst]; unfold peaA; dsimp only; rw [if_neg h154, if_neg (Int32.not_le.mpr h146), ej, ← dig_I hL6, if_neg h168]) hY' (eq.mr hR' hV') eq.fr
        · refine PW_bipush (v := 6) dX12_peas_171 (by decide) ?_
          refine PW_goto 184 dX12_peas_173 (by decide) ?_
          refine PW_ireturn rfl (rfl) dX12_peas_184 (Nat.le_of_ble_eq_true rfl) (Nat.le_of_ble_eq_true rfl) ?_
          first
            | exact OpM_i (by unfold rPeas; rw [if_pos hc, cln (by omega), hst]; unfold peaA; dsimp only; rw [if_pos h154]; rfl) hY' (eq.mr hR' hV') eq.fr
            | exact OpM_i (by unfold rPeas; rw [if_pos hc, cln (by omega), hst]; unfold peaA; dsimp only; rw [if_neg h154, if_neg (Int32.not_le.mpr h146), ej, ← dig_I hL6, if_pos h168]) hY' (eq.mr hR' hV') eq.fr
            | exact OpM_i (by unfold rPeas; rw [if_pos hc, cln (by omega), hst]; unfold peaA; dsimp only; rw [if_neg h154, if_neg (Int32.not_le.mpr h146), ej, ← dig_I hL6, if_neg h168]) hY' (eq.mr hR' hV') eq.fr
      · refine PW_iload dX12_peas_157 rfl ?_
        refine PW_goto 184 dX12_peas_159 (by decide) ?_
        refine PW_ireturn rfl (rfl) dX12_peas_184 (Nat.le_of_ble_eq_true rfl) (Nat.le_of_ble_eq_true rfl) ?_
        first
          | exact OpM_i (by unfold rPeas; rw [if_pos hc, cln (by omega), hst]; unfold peaA; dsimp only; rw [if_pos h154]; rfl) hY' (eq.mr hR' hV') eq.fr
          | exact OpM_i (by unfold rPeas; rw [if_pos hc, cln (by omega), hst]; unfold peaA; dsimp only; rw [if_neg h154, if_neg (Int32.not_le.mpr h146), ej, ← dig_I hL6, if_pos h168]) hY' (eq.mr hR' hV') eq.fr
          | exact OpM_i (by unfold rPeas; rw [if_pos hc, cln (by omega), hst]; unfold peaA; dsimp only; rw [if_neg h154, if_neg (Int32.not_le.mpr h146), ej, ← dig_I hL6, if_neg h168]) hY' (eq.mr hR' hV') eq.fr
    · refine PW_bipush (v := -5) dX12_peas_149 (by decide) ?_
      refine PW_ireturn rfl (rfl) dX12_peas_151 (Nat.le_of_ble_eq_true rfl) (Nat.le_of_ble_eq_true rfl) ?_
      exact OpM_i (by unfold rPeas; rw [if_pos hc, cln (by omega)]; rw [hst]; unfold peaA; dsimp only; rw [if_neg (fun q => absurd (q ▸ Int32.not_lt.mp h146) (by rw [nI_iN, show (-1 : Int32) = iN (-1) from rfl, iN_le (by omega) (by omega) (by omega) (by omega)]; omega)), if_pos (Int32.not_lt.mp h146)]) hY' (eq.mr hR' hV') eq.fr
  · have h139 := jeq (b := 5) h139
    have hst := rpS_5 hn4 _ h139
    refine PW_iconst (v := -1) dX12_peas_142 (by decide) ?_
    refine PW_ireturn rfl (rfl) dX12_peas_143 (Nat.le_of_ble_eq_true rfl) (Nat.le_of_ble_eq_true rfl) ?_
    exact OpM_i (by unfold rPeas; rw [if_pos hc, cln (by omega)]; rw [hst]; rfl) hY' (eq.mr hR' hV') eq.fr
set_option maxRecDepth 100000 in
set_option maxHeartbeats 4000000 in
theorem lpX12_peas3 {G : GE} {d : Nat} {i : MI0} {S : MS} {Y : Nat} (hY : YS S Y) {s : Ab} {b : Nat} (hR : MR i S Y s) (hV : AV b s) (hb : b ≤ 100) (hd : 12 ≤ d) {p k : Int32} {n : Nat} (hn1 : 1 ≤ n) (hn4 : n ≤ 4) (hc : ((-60 : Int32) ≤ p ∧ p ≤ 60) ∧ ((1 : Int32) ≤ nI n ∧ nI n ≤ 4) ∧ (-1 : Int32) ≤ k) {x : Nat} (z6 : Value) (ko : ∀ i6, EQ2 i i6 Y → (∀ k, k < n → i6 (Y + 15) k = nI ((lw (hn (vh (aV s)) + 1) n x) k)) → ∀ z8, PW G iX12_peas d (OpM Y (i, S) (.int (rPeas s p (nI n) k).1) (rPeas s p (nI n) k).2) 130 [.ref Y, .int p, .int (nI n), .int k, .int (nI ((hn (vh (aV s)) + 1) ^ n)), .int (nI (cwN (hn (vh (aV s)) + 1) x n)), .int (nI x), .int (nI (cwN (hn (vh (aV s)) + 1) x n)), z8] [] (i6, S) 0 0) : ∀ (n0 j : Nat), j ≤ n → n < j + n0 → ∀ (i' : MI0), EQ2 i i' Y → (∀ k, k < n → i' (Y + 14) k = nI ((lw (hn (vh (aV s)) + 1) n x) k)) → (∀ k, k < j → i' (Y + 15) k = nI ((lw (hn (vh (aV s)) + 1) n x) k)) → PW G iX12_peas d (OpM Y (i, S) (.int (rPeas s p (nI n) k).1) (rPeas s p (nI n) k).2) 104 [.ref Y, .int p, .int (nI n), .int k, .int (nI ((hn (vh (aV s)) + 1) ^ n)), .int (nI (cwN (hn (vh (aV s)) + 1) x n)), .int (nI x), .int (nI (cwN (hn (vh (aV s)) + 1) x n)), .int (nI j)] [] (i', S) 0 0 := by
  have hY' := hY
  obtain ⟨Yt, ⟨Yt1, Yr1⟩, ⟨Yt2, Yr2⟩, ⟨Yt3, Yr3⟩, ⟨Yt4, Yr4⟩, ⟨Yt5, Yr5⟩, ⟨Yt6, Yr6⟩, ⟨Yt7, Yr7⟩, ⟨Yt8, Yr8⟩, ⟨Yt9, Yr9⟩, ⟨Yt10, Yr10⟩, ⟨Yt11, Yr11⟩, ⟨Yt12, Yr12⟩, ⟨Yt13, Yr13⟩, ⟨Yt14, Yr14⟩, ⟨Yt15, Yr15⟩, ⟨Yt16, Yr16⟩, ⟨Yt17, Yr17⟩, ⟨Yt18, Yr18⟩, ⟨Yt19, Yr19⟩⟩ := hY
  have hR' := hR
  have hV' := hV
  obtain ⟨Rm, Ri0, Ri1, Rk, Rx, Rt, Rl⟩ := hR
  have Rh := Rm.1
  obtain ⟨Av, Ai, At, Ab', Aa, Aw⟩ := hV
  have Ah := Av.1
  have Ah1 := Ah.1
  have Av1 := Av.2.1
  have Av2 := Av.2.2.1
  have Av3 := Av.2.2.2.1
  intro n0
  induction n0 with
  | zero => intro j h1 h2; exact absurd h2 (by omega)
  | succ n0 ih =>
    intro j hj1 hj2 i' v1 v2 v3
    refine PW_iload dX12_peas_104 rfl ?_
    refine PW_iload_n (i := 2) dX12_peas_106 rfl rfl ?_
    refine PW_icmp_ge 130 dX12_peas_107 (by decide) (fun h107 => ?_) (fun h107 => ?_)
    · have h107 := jle h107
      have ej : j = n := by omega
      subst ej
      exact ko i' v1 v3 _
    · have h107 := jnle h107
      refine PW_aload_n (i := 0) dX12_peas_110 rfl rfl ?_
      refine PW_getR dX12_peas_111 fg12_52 (Yt) (Yr15) ?_
      refine PW_iload dX12_peas_114 rfl ?_
      refine PW_aload_n (i := 0) dX12_peas_116 rfl rfl ?_
      refine PW_getR dX12_peas_117 fg12_49 (Yt) (Yr14) ?_
      refine PW_iload dX12_peas_120 rfl ?_
      refine PW_ial (v := nI ((lw (hn (vh (aV s)) + 1) n x) j)) dX12_peas_122 (Yt14) (by omega) (by omega) (v2 j h107) ?_
      refine PW_ias dX12_peas_123 (Yt15) (by omega) (by omega) ?_
      refine PW_inc1 dX12_peas_124 rfl (Nat.le_of_ble_eq_true rfl) rfl ?_
      refine PW_goto 104 dX12_peas_127 (by decide) ?_
      refine PW_nm rfl (fun i2 e2 => ?_)
      have g1 : ∀ q, q ≠ Y + 15 → i2 q = i' q := fun q hq => by rw [e2, rI_f _ _ hq]; rfl
      refine ih (j + 1) (by omega) (by omega) i2 (v1.trans ⟨fun k _ _ _ _ => by rw [g1 Y (by omega)], fun j hj => ⟨by rw [g1 _ (by omega)], by rw [g1 _ (by omega)]⟩, fun q _ _ _ _ _ _ => g1 q (by omega)⟩) (by rw [g1 (Y + 14) (by omega)]; exact v2) (fun a ha => ?_)
      by_cases e : a = j
      · rw [e, e2, rI_s]
      · rw [e2, rI_k _ _ _ e]; exact v3 a (by omega)
theorem rpS_w {h : Hm} {p : Int} {n : Nat} {x c : Nat} {L : Nat → Nat} (hs : rpS h p n x = some (c, L)) (h6 : hn h ≤ 6) (hn4 : n ≤ 4) : ∀ j, j < n → L j ≤ 6 := by
  induction x with
  | zero => cases hs
  | succ x ih =>
    unfold rpS at hs
    split at hs
    · cases hs
      intro j hj
      have : lw (hn h + 1) n x j < hn h + 1 := dgt_lt (by omega)
      omega
    · exact ih hs
set_option maxRecDepth 100000 in
set_option maxHeartbeats 4000000 in
theorem lpX12_peas2 {G : GE} {d : Nat} {i : MI0} {S : MS} {Y : Nat} (hY : YS S Y) {s : Ab} {b : Nat} (hR : MR i S Y s) (hV : AV b s) (hb : b ≤ 100) (hd : 12 ≤ d) {p k : Int32} {n : Nat} (hn1 : 1 ≤ n) (hn4 : n ≤ 4) (hc : ((-60 : Int32) ≤ p ∧ p ≤ 60) ∧ ((1 : Int32) ≤ nI n ∧ nI n ≤ 4) ∧ (-1 : Int32) ≤ k) : ∀ (n0 j : Nat), j ≤ (hn (vh (aV s)) + 1) ^ n → (hn (vh (aV s)) + 1) ^ n < j + n0 → ∀ (i' : MI0) (z7 z8 : Value), EQ2 i i' Y → BLq i' Y n (rpS (vh (aV s)) p.toInt n j) → PW G iX12_peas d (OpM Y (i, S) (.int (rPeas s p (nI n) k).1) (rPeas s p (nI n) k).2) 65 [.ref Y, .int p, .int (nI n), .int k, .int (nI ((hn (vh (aV s)) + 1) ^ n)), .int (nI (mfO (rpS (vh (aV s)) p.toInt n j))), .int (nI j), z7, z8] [] (i', S) 0 0 := by
  have hY' := hY
  obtain ⟨Yt, ⟨Yt1, Yr1⟩, ⟨Yt2, Yr2⟩, ⟨Yt3, Yr3⟩, ⟨Yt4, Yr4⟩, ⟨Yt5, Yr5⟩, ⟨Yt6, Yr6⟩, ⟨Yt7, Yr7⟩, ⟨Yt8, Yr8⟩, ⟨Yt9, Yr9⟩, ⟨Yt10, Yr10⟩, ⟨Yt11, Yr11⟩, ⟨Yt12, Yr12⟩, ⟨Yt13, Yr13⟩, ⟨Yt14, Yr14⟩, ⟨Yt15, Yr15⟩, ⟨Yt16, Yr16⟩, ⟨Yt17, Yr17⟩, ⟨Yt18, Yr18⟩, ⟨Yt19, Yr19⟩⟩ := hY
  have hR' := hR
  have hV' := hV
  obtain ⟨Rm, Ri0, Ri1, Rk, Rx, Rt, Rl⟩ := hR
  have Rh := Rm.1
  obtain ⟨Av, Ai, At, Ab', Aa, Aw⟩ := hV
  have Ah := Av.1
  have Ah1 := Ah.1
  have Av1 := Av.2.1
  have Av2 := Av.2.2.1
  have Av3 := Av.2.2.2.1
  intro n0
  induction n0 with
  | zero => intro j h1 h2; exact absurd h2 (by omega)
  | succ n0 ih =>
    intro j hj1 hj2 i' z7 z8 v1 v2
    refine PW_iload dX12_peas_65 rfl ?_
    refine PW_iload dX12_peas_67 rfl ?_
    have hpB := pow_B (B := (hn (vh (aV s)) + 1)) (n := n) (by omega) hn4
    have hmf := rpS_le (h := (vh (aV s))) (p := p.toInt) hn4 j
    refine PW_icmp_ge 136 dX12_peas_69 (by decide) (fun h69 => ?_) (fun h69 => ?_)
    · have h69 := jle h69
      have ej : j = (hn (vh (aV s)) + 1) ^ n := by omega
      subst ej
      exact tlX12_peas hY' hR' hV' hb hd hn1 hn4 hc v1 v2 (fun c L hs => rpS_w hs Ah1 hn4) _ _ _
    · have h69 := jnle h69
      refine PW_aload_n (i := 0) dX12_peas_72 rfl rfl ?_
      refine PW_iload dX12_peas_73 rfl ?_
      refine PW_iload_n (i := 2) dX12_peas_75 rfl rfl ?_
      refine PW_callV dX12_peas_76 moX12_fedBy cv12_224 (Yt) (by omega) rfl rfl (Nat.le_of_ble_eq_true rfl) (Nat.le_of_ble_eq_true rfl) (Nat.le_of_ble_eq_true rfl) (spX12_fedBy (d := d - 1) hY' (B := (hn (vh (aV s)) + 1)) (by omega) (by omega) (by rw [v1.1 1 (by decide) (by decide) (by decide) (by decide)]; exact Rh.1) (x := j) (by omega) hn4 hn1) (fun v M1 hq => ?_)
      obtain ⟨rfl, i3, rfl, f1, f2⟩ := hq
      have v3 : EQ2 i i3 Y := v1.trans ⟨fun k _ _ _ _ => by rw [f2 Y (by omega)], fun j hj => ⟨by rw [f2 _ (by omega)], by rw [f2 _ (by omega)]⟩, fun q _ _ _ _ _ _ => f2 q (by omega)⟩
      refine PW_istore dX12_peas_79 (Nat.le_of_ble_eq_true rfl) rfl ?_
      have hcw := cwN_le (hn (vh (aV s)) + 1) j n
      have hls := lsO_m (st := (rpS (vh (aV s)) p.toInt n j)) (c := (cwN (hn (vh (aV s)) + 1) j n)) (by omega)
      refine PW_iload dX12_peas_81 rfl ?_
      refine PW_iload dX12_peas_83 rfl ?_
      refine PW_icmp_ge 130 dX12_peas_85 (by decide) (fun h85 => ?_) (fun h85 => ?_)
      · have h85 := jle h85
        refine PW_inc1 dX12_peas_130 rfl (Nat.le_of_ble_eq_true rfl) rfl ?_
        refine PW_goto 65 dX12_peas_133 (by decide) ?_
        have q := ih (j + 1) (by omega) (by omega)
        first
          | (rw [rpS_f (x := j) (fun z => absurd (hls.mp z.1) (by omega))] at q; exact q i3 _ _ v3 (by intro c L hs k hk; rw [f2 (Y + 15) (by omega)]; exact v2 c L hs k hk))
          | (rw [rpS_f (x := j) (fun z => h94 (ep.mpr z.2))] at q; exact q i4 _ _ v4 (by intro c L hs k hk; rw [g2 (Y + 15) (by omega) (by omega) (by omega) (by omega), f2 (Y + 15) (by omega)]; exact v2 c L hs k hk))
      · have h85 := jnle h85
        refine PW_aload_n (i := 0) dX12_peas_88 rfl rfl ?_
        refine PW_iload_n (i := 2) dX12_peas_89 rfl rfl ?_
        refine PW_callV dX12_peas_90 moX12_placeBy cv12_228 (Yt) (by omega) rfl rfl (Nat.le_of_ble_eq_true rfl) (Nat.le_of_ble_eq_true rfl) (Nat.le_of_ble_eq_true rfl) (spX12_placeBy (d := d - 1) hY' (v3.mh Rh Ah1) Ah (by omega) (by omega) hn4 f1 (fun k hk => Nat.le_of_lt_succ (dgt_lt (by omega)))) (fun v M1 hq => ?_)
        obtain ⟨rfl, i4, rfl, g1, g2⟩ := hq
        have v4 : EQ2 i i4 Y := v3.trans g1
        refine PW_iload_n (i := 1) dX12_peas_93 rfl rfl ?_
        have hpl := pl_of hc.1
        have Fv := stpN_V Ah (lw (hn (vh (aV s)) + 1) n j) n
        have f4 := Fv.2.2.2.1
        have f5 := Fv.2.2.2.2.1
        have ep : iN (hp (stpN (vh (aV s)) (lw (hn (vh (aV s)) + 1) n j) n)) = p ↔ hp (stpN (vh (aV s)) (lw (hn (vh (aV s)) + 1) n j) n) = p.toInt := by
          constructor
          · intro q; rw [iN_of p, iN_inj (by omega) (by omega) (by omega) (by omega)] at q; exact q
          · intro q; rw [q]; exact (iN_of p).symm
        refine PW_icmp_ne 130 dX12_peas_94 (by decide) (fun h94 => ?_) (fun h94 => ?_)
        · refine PW_inc1 dX12_peas_130 rfl (Nat.le_of_ble_eq_true rfl) rfl ?_
          refine PW_goto 65 dX12_peas_133 (by decide) ?_
          have q := ih (j + 1) (by omega) (by omega)
          first
            | (rw [rpS_f (x := j) (fun z => absurd (hls.mp z.1) (by omega))] at q; exact q i3 _ _ v3 (by intro c L hs k hk; rw [f2 (Y + 15) (by omega)]; exact v2 c L hs k hk))
            | (rw [rpS_f (x := j) (fun z => h94 (ep.mpr z.2))] at q; exact q i4 _ _ v4 (by intro c L hs k hk; rw [g2 (Y + 15) (by omega) (by omega) (by omega) (by omega), f2 (Y + 15) (by omega)]; exact v2 c L hs k hk))
        · refine PW_iload dX12_peas_97 rfl ?_
          refine PW_istore dX12_peas_99 (Nat.le_of_ble_eq_true rfl) rfl ?_
          refine PW_iconst (v := 0) dX12_peas_101 (by decide) ?_
          refine PW_istore dX12_peas_102 (Nat.le_of_ble_eq_true rfl) rfl ?_
          refine lpX12_peas3 hY' hR' hV' hb hd hn1 hn4 hc (x := j) (.int (nI j)) (fun i6 b1 b2 z8 => ?_) (n + 1) 0 (by omega) (by omega) i4 v4 (fun k hk => by rw [g2 (Y + 14) (by omega) (by omega) (by omega) (by omega)]; exact f1 k hk) (fun k hk => absurd hk (Nat.not_lt_zero k))
          have ers := rpS_t (h := (vh (aV s))) (p := p.toInt) (n := n) (x := j) (hls.mpr h85) (ep.mp h94)
          refine PW_inc1 dX12_peas_130 rfl (Nat.le_of_ble_eq_true rfl) rfl ?_
          refine PW_goto 65 dX12_peas_133 (by decide) ?_
          have q := ih (j + 1) (by omega) (by omega) i6 (.int (nI (cwN (hn (vh (aV s)) + 1) j n))) z8 b1 (by intro c L hs k hk; rw [ers] at hs; cases hs; exact b2 k hk)
          rw [ers] at q
          exact q
set_option maxRecDepth 100000 in
set_option maxHeartbeats 4000000 in
theorem lpX12_peas1 {G : GE} {d : Nat} {i : MI0} {S : MS} {Y : Nat} (hY : YS S Y) {s : Ab} {b : Nat} (hR : MR i S Y s) (hV : AV b s) (hb : b ≤ 100) (hd : 12 ≤ d) {p k : Int32} {n : Nat} (hn1 : 1 ≤ n) (hn4 : n ≤ 4) (hc : ((-60 : Int32) ≤ p ∧ p ≤ 60) ∧ ((1 : Int32) ≤ nI n ∧ nI n ≤ 4) ∧ (-1 : Int32) ≤ k) : ∀ (n0 j : Nat), j ≤ n → n < j + n0 → PW G iX12_peas d (OpM Y (i, S) (.int (rPeas s p (nI n) k).1) (rPeas s p (nI n) k).2) 36 [.ref Y, .int p, .int (nI n), .int k, .int (nI ((hn (vh (aV s)) + 1) ^ j)), .int (nI j), .null, .null, .null] [] (i, S) 0 0 := by
  have hY' := hY
  obtain ⟨Yt, ⟨Yt1, Yr1⟩, ⟨Yt2, Yr2⟩, ⟨Yt3, Yr3⟩, ⟨Yt4, Yr4⟩, ⟨Yt5, Yr5⟩, ⟨Yt6, Yr6⟩, ⟨Yt7, Yr7⟩, ⟨Yt8, Yr8⟩, ⟨Yt9, Yr9⟩, ⟨Yt10, Yr10⟩, ⟨Yt11, Yr11⟩, ⟨Yt12, Yr12⟩, ⟨Yt13, Yr13⟩, ⟨Yt14, Yr14⟩, ⟨Yt15, Yr15⟩, ⟨Yt16, Yr16⟩, ⟨Yt17, Yr17⟩, ⟨Yt18, Yr18⟩, ⟨Yt19, Yr19⟩⟩ := hY
  have hR' := hR
  have hV' := hV
  obtain ⟨Rm, Ri0, Ri1, Rk, Rx, Rt, Rl⟩ := hR
  have Rh := Rm.1
  obtain ⟨Av, Ai, At, Ab', Aa, Aw⟩ := hV
  have Ah := Av.1
  have Ah1 := Ah.1
  have Av1 := Av.2.1
  have Av2 := Av.2.2.1
  have Av3 := Av.2.2.2.1
  intro n0
  induction n0 with
  | zero => intro j h1 h2; exact absurd h2 (by omega)
  | succ n0 ih =>
    intro j hj1 hj2 
    refine PW_iload dX12_peas_36 rfl ?_
    refine PW_iload_n (i := 2) dX12_peas_38 rfl rfl ?_
    refine PW_icmp_ge 59 dX12_peas_39 (by decide) (fun h39 => ?_) (fun h39 => ?_)
    · have h39 := jle h39
      have ej : j = n := by omega
      subst ej
      refine PW_iconst (v := 5) dX12_peas_59 (by decide) ?_
      refine PW_istore dX12_peas_60 (Nat.le_of_ble_eq_true rfl) rfl ?_
      refine PW_iconst (v := 0) dX12_peas_62 (by decide) ?_
      refine PW_istore dX12_peas_63 (Nat.le_of_ble_eq_true rfl) rfl ?_
      exact lpX12_peas2 hY' hR' hV' hb hd hn1 hn4 hc ((hn (vh (aV s)) + 1) ^ j + 1) 0 (Nat.zero_le _) (by rw [Nat.zero_add]; exact Nat.lt_succ_self _) i _ _ (EQ2.rfl' i Y) (fun c L hs => by cases hs)
    · have h39 := jnle h39
      refine PW_iload dX12_peas_42 rfl ?_
      refine PW_aload_n (i := 0) dX12_peas_44 rfl rfl ?_
      refine PW_giv (v := nI (hn (vh (aV s)))) dX12_peas_45 fg12_74 (Yt) (Rh.1) ?_
      refine PW_iconst (v := 1) dX12_peas_48 (by decide) ?_
      refine PW_iadd dX12_peas_49 ?_
      refine PW_eqi (nI_1 _) ?_
      refine PW_imul dX12_peas_50 ?_
      refine PW_eqi (show _ = nI ((hn (vh (aV s)) + 1) ^ (j + 1)) from pk_mul _ _) ?_
      refine PW_istore dX12_peas_51 (Nat.le_of_ble_eq_true rfl) rfl ?_
      refine PW_inc1 dX12_peas_53 rfl (Nat.le_of_ble_eq_true rfl) rfl ?_
      refine PW_goto 36 dX12_peas_56 (by decide) ?_
      exact ih (j + 1) (by omega) (by omega)
set_option maxRecDepth 100000 in
set_option maxHeartbeats 4000000 in
theorem spX12_peas {G : GE} {d : Nat} {i : MI0} {S : MS} {Y : Nat} (hY : YS S Y) {s : Ab} {b : Nat} (hR : MR i S Y s) (hV : AV b s) (hb : b ≤ 100) (hd : 12 ≤ d) (p n k : Int32) : Mt G iX12_peas d [.ref Y, .int p, .int n, .int k] (i, S) (OpM Y (i, S) (.int (rPeas s p n k).1) (rPeas s p n k).2) := by
  have hY' := hY
  obtain ⟨Yt, ⟨Yt1, Yr1⟩, ⟨Yt2, Yr2⟩, ⟨Yt3, Yr3⟩, ⟨Yt4, Yr4⟩, ⟨Yt5, Yr5⟩, ⟨Yt6, Yr6⟩, ⟨Yt7, Yr7⟩, ⟨Yt8, Yr8⟩, ⟨Yt9, Yr9⟩, ⟨Yt10, Yr10⟩, ⟨Yt11, Yr11⟩, ⟨Yt12, Yr12⟩, ⟨Yt13, Yr13⟩, ⟨Yt14, Yr14⟩, ⟨Yt15, Yr15⟩, ⟨Yt16, Yr16⟩, ⟨Yt17, Yr17⟩, ⟨Yt18, Yr18⟩, ⟨Yt19, Yr19⟩⟩ := hY
  have hR' := hR
  have hV' := hV
  obtain ⟨Rm, Ri0, Ri1, Rk, Rx, Rt, Rl⟩ := hR
  have Rh := Rm.1
  obtain ⟨Av, Ai, At, Ab', Aa, Aw⟩ := hV
  have Ah := Av.1
  have Ah1 := Ah.1
  have Av1 := Av.2.1
  have Av2 := Av.2.2.1
  have Av3 := Av.2.2.2.1
  refine Mt_in 5 (ls := [.ref Y, .int p, .int n, .int k, .null, .null, .null, .null, .null]) moX12_peas (Nat.le_of_ble_eq_true rfl) rfl ?_
  refine PW_iload_n (i := 1) dX12_peas_0 rfl rfl ?_
  refine PW_bipush (v := -60) dX12_peas_1 (by decide) ?_
  refine PW_bipush (v := 60) dX12_peas_3 (by decide) ?_
  refine PW_callS dX12_peas_5 moX12_in cs12_93 (by omega) rfl rfl (Nat.le_of_ble_eq_true rfl) (Nat.le_of_ble_eq_true rfl) (Nat.le_of_ble_eq_true rfl) (spX12_in (d := d - 1) _ _ _) (fun v M1 hq => ?_)
  obtain ⟨rfl, rfl⟩ := hq
  refine PW_if_eq 25 dX12_peas_8 (by decide) (fun h8 => ?_) (fun h8 => ?_)
  · have h8 := b1_0.mp h8
    refine PW_aload_n (i := 0) dX12_peas_25 rfl rfl ?_
    refine PW_callV dX12_peas_26 moX12_ten cv12_208 (Yt) (by omega) rfl rfl (Nat.le_of_ble_eq_true rfl) (Nat.le_of_ble_eq_true rfl) (Nat.le_of_ble_eq_true rfl) (spX12_ten (d := d - 1) hY' hR') (fun v M1 hq => ?_)
    obtain ⟨rfl, i1, rfl, c1, c2⟩ := hq
    refine PW_ireturn rfl (rfl) dX12_peas_29 (Nat.le_of_ble_eq_true rfl) (Nat.le_of_ble_eq_true rfl) ?_
    exact OpM_i (by unfold rPeas; rw [if_neg (fun q => by first | exact h8 q.1 | exact h17 q.2.1 | exact h22 q.2.2)]) hY' c1 (fun q hq => c2 q (by omega))
  · have h8 := b1_1.mp h8
    refine PW_iload_n (i := 2) dX12_peas_11 rfl rfl ?_
    refine PW_iconst (v := 1) dX12_peas_12 (by decide) ?_
    refine PW_iconst (v := 4) dX12_peas_13 (by decide) ?_
    refine PW_callS dX12_peas_14 moX12_in cs12_93 (by omega) rfl rfl (Nat.le_of_ble_eq_true rfl) (Nat.le_of_ble_eq_true rfl) (Nat.le_of_ble_eq_true rfl) (spX12_in (d := d - 1) _ _ _) (fun v M1 hq => ?_)
    obtain ⟨rfl, rfl⟩ := hq
    refine PW_if_eq 25 dX12_peas_17 (by decide) (fun h17 => ?_) (fun h17 => ?_)
    · have h17 := b1_0.mp h17
      refine PW_aload_n (i := 0) dX12_peas_25 rfl rfl ?_
      refine PW_callV dX12_peas_26 moX12_ten cv12_208 (Yt) (by omega) rfl rfl (Nat.le_of_ble_eq_true rfl) (Nat.le_of_ble_eq_true rfl) (Nat.le_of_ble_eq_true rfl) (spX12_ten (d := d - 1) hY' hR') (fun v M1 hq => ?_)
      obtain ⟨rfl, i1, rfl, c1, c2⟩ := hq
      refine PW_ireturn rfl (rfl) dX12_peas_29 (Nat.le_of_ble_eq_true rfl) (Nat.le_of_ble_eq_true rfl) ?_
      exact OpM_i (by unfold rPeas; rw [if_neg (fun q => by first | exact h8 q.1 | exact h17 q.2.1 | exact h22 q.2.2)]) hY' c1 (fun q hq => c2 q (by omega))
    · have h17 := b1_1.mp h17
      refine PW_iload_n (i := 3) dX12_peas_20 rfl rfl ?_
      refine PW_iconst (v := -1) dX12_peas_21 (by decide) ?_
      refine PW_icmp_ge 30 dX12_peas_22 (by decide) (fun h22 => ?_) (fun h22 => ?_)
      · obtain ⟨n, hn1, hn4, rfl⟩ := one_of (n := 4) h17 rfl (by decide)
        refine PW_iconst (v := 1) dX12_peas_30 (by decide) ?_
        refine PW_istore dX12_peas_31 (Nat.le_of_ble_eq_true rfl) rfl ?_
        refine PW_iconst (v := 0) dX12_peas_33 (by decide) ?_
        refine PW_istore dX12_peas_34 (Nat.le_of_ble_eq_true rfl) rfl ?_
        exact lpX12_peas1 hY' hR' hV' hb hd hn1 hn4 ⟨h8, h17, h22⟩ (n + 1) 0 (by omega) (by omega)
      · refine PW_aload_n (i := 0) dX12_peas_25 rfl rfl ?_
        refine PW_callV dX12_peas_26 moX12_ten cv12_208 (Yt) (by omega) rfl rfl (Nat.le_of_ble_eq_true rfl) (Nat.le_of_ble_eq_true rfl) (Nat.le_of_ble_eq_true rfl) (spX12_ten (d := d - 1) hY' hR') (fun v M1 hq => ?_)
        obtain ⟨rfl, i1, rfl, c1, c2⟩ := hq
        refine PW_ireturn rfl (rfl) dX12_peas_29 (Nat.le_of_ble_eq_true rfl) (Nat.le_of_ble_eq_true rfl) ?_
        exact OpM_i (by unfold rPeas; rw [if_neg (fun q => by first | exact h8 q.1 | exact h17 q.2.1 | exact h22 q.2.2)]) hY' c1 (fun q hq => c2 q (by omega))

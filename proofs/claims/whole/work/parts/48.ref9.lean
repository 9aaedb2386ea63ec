/-! ===== the reference: digest ===== -/
theorem rLs (M : Mm) (a k : Nat) (v : Int64) : (wL M a k v).2.1 a k = v := by
  unfold wL va_up vp_updL
  simp
theorem rLk (M : Mm) {a k : Nat} (v : Int64) {j : Nat} (h : j ≠ k) : (wL M a k v).2.1 a j = M.2.1 a j := by
  unfold wL va_up vp_updL
  simp [h]
theorem rLa (M : Mm) {a k : Nat} (v : Int64) {b : Nat} (h : b ≠ a) : (wL M a k v).2.1 b = M.2.1 b := by
  unfold wL va_up
  simp [h]
theorem PW_nmL {G : GE} {I : MI} {d : Nat} {Post : Option Value → Mm → Prop} {pc : Nat} {ls st : List Value} {M' : Mm} {i : MI0} {S2 : (Nat → Nat → Option Nat) × (Nat → Nat × Nat) × Nat} {nc ns : Nat} (h1 : M'.1 = i) (h2 : M'.2.2 = S2) (k : ∀ l1 : Nat → Nat → Int64, l1 = M'.2.1 → PW G I d Post pc ls st (i, (l1, S2)) nc ns) : PW G I d Post pc ls st M' nc ns := by
  subst h1
  subst h2
  exact k M'.2.1 rfl
/-- the longs of Y but for its own are as they were -/
def LXq (l l1 : Nat → Nat → Int64) (Y : Nat) (x : Int64) : Prop := l1 Y 32 = x ∧ l1 Y 28 = l Y 28 ∧ l1 Y 29 = l Y 29 ∧ ∀ q, q ≠ Y → l1 q = l q
theorem LXq.s {l l1 l2 : Nat → Nat → Int64} {i : MI0} {S2 : (Nat → Nat → Option Nat) × (Nat → Nat × Nat) × Nat} {Y : Nat} {x v : Int64} (h : LXq l l1 Y x) (e : l2 = (wL (i, (l1, S2)) Y 32 v).2.1) : LXq l l2 Y v := by
  subst e
  exact ⟨rLs _ _ _ _, (rLk _ _ (by decide)).trans h.2.1, (rLk _ _ (by decide)).trans h.2.2.1, fun q hq => (rLa _ _ hq).trans (h.2.2.2 q hq)⟩
theorem MR.l {i : MI0} {S : MS} {Y : Nat} {s : Ab} {l1 : Nat → Nat → Int64} {x : Int64} (hR : MR i S Y s) (h : LXq S.1 l1 Y x) : MR i (l1, S.2) Y s := by
  obtain ⟨r1, r2, r3, r4, r5, r6, r7⟩ := hR
  exact ⟨r1, r2, r3, r4, r5, r6, h.2.1.trans r7.1, h.2.2.1.trans r7.2⟩
theorem OpM_L {i : MI0} {S : MS} {Y : Nat} {s' : Ab} {o : Int64 × Ab} {r : Int64} {l1 : Nat → Nat → Int64} (e : o = (r, s')) (hY : YS S Y) (hR : MR i (l1, S.2) Y s') (h : ∀ q, q ≠ Y → l1 q = S.1 q) : OpM Y (i, S) (.long o.1) o.2 (some (.long r)) (i, (l1, S.2)) := by
  rw [e]
  exact ⟨rfl, ⟨hY, hR⟩, rfl, rfl, fun q hq => ⟨rfl, h q (by omega), rfl⟩⟩
theorem OpM_iL {i : MI0} {S : MS} {Y : Nat} {s' : Ab} {o : Int32 × Ab} {r : Int32} {l1 : Nat → Nat → Int64} (e : o = (r, s')) (hY : YS S Y) (hR : MR i (l1, S.2) Y s') (h : ∀ q, q ≠ Y → l1 q = S.1 q) : OpM Y (i, S) (.int o.1) o.2 (some (.int r)) (i, (l1, S.2)) := by
  rw [e]
  exact ⟨rfl, ⟨hY, hR⟩, rfl, rfl, fun q hq => ⟨rfl, h q (by omega), rfl⟩⟩
set_option maxRecDepth 100000 in
set_option maxHeartbeats 4000000 in
theorem spX12_mix {G : GE} {d : Nat} {i : MI0} {S : MS} {Y : Nat} (hY : YS S Y) (v : Int64) : Mt G iX12_mix d [.ref Y, .long v] (i, S) (fun r M' => r = none ∧ M' = wL (i, S) Y 32 (31 * sL S Y 32 + v)) := by
  have hY' := hY
  obtain ⟨Yt, ⟨Yt1, Yr1⟩, ⟨Yt2, Yr2⟩, ⟨Yt3, Yr3⟩, ⟨Yt4, Yr4⟩, ⟨Yt5, Yr5⟩, ⟨Yt6, Yr6⟩, ⟨Yt7, Yr7⟩, ⟨Yt8, Yr8⟩, ⟨Yt9, Yr9⟩, ⟨Yt10, Yr10⟩, ⟨Yt11, Yr11⟩, ⟨Yt12, Yr12⟩, ⟨Yt13, Yr13⟩, ⟨Yt14, Yr14⟩, ⟨Yt15, Yr15⟩, ⟨Yt16, Yr16⟩, ⟨Yt17, Yr17⟩, ⟨Yt18, Yr18⟩, ⟨Yt19, Yr19⟩⟩ := hY
  refine Mt_in 0 (ls := [.ref Y, .long v, .null]) moX12_mix (Nat.le_of_ble_eq_true rfl) rfl ?_
  refine PW_aload_n (i := 0) dX12_mix_0 rfl rfl ?_
  refine PW_ldc2 dX12_mix_1 kc12_272 ?_
  refine PW_aload_n (i := 0) dX12_mix_4 rfl rfl ?_
  refine PW_getL dX12_mix_5 fg12_274 (Yt) ?_
  refine PW_lmul dX12_mix_8 ?_
  refine PW_lload_n (i := 1) dX12_mix_9 rfl rfl ?_
  refine PW_ladd dX12_mix_10 ?_
  refine PW_putL dX12_mix_11 fr12_274 (fun h => by cases h) (Yt) ?_
  refine PW_return rfl dX12_mix_14 (Nat.le_of_ble_eq_true rfl) (Nat.le_of_ble_eq_true rfl) ?_
  exact ⟨rfl, rfl⟩
set_option maxRecDepth 100000 in
set_option maxHeartbeats 4000000 in
theorem tlX12_digest {G : GE} {d : Nat} {i : MI0} {S : MS} {Y : Nat} (hY : YS S Y) {s : Ab} {b : Nat} (hR : MR i S Y s) (hV : AV b s) (hb : b ≤ 100) (hd : 12 ≤ d) {l1 : Nat → Nat → Int64} {x : Int64} (hx : LXq S.1 l1 Y x) (ex : x = dgV (aV s) (dgA s 7)) (z1 : Value) : PW G iX12_digest d (OpM Y (i, S) (.long (oDigest s).1) (oDigest s).2) 165 [.ref Y, z1] [] (i, (l1, S.2)) 0 0 := by
  have hY' := hY
  obtain ⟨Yt, ⟨Yt1, Yr1⟩, ⟨Yt2, Yr2⟩, ⟨Yt3, Yr3⟩, ⟨Yt4, Yr4⟩, ⟨Yt5, Yr5⟩, ⟨Yt6, Yr6⟩, ⟨Yt7, Yr7⟩, ⟨Yt8, Yr8⟩, ⟨Yt9, Yr9⟩, ⟨Yt10, Yr10⟩, ⟨Yt11, Yr11⟩, ⟨Yt12, Yr12⟩, ⟨Yt13, Yr13⟩, ⟨Yt14, Yr14⟩, ⟨Yt15, Yr15⟩, ⟨Yt16, Yr16⟩, ⟨Yt17, Yr17⟩, ⟨Yt18, Yr18⟩, ⟨Yt19, Yr19⟩⟩ := hY
  have hR' := hR
  have hV' := hV
  obtain ⟨Rm, Ri0, Ri1, Rk, Rx, Rt, Rl⟩ := hR
  have Rh := Rm.1
  obtain ⟨Av, Ai, At, Ab', Aa, Aw⟩ := hV
  have Ah := Av.1
  have Ah1 := Ah.1
  have Av1 := Av.2.1
  have Av2 := Av.2.2.1
  have Av3 := Av.2.2.2.1
  refine PW_aload_n (i := 0) dX12_digest_165 rfl rfl ?_
  refine PW_aload_n (i := 0) dX12_digest_166 rfl rfl ?_
  refine PW_glv (v := lN (aA s)) dX12_digest_167 fg12_249 (Yt) (hx.2.1.trans Rl.1) ?_
  refine PW_callV dX12_digest_170 moX12_mix cv12_279 (Yt) (by omega) rfl rfl (Nat.le_of_ble_eq_true rfl) (Nat.le_of_ble_eq_true rfl) (Nat.le_of_ble_eq_true rfl) (spX12_mix (d := d - 1) (S := (l1, S.2)) hY' _) (fun v M1 hq => ?_)
  obtain ⟨rfl, rfl⟩ := hq
  refine PW_nmL (i := i) (S2 := S.2) rfl rfl (fun l2 e_l2 => ?_)
  have l2x := hx.s e_l2
  rw [show sL (l1, S.2) Y 32 = _ from hx.1] at l2x
  refine PW_aload_n (i := 0) dX12_digest_173 rfl rfl ?_
  refine PW_aload_n (i := 0) dX12_digest_174 rfl rfl ?_
  refine PW_glv (v := lN (aW s)) dX12_digest_175 fg12_61 (Yt) (l2x.2.2.1.trans Rl.2) ?_
  refine PW_callV dX12_digest_178 moX12_mix cv12_279 (Yt) (by omega) rfl rfl (Nat.le_of_ble_eq_true rfl) (Nat.le_of_ble_eq_true rfl) (Nat.le_of_ble_eq_true rfl) (spX12_mix (d := d - 1) (S := (l2, S.2)) hY' _) (fun v M1 hq => ?_)
  obtain ⟨rfl, rfl⟩ := hq
  refine PW_nmL (i := i) (S2 := S.2) rfl rfl (fun l3 e_l3 => ?_)
  have l3x := l2x.s e_l3
  rw [show sL (l2, S.2) Y 32 = _ from l2x.1] at l3x
  refine PW_aload_n (i := 0) dX12_digest_181 rfl rfl ?_
  refine PW_glv (v := 31 * (31 * x + lN (aA s)) + lN (aW s)) dX12_digest_182 fg12_274 (Yt) (l3x.1) ?_
  refine PW_lreturn rfl dX12_digest_185 (Nat.le_of_ble_eq_true rfl) (Nat.le_of_ble_eq_true rfl) ?_
  refine OpM_L (o := oDigest s) ?_ hY' (hR'.l l3x) (fun q hq => l3x.2.2.2 q hq)
  unfold oDigest
  rw [← ex]
  unfold mx
  rw [nI_l (by omega), nI_l (by omega)]
set_option maxRecDepth 100000 in
set_option maxHeartbeats 4000000 in
theorem lpX12_dg3 {G : GE} {d : Nat} {i : MI0} {S : MS} {Y : Nat} (hY : YS S Y) {s : Ab} {b : Nat} (hR : MR i S Y s) (hV : AV b s) (hb : b ≤ 100) (hd : 12 ≤ d) {x0 : Int64} (ex : x0 = dgr (aV s) (dgc (vh (aV s)) (mx (dgA s 7) (iN (hp (vh (aV s))))) (hn (vh (aV s)))) (vr (aV s))) : ∀ (n0 j : Nat), j ≤ vs (aV s) → vs (aV s) < j + n0 → ∀ (l1 : Nat → Nat → Int64), LXq S.1 l1 Y (dgs (aV s) x0 j) → PW G iX12_digest d (OpM Y (i, S) (.long (oDigest s).1) (oDigest s).2) 129 [.ref Y, .int (nI j)] [] (i, (l1, S.2)) 0 0 := by
  have hY' := hY
  obtain ⟨Yt, ⟨Yt1, Yr1⟩, ⟨Yt2, Yr2⟩, ⟨Yt3, Yr3⟩, ⟨Yt4, Yr4⟩, ⟨Yt5, Yr5⟩, ⟨Yt6, Yr6⟩, ⟨Yt7, Yr7⟩, ⟨Yt8, Yr8⟩, ⟨Yt9, Yr9⟩, ⟨Yt10, Yr10⟩, ⟨Yt11, Yr11⟩, ⟨Yt12, Yr12⟩, ⟨Yt13, Yr13⟩, ⟨Yt14, Yr14⟩, ⟨Yt15, Yr15⟩, ⟨Yt16, Yr16⟩, ⟨Yt17, Yr17⟩, ⟨Yt18, Yr18⟩, ⟨Yt19, Yr19⟩⟩ := hY
  have hR' := hR
  have hV' := hV
  obtain ⟨Rm, Ri0, Ri1, Rk, Rx, Rt, Rl⟩ := hR
  have Rh := Rm.1
  obtain ⟨Av, Ai, At, Ab', Aa, Aw⟩ := hV
  have Ah := Av.1
  have Ah1 := Ah.1
  have Av1 := Av.2.1
  have Av2 := Av.2.2.1
  have Av3 := Av.2.2.2.1
  intro n0
  induction n0 with
  | zero => intro j h1 h2; exact absurd h2 (by omega)
  | succ n0 ih =>
    intro j hj1 hj2 l1 hx
    refine PW_iload_n (i := 1) dX12_digest_129 rfl rfl ?_
    refine PW_aload_n (i := 0) dX12_digest_130 rfl rfl ?_
    refine PW_giv (v := nI (vs (aV s))) dX12_digest_131 fg12_87 (Yt) (Rm.2.2.1) ?_
    refine PW_icmp_ge 165 dX12_digest_134 (by decide) (fun h134 => ?_) (fun h134 => ?_)
    · have h134 := jle h134
      have ej : j = vs (aV s) := by omega
      subst ej
      exact tlX12_digest hY' hR' hV' hb hd hx (by rw [ex]; rfl) _
    · have h134 := jnle h134
      refine PW_aload_n (i := 0) dX12_digest_137 rfl rfl ?_
      refine PW_aload_n (i := 0) dX12_digest_138 rfl rfl ?_
      refine PW_getR dX12_digest_139 fg12_28 (Yt) (Yr7) ?_
      refine PW_iload_n (i := 1) dX12_digest_142 rfl rfl ?_
      refine PW_ial (v := nI (vW (aV s) j)) dX12_digest_143 (Yt7) (by omega) (by omega) ((Rm.2.2.2.2.2.1 j h134).1) ?_
      refine PW_i2l dX12_digest_144 ?_
      refine PW_callV dX12_digest_145 moX12_mix cv12_279 (Yt) (by omega) rfl rfl (Nat.le_of_ble_eq_true rfl) (Nat.le_of_ble_eq_true rfl) (Nat.le_of_ble_eq_true rfl) (spX12_mix (d := d - 1) (S := (l1, S.2)) hY' _) (fun v M1 hq => ?_)
      obtain ⟨rfl, rfl⟩ := hq
      refine PW_nmL (i := i) (S2 := S.2) rfl rfl (fun l2 e_l2 => ?_)
      have l2x := hx.s e_l2
      rw [show sL (l1, S.2) Y 32 = _ from hx.1] at l2x
      refine PW_aload_n (i := 0) dX12_digest_148 rfl rfl ?_
      refine PW_aload_n (i := 0) dX12_digest_149 rfl rfl ?_
      refine PW_getR dX12_digest_150 fg12_31 (Yt) (Yr8) ?_
      refine PW_iload_n (i := 1) dX12_digest_153 rfl rfl ?_
      refine PW_ial (v := vP (aV s) j) dX12_digest_154 (Yt8) (by omega) (by omega) ((Rm.2.2.2.2.2.1 j h134).2) ?_
      refine PW_i2l dX12_digest_155 ?_
      refine PW_callV dX12_digest_156 moX12_mix cv12_279 (Yt) (by omega) rfl rfl (Nat.le_of_ble_eq_true rfl) (Nat.le_of_ble_eq_true rfl) (Nat.le_of_ble_eq_true rfl) (spX12_mix (d := d - 1) (S := (l2, S.2)) hY' _) (fun v M1 hq => ?_)
      obtain ⟨rfl, rfl⟩ := hq
      refine PW_nmL (i := i) (S2 := S.2) rfl rfl (fun l3 e_l3 => ?_)
      have l3x := l2x.s e_l3
      rw [show sL (l2, S.2) Y 32 = _ from l2x.1] at l3x
      refine PW_inc1 dX12_digest_159 rfl (Nat.le_of_ble_eq_true rfl) rfl ?_
      refine PW_goto 129 dX12_digest_162 (by decide) ?_
      exact ih (j + 1) (by omega) (by omega) _ l3x
set_option maxRecDepth 100000 in
set_option maxHeartbeats 4000000 in
theorem lpX12_dg2 {G : GE} {d : Nat} {i : MI0} {S : MS} {Y : Nat} (hY : YS S Y) {s : Ab} {b : Nat} (hR : MR i S Y s) (hV : AV b s) (hb : b ≤ 100) (hd : 12 ≤ d) {x0 : Int64} (ex : x0 = dgc (vh (aV s)) (mx (dgA s 7) (iN (hp (vh (aV s))))) (hn (vh (aV s)))) : ∀ (n0 j : Nat), j ≤ vr (aV s) → vr (aV s) < j + n0 → ∀ (l1 : Nat → Nat → Int64), LXq S.1 l1 Y (dgr (aV s) x0 j) → PW G iX12_digest d (OpM Y (i, S) (.long (oDigest s).1) (oDigest s).2) 102 [.ref Y, .int (nI j)] [] (i, (l1, S.2)) 0 0 := by
  have hY' := hY
  obtain ⟨Yt, ⟨Yt1, Yr1⟩, ⟨Yt2, Yr2⟩, ⟨Yt3, Yr3⟩, ⟨Yt4, Yr4⟩, ⟨Yt5, Yr5⟩, ⟨Yt6, Yr6⟩, ⟨Yt7, Yr7⟩, ⟨Yt8, Yr8⟩, ⟨Yt9, Yr9⟩, ⟨Yt10, Yr10⟩, ⟨Yt11, Yr11⟩, ⟨Yt12, Yr12⟩, ⟨Yt13, Yr13⟩, ⟨Yt14, Yr14⟩, ⟨Yt15, Yr15⟩, ⟨Yt16, Yr16⟩, ⟨Yt17, Yr17⟩, ⟨Yt18, Yr18⟩, ⟨Yt19, Yr19⟩⟩ := hY
  have hR' := hR
  have hV' := hV
  obtain ⟨Rm, Ri0, Ri1, Rk, Rx, Rt, Rl⟩ := hR
  have Rh := Rm.1
  obtain ⟨Av, Ai, At, Ab', Aa, Aw⟩ := hV
  have Ah := Av.1
  have Ah1 := Ah.1
  have Av1 := Av.2.1
  have Av2 := Av.2.2.1
  have Av3 := Av.2.2.2.1
  intro n0
  induction n0 with
  | zero => intro j h1 h2; exact absurd h2 (by omega)
  | succ n0 ih =>
    intro j hj1 hj2 l1 hx
    refine PW_iload_n (i := 1) dX12_digest_102 rfl rfl ?_
    refine PW_aload_n (i := 0) dX12_digest_103 rfl rfl ?_
    refine PW_giv (v := nI (vr (aV s))) dX12_digest_104 fg12_84 (Yt) (Rm.2.1) ?_
    refine PW_icmp_ge 127 dX12_digest_107 (by decide) (fun h107 => ?_) (fun h107 => ?_)
    · have h107 := jle h107
      have ej : j = vr (aV s) := by omega
      subst ej
      refine PW_iconst (v := 0) dX12_digest_127 (by decide) ?_
      refine PW_istore_n (i := 1) dX12_digest_128 rfl (Nat.le_of_ble_eq_true rfl) rfl ?_
      exact lpX12_dg3 hY' hR' hV' hb hd (by rw [ex]) (vs (aV s) + 1) 0 (by omega) (by omega) _ hx
    · have h107 := jnle h107
      refine PW_aload_n (i := 0) dX12_digest_110 rfl rfl ?_
      refine PW_aload_n (i := 0) dX12_digest_111 rfl rfl ?_
      refine PW_getR dX12_digest_112 fg12_25 (Yt) (Yr6) ?_
      refine PW_iload_n (i := 1) dX12_digest_115 rfl rfl ?_
      refine PW_ial (v := vR (aV s) j) dX12_digest_116 (Yt6) (by omega) (by omega) (Rm.2.2.2.2.1 j h107) ?_
      refine PW_i2l dX12_digest_117 ?_
      refine PW_callV dX12_digest_118 moX12_mix cv12_279 (Yt) (by omega) rfl rfl (Nat.le_of_ble_eq_true rfl) (Nat.le_of_ble_eq_true rfl) (Nat.le_of_ble_eq_true rfl) (spX12_mix (d := d - 1) (S := (l1, S.2)) hY' _) (fun v M1 hq => ?_)
      obtain ⟨rfl, rfl⟩ := hq
      refine PW_nmL (i := i) (S2 := S.2) rfl rfl (fun l2 e_l2 => ?_)
      have l2x := hx.s e_l2
      rw [show sL (l1, S.2) Y 32 = _ from hx.1] at l2x
      refine PW_inc1 dX12_digest_121 rfl (Nat.le_of_ble_eq_true rfl) rfl ?_
      refine PW_goto 102 dX12_digest_124 (by decide) ?_
      exact ih (j + 1) (by omega) (by omega) _ l2x
set_option maxRecDepth 100000 in
set_option maxHeartbeats 4000000 in
theorem lpX12_dg1 {G : GE} {d : Nat} {i : MI0} {S : MS} {Y : Nat} (hY : YS S Y) {s : Ab} {b : Nat} (hR : MR i S Y s) (hV : AV b s) (hb : b ≤ 100) (hd : 12 ≤ d) {x0 : Int64} (ex : x0 = mx (dgA s 7) (iN (hp (vh (aV s))))) : ∀ (n0 j : Nat), j ≤ hn (vh (aV s)) → hn (vh (aV s)) < j + n0 → ∀ (l1 : Nat → Nat → Int64), LXq S.1 l1 Y (dgc (vh (aV s)) x0 j) → PW G iX12_digest d (OpM Y (i, S) (.long (oDigest s).1) (oDigest s).2) 42 [.ref Y, .int (nI j)] [] (i, (l1, S.2)) 0 0 := by
  have hY' := hY
  obtain ⟨Yt, ⟨Yt1, Yr1⟩, ⟨Yt2, Yr2⟩, ⟨Yt3, Yr3⟩, ⟨Yt4, Yr4⟩, ⟨Yt5, Yr5⟩, ⟨Yt6, Yr6⟩, ⟨Yt7, Yr7⟩, ⟨Yt8, Yr8⟩, ⟨Yt9, Yr9⟩, ⟨Yt10, Yr10⟩, ⟨Yt11, Yr11⟩, ⟨Yt12, Yr12⟩, ⟨Yt13, Yr13⟩, ⟨Yt14, Yr14⟩, ⟨Yt15, Yr15⟩, ⟨Yt16, Yr16⟩, ⟨Yt17, Yr17⟩, ⟨Yt18, Yr18⟩, ⟨Yt19, Yr19⟩⟩ := hY
  have hR' := hR
  have hV' := hV
  obtain ⟨Rm, Ri0, Ri1, Rk, Rx, Rt, Rl⟩ := hR
  have Rh := Rm.1
  obtain ⟨Av, Ai, At, Ab', Aa, Aw⟩ := hV
  have Ah := Av.1
  have Ah1 := Ah.1
  have Av1 := Av.2.1
  have Av2 := Av.2.2.1
  have Av3 := Av.2.2.2.1
  intro n0
  induction n0 with
  | zero => intro j h1 h2; exact absurd h2 (by omega)
  | succ n0 ih =>
    intro j hj1 hj2 l1 hx
    refine PW_iload_n (i := 1) dX12_digest_42 rfl rfl ?_
    refine PW_aload_n (i := 0) dX12_digest_43 rfl rfl ?_
    refine PW_giv (v := nI (hn (vh (aV s)))) dX12_digest_44 fg12_74 (Yt) (Rh.1) ?_
    refine PW_icmp_ge 100 dX12_digest_47 (by decide) (fun h47 => ?_) (fun h47 => ?_)
    · have h47 := jle h47
      have ej : j = hn (vh (aV s)) := by omega
      subst ej
      refine PW_iconst (v := 0) dX12_digest_100 (by decide) ?_
      refine PW_istore_n (i := 1) dX12_digest_101 rfl (Nat.le_of_ble_eq_true rfl) rfl ?_
      exact lpX12_dg2 hY' hR' hV' hb hd (by rw [ex]) (vr (aV s) + 1) 0 (by omega) (by omega) _ hx
    · have h47 := jnle h47
      refine PW_aload_n (i := 0) dX12_digest_50 rfl rfl ?_
      refine PW_aload_n (i := 0) dX12_digest_51 rfl rfl ?_
      refine PW_getR dX12_digest_52 fg12_13 (Yt) (Yr2) ?_
      refine PW_iload_n (i := 1) dX12_digest_55 rfl rfl ?_
      refine PW_ial (v := nI (hK (vh (aV s)) j)) dX12_digest_56 (Yt2) (by omega) (by omega) ((Rh.2.2.2 j h47).1) ?_
      refine PW_i2l dX12_digest_57 ?_
      refine PW_callV dX12_digest_58 moX12_mix cv12_279 (Yt) (by omega) rfl rfl (Nat.le_of_ble_eq_true rfl) (Nat.le_of_ble_eq_true rfl) (Nat.le_of_ble_eq_true rfl) (spX12_mix (d := d - 1) (S := (l1, S.2)) hY' _) (fun v M1 hq => ?_)
      obtain ⟨rfl, rfl⟩ := hq
      refine PW_nmL (i := i) (S2 := S.2) rfl rfl (fun l2 e_l2 => ?_)
      have l2x := hx.s e_l2
      rw [show sL (l1, S.2) Y 32 = _ from hx.1] at l2x
      refine PW_aload_n (i := 0) dX12_digest_61 rfl rfl ?_
      refine PW_aload_n (i := 0) dX12_digest_62 rfl rfl ?_
      refine PW_getR dX12_digest_63 fg12_16 (Yt) (Yr3) ?_
      refine PW_iload_n (i := 1) dX12_digest_66 rfl rfl ?_
      refine PW_ial (v := nI (hT (vh (aV s)) j)) dX12_digest_67 (Yt3) (by omega) (by omega) ((Rh.2.2.2 j h47).2.1) ?_
      refine PW_i2l dX12_digest_68 ?_
      refine PW_callV dX12_digest_69 moX12_mix cv12_279 (Yt) (by omega) rfl rfl (Nat.le_of_ble_eq_true rfl) (Nat.le_of_ble_eq_true rfl) (Nat.le_of_ble_eq_true rfl) (spX12_mix (d := d - 1) (S := (l2, S.2)) hY' _) (fun v M1 hq => ?_)
      obtain ⟨rfl, rfl⟩ := hq
      refine PW_nmL (i := i) (S2 := S.2) rfl rfl (fun l3 e_l3 => ?_)
      have l3x := l2x.s e_l3
      rw [show sL (l2, S.2) Y 32 = _ from l2x.1] at l3x
      refine PW_aload_n (i := 0) dX12_digest_72 rfl rfl ?_
      refine PW_aload_n (i := 0) dX12_digest_73 rfl rfl ?_
      refine PW_getR dX12_digest_74 fg12_19 (Yt) (Yr4) ?_
      refine PW_iload_n (i := 1) dX12_digest_77 rfl rfl ?_
      refine PW_ial (v := iN (hN (vh (aV s)) j)) dX12_digest_78 (Yt4) (by omega) (by omega) ((Rh.2.2.2 j h47).2.2.1) ?_
      refine PW_i2l dX12_digest_79 ?_
      refine PW_callV dX12_digest_80 moX12_mix cv12_279 (Yt) (by omega) rfl rfl (Nat.le_of_ble_eq_true rfl) (Nat.le_of_ble_eq_true rfl) (Nat.le_of_ble_eq_true rfl) (spX12_mix (d := d - 1) (S := (l3, S.2)) hY' _) (fun v M1 hq => ?_)
      obtain ⟨rfl, rfl⟩ := hq
      refine PW_nmL (i := i) (S2 := S.2) rfl rfl (fun l4 e_l4 => ?_)
      have l4x := l3x.s e_l4
      rw [show sL (l3, S.2) Y 32 = _ from l3x.1] at l4x
      refine PW_aload_n (i := 0) dX12_digest_83 rfl rfl ?_
      refine PW_aload_n (i := 0) dX12_digest_84 rfl rfl ?_
      refine PW_getR dX12_digest_85 fg12_22 (Yt) (Yr5) ?_
      refine PW_iload_n (i := 1) dX12_digest_88 rfl rfl ?_
      refine PW_ial (v := b2i ((hf (vh (aV s))).testBit j)) dX12_digest_89 (Yt5) (by omega) (by omega) ((Rh.2.2.2 j h47).2.2.2) ?_
      refine PW_i2l dX12_digest_90 ?_
      refine PW_callV dX12_digest_91 moX12_mix cv12_279 (Yt) (by omega) rfl rfl (Nat.le_of_ble_eq_true rfl) (Nat.le_of_ble_eq_true rfl) (Nat.le_of_ble_eq_true rfl) (spX12_mix (d := d - 1) (S := (l4, S.2)) hY' _) (fun v M1 hq => ?_)
      obtain ⟨rfl, rfl⟩ := hq
      refine PW_nmL (i := i) (S2 := S.2) rfl rfl (fun l5 e_l5 => ?_)
      have l5x := l4x.s e_l5
      rw [show sL (l4, S.2) Y 32 = _ from l4x.1] at l5x
      refine PW_inc1 dX12_digest_94 rfl (Nat.le_of_ble_eq_true rfl) rfl ?_
      refine PW_goto 42 dX12_digest_97 (by decide) ?_
      exact ih (j + 1) (by omega) (by omega) _ l5x
set_option maxRecDepth 100000 in
set_option maxHeartbeats 4000000 in
theorem lpX12_dg0 {G : GE} {d : Nat} {i : MI0} {S : MS} {Y : Nat} (hY : YS S Y) {s : Ab} {b : Nat} (hR : MR i S Y s) (hV : AV b s) (hb : b ≤ 100) (hd : 12 ≤ d) : ∀ (n0 j : Nat), j ≤ 7 → 7 < j + n0 → ∀ (l1 : Nat → Nat → Int64), LXq S.1 l1 Y (dgA s j) → PW G iX12_digest d (OpM Y (i, S) (.long (oDigest s).1) (oDigest s).2) 9 [.ref Y, .int (nI j)] [] (i, (l1, S.2)) 0 0 := by
  have hY' := hY
  obtain ⟨Yt, ⟨Yt1, Yr1⟩, ⟨Yt2, Yr2⟩, ⟨Yt3, Yr3⟩, ⟨Yt4, Yr4⟩, ⟨Yt5, Yr5⟩, ⟨Yt6, Yr6⟩, ⟨Yt7, Yr7⟩, ⟨Yt8, Yr8⟩, ⟨Yt9, Yr9⟩, ⟨Yt10, Yr10⟩, ⟨Yt11, Yr11⟩, ⟨Yt12, Yr12⟩, ⟨Yt13, Yr13⟩, ⟨Yt14, Yr14⟩, ⟨Yt15, Yr15⟩, ⟨Yt16, Yr16⟩, ⟨Yt17, Yr17⟩, ⟨Yt18, Yr18⟩, ⟨Yt19, Yr19⟩⟩ := hY
  have hR' := hR
  have hV' := hV
  obtain ⟨Rm, Ri0, Ri1, Rk, Rx, Rt, Rl⟩ := hR
  have Rh := Rm.1
  obtain ⟨Av, Ai, At, Ab', Aa, Aw⟩ := hV
  have Ah := Av.1
  have Ah1 := Ah.1
  have Av1 := Av.2.1
  have Av2 := Av.2.2.1
  have Av3 := Av.2.2.2.1
  intro n0
  induction n0 with
  | zero => intro j h1 h2; exact absurd h2 (by omega)
  | succ n0 ih =>
    intro j hj1 hj2 l1 hx
    refine PW_iload_n (i := 1) dX12_digest_9 rfl rfl ?_
    refine PW_bipush (v := 6) dX12_digest_10 (by decide) ?_
    refine PW_icmp_gt 31 dX12_digest_12 (by decide) (fun h12 => ?_) (fun h12 => ?_)
    · have h12 := jlt (a := 6) h12
      have ej : j = 7 := by omega
      subst ej
      refine PW_aload_n (i := 0) dX12_digest_31 rfl rfl ?_
      refine PW_aload_n (i := 0) dX12_digest_32 rfl rfl ?_
      refine PW_giv (v := iN (hp (vh (aV s)))) dX12_digest_33 fg12_78 (Yt) (Rh.2.1) ?_
      refine PW_i2l dX12_digest_36 ?_
      refine PW_callV dX12_digest_37 moX12_mix cv12_279 (Yt) (by omega) rfl rfl (Nat.le_of_ble_eq_true rfl) (Nat.le_of_ble_eq_true rfl) (Nat.le_of_ble_eq_true rfl) (spX12_mix (d := d - 1) (S := (l1, S.2)) hY' _) (fun v M1 hq => ?_)
      obtain ⟨rfl, rfl⟩ := hq
      refine PW_nmL (i := i) (S2 := S.2) rfl rfl (fun l2 e_l2 => ?_)
      have l2x := hx.s e_l2
      rw [show sL (l1, S.2) Y 32 = _ from hx.1] at l2x
      refine PW_iconst (v := 0) dX12_digest_40 (by decide) ?_
      refine PW_istore_n (i := 1) dX12_digest_41 rfl (Nat.le_of_ble_eq_true rfl) rfl ?_
      exact lpX12_dg1 hY' hR' hV' hb hd (x0 := _) rfl (hn (vh (aV s)) + 1) 0 (by omega) (by omega) _ l2x
    · have h12 := jnlt (a := 6) h12
      refine PW_aload_n (i := 0) dX12_digest_15 rfl rfl ?_
      refine PW_aload_n (i := 0) dX12_digest_16 rfl rfl ?_
      refine PW_iload_n (i := 1) dX12_digest_17 rfl rfl ?_
      refine PW_callV dX12_digest_18 moX12_countOf cv12_269 (Yt) (by omega) rfl rfl (Nat.le_of_ble_eq_true rfl) (Nat.le_of_ble_eq_true rfl) (Nat.le_of_ble_eq_true rfl) (spX12_countOf (d := d - 1) (S := (l1, S.2)) hY' (hR'.l hx) hV' hb (by omega) (w := j) (by omega)) (fun v M1 hq => ?_)
      obtain ⟨rfl, rfl⟩ := hq
      refine PW_i2l dX12_digest_21 ?_
      refine PW_callV dX12_digest_22 moX12_mix cv12_279 (Yt) (by omega) rfl rfl (Nat.le_of_ble_eq_true rfl) (Nat.le_of_ble_eq_true rfl) (Nat.le_of_ble_eq_true rfl) (spX12_mix (d := d - 1) (S := (l1, S.2)) hY' _) (fun v M1 hq => ?_)
      obtain ⟨rfl, rfl⟩ := hq
      refine PW_nmL (i := i) (S2 := S.2) rfl rfl (fun l2 e_l2 => ?_)
      have l2x := hx.s e_l2
      rw [show sL (l1, S.2) Y 32 = _ from hx.1] at l2x
      refine PW_inc1 dX12_digest_25 rfl (Nat.le_of_ble_eq_true rfl) rfl ?_
      refine PW_goto 9 dX12_digest_28 (by decide) ?_
      exact ih (j + 1) (by omega) (by omega) _ l2x
set_option maxRecDepth 100000 in
set_option maxHeartbeats 4000000 in
theorem spX12_digest {G : GE} {d : Nat} {i : MI0} {S : MS} {Y : Nat} (hY : YS S Y) {s : Ab} {b : Nat} (hR : MR i S Y s) (hV : AV b s) (hb : b ≤ 100) (hd : 12 ≤ d) : Mt G iX12_digest d [.ref Y] (i, S) (OpM Y (i, S) (.long (oDigest s).1) (oDigest s).2) := by
  have hY' := hY
  obtain ⟨Yt, ⟨Yt1, Yr1⟩, ⟨Yt2, Yr2⟩, ⟨Yt3, Yr3⟩, ⟨Yt4, Yr4⟩, ⟨Yt5, Yr5⟩, ⟨Yt6, Yr6⟩, ⟨Yt7, Yr7⟩, ⟨Yt8, Yr8⟩, ⟨Yt9, Yr9⟩, ⟨Yt10, Yr10⟩, ⟨Yt11, Yr11⟩, ⟨Yt12, Yr12⟩, ⟨Yt13, Yr13⟩, ⟨Yt14, Yr14⟩, ⟨Yt15, Yr15⟩, ⟨Yt16, Yr16⟩, ⟨Yt17, Yr17⟩, ⟨Yt18, Yr18⟩, ⟨Yt19, Yr19⟩⟩ := hY
  have hR' := hR
  have hV' := hV
  obtain ⟨Rm, Ri0, Ri1, Rk, Rx, Rt, Rl⟩ := hR
  have Rh := Rm.1
  obtain ⟨Av, Ai, At, Ab', Aa, Aw⟩ := hV
  have Ah := Av.1
  have Ah1 := Ah.1
  have Av1 := Av.2.1
  have Av2 := Av.2.2.1
  have Av3 := Av.2.2.2.1
  refine Mt_in 1 (ls := [.ref Y, .null]) moX12_digest (Nat.le_of_ble_eq_true rfl) rfl ?_
  refine PW_aload_n (i := 0) dX12_digest_0 rfl rfl ?_
  refine PW_ldc2 dX12_digest_1 kc12_277 ?_
  refine PW_putL dX12_digest_4 fr12_274 (fun h => by cases h) (Yt) ?_
  refine PW_nmL (i := i) (S2 := S.2) rfl rfl (fun l1 e1 => ?_)
  refine PW_iconst (v := 0) dX12_digest_7 (by decide) ?_
  refine PW_istore_n (i := 1) dX12_digest_8 rfl (Nat.le_of_ble_eq_true rfl) rfl ?_
  exact lpX12_dg0 hY' hR' hV' hb hd 8 0 (by omega) (by omega) l1 (by subst e1; exact ⟨rLs _ _ _ _, rLk _ _ (by decide), rLk _ _ (by decide), fun q hq => rLa _ _ hq⟩)

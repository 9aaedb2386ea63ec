/-! ===== the reference: from ===== -/
def FA (i i' : MI0) (Y a j1 j2 : Nat) : Prop := (i' Y 1 = i (Y + 18) a ∧ i' Y 4 = i (Y + 18) (a + 1) ∧ i' Y 5 = i (Y + 18) (a + 2) ∧ i' Y 22 = i (Y + 18) (a + 3) ∧ i' Y 2 = i (Y + 18) (a + 4) ∧ i' Y 3 = i (Y + 18) (a + 4 + 1) ∧ i' Y 14 = i Y 14) ∧ (∀ j, j < 6 → i' (Y + 3) j = i (Y + 18) (a + 4 + 2 + j) ∧ i' (Y + 5) j = i (Y + 18) (a + 4 + 8 + j)) ∧ (∀ q, q < j1 → i' (Y + 2) q = i (Y + 18) (a + 18 + q) ∧ i' (Y + 4) q = i (Y + 18) (a + 24 + q) ∧ i' (Y + 6) q = i (Y + 18) (a + 30 + q) ∧ i' (Y + 7) q = i (Y + 18) (a + 36 + q) ∧ i' (Y + 8) q = i (Y + 18) (a + 42 + q)) ∧ (∀ q, q < j2 → i' (Y + 12) q = i (Y + 18) (a + 48 + q)) ∧ ∀ q, q ≠ Y → (q < Y + 2 ∨ Y + 8 < q) → q ≠ Y + 12 → i' q = i q
theorem FA.mv {i i' : MI0} {Y a b : Nat} {y : Vy} (h : FA i i' Y a 6 112) (hM : IM (i (Y + 18)) a y) (hV : VV b y) : MV i' Y y := by
  obtain ⟨⟨a1, a2, a3, a4, a5, a6, -⟩, h2, h3, h4, h5⟩ := h
  obtain ⟨m1, m2, m3, m4, m5, m6, m7, m8, m9⟩ := hM
  have v1 := hV.1.1
  have v2 := hV.2.1
  have v3 := hV.2.2.1
  have v4 := hV.2.2.2.1
  refine ⟨⟨a1.trans m1, a5.trans m5.1, a6.trans m5.2.1, fun j hj => ⟨(h3 j (by omega)).1.trans (m6 j hj).1, (h2 j (by omega)).1.trans (m5.2.2 j hj).1, (h3 j (by omega)).2.1.trans (m6 j hj).2, (h2 j (by omega)).2.trans (m5.2.2 j hj).2⟩⟩, a2.trans m2, a3.trans m3, a4.trans m4, fun j hj => (h3 j (by omega)).2.2.1.trans (m7 j hj), fun j hj => ⟨(h3 j (by omega)).2.2.2.1.trans (m8 j hj).1, (h3 j (by omega)).2.2.2.2.trans (m8 j hj).2⟩, fun u hu => (m9 u hu).mv v1 (fun k hk => ?_)⟩
  rw [h4 (14 * u + k) (by omega), Nat.add_assoc (a + 48)]
set_option maxRecDepth 100000 in
set_option maxHeartbeats 4000000 in
theorem lpX12_from2 {G : GE} {d : Nat} {i : MI0} {S : MS} {Y : Nat} (hY : YS S Y) {kk : Nat} (hkk : kk < 2) : ∀ (n0 j : Nat), j ≤ 112 → 112 < j + n0 → ∀ (i' : MI0), FA i i' Y (160 * kk) 6 j → PW G iX12_from d (Wi 1 S (fun i' => FA i i' Y (160 * kk) 6 112)) 192 [.ref Y, .int (nI kk), .int (nI (160 * kk)), .int (nI j)] [] (i', S) 0 0 := by
  have hY' := hY
  obtain ⟨Yt, ⟨Yt1, Yr1⟩, ⟨Yt2, Yr2⟩, ⟨Yt3, Yr3⟩, ⟨Yt4, Yr4⟩, ⟨Yt5, Yr5⟩, ⟨Yt6, Yr6⟩, ⟨Yt7, Yr7⟩, ⟨Yt8, Yr8⟩, ⟨Yt9, Yr9⟩, ⟨Yt10, Yr10⟩, ⟨Yt11, Yr11⟩, ⟨Yt12, Yr12⟩, ⟨Yt13, Yr13⟩, ⟨Yt14, Yr14⟩, ⟨Yt15, Yr15⟩, ⟨Yt16, Yr16⟩, ⟨Yt17, Yr17⟩, ⟨Yt18, Yr18⟩, ⟨Yt19, Yr19⟩⟩ := hY
  intro n0
  induction n0 with
  | zero => intro j h1 h2; exact absurd h2 (by omega)
  | succ n0 ih =>
    intro j hj1 hj2 i' v0
    refine PW_iload_n (i := 3) dX12_from_192 rfl rfl ?_
    refine PW_bipush (v := 112) dX12_from_193 (by decide) ?_
    refine PW_icmp_ge 221 dX12_from_195 (by decide) (fun h195 => ?_) (fun h195 => ?_)
    · have h195 := jle (a := 112) h195
      have ej : j = 112 := by omega
      subst ej
      refine PW_iconst (v := 1) dX12_from_221 (by decide) ?_
      refine PW_ireturn rfl (rfl) dX12_from_222 (Nat.le_of_ble_eq_true rfl) (Nat.le_of_ble_eq_true rfl) ?_
      exact Wi_mk rfl rfl v0
    · have h195 := jnle (a := 112) h195
      refine PW_aload_n (i := 0) dX12_from_198 rfl rfl ?_
      refine PW_getR dX12_from_199 fg12_43 (Yt) (Yr12) ?_
      refine PW_iload_n (i := 3) dX12_from_202 rfl rfl ?_
      refine PW_aload_n (i := 0) dX12_from_203 rfl rfl ?_
      refine PW_getR dX12_from_204 fg12_65 (Yt) (Yr18) ?_
      refine PW_iload_n (i := 2) dX12_from_207 rfl rfl ?_
      refine PW_bipush (v := 48) dX12_from_208 (by decide) ?_
      refine PW_iadd dX12_from_210 ?_
      refine PW_eqi (nI_add _ 48) ?_
      refine PW_iload_n (i := 3) dX12_from_211 rfl rfl ?_
      refine PW_iadd dX12_from_212 ?_
      refine PW_eqi (nI_add _ _) ?_
      refine PW_ial (v := i (Y + 18) (160 * kk + 48 + j)) dX12_from_213 (Yt18) (by omega) (by omega) (by first | exact congrFun (v0.2.2.2.2 (Y + 18) (by omega) (by omega) (by omega)) _ | (simp (disch := omega) only [rI_a]; exact congrFun (v0.2.2.2.2 (Y + 18) (by omega) (by omega) (by omega)) _)) ?_
      refine PW_ias dX12_from_214 (Yt12) (by omega) (by omega) ?_
      refine PW_inc1 dX12_from_215 rfl (Nat.le_of_ble_eq_true rfl) rfl ?_
      refine PW_goto 192 dX12_from_218 (by decide) ?_
      refine PW_nm rfl (fun i2 e2 => ?_)
      obtain ⟨h1, h2, h3, h4, h5⟩ := v0
      have g : ∀ q, q ≠ Y + 12 → i2 q = i' q := fun q hq => by rw [e2, rI_f _ _ hq]; rfl
      refine ih (j + 1) (by omega) (by omega) i2 ⟨by rw [g Y (by omega)]; exact h1, by rw [g (Y + 3) (by omega), g (Y + 5) (by omega)]; exact h2, by rw [g (Y + 2) (by omega), g (Y + 4) (by omega), g (Y + 6) (by omega), g (Y + 7) (by omega), g (Y + 8) (by omega)]; exact h3, fun q hq => ?_, fun q q1 q2 q3 => (g q q3).trans (h5 q q1 q2 q3)⟩
      by_cases e : q = j
      · rw [e, e2, rI_s]
      · rw [e2, rI_k _ _ _ e]; exact h4 q (by omega)
set_option maxRecDepth 100000 in
set_option maxHeartbeats 4000000 in
theorem lpX12_from1 {G : GE} {d : Nat} {i : MI0} {S : MS} {Y : Nat} (hY : YS S Y) {kk : Nat} (hkk : kk < 2) : ∀ (n0 j : Nat), j ≤ 6 → 6 < j + n0 → ∀ (i' : MI0), FA i i' Y (160 * kk) j 0 → PW G iX12_from d (Wi 1 S (fun i' => FA i i' Y (160 * kk) 6 112)) 93 [.ref Y, .int (nI kk), .int (nI (160 * kk)), .int (nI j)] [] (i', S) 0 0 := by
  have hY' := hY
  obtain ⟨Yt, ⟨Yt1, Yr1⟩, ⟨Yt2, Yr2⟩, ⟨Yt3, Yr3⟩, ⟨Yt4, Yr4⟩, ⟨Yt5, Yr5⟩, ⟨Yt6, Yr6⟩, ⟨Yt7, Yr7⟩, ⟨Yt8, Yr8⟩, ⟨Yt9, Yr9⟩, ⟨Yt10, Yr10⟩, ⟨Yt11, Yr11⟩, ⟨Yt12, Yr12⟩, ⟨Yt13, Yr13⟩, ⟨Yt14, Yr14⟩, ⟨Yt15, Yr15⟩, ⟨Yt16, Yr16⟩, ⟨Yt17, Yr17⟩, ⟨Yt18, Yr18⟩, ⟨Yt19, Yr19⟩⟩ := hY
  intro n0
  induction n0 with
  | zero => intro j h1 h2; exact absurd h2 (by omega)
  | succ n0 ih =>
    intro j hj1 hj2 i' v0
    refine PW_iload_n (i := 3) dX12_from_93 rfl rfl ?_
    refine PW_bipush (v := 6) dX12_from_94 (by decide) ?_
    refine PW_icmp_ge 190 dX12_from_96 (by decide) (fun h96 => ?_) (fun h96 => ?_)
    · have h96 := jle (a := 6) h96
      have ej : j = 6 := by omega
      subst ej
      refine PW_iconst (v := 0) dX12_from_190 (by decide) ?_
      refine PW_istore_n (i := 3) dX12_from_191 rfl (Nat.le_of_ble_eq_true rfl) rfl ?_
      exact lpX12_from2 hY' hkk 113 0 (by omega) (by omega) i' v0
    · have h96 := jnle (a := 6) h96
      refine PW_aload_n (i := 0) dX12_from_99 rfl rfl ?_
      refine PW_getR dX12_from_100 fg12_13 (Yt) (Yr2) ?_
      refine PW_iload_n (i := 3) dX12_from_103 rfl rfl ?_
      refine PW_aload_n (i := 0) dX12_from_104 rfl rfl ?_
      refine PW_getR dX12_from_105 fg12_65 (Yt) (Yr18) ?_
      refine PW_iload_n (i := 2) dX12_from_108 rfl rfl ?_
      refine PW_bipush (v := 18) dX12_from_109 (by decide) ?_
      refine PW_iadd dX12_from_111 ?_
      refine PW_eqi (nI_add _ 18) ?_
      refine PW_iload_n (i := 3) dX12_from_112 rfl rfl ?_
      refine PW_iadd dX12_from_113 ?_
      refine PW_eqi (nI_add _ _) ?_
      refine PW_ial (v := i (Y + 18) (160 * kk + 18 + j)) dX12_from_114 (Yt18) (by omega) (by omega) (by first | exact congrFun (v0.2.2.2.2 (Y + 18) (by omega) (by omega) (by omega)) _ | (simp (disch := omega) only [rI_a]; exact congrFun (v0.2.2.2.2 (Y + 18) (by omega) (by omega) (by omega)) _)) ?_
      refine PW_ias dX12_from_115 (Yt2) (by omega) (by omega) ?_
      refine PW_aload_n (i := 0) dX12_from_116 rfl rfl ?_
      refine PW_getR dX12_from_117 fg12_19 (Yt) (Yr4) ?_
      refine PW_iload_n (i := 3) dX12_from_120 rfl rfl ?_
      refine PW_aload_n (i := 0) dX12_from_121 rfl rfl ?_
      refine PW_getR dX12_from_122 fg12_65 (Yt) (Yr18) ?_
      refine PW_iload_n (i := 2) dX12_from_125 rfl rfl ?_
      refine PW_bipush (v := 24) dX12_from_126 (by decide) ?_
      refine PW_iadd dX12_from_128 ?_
      refine PW_eqi (nI_add _ 24) ?_
      refine PW_iload_n (i := 3) dX12_from_129 rfl rfl ?_
      refine PW_iadd dX12_from_130 ?_
      refine PW_eqi (nI_add _ _) ?_
      refine PW_ial (v := i (Y + 18) (160 * kk + 24 + j)) dX12_from_131 (Yt18) (by omega) (by omega) (by first | exact congrFun (v0.2.2.2.2 (Y + 18) (by omega) (by omega) (by omega)) _ | (simp (disch := omega) only [rI_a]; exact congrFun (v0.2.2.2.2 (Y + 18) (by omega) (by omega) (by omega)) _)) ?_
      refine PW_ias dX12_from_132 (Yt4) (by omega) (by omega) ?_
      refine PW_aload_n (i := 0) dX12_from_133 rfl rfl ?_
      refine PW_getR dX12_from_134 fg12_25 (Yt) (Yr6) ?_
      refine PW_iload_n (i := 3) dX12_from_137 rfl rfl ?_
      refine PW_aload_n (i := 0) dX12_from_138 rfl rfl ?_
      refine PW_getR dX12_from_139 fg12_65 (Yt) (Yr18) ?_
      refine PW_iload_n (i := 2) dX12_from_142 rfl rfl ?_
      refine PW_bipush (v := 30) dX12_from_143 (by decide) ?_
      refine PW_iadd dX12_from_145 ?_
      refine PW_eqi (nI_add _ 30) ?_
      refine PW_iload_n (i := 3) dX12_from_146 rfl rfl ?_
      refine PW_iadd dX12_from_147 ?_
      refine PW_eqi (nI_add _ _) ?_
      refine PW_ial (v := i (Y + 18) (160 * kk + 30 + j)) dX12_from_148 (Yt18) (by omega) (by omega) (by first | exact congrFun (v0.2.2.2.2 (Y + 18) (by omega) (by omega) (by omega)) _ | (simp (disch := omega) only [rI_a]; exact congrFun (v0.2.2.2.2 (Y + 18) (by omega) (by omega) (by omega)) _)) ?_
      refine PW_ias dX12_from_149 (Yt6) (by omega) (by omega) ?_
      refine PW_aload_n (i := 0) dX12_from_150 rfl rfl ?_
      refine PW_getR dX12_from_151 fg12_28 (Yt) (Yr7) ?_
      refine PW_iload_n (i := 3) dX12_from_154 rfl rfl ?_
      refine PW_aload_n (i := 0) dX12_from_155 rfl rfl ?_
      refine PW_getR dX12_from_156 fg12_65 (Yt) (Yr18) ?_
      refine PW_iload_n (i := 2) dX12_from_159 rfl rfl ?_
      refine PW_bipush (v := 36) dX12_from_160 (by decide) ?_
      refine PW_iadd dX12_from_162 ?_
      refine PW_eqi (nI_add _ 36) ?_
      refine PW_iload_n (i := 3) dX12_from_163 rfl rfl ?_
      refine PW_iadd dX12_from_164 ?_
      refine PW_eqi (nI_add _ _) ?_
      refine PW_ial (v := i (Y + 18) (160 * kk + 36 + j)) dX12_from_165 (Yt18) (by omega) (by omega) (by first | exact congrFun (v0.2.2.2.2 (Y + 18) (by omega) (by omega) (by omega)) _ | (simp (disch := omega) only [rI_a]; exact congrFun (v0.2.2.2.2 (Y + 18) (by omega) (by omega) (by omega)) _)) ?_
      refine PW_ias dX12_from_166 (Yt7) (by omega) (by omega) ?_
      refine PW_aload_n (i := 0) dX12_from_167 rfl rfl ?_
      refine PW_getR dX12_from_168 fg12_31 (Yt) (Yr8) ?_
      refine PW_iload_n (i := 3) dX12_from_171 rfl rfl ?_
      refine PW_aload_n (i := 0) dX12_from_172 rfl rfl ?_
      refine PW_getR dX12_from_173 fg12_65 (Yt) (Yr18) ?_
      refine PW_iload_n (i := 2) dX12_from_176 rfl rfl ?_
      refine PW_bipush (v := 42) dX12_from_177 (by decide) ?_
      refine PW_iadd dX12_from_179 ?_
      refine PW_eqi (nI_add _ 42) ?_
      refine PW_iload_n (i := 3) dX12_from_180 rfl rfl ?_
      refine PW_iadd dX12_from_181 ?_
      refine PW_eqi (nI_add _ _) ?_
      refine PW_ial (v := i (Y + 18) (160 * kk + 42 + j)) dX12_from_182 (Yt18) (by omega) (by omega) (by first | exact congrFun (v0.2.2.2.2 (Y + 18) (by omega) (by omega) (by omega)) _ | (simp (disch := omega) only [rI_a]; exact congrFun (v0.2.2.2.2 (Y + 18) (by omega) (by omega) (by omega)) _)) ?_
      refine PW_ias dX12_from_183 (Yt8) (by omega) (by omega) ?_
      refine PW_inc1 dX12_from_184 rfl (Nat.le_of_ble_eq_true rfl) rfl ?_
      refine PW_goto 93 dX12_from_187 (by decide) ?_
      refine PW_nm rfl (fun i2 e2 => ?_)
      obtain ⟨h1, h2, h3, h4, h5⟩ := v0
      have g : ∀ q, q ≠ Y + 2 → q ≠ Y + 4 → q ≠ Y + 6 → q ≠ Y + 7 → q ≠ Y + 8 → i2 q = i' q := fun q q1 q2 q3 q4 q5 => by rw [e2, rI_f _ _ q5, rI_f _ _ q4, rI_f _ _ q3, rI_f _ _ q2, rI_f _ _ q1]; rfl
      refine ih (j + 1) (by omega) (by omega) i2 ⟨by rw [g Y (by omega) (by omega) (by omega) (by omega) (by omega)]; exact h1, by rw [g (Y + 3) (by omega) (by omega) (by omega) (by omega) (by omega), g (Y + 5) (by omega) (by omega) (by omega) (by omega) (by omega)]; exact h2, fun q hq => ?_, fun q hq => absurd hq (Nat.not_lt_zero q), fun q q1 q2 q3 => (g q (by omega) (by omega) (by omega) (by omega) (by omega)).trans (h5 q q1 q2 q3)⟩
      by_cases e : q = j
      · rw [e, e2]; refine ⟨?_, ?_, ?_, ?_, ?_⟩ <;> simp (disch := omega) only [rI_s, rI_a]
      · have h6 := h3 q (by omega)
        rw [e2]; refine ⟨?_, ?_, ?_, ?_, ?_⟩
        · simp (disch := omega) only [rI_a, rI_k]; exact h6.1
        · simp (disch := omega) only [rI_a, rI_k]; exact h6.2.1
        · simp (disch := omega) only [rI_a, rI_k]; exact h6.2.2.1
        · simp (disch := omega) only [rI_a, rI_k]; exact h6.2.2.2.1
        · simp (disch := omega) only [rI_a, rI_k]; exact h6.2.2.2.2
set_option maxRecDepth 100000 in
set_option maxHeartbeats 4000000 in
theorem tlX12_from {G : GE} {d : Nat} {i : MI0} {S : MS} {Y : Nat} (hY : YS S Y) {s : Ab} {b : Nat} (hR : MR i S Y s) (hV : AV b s) (hb : b ≤ 100) (hd : 12 ≤ d) {kk : Nat} (hkk : kk < 2) (h19 : ¬ i (Y + 19) kk = 0) : Mt G iX12_from d [.ref Y, .int (nI kk)] (i, S) (Wi 1 S (fun i' => FA i i' Y (160 * kk) 6 112)) := by
  have hY' := hY
  obtain ⟨Yt, ⟨Yt1, Yr1⟩, ⟨Yt2, Yr2⟩, ⟨Yt3, Yr3⟩, ⟨Yt4, Yr4⟩, ⟨Yt5, Yr5⟩, ⟨Yt6, Yr6⟩, ⟨Yt7, Yr7⟩, ⟨Yt8, Yr8⟩, ⟨Yt9, Yr9⟩, ⟨Yt10, Yr10⟩, ⟨Yt11, Yr11⟩, ⟨Yt12, Yr12⟩, ⟨Yt13, Yr13⟩, ⟨Yt14, Yr14⟩, ⟨Yt15, Yr15⟩, ⟨Yt16, Yr16⟩, ⟨Yt17, Yr17⟩, ⟨Yt18, Yr18⟩, ⟨Yt19, Yr19⟩⟩ := hY
  have hR' := hR
  have hV' := hV
  obtain ⟨Rm, Ri0, Ri1, Rk, Rx, Rt, Rl⟩ := hR
  have Rh := Rm.1
  obtain ⟨Av, Ai, At, Ab', Aa, Aw⟩ := hV
  have Ah := Av.1
  have Ah1 := Ah.1
  have Av1 := Av.2.1
  have Av2 := Av.2.2.1
  have Av3 := Av.2.2.2.1
  refine Mt_in 2 (ls := [.ref Y, .int (nI kk), .null, .null]) moX12_from (Nat.le_of_ble_eq_true rfl) rfl ?_
  refine PW_iload_n (i := 1) dX12_from_0 rfl rfl ?_
  refine PW_iconst (v := 0) dX12_from_1 (by decide) ?_
  refine PW_iconst (v := 1) dX12_from_2 (by decide) ?_
  refine PW_callS dX12_from_3 moX12_in cs12_93 (by omega) rfl rfl (Nat.le_of_ble_eq_true rfl) (Nat.le_of_ble_eq_true rfl) (Nat.le_of_ble_eq_true rfl) (spX12_in (d := d - 1) _ _ _) (fun v M1 hq => ?_)
  obtain ⟨rfl, rfl⟩ := hq
  refine PW_if_ne 14 dX12_from_6 (by decide) (fun _ => ?_) (fun q => absurd (kk_in hkk) (b1_0.mp q))
  refine PW_aload_n (i := 0) dX12_from_14 rfl rfl ?_
  refine PW_getR dX12_from_15 fg12_68 (Yt) (Yr19) ?_
  refine PW_iload_n (i := 1) dX12_from_18 rfl rfl ?_
  refine PW_ial (v := i (Y + 19) kk) dX12_from_19 (Yt19) (by omega) (by omega) (rfl) ?_
  refine PW_if_ne 28 dX12_from_20 (by decide) (fun _ => ?_) (fun q => absurd q h19)
  refine PW_sipush (v := 160) dX12_from_28 (by decide) ?_
  refine PW_iload_n (i := 1) dX12_from_31 rfl rfl ?_
  refine PW_imul dX12_from_32 ?_
  refine PW_eqi (pk_mul 160 kk) ?_
  refine PW_istore_n (i := 2) dX12_from_33 rfl (Nat.le_of_ble_eq_true rfl) rfl ?_
  refine PW_aload_n (i := 0) dX12_from_34 rfl rfl ?_
  refine PW_aload_n (i := 0) dX12_from_35 rfl rfl ?_
  refine PW_getR dX12_from_36 fg12_65 (Yt) (Yr18) ?_
  refine PW_iload_n (i := 2) dX12_from_39 rfl rfl ?_
  refine PW_ial (v := i (Y + 18) (160 * kk)) dX12_from_40 (Yt18) (by omega) (by omega) (by first | rfl | (simp (disch := omega) only [rI_a, rP])) ?_
  refine PW_putI dX12_from_41 fr12_74 (fun h => by cases h) (Yt) ?_
  refine PW_aload_n (i := 0) dX12_from_44 rfl rfl ?_
  refine PW_aload_n (i := 0) dX12_from_45 rfl rfl ?_
  refine PW_getR dX12_from_46 fg12_65 (Yt) (Yr18) ?_
  refine PW_iload_n (i := 2) dX12_from_49 rfl rfl ?_
  refine PW_iconst (v := 1) dX12_from_50 (by decide) ?_
  refine PW_iadd dX12_from_51 ?_
  refine PW_eqi (nI_1 _) ?_
  refine PW_ial (v := i (Y + 18) (160 * kk + 1)) dX12_from_52 (Yt18) (by omega) (by omega) (by first | rfl | (simp (disch := omega) only [rI_a, rP])) ?_
  refine PW_putI dX12_from_53 fr12_84 (fun h => by cases h) (Yt) ?_
  refine PW_aload_n (i := 0) dX12_from_56 rfl rfl ?_
  refine PW_aload_n (i := 0) dX12_from_57 rfl rfl ?_
  refine PW_getR dX12_from_58 fg12_65 (Yt) (Yr18) ?_
  refine PW_iload_n (i := 2) dX12_from_61 rfl rfl ?_
  refine PW_iconst (v := 2) dX12_from_62 (by decide) ?_
  refine PW_iadd dX12_from_63 ?_
  refine PW_eqi (nI_add _ 2) ?_
  refine PW_ial (v := i (Y + 18) (160 * kk + 2)) dX12_from_64 (Yt18) (by omega) (by omega) (by first | rfl | (simp (disch := omega) only [rI_a, rP])) ?_
  refine PW_putI dX12_from_65 fr12_87 (fun h => by cases h) (Yt) ?_
  refine PW_aload_n (i := 0) dX12_from_68 rfl rfl ?_
  refine PW_aload_n (i := 0) dX12_from_69 rfl rfl ?_
  refine PW_getR dX12_from_70 fg12_65 (Yt) (Yr18) ?_
  refine PW_iload_n (i := 2) dX12_from_73 rfl rfl ?_
  refine PW_iconst (v := 3) dX12_from_74 (by decide) ?_
  refine PW_iadd dX12_from_75 ?_
  refine PW_eqi (nI_add _ 3) ?_
  refine PW_ial (v := i (Y + 18) (160 * kk + 3)) dX12_from_76 (Yt18) (by omega) (by omega) (by first | rfl | (simp (disch := omega) only [rI_a, rP])) ?_
  refine PW_putI dX12_from_77 fr12_90 (fun h => by cases h) (Yt) ?_
  refine PW_aload_n (i := 0) dX12_from_80 rfl rfl ?_
  refine PW_aload_n (i := 0) dX12_from_81 rfl rfl ?_
  refine PW_getR dX12_from_82 fg12_65 (Yt) (Yr18) ?_
  refine PW_iload_n (i := 2) dX12_from_85 rfl rfl ?_
  refine PW_iconst (v := 4) dX12_from_86 (by decide) ?_
  refine PW_iadd dX12_from_87 ?_
  refine PW_eqi (nI_add _ 4) ?_
  refine PW_nm rfl (fun i2 e2 => ?_)
  refine PW_callV dX12_from_88 moX12_takes cv12_196 (Yt) (by omega) rfl rfl (Nat.le_of_ble_eq_true rfl) (Nat.le_of_ble_eq_true rfl) (Nat.le_of_ble_eq_true rfl) (spX12_takes (d := d - 1) hY' (at' := 160 * kk + 4) Yt18 (by omega) (by omega) (by omega) (by omega) (by omega)) (fun v M1 hq => ?_)
  obtain ⟨rfl, i3, rfl, t0, t1, t2, t3, t4⟩ := hq
  refine PW_iconst (v := 0) dX12_from_91 (by decide) ?_
  refine PW_istore_n (i := 3) dX12_from_92 rfl (Nat.le_of_ble_eq_true rfl) rfl ?_
  have g : ∀ q, q ≠ Y → i2 q = i q := fun q hq => by rw [e2, rI_f _ _ hq, rI_f _ _ hq, rI_f _ _ hq, rI_f _ _ hq]; rfl
  rw [g (Y + 18) (by omega)] at t0 t1
  rw [g (Y + 18) (by omega)] at t3
  refine lpX12_from1 hY' hkk 7 0 (by omega) (by omega) i3 ⟨⟨?_, ?_, ?_, ?_, t0, t1, ?_⟩, t3, fun q hq => absurd hq (Nat.not_lt_zero q), fun q hq => absurd hq (Nat.not_lt_zero q), fun q q1 q2 q3 => (t4 q q1 (by omega) (by omega)).trans (g q q1)⟩
  · rw [t2 _ (by decide) (by decide), e2]; simp (disch := omega) only [rI_s, rI_k]
  · rw [t2 _ (by decide) (by decide), e2]; simp (disch := omega) only [rI_s, rI_k]
  · rw [t2 _ (by decide) (by decide), e2]; simp (disch := omega) only [rI_s, rI_k]
  · rw [t2 _ (by decide) (by decide), e2]; simp (disch := omega) only [rI_s, rI_k]
  · rw [t2 _ (by decide) (by decide), e2]; simp (disch := omega) only [rI_k, rP]
set_option maxRecDepth 100000 in
set_option maxHeartbeats 4000000 in
theorem spX12_fromB {G : GE} {d : Nat} {i : MI0} {S : MS} {Y : Nat} (hY : YS S Y) {s : Ab} {b : Nat} (hR : MR i S Y s) (hV : AV b s) (hb : b ≤ 100) (hd : 12 ≤ d) {k : Int32} (hk : ¬ ((0 : Int32) ≤ k ∧ k ≤ 1)) : Mt G iX12_from d [.ref Y, .int k] (i, S) (OpM Y (i, S) (.int (oFrom s k).1) (oFrom s k).2) := by
  have hY' := hY
  obtain ⟨Yt, ⟨Yt1, Yr1⟩, ⟨Yt2, Yr2⟩, ⟨Yt3, Yr3⟩, ⟨Yt4, Yr4⟩, ⟨Yt5, Yr5⟩, ⟨Yt6, Yr6⟩, ⟨Yt7, Yr7⟩, ⟨Yt8, Yr8⟩, ⟨Yt9, Yr9⟩, ⟨Yt10, Yr10⟩, ⟨Yt11, Yr11⟩, ⟨Yt12, Yr12⟩, ⟨Yt13, Yr13⟩, ⟨Yt14, Yr14⟩, ⟨Yt15, Yr15⟩, ⟨Yt16, Yr16⟩, ⟨Yt17, Yr17⟩, ⟨Yt18, Yr18⟩, ⟨Yt19, Yr19⟩⟩ := hY
  have hR' := hR
  have hV' := hV
  obtain ⟨Rm, Ri0, Ri1, Rk, Rx, Rt, Rl⟩ := hR
  have Rh := Rm.1
  obtain ⟨Av, Ai, At, Ab', Aa, Aw⟩ := hV
  have Ah := Av.1
  have Ah1 := Ah.1
  have Av1 := Av.2.1
  have Av2 := Av.2.2.1
  have Av3 := Av.2.2.2.1
  refine Mt_in 2 (ls := [.ref Y, .int k, .null, .null]) moX12_from (Nat.le_of_ble_eq_true rfl) rfl ?_
  refine PW_iload_n (i := 1) dX12_from_0 rfl rfl ?_
  refine PW_iconst (v := 0) dX12_from_1 (by decide) ?_
  refine PW_iconst (v := 1) dX12_from_2 (by decide) ?_
  refine PW_callS dX12_from_3 moX12_in cs12_93 (by omega) rfl rfl (Nat.le_of_ble_eq_true rfl) (Nat.le_of_ble_eq_true rfl) (Nat.le_of_ble_eq_true rfl) (spX12_in (d := d - 1) _ _ _) (fun v M1 hq => ?_)
  obtain ⟨rfl, rfl⟩ := hq
  refine PW_if_ne 14 dX12_from_6 (by decide) (fun q => absurd (b1_1.mp q) hk) (fun _ => ?_)
  refine PW_aload_n (i := 0) dX12_from_9 rfl rfl ?_
  refine PW_callV dX12_from_10 moX12_bad cv12_97 (Yt) (by omega) rfl rfl (Nat.le_of_ble_eq_true rfl) (Nat.le_of_ble_eq_true rfl) (Nat.le_of_ble_eq_true rfl) (spX12_bad (d := d - 1) hY' hR') (fun v M1 hq => ?_)
  obtain ⟨rfl, i1, rfl, c1, c2⟩ := hq
  refine PW_ireturn rfl (rfl) dX12_from_13 (Nat.le_of_ble_eq_true rfl) (Nat.le_of_ble_eq_true rfl) ?_
  exact OpM_i (by unfold oFrom; rw [if_neg hk]) hY' c1 (fun q hq => c2 q (by omega))
set_option maxRecDepth 100000 in
set_option maxHeartbeats 4000000 in
theorem spX12_fromN {G : GE} {d : Nat} {i : MI0} {S : MS} {Y : Nat} (hY : YS S Y) {s : Ab} {b : Nat} (hR : MR i S Y s) (hV : AV b s) (hb : b ≤ 100) (hd : 12 ≤ d) {kk : Nat} (hkk : kk < 2) (h19 : i (Y + 19) kk = 0) (hq9 : ¬ aK s kk = true) : Mt G iX12_from d [.ref Y, .int (nI kk)] (i, S) (OpM Y (i, S) (.int (oFrom s (nI kk)).1) (oFrom s (nI kk)).2) := by
  have hY' := hY
  obtain ⟨Yt, ⟨Yt1, Yr1⟩, ⟨Yt2, Yr2⟩, ⟨Yt3, Yr3⟩, ⟨Yt4, Yr4⟩, ⟨Yt5, Yr5⟩, ⟨Yt6, Yr6⟩, ⟨Yt7, Yr7⟩, ⟨Yt8, Yr8⟩, ⟨Yt9, Yr9⟩, ⟨Yt10, Yr10⟩, ⟨Yt11, Yr11⟩, ⟨Yt12, Yr12⟩, ⟨Yt13, Yr13⟩, ⟨Yt14, Yr14⟩, ⟨Yt15, Yr15⟩, ⟨Yt16, Yr16⟩, ⟨Yt17, Yr17⟩, ⟨Yt18, Yr18⟩, ⟨Yt19, Yr19⟩⟩ := hY
  have hR' := hR
  have hV' := hV
  obtain ⟨Rm, Ri0, Ri1, Rk, Rx, Rt, Rl⟩ := hR
  have Rh := Rm.1
  obtain ⟨Av, Ai, At, Ab', Aa, Aw⟩ := hV
  have Ah := Av.1
  have Ah1 := Ah.1
  have Av1 := Av.2.1
  have Av2 := Av.2.2.1
  have Av3 := Av.2.2.2.1
  refine Mt_in 2 (ls := [.ref Y, .int (nI kk), .null, .null]) moX12_from (Nat.le_of_ble_eq_true rfl) rfl ?_
  refine PW_iload_n (i := 1) dX12_from_0 rfl rfl ?_
  refine PW_iconst (v := 0) dX12_from_1 (by decide) ?_
  refine PW_iconst (v := 1) dX12_from_2 (by decide) ?_
  refine PW_callS dX12_from_3 moX12_in cs12_93 (by omega) rfl rfl (Nat.le_of_ble_eq_true rfl) (Nat.le_of_ble_eq_true rfl) (Nat.le_of_ble_eq_true rfl) (spX12_in (d := d - 1) _ _ _) (fun v M1 hq => ?_)
  obtain ⟨rfl, rfl⟩ := hq
  refine PW_if_ne 14 dX12_from_6 (by decide) (fun _ => ?_) (fun q => absurd (kk_in hkk) (b1_0.mp q))
  refine PW_aload_n (i := 0) dX12_from_14 rfl rfl ?_
  refine PW_getR dX12_from_15 fg12_68 (Yt) (Yr19) ?_
  refine PW_iload_n (i := 1) dX12_from_18 rfl rfl ?_
  refine PW_ial (v := i (Y + 19) kk) dX12_from_19 (Yt19) (by omega) (by omega) (rfl) ?_
  refine PW_if_ne 28 dX12_from_20 (by decide) (fun q => absurd h19 q) (fun _ => ?_)
  refine PW_aload_n (i := 0) dX12_from_23 rfl rfl ?_
  refine PW_callV dX12_from_24 moX12_no cv12_105 (Yt) (by omega) rfl rfl (Nat.le_of_ble_eq_true rfl) (Nat.le_of_ble_eq_true rfl) (Nat.le_of_ble_eq_true rfl) (spX12_no (d := d - 1) hY' hR') (fun v M1 hq => ?_)
  obtain ⟨rfl, i1, rfl, c1, c2⟩ := hq
  refine PW_ireturn rfl (rfl) dX12_from_27 (Nat.le_of_ble_eq_true rfl) (Nat.le_of_ble_eq_true rfl) ?_
  exact OpM_i (by unfold oFrom; rw [if_pos (kk_in hkk), cln (by omega), if_neg hq9]) hY' c1 (fun q hq => c2 q (by omega))
theorem MR.ik {i : MI0} {S : MS} {Y kk : Nat} {s : Ab} (hR : MR i S Y s) (hkk : kk < 2) : i (Y + 19) kk = b2i (aK s kk) ∧ (aK s kk = true → IM (i (Y + 18)) (160 * kk) (aI s kk)) := by
  rcases (by omega : kk = 0 ∨ kk = 1) with rfl | rfl
  · exact ⟨hR.2.2.2.1.1, hR.2.1⟩
  · exact ⟨hR.2.2.2.1.2, hR.2.2.1⟩
set_option maxRecDepth 100000 in
set_option maxHeartbeats 4000000 in
theorem spX12_from {G : GE} {d : Nat} {i : MI0} {S : MS} {Y : Nat} (hY : YS S Y) {s : Ab} {b : Nat} (hR : MR i S Y s) (hV : AV b s) (hb : b ≤ 100) (hd : 12 ≤ d) (k : Int32) : Mt G iX12_from d [.ref Y, .int k] (i, S) (OpM Y (i, S) (.int (oFrom s k).1) (oFrom s k).2) := by
  by_cases hk : (0 : Int32) ≤ k ∧ k ≤ 1
  · obtain ⟨kk, h1, rfl⟩ := within_of (n := 1) hk rfl rfl (by decide)
    have hkk : kk < 2 := by omega
    have h9 := hR.ik hkk
    by_cases hq9 : aK s kk = true
    · refine Mt_mono (fun v M' hq => ?_) (tlX12_from hY hR hV hb hd (kk := kk) hkk (by rw [h9.1, hq9]; decide))
      obtain ⟨rfl, i1, rfl, h2⟩ := hq
      exact OpM_i (by unfold oFrom; rw [if_pos hk, cln (by omega), if_pos hq9]) hY (hR.mv (h2.mv (h9.2 hq9) (hV.2.1 kk hkk hq9)) h2.1.2.2.2.2.2.2 (fun q hq => h2.2.2.2.2 q (by omega) (by omega) (by omega))) (fun q hq => h2.2.2.2.2 q (by omega) (by omega) (by omega))
    · refine spX12_fromN hY hR hV hb hd hkk ?_ hq9
      rw [h9.1]
      cases q : aK s kk with
      | false => rfl
      | true => exact absurd q hq9
  · exact spX12_fromB hY hR hV hb hd hk

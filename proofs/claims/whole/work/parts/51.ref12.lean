/-! ===== the reference: image ===== -/
def IA (i i' : MI0) (Y a j1 j2 : Nat) : Prop := (i' (Y + 18) a = i Y 1 ∧ i' (Y + 18) (a + 1) = i Y 4 ∧ i' (Y + 18) (a + 2) = i Y 5 ∧ i' (Y + 18) (a + 3) = i Y 22 ∧ SVd (i' (Y + 18)) (a + 4) i Y) ∧ (∀ q, q < j1 → i' (Y + 18) (a + 18 + q) = i (Y + 2) q ∧ i' (Y + 18) (a + 24 + q) = i (Y + 4) q ∧ i' (Y + 18) (a + 30 + q) = i (Y + 6) q ∧ i' (Y + 18) (a + 36 + q) = i (Y + 7) q ∧ i' (Y + 18) (a + 42 + q) = i (Y + 8) q) ∧ (∀ q, q < j2 → i' (Y + 18) (a + 48 + q) = i (Y + 12) q) ∧ (∀ k, (k < a ∨ a + 160 ≤ k) → i' (Y + 18) k = i (Y + 18) k) ∧ ∀ q, q ≠ Y + 18 → q ≠ Y + 19 → i' q = i q
theorem SVd.kp {f g : Nat → Int32} {a : Nat} {i : MI0} {Y : Nat} (h : SVd f a i Y) (e : ∀ k, a ≤ k → k < a + 14 → g k = f k) : SVd g a i Y :=
  ⟨(e _ (by omega) (by omega)).trans h.1, (e _ (by omega) (by omega)).trans h.2.1, fun j hj => ⟨(e _ (by omega) (by omega)).trans (h.2.2 j hj).1, (e _ (by omega) (by omega)).trans (h.2.2 j hj).2⟩⟩
theorem IA.im {i i' : MI0} {Y a b : Nat} {y : Vy} (h : IA i i' Y a 6 112) (hM : MV i Y y) (hV : VV b y) : IM (i' (Y + 18)) a y := by
  obtain ⟨⟨a1, a2, a3, a4, a5⟩, h2, h3, h4, h5⟩ := h
  obtain ⟨m1, m2, m3, m4, m5, m6, m7⟩ := hM
  have v1 := hV.1.1
  have v2 := hV.2.1
  have v3 := hV.2.2.1
  have v4 := hV.2.2.2.1
  refine ⟨a1.trans m1.1, a2.trans m2, a3.trans m3, a4.trans m4, a5.lh m1 v1, fun j hj => ⟨(h2 j (by omega)).1.trans (m1.2.2.2 j hj).1, (h2 j (by omega)).2.1.trans (m1.2.2.2 j hj).2.2.1⟩, fun j hj => (h2 j (by omega)).2.2.1.trans (m5 j hj), fun j hj => ⟨(h2 j (by omega)).2.2.2.1.trans (m6 j hj).1, (h2 j (by omega)).2.2.2.2.trans (m6 j hj).2⟩, fun u hu => (m7 u hu).mv v1 (fun k hk => ?_)⟩
  rw [Nat.add_assoc (a + 48), h3 (14 * u + k) (by omega)]
theorem IM.kp {f g : Nat → Int32} {a b : Nat} {y : Vy} (h : IM f a y) (hV : VV b y) (e : ∀ k, a ≤ k → k < a + 160 → g k = f k) : IM g a y := by
  obtain ⟨a1, a2, a3, a4, a5, a6, a7, a8, a9⟩ := h
  have v1 := hV.1.1
  have v2 := hV.2.1
  have v3 := hV.2.2.1
  have v4 := hV.2.2.2.1
  refine ⟨(e _ (by omega) (by omega)).trans a1, (e _ (by omega) (by omega)).trans a2, (e _ (by omega) (by omega)).trans a3, (e _ (by omega) (by omega)).trans a4, a5.kp v1 (fun k h1 h2 => e k (by omega) (by omega)), fun j hj => ⟨(e _ (by omega) (by omega)).trans (a6 j hj).1, (e _ (by omega) (by omega)).trans (a6 j hj).2⟩, fun j hj => (e _ (by omega) (by omega)).trans (a7 j hj), fun j hj => ⟨(e _ (by omega) (by omega)).trans (a8 j hj).1, (e _ (by omega) (by omega)).trans (a8 j hj).2⟩, fun u hu => (a9 u hu).kp v1 (fun k h1 h2 => e k (by omega) (by omega))⟩
/-- images kept: the rows agree -/
theorem MR.im {i i' : MI0} {S : MS} {Y kk b : Nat} {s : Ab} (hR : MR i S Y s) (hV : AV b s) (hkk : kk < 2) (h : IA i i' Y (160 * kk) 6 112) (k1 : i' (Y + 19) kk = 1) (k2 : ∀ k, k ≠ kk → i' (Y + 19) k = i (Y + 19) k) : MR i' S Y (setI s kk (aV s)) := by
  have hi := h.im hR.1 hV.1
  obtain ⟨h1, h2, h3, h4, h5⟩ := h
  obtain ⟨⟨m1, m2, m3, m4, m5, m6, m7⟩, r2, r3, r4, r5, r6, r7⟩ := hR
  have f : ∀ q, q ≠ Y + 18 → q ≠ Y + 19 → i' q = i q := h5
  have hm : MV i' Y (aV s) := by
    unfold MV MH
    rw [f Y (by omega) (by omega), f (Y + 2) (by omega) (by omega), f (Y + 3) (by omega) (by omega), f (Y + 4) (by omega) (by omega), f (Y + 5) (by omega) (by omega), f (Y + 6) (by omega) (by omega), f (Y + 7) (by omega) (by omega), f (Y + 8) (by omega) (by omega), f (Y + 12) (by omega) (by omega)]
    exact ⟨m1, m2, m3, m4, m5, m6, m7⟩
  have e1 := f (Y + 1) (by omega) (by omega)
  have e9 := f (Y + 9) (by omega) (by omega)
  have eY := f Y (by omega) (by omega)
  rcases (by omega : kk = 0 ∨ kk = 1) with rfl | rfl
  · refine ⟨hm, fun _ => hi, fun h => IM.kp (r3 h) (hV.2.1 1 (by decide) h) (fun k h1 h2 => h4 k (by omega)), ⟨k1, by rw [k2 1 (by decide)]; exact r4.2⟩, by rw [e1]; exact r5, by rw [eY, e9]; exact r6, r7⟩
  · refine ⟨hm, fun h => IM.kp (r2 h) (hV.2.1 0 (by decide) h) (fun k h1 h2 => h4 k (by omega)), fun _ => hi, ⟨by rw [k2 0 (by decide)]; exact r4.1, k1⟩, by rw [e1]; exact r5, by rw [eY, e9]; exact r6, r7⟩
set_option maxRecDepth 100000 in
set_option maxHeartbeats 4000000 in
theorem lpX12_image2 {G : GE} {d : Nat} {i : MI0} {S : MS} {Y : Nat} (hY : YS S Y) {kk : Nat} (hkk : kk < 2) : ∀ (n0 j : Nat), j ≤ 112 → 112 < j + n0 → ∀ (i' : MI0), IA i i' Y (160 * kk) 6 j → i' (Y + 19) kk = 1 → (∀ k, k ≠ kk → i' (Y + 19) k = i (Y + 19) k) → PW G iX12_image d (Wi 1 S (fun i' => IA i i' Y (160 * kk) 6 112 ∧ i' (Y + 19) kk = 1 ∧ ∀ k, k ≠ kk → i' (Y + 19) k = i (Y + 19) k)) 185 [.ref Y, .int (nI kk), .int (nI (160 * kk)), .int (nI j)] [] (i', S) 0 0 := by
  have hY' := hY
  obtain ⟨Yt, ⟨Yt1, Yr1⟩, ⟨Yt2, Yr2⟩, ⟨Yt3, Yr3⟩, ⟨Yt4, Yr4⟩, ⟨Yt5, Yr5⟩, ⟨Yt6, Yr6⟩, ⟨Yt7, Yr7⟩, ⟨Yt8, Yr8⟩, ⟨Yt9, Yr9⟩, ⟨Yt10, Yr10⟩, ⟨Yt11, Yr11⟩, ⟨Yt12, Yr12⟩, ⟨Yt13, Yr13⟩, ⟨Yt14, Yr14⟩, ⟨Yt15, Yr15⟩, ⟨Yt16, Yr16⟩, ⟨Yt17, Yr17⟩, ⟨Yt18, Yr18⟩, ⟨Yt19, Yr19⟩⟩ := hY
  intro n0
  induction n0 with
  | zero => intro j h1 h2; exact absurd h2 (by omega)
  | succ n0 ih =>
    intro j hj1 hj2 i' v0 k1 k2
    refine PW_iload_n (i := 3) dX12_image_185 rfl rfl ?_
    refine PW_bipush (v := 112) dX12_image_186 (by decide) ?_
    refine PW_icmp_ge 214 dX12_image_188 (by decide) (fun h188 => ?_) (fun h188 => ?_)
    · have h188 := jle (a := 112) h188
      have ej : j = 112 := by omega
      subst ej
      refine PW_iconst (v := 1) dX12_image_214 (by decide) ?_
      refine PW_ireturn rfl (rfl) dX12_image_215 (Nat.le_of_ble_eq_true rfl) (Nat.le_of_ble_eq_true rfl) ?_
      exact Wi_mk rfl rfl ⟨v0, k1, k2⟩
    · have h188 := jnle (a := 112) h188
      refine PW_aload_n (i := 0) dX12_image_191 rfl rfl ?_
      refine PW_getR dX12_image_192 fg12_65 (Yt) (Yr18) ?_
      refine PW_iload_n (i := 2) dX12_image_195 rfl rfl ?_
      refine PW_bipush (v := 48) dX12_image_196 (by decide) ?_
      refine PW_iadd dX12_image_198 ?_
      refine PW_eqi (nI_add _ 48) ?_
      refine PW_iload_n (i := 3) dX12_image_199 rfl rfl ?_
      refine PW_iadd dX12_image_200 ?_
      refine PW_eqi (nI_add _ _) ?_
      refine PW_aload_n (i := 0) dX12_image_201 rfl rfl ?_
      refine PW_getR dX12_image_202 fg12_43 (Yt) (Yr12) ?_
      refine PW_iload_n (i := 3) dX12_image_205 rfl rfl ?_
      refine PW_ial (v := i (Y + 12) j) dX12_image_206 (Yt12) (by omega) (by omega) (congrFun (v0.2.2.2.2 (Y + 12) (by omega) (by omega)) j) ?_
      refine PW_ias dX12_image_207 (Yt18) (by omega) (by omega) ?_
      refine PW_inc1 dX12_image_208 rfl (Nat.le_of_ble_eq_true rfl) rfl ?_
      refine PW_goto 185 dX12_image_211 (by decide) ?_
      refine PW_nm rfl (fun i2 e2 => ?_)
      obtain ⟨⟨a1, a2, a3, a4, a5⟩, h2, h3, h4, h5⟩ := v0
      refine ih (j + 1) (by omega) (by omega) i2 ⟨⟨?_, ?_, ?_, ?_, ?_⟩, fun q hq => ?_, fun q hq => ?_, fun k hk => ?_, fun q h1 h2 => by rw [e2, rI_f _ _ h1]; exact h5 q h1 h2⟩ (by rw [e2, rI_f _ _ (by omega)]; exact k1) (fun k hk => by rw [e2, rI_f _ _ (by omega)]; exact k2 k hk)
      · rw [e2, rI_k _ _ _ (by omega)]; exact a1
      · rw [e2, rI_k _ _ _ (by omega)]; exact a2
      · rw [e2, rI_k _ _ _ (by omega)]; exact a3
      · rw [e2, rI_k _ _ _ (by omega)]; exact a4
      · exact a5.kp (fun k q1 q2 => by rw [e2, rI_k _ _ _ (by omega)]; rfl)
      · rw [e2, rI_k _ _ _ (by omega), rI_k _ _ _ (by omega), rI_k _ _ _ (by omega), rI_k _ _ _ (by omega), rI_k _ _ _ (by omega)]; exact h2 q hq
      · by_cases e : q = j
        · rw [e, e2, rI_s]
        · rw [e2, rI_k _ _ _ (by omega)]; exact h3 q (by omega)
      · rw [e2, rI_k _ _ _ (by omega)]; exact h4 k hk
set_option maxRecDepth 100000 in
set_option maxHeartbeats 4000000 in
theorem lpX12_image1 {G : GE} {d : Nat} {i : MI0} {S : MS} {Y : Nat} (hY : YS S Y) {kk : Nat} (hkk : kk < 2) : ∀ (n0 j : Nat), j ≤ 6 → 6 < j + n0 → ∀ (i' : MI0), IA i i' Y (160 * kk) j 0 → i' (Y + 19) kk = 1 → (∀ k, k ≠ kk → i' (Y + 19) k = i (Y + 19) k) → PW G iX12_image d (Wi 1 S (fun i' => IA i i' Y (160 * kk) 6 112 ∧ i' (Y + 19) kk = 1 ∧ ∀ k, k ≠ kk → i' (Y + 19) k = i (Y + 19) k)) 86 [.ref Y, .int (nI kk), .int (nI (160 * kk)), .int (nI j)] [] (i', S) 0 0 := by
  have hY' := hY
  obtain ⟨Yt, ⟨Yt1, Yr1⟩, ⟨Yt2, Yr2⟩, ⟨Yt3, Yr3⟩, ⟨Yt4, Yr4⟩, ⟨Yt5, Yr5⟩, ⟨Yt6, Yr6⟩, ⟨Yt7, Yr7⟩, ⟨Yt8, Yr8⟩, ⟨Yt9, Yr9⟩, ⟨Yt10, Yr10⟩, ⟨Yt11, Yr11⟩, ⟨Yt12, Yr12⟩, ⟨Yt13, Yr13⟩, ⟨Yt14, Yr14⟩, ⟨Yt15, Yr15⟩, ⟨Yt16, Yr16⟩, ⟨Yt17, Yr17⟩, ⟨Yt18, Yr18⟩, ⟨Yt19, Yr19⟩⟩ := hY
  intro n0
  induction n0 with
  | zero => intro j h1 h2; exact absurd h2 (by omega)
  | succ n0 ih =>
    intro j hj1 hj2 i' v0 k1 k2
    refine PW_iload_n (i := 3) dX12_image_86 rfl rfl ?_
    refine PW_bipush (v := 6) dX12_image_87 (by decide) ?_
    refine PW_icmp_ge 183 dX12_image_89 (by decide) (fun h89 => ?_) (fun h89 => ?_)
    · have h89 := jle (a := 6) h89
      have ej : j = 6 := by omega
      subst ej
      refine PW_iconst (v := 0) dX12_image_183 (by decide) ?_
      refine PW_istore_n (i := 3) dX12_image_184 rfl (Nat.le_of_ble_eq_true rfl) rfl ?_
      exact lpX12_image2 hY' hkk 113 0 (by omega) (by omega) i' v0 k1 k2
    · have h89 := jnle (a := 6) h89
      refine PW_aload_n (i := 0) dX12_image_92 rfl rfl ?_
      refine PW_getR dX12_image_93 fg12_65 (Yt) (Yr18) ?_
      refine PW_iload_n (i := 2) dX12_image_96 rfl rfl ?_
      refine PW_bipush (v := 18) dX12_image_97 (by decide) ?_
      refine PW_iadd dX12_image_99 ?_
      refine PW_eqi (nI_add _ 18) ?_
      refine PW_iload_n (i := 3) dX12_image_100 rfl rfl ?_
      refine PW_iadd dX12_image_101 ?_
      refine PW_eqi (nI_add _ _) ?_
      refine PW_aload_n (i := 0) dX12_image_102 rfl rfl ?_
      refine PW_getR dX12_image_103 fg12_13 (Yt) (Yr2) ?_
      refine PW_iload_n (i := 3) dX12_image_106 rfl rfl ?_
      refine PW_ial (v := i (Y + 2) j) dX12_image_107 (Yt2) (by omega) (by omega) (by first | exact congrFun (v0.2.2.2.2 (Y + 2) (by omega) (by omega)) j | (simp (disch := omega) only [rI_a]; exact congrFun (v0.2.2.2.2 (Y + 2) (by omega) (by omega)) j)) ?_
      refine PW_ias dX12_image_108 (Yt18) (by omega) (by omega) ?_
      refine PW_aload_n (i := 0) dX12_image_109 rfl rfl ?_
      refine PW_getR dX12_image_110 fg12_65 (Yt) (Yr18) ?_
      refine PW_iload_n (i := 2) dX12_image_113 rfl rfl ?_
      refine PW_bipush (v := 24) dX12_image_114 (by decide) ?_
      refine PW_iadd dX12_image_116 ?_
      refine PW_eqi (nI_add _ 24) ?_
      refine PW_iload_n (i := 3) dX12_image_117 rfl rfl ?_
      refine PW_iadd dX12_image_118 ?_
      refine PW_eqi (nI_add _ _) ?_
      refine PW_aload_n (i := 0) dX12_image_119 rfl rfl ?_
      refine PW_getR dX12_image_120 fg12_19 (Yt) (Yr4) ?_
      refine PW_iload_n (i := 3) dX12_image_123 rfl rfl ?_
      refine PW_ial (v := i (Y + 4) j) dX12_image_124 (Yt4) (by omega) (by omega) (by first | exact congrFun (v0.2.2.2.2 (Y + 4) (by omega) (by omega)) j | (simp (disch := omega) only [rI_a]; exact congrFun (v0.2.2.2.2 (Y + 4) (by omega) (by omega)) j)) ?_
      refine PW_ias dX12_image_125 (Yt18) (by omega) (by omega) ?_
      refine PW_aload_n (i := 0) dX12_image_126 rfl rfl ?_
      refine PW_getR dX12_image_127 fg12_65 (Yt) (Yr18) ?_
      refine PW_iload_n (i := 2) dX12_image_130 rfl rfl ?_
      refine PW_bipush (v := 30) dX12_image_131 (by decide) ?_
      refine PW_iadd dX12_image_133 ?_
      refine PW_eqi (nI_add _ 30) ?_
      refine PW_iload_n (i := 3) dX12_image_134 rfl rfl ?_
      refine PW_iadd dX12_image_135 ?_
      refine PW_eqi (nI_add _ _) ?_
      refine PW_aload_n (i := 0) dX12_image_136 rfl rfl ?_
      refine PW_getR dX12_image_137 fg12_25 (Yt) (Yr6) ?_
      refine PW_iload_n (i := 3) dX12_image_140 rfl rfl ?_
      refine PW_ial (v := i (Y + 6) j) dX12_image_141 (Yt6) (by omega) (by omega) (by first | exact congrFun (v0.2.2.2.2 (Y + 6) (by omega) (by omega)) j | (simp (disch := omega) only [rI_a]; exact congrFun (v0.2.2.2.2 (Y + 6) (by omega) (by omega)) j)) ?_
      refine PW_ias dX12_image_142 (Yt18) (by omega) (by omega) ?_
      refine PW_aload_n (i := 0) dX12_image_143 rfl rfl ?_
      refine PW_getR dX12_image_144 fg12_65 (Yt) (Yr18) ?_
      refine PW_iload_n (i := 2) dX12_image_147 rfl rfl ?_
      refine PW_bipush (v := 36) dX12_image_148 (by decide) ?_
      refine PW_iadd dX12_image_150 ?_
      refine PW_eqi (nI_add _ 36) ?_
      refine PW_iload_n (i := 3) dX12_image_151 rfl rfl ?_
      refine PW_iadd dX12_image_152 ?_
      refine PW_eqi (nI_add _ _) ?_
      refine PW_aload_n (i := 0) dX12_image_153 rfl rfl ?_
      refine PW_getR dX12_image_154 fg12_28 (Yt) (Yr7) ?_
      refine PW_iload_n (i := 3) dX12_image_157 rfl rfl ?_
      refine PW_ial (v := i (Y + 7) j) dX12_image_158 (Yt7) (by omega) (by omega) (by first | exact congrFun (v0.2.2.2.2 (Y + 7) (by omega) (by omega)) j | (simp (disch := omega) only [rI_a]; exact congrFun (v0.2.2.2.2 (Y + 7) (by omega) (by omega)) j)) ?_
      refine PW_ias dX12_image_159 (Yt18) (by omega) (by omega) ?_
      refine PW_aload_n (i := 0) dX12_image_160 rfl rfl ?_
      refine PW_getR dX12_image_161 fg12_65 (Yt) (Yr18) ?_
      refine PW_iload_n (i := 2) dX12_image_164 rfl rfl ?_
      refine PW_bipush (v := 42) dX12_image_165 (by decide) ?_
      refine PW_iadd dX12_image_167 ?_
      refine PW_eqi (nI_add _ 42) ?_
      refine PW_iload_n (i := 3) dX12_image_168 rfl rfl ?_
      refine PW_iadd dX12_image_169 ?_
      refine PW_eqi (nI_add _ _) ?_
      refine PW_aload_n (i := 0) dX12_image_170 rfl rfl ?_
      refine PW_getR dX12_image_171 fg12_31 (Yt) (Yr8) ?_
      refine PW_iload_n (i := 3) dX12_image_174 rfl rfl ?_
      refine PW_ial (v := i (Y + 8) j) dX12_image_175 (Yt8) (by omega) (by omega) (by first | exact congrFun (v0.2.2.2.2 (Y + 8) (by omega) (by omega)) j | (simp (disch := omega) only [rI_a]; exact congrFun (v0.2.2.2.2 (Y + 8) (by omega) (by omega)) j)) ?_
      refine PW_ias dX12_image_176 (Yt18) (by omega) (by omega) ?_
      refine PW_inc1 dX12_image_177 rfl (Nat.le_of_ble_eq_true rfl) rfl ?_
      refine PW_goto 86 dX12_image_180 (by decide) ?_
      refine PW_nm rfl (fun i2 e2 => ?_)
      obtain ⟨⟨a1, a2, a3, a4, a5⟩, h2, h3, h4, h5⟩ := v0
      have g1 : ∀ k, (∀ c, (c = 18 ∨ c = 24 ∨ c = 30 ∨ c = 36 ∨ c = 42) → k ≠ 160 * kk + c + j) → i2 (Y + 18) k = i' (Y + 18) k := fun k hk => by rw [e2, rI_k _ _ _ (hk 42 (by omega)), rI_k _ _ _ (hk 36 (by omega)), rI_k _ _ _ (hk 30 (by omega)), rI_k _ _ _ (hk 24 (by omega)), rI_k _ _ _ (hk 18 (by omega))]; rfl
      refine ih (j + 1) (by omega) (by omega) i2 ⟨⟨?_, ?_, ?_, ?_, ?_⟩, fun q hq => ?_, fun q hq => absurd hq (Nat.not_lt_zero q), fun k hk => ?_, fun q h1 h2 => by rw [e2, rI_f _ _ h1, rI_f _ _ h1, rI_f _ _ h1, rI_f _ _ h1, rI_f _ _ h1]; exact h5 q h1 h2⟩ (by rw [e2, rI_f _ _ (by omega), rI_f _ _ (by omega), rI_f _ _ (by omega), rI_f _ _ (by omega), rI_f _ _ (by omega)]; exact k1) (fun k hk => by rw [e2, rI_f _ _ (by omega), rI_f _ _ (by omega), rI_f _ _ (by omega), rI_f _ _ (by omega), rI_f _ _ (by omega)]; exact k2 k hk)
      · rw [g1 _ (by omega)]; exact a1
      · rw [g1 _ (by omega)]; exact a2
      · rw [g1 _ (by omega)]; exact a3
      · rw [g1 _ (by omega)]; exact a4
      · exact a5.kp (fun k q1 q2 => g1 k (by omega))
      · by_cases e : q = j
        · rw [e, e2]; refine ⟨?_, ?_, ?_, ?_, ?_⟩ <;> simp (disch := omega) only [rI_s, rI_k]
        · rw [g1 _ (by omega), g1 _ (by omega), g1 _ (by omega), g1 _ (by omega), g1 _ (by omega)]; exact h2 q (by omega)
      · rw [g1 k (by omega)]; exact h4 k hk
theorem kk_in {kk : Nat} (h : kk < 2) : (0 : Int32) ≤ nI kk ∧ nI kk ≤ 1 := by
  rcases (by omega : kk = 0 ∨ kk = 1) with rfl | rfl <;> decide
set_option maxRecDepth 100000 in
set_option maxHeartbeats 4000000 in
theorem tlX12_image {G : GE} {d : Nat} {i : MI0} {S : MS} {Y : Nat} (hY : YS S Y) {s : Ab} {b : Nat} (hR : MR i S Y s) (hV : AV b s) (hb : b ≤ 100) (hd : 12 ≤ d) {kk : Nat} (hkk : kk < 2) : Mt G iX12_image d [.ref Y, .int (nI kk)] (i, S) (Wi 1 S (fun i' => IA i i' Y (160 * kk) 6 112 ∧ i' (Y + 19) kk = 1 ∧ ∀ k, k ≠ kk → i' (Y + 19) k = i (Y + 19) k)) := by
  have hY' := hY
  obtain ⟨Yt, ⟨Yt1, Yr1⟩, ⟨Yt2, Yr2⟩, ⟨Yt3, Yr3⟩, ⟨Yt4, Yr4⟩, ⟨Yt5, Yr5⟩, ⟨Yt6, Yr6⟩, ⟨Yt7, Yr7⟩, ⟨Yt8, Yr8⟩, ⟨Yt9, Yr9⟩, ⟨Yt10, Yr10⟩, ⟨Yt11, Yr11⟩, ⟨Yt12, Yr12⟩, ⟨Yt13, Yr13⟩, ⟨Yt14, Yr14⟩, ⟨Yt15, Yr15⟩, ⟨Yt16, Yr16⟩, ⟨Yt17, Yr17⟩, ⟨Yt18, Yr18⟩, ⟨Yt19, Yr19⟩⟩ := hY
  have hR' := hR
  have hV' := hV
  obtain ⟨Rm, Ri0, Ri1, Rk, Rx, Rt, Rl⟩ := hR
  have Rh := Rm.1
  obtain ⟨Av, Ai, At, Ab', Aa, Aw⟩ := hV
  have Ah := Av.1
  have Ah1 := Ah.1
  have Av1 := Av.2.1
  have Av2 := Av.2.2.1
  have Av3 := Av.2.2.2.1
  refine Mt_in 2 (ls := [.ref Y, .int (nI kk), .null, .null]) moX12_image (Nat.le_of_ble_eq_true rfl) rfl ?_
  refine PW_iload_n (i := 1) dX12_image_0 rfl rfl ?_
  refine PW_iconst (v := 0) dX12_image_1 (by decide) ?_
  refine PW_iconst (v := 1) dX12_image_2 (by decide) ?_
  refine PW_callS dX12_image_3 moX12_in cs12_93 (by omega) rfl rfl (Nat.le_of_ble_eq_true rfl) (Nat.le_of_ble_eq_true rfl) (Nat.le_of_ble_eq_true rfl) (spX12_in (d := d - 1) _ _ _) (fun v M1 hq => ?_)
  obtain ⟨rfl, rfl⟩ := hq
  refine PW_if_ne 14 dX12_image_6 (by decide) (fun _ => ?_) (fun q => absurd (kk_in hkk) (b1_0.mp q))
  refine PW_sipush (v := 160) dX12_image_14 (by decide) ?_
  refine PW_iload_n (i := 1) dX12_image_17 rfl rfl ?_
  refine PW_imul dX12_image_18 ?_
  refine PW_eqi (pk_mul 160 kk) ?_
  refine PW_istore_n (i := 2) dX12_image_19 rfl (Nat.le_of_ble_eq_true rfl) rfl ?_
  refine PW_aload_n (i := 0) dX12_image_20 rfl rfl ?_
  refine PW_getR dX12_image_21 fg12_68 (Yt) (Yr19) ?_
  refine PW_iload_n (i := 1) dX12_image_24 rfl rfl ?_
  refine PW_iconst (v := 1) dX12_image_25 (by decide) ?_
  refine PW_ias dX12_image_26 (Yt19) (by omega) (by omega) ?_
  refine PW_aload_n (i := 0) dX12_image_27 rfl rfl ?_
  refine PW_getR dX12_image_28 fg12_65 (Yt) (Yr18) ?_
  refine PW_iload_n (i := 2) dX12_image_31 rfl rfl ?_
  refine PW_aload_n (i := 0) dX12_image_32 rfl rfl ?_
  refine PW_giv (v := i Y 1) dX12_image_33 fg12_74 (Yt) (rI_a _ _ _ (by omega)) ?_
  refine PW_ias dX12_image_36 (Yt18) (by omega) (by omega) ?_
  refine PW_aload_n (i := 0) dX12_image_37 rfl rfl ?_
  refine PW_getR dX12_image_38 fg12_65 (Yt) (Yr18) ?_
  refine PW_iload_n (i := 2) dX12_image_41 rfl rfl ?_
  refine PW_iconst (v := 1) dX12_image_42 (by decide) ?_
  refine PW_iadd dX12_image_43 ?_
  refine PW_eqi (nI_1 _) ?_
  refine PW_aload_n (i := 0) dX12_image_44 rfl rfl ?_
  refine PW_giv (v := i Y 4) dX12_image_45 fg12_84 (Yt) (by simp (disch := omega) only [rI_a, rI_k, rP]) ?_
  refine PW_ias dX12_image_48 (Yt18) (by omega) (by omega) ?_
  refine PW_aload_n (i := 0) dX12_image_49 rfl rfl ?_
  refine PW_getR dX12_image_50 fg12_65 (Yt) (Yr18) ?_
  refine PW_iload_n (i := 2) dX12_image_53 rfl rfl ?_
  refine PW_iconst (v := 2) dX12_image_54 (by decide) ?_
  refine PW_iadd dX12_image_55 ?_
  refine PW_eqi (nI_add _ 2) ?_
  refine PW_aload_n (i := 0) dX12_image_56 rfl rfl ?_
  refine PW_giv (v := i Y 5) dX12_image_57 fg12_87 (Yt) (by simp (disch := omega) only [rI_a, rI_k, rP]) ?_
  refine PW_ias dX12_image_60 (Yt18) (by omega) (by omega) ?_
  refine PW_aload_n (i := 0) dX12_image_61 rfl rfl ?_
  refine PW_getR dX12_image_62 fg12_65 (Yt) (Yr18) ?_
  refine PW_iload_n (i := 2) dX12_image_65 rfl rfl ?_
  refine PW_iconst (v := 3) dX12_image_66 (by decide) ?_
  refine PW_iadd dX12_image_67 ?_
  refine PW_eqi (nI_add _ 3) ?_
  refine PW_aload_n (i := 0) dX12_image_68 rfl rfl ?_
  refine PW_giv (v := i Y 22) dX12_image_69 fg12_90 (Yt) (by simp (disch := omega) only [rI_a, rI_k, rP]) ?_
  refine PW_ias dX12_image_72 (Yt18) (by omega) (by omega) ?_
  refine PW_aload_n (i := 0) dX12_image_73 rfl rfl ?_
  refine PW_aload_n (i := 0) dX12_image_74 rfl rfl ?_
  refine PW_getR dX12_image_75 fg12_65 (Yt) (Yr18) ?_
  refine PW_iload_n (i := 2) dX12_image_78 rfl rfl ?_
  refine PW_iconst (v := 4) dX12_image_79 (by decide) ?_
  refine PW_iadd dX12_image_80 ?_
  refine PW_eqi (nI_add _ 4) ?_
  refine PW_nm rfl (fun i2 e2 => ?_)
  refine PW_callV dX12_image_81 moX12_lays cv12_192 (Yt) (by omega) rfl rfl (Nat.le_of_ble_eq_true rfl) (Nat.le_of_ble_eq_true rfl) (Nat.le_of_ble_eq_true rfl) (spX12_lays (d := d - 1) hY' (at' := 160 * kk + 4) Yt18 (by omega) (by omega) (by omega) (by omega) (by omega)) (fun v M1 hq => ?_)
  obtain ⟨rfl, i3, rfl, b1, b2, b3⟩ := hq
  refine PW_iconst (v := 0) dX12_image_84 (by decide) ?_
  refine PW_istore_n (i := 3) dX12_image_85 rfl (Nat.le_of_ble_eq_true rfl) rfl ?_
  have c1 : ∀ q, q ≠ Y + 18 → i3 q = i2 q := b3
  have c2 : ∀ q, q ≠ Y + 18 → q ≠ Y + 19 → i2 q = i q := fun q h1 h2 => by rw [e2, rI_f _ _ h1, rI_f _ _ h1, rI_f _ _ h1, rI_f _ _ h1, rI_f _ _ h2]; rfl
  have c3 : ∀ q, q ≠ Y + 18 → q ≠ Y + 19 → i3 q = i q := fun q h1 h2 => (c1 q h1).trans (c2 q h1 h2)
  have c4 : ∀ k, (k < 160 * kk + 4 ∨ 160 * kk + 4 + 14 ≤ k) → i3 (Y + 18) k = i2 (Y + 18) k := b2
  refine PW_mono (fun v M' hq => hq) (lpX12_image1 hY' hkk 7 0 (by omega) (by omega) i3 ⟨⟨?_, ?_, ?_, ?_, ?_⟩, fun q hq => absurd hq (Nat.not_lt_zero q), fun q hq => absurd hq (Nat.not_lt_zero q), fun k hk => ?_, c3⟩ ?_ (fun k hk => ?_))
  · rw [c4 _ (by omega), e2]; simp (disch := omega) only [rI_s, rI_k]
  · rw [c4 _ (by omega), e2]; simp (disch := omega) only [rI_s, rI_k]
  · rw [c4 _ (by omega), e2]; simp (disch := omega) only [rI_s, rI_k]
  · rw [c4 _ (by omega), e2]; simp (disch := omega) only [rI_s, rI_k]
  · unfold SVd at b1 ⊢; rw [c2 Y (by omega) (by omega), c2 (Y + 3) (by omega) (by omega), c2 (Y + 5) (by omega) (by omega)] at b1; exact b1
  · rw [c4 _ (by omega), e2, rI_k _ _ _ (by omega), rI_k _ _ _ (by omega), rI_k _ _ _ (by omega), rI_k _ _ _ (by omega), rI_f _ _ (by omega)]; rfl
  · rw [c1 _ (by omega), e2]; simp (disch := omega) only [rI_s, rI_a]
  · rw [c1 _ (by omega), e2]; simp (disch := omega) only [rI_k, rI_a, rP]
set_option maxRecDepth 100000 in
set_option maxHeartbeats 4000000 in
theorem spX12_imageB {G : GE} {d : Nat} {i : MI0} {S : MS} {Y : Nat} (hY : YS S Y) {s : Ab} {b : Nat} (hR : MR i S Y s) (hV : AV b s) (hb : b ≤ 100) (hd : 12 ≤ d) {k : Int32} (hk : ¬ ((0 : Int32) ≤ k ∧ k ≤ 1)) : Mt G iX12_image d [.ref Y, .int k] (i, S) (OpM Y (i, S) (.int (oImage s k).1) (oImage s k).2) := by
  have hY' := hY
  obtain ⟨Yt, ⟨Yt1, Yr1⟩, ⟨Yt2, Yr2⟩, ⟨Yt3, Yr3⟩, ⟨Yt4, Yr4⟩, ⟨Yt5, Yr5⟩, ⟨Yt6, Yr6⟩, ⟨Yt7, Yr7⟩, ⟨Yt8, Yr8⟩, ⟨Yt9, Yr9⟩, ⟨Yt10, Yr10⟩, ⟨Yt11, Yr11⟩, ⟨Yt12, Yr12⟩, ⟨Yt13, Yr13⟩, ⟨Yt14, Yr14⟩, ⟨Yt15, Yr15⟩, ⟨Yt16, Yr16⟩, ⟨Yt17, Yr17⟩, ⟨Yt18, Yr18⟩, ⟨Yt19, Yr19⟩⟩ := hY
  have hR' := hR
  have hV' := hV
  obtain ⟨Rm, Ri0, Ri1, Rk, Rx, Rt, Rl⟩ := hR
  have Rh := Rm.1
  obtain ⟨Av, Ai, At, Ab', Aa, Aw⟩ := hV
  have Ah := Av.1
  have Ah1 := Ah.1
  have Av1 := Av.2.1
  have Av2 := Av.2.2.1
  have Av3 := Av.2.2.2.1
  refine Mt_in 2 (ls := [.ref Y, .int k, .null, .null]) moX12_image (Nat.le_of_ble_eq_true rfl) rfl ?_
  refine PW_iload_n (i := 1) dX12_image_0 rfl rfl ?_
  refine PW_iconst (v := 0) dX12_image_1 (by decide) ?_
  refine PW_iconst (v := 1) dX12_image_2 (by decide) ?_
  refine PW_callS dX12_image_3 moX12_in cs12_93 (by omega) rfl rfl (Nat.le_of_ble_eq_true rfl) (Nat.le_of_ble_eq_true rfl) (Nat.le_of_ble_eq_true rfl) (spX12_in (d := d - 1) _ _ _) (fun v M1 hq => ?_)
  obtain ⟨rfl, rfl⟩ := hq
  refine PW_if_ne 14 dX12_image_6 (by decide) (fun q => absurd (b1_1.mp q) hk) (fun _ => ?_)
  refine PW_aload_n (i := 0) dX12_image_9 rfl rfl ?_
  refine PW_callV dX12_image_10 moX12_bad cv12_97 (Yt) (by omega) rfl rfl (Nat.le_of_ble_eq_true rfl) (Nat.le_of_ble_eq_true rfl) (Nat.le_of_ble_eq_true rfl) (spX12_bad (d := d - 1) hY' hR') (fun v M1 hq => ?_)
  obtain ⟨rfl, i1, rfl, c1, c2⟩ := hq
  refine PW_ireturn rfl (rfl) dX12_image_13 (Nat.le_of_ble_eq_true rfl) (Nat.le_of_ble_eq_true rfl) ?_
  exact OpM_i (by unfold oImage; rw [if_neg hk]) hY' c1 (fun q hq => c2 q (by omega))
set_option maxRecDepth 100000 in
set_option maxHeartbeats 4000000 in
theorem spX12_image {G : GE} {d : Nat} {i : MI0} {S : MS} {Y : Nat} (hY : YS S Y) {s : Ab} {b : Nat} (hR : MR i S Y s) (hV : AV b s) (hb : b ≤ 100) (hd : 12 ≤ d) (k : Int32) : Mt G iX12_image d [.ref Y, .int k] (i, S) (OpM Y (i, S) (.int (oImage s k).1) (oImage s k).2) := by
  by_cases hk : (0 : Int32) ≤ k ∧ k ≤ 1
  · obtain ⟨kk, h1, rfl⟩ := within_of (n := 1) hk rfl rfl (by decide)
    refine Mt_mono (fun v M' hq => ?_) (tlX12_image hY hR hV hb hd (kk := kk) (by omega))
    obtain ⟨rfl, i1, rfl, h2, h3, h4⟩ := hq
    exact OpM_i (by unfold oImage; rw [if_pos hk, cln (by omega)]) hY (hR.im hV (by omega) h2 h3 h4) (fun q hq => h2.2.2.2.2 q (by omega) (by omega))
  · exact spX12_imageB hY hR hV hb hd hk

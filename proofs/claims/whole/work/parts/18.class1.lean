/-! ===== SleepyHelm: its cells; ship, rock, hand, seen, forget ===== -/
/-! ===== all that there is ===== -/
abbrev Ab : Type := Vy × (Nat → Vy) × (Nat → Bool) × Nat × (Nat → Nat) × Nat × Nat × Int32 × Int32 × Int32
def aV (s : Ab) : Vy := s.1
def aI (s : Ab) : Nat → Vy := s.2.1
def aK (s : Ab) : Nat → Bool := s.2.2.1
def aL (s : Ab) : Nat := s.2.2.2.1
def aB (s : Ab) : Nat → Nat := s.2.2.2.2.1
def aA (s : Ab) : Nat := s.2.2.2.2.2.1
def aW (s : Ab) : Nat := s.2.2.2.2.2.2.1
def aX (s : Ab) : Int32 := s.2.2.2.2.2.2.2.1
def aN (s : Ab) : Int32 := s.2.2.2.2.2.2.2.2.1
def aF (s : Ab) : Int32 := s.2.2.2.2.2.2.2.2.2
def AV (b : Nat) (s : Ab) : Prop := VV b (aV s) ∧ (∀ k, k < 2 → aK s k = true → VV b (aI s k)) ∧ aL s ≤ 150 ∧ (∀ j, j < aL s → aB s j < 128) ∧ aA s ≤ 100000000 ∧ aW s ≤ 1000000
def setV (s : Ab) (y : Vy) : Ab := (y, aI s, aK s, aL s, aB s, aA s, aW s, aX s, aN s, aF s)
def setI (s : Ab) (k : Nat) (y : Vy) : Ab := (aV s, (fun j => if j = k then y else aI s j), (fun j => if j = k then true else aK s j), aL s, aB s, aA s, aW s, aX s, aN s, aF s)
def setT (s : Ab) (n : Nat) (f : Nat → Nat) : Ab := (aV s, aI s, aK s, n, f, aA s, aW s, aX s, aN s, aF s)
def setF (s : Ab) (u w : Nat) : Ab := (aV s, aI s, aK s, aL s, aB s, u, w, aX s, aN s, aF s)
def bad (s : Ab) : Ab := (aV s, aI s, aK s, aL s, aB s, aA s, aW s, aX s + 1, aN s, aF s)
def noo (s : Ab) : Ab := (aV s, aI s, aK s, aL s, aB s, aA s, aW s, aX s, aN s + 1, aF s)
def ful (s : Ab) : Ab := (aV s, aI s, aK s, aL s, aB s, aA s, aW s, aX s, aN s, aF s + 1)
/-! ===== the class: where its cells lie, and what they hold ===== -/
def PS (S : MS) (X p : Nat) : Prop := sT S p = (6, 0) ∧ sT S (p + 1) = (15, 5) ∧ sT S (p + 2) = (13, 4) ∧ sT S (p + 3) = (13, 4) ∧ sR S p 0 = some (p + 1) ∧ sR S p 1 = some (p + 2) ∧ sR S p 2 = some (p + 3) ∧ ∀ k, k < 5 → sR S (p + 1) k = some (p + 4 + 4 * k) ∧ HS S X (p + 4 + 4 * k)
def TS (S : MS) (t : Nat) : Prop := sT S t = (9, 0) ∧ sT S (t + 1) = (13, 150) ∧ sR S t 0 = some (t + 1)
def CS (S : MS) (X : Nat) : Prop := sT S X = (11, 0) ∧ (sR S X 0 = some (X + 8) ∧ sR S X 1 = some (X + 49) ∧ sR S X 2 = some (X + 90) ∧ sR S X 3 = some (X + 173) ∧ sR S X 4 = some (X + 174) ∧ sR S X 5 = some (X + 178) ∧ sR S X 6 = some (X + 185) ∧ sR S X 7 = some (X + 209)) ∧ KS S X ∧ (VS S X (X + 8) ∧ VS S X (X + 49) ∧ VS S X (X + 91) ∧ VS S X (X + 132)) ∧ (sT S (X + 90) = (17, 2) ∧ sR S (X + 90) 0 = some (X + 91) ∧ sR S (X + 90) 1 = some (X + 132)) ∧ sT S (X + 173) = (14, 2) ∧ HS S X (X + 174) ∧ CU S X (X + 178) ∧ PS S X (X + 185) ∧ TS S (X + 209)
def CP (S : MS) (X : Nat) (g : Nat → Nat → Nat) : Prop := CS S X ∧ PV S (X + 8) (g 0) ∧ PV S (X + 49) (g 1) ∧ PV S (X + 91) (g 2) ∧ PV S (X + 132) (g 3)
def TR (i : MI0) (t : Nat) (s : Ab) : Prop := i t 1 = nI (aL s) ∧ ∀ j, j < aL s → i (t + 1) j = nI (aB s j)
def CR (i : MI0) (X : Nat) (g : Nat → Nat → Nat) (s : Ab) : Prop := VR i (X + 8) (g 0) (aV s) ∧ (aK s 0 = true → VR i (X + 91) (g 2) (aI s 0)) ∧ (aK s 1 = true → VR i (X + 132) (g 3) (aI s 1)) ∧ (i (X + 173) 0 = b2i (aK s 0) ∧ i (X + 173) 1 = b2i (aK s 1)) ∧ (i X 8 = nI (aA s) ∧ i X 9 = nI (aW s) ∧ i X 10 = aX s ∧ i X 11 = aN s ∧ i X 12 = aF s) ∧ TR i (X + 209) s
/-- but for the cells lo to hi the memory is as it was -/
def Fr (M M' : Mm) (lo hi : Nat) : Prop := mt M' = mt M ∧ mn M' = mn M ∧ ∀ q, (q < lo ∨ hi ≤ q) → mi M' q = mi M q ∧ ml M' q = ml M q ∧ mr M' q = mr M q
def CI (M : Mm) (X : Nat) (s : Ab) : Prop := ∃ g, CP M.2 X g ∧ CR (mi M) X g s
def Op (X : Nat) (M : Mm) (r : Value) (s : Ab) : Option Value → Mm → Prop := fun v M' => v = some r ∧ CI M' X s ∧ Fr M M' X (X + 211)
theorem Fr_i {i i' : MI0} {S : MS} {lo hi : Nat} (h : ∀ q, (q < lo ∨ hi ≤ q) → i' q = i q) : Fr (i, S) (i', S) lo hi := ⟨rfl, rfl, fun q hq => ⟨h q hq, rfl, rfl⟩⟩
theorem Op_i {i i' : MI0} {S : MS} {X : Nat} {g : Nat → Nat → Nat} {s' : Ab} {o : Int32 × Ab} {r : Int32} (e : o = (r, s')) (hP : CP S X g) (hR : CR i' X g s') (h : ∀ q, (q < X ∨ X + 211 ≤ q) → i' q = i q) : Op X (i, S) (.int o.1) o.2 (some (.int r)) (i', S) := by
  rw [e]
  exact ⟨rfl, ⟨g, hP, hR⟩, Fr_i h⟩
theorem CR.kp {i i' : MI0} {S : MS} {X : Nat} {g : Nat → Nat → Nat} {s : Ab} {b : Nat} (hr : CR i X g s) (hp : CP S X g) (hv : AV b s) (e : ∀ q, X ≤ q → q ≤ X + 210 → (q < X + 49 ∨ X + 90 < q) → (q < X + 174 ∨ X + 208 < q) → i' q = i q) : CR i' X g s := by
  obtain ⟨r1, r2, r3, r4, r5, r6⟩ := hr
  obtain ⟨p0, p1, p2, p3, p4⟩ := hp
  refine ⟨r1.kp p1 hv.1.2.2.2.1 (fun q h1 h2 => e q (by omega) (by omega) (by omega) (by omega)), fun h => (r2 h).kp p3 (hv.2.1 0 (by decide) h).2.2.2.1 (fun q h1 h2 => e q (by omega) (by omega) (by omega) (by omega)), fun h => (r3 h).kp p4 (hv.2.1 1 (by decide) h).2.2.2.1 (fun q h1 h2 => e q (by omega) (by omega) (by omega) (by omega)), ?_, ?_, ?_⟩
  · rw [e (X + 173) (by omega) (by omega) (by omega) (by omega)]; exact r4
  · rw [e X (by omega) (by omega) (by omega) (by omega)]; exact r5
  · unfold TR
    rw [e (X + 209) (by omega) (by omega) (by omega) (by omega), e (X + 209 + 1) (by omega) (by omega) (by omega) (by omega)]; exact r6
theorem CR.sv {i i' : MI0} {S : MS} {X : Nat} {g : Nat → Nat → Nat} {s : Ab} {b : Nat} {y : Vy} (hr : CR i X g s) (hp : CP S X g) (hv : AV b s) (hy : VR i' (X + 8) (g 0) y) (e : ∀ q, (q < X + 8 ∨ X + 8 + 40 < q) → i' q = i q) : CR i' X g (setV s y) := by
  obtain ⟨r1, r2, r3, r4, r5, r6⟩ := hr
  obtain ⟨p0, p1, p2, p3, p4⟩ := hp
  refine ⟨hy, fun h => (r2 h).kp p3 (hv.2.1 0 (by decide) h).2.2.2.1 (fun q h1 h2 => e q (by omega)), fun h => (r3 h).kp p4 (hv.2.1 1 (by decide) h).2.2.2.1 (fun q h1 h2 => e q (by omega)), ?_, ?_, ?_⟩
  · rw [e (X + 173) (by omega)]; exact r4
  · rw [e X (by omega)]; exact r5
  · show i' (X + 209) 1 = nI (aL s) ∧ ∀ j, j < aL s → i' (X + 209 + 1) j = nI (aB s j)
    rw [e (X + 209) (by omega), e (X + 209 + 1) (by omega)]; exact r6
/-- the class's own ints change, no more -/
theorem CR.sx {i i' : MI0} {S : MS} {X : Nat} {g : Nat → Nat → Nat} {s s' : Ab} {b : Nat} (hr : CR i X g s) (hp : CP S X g) (hv : AV b s) (e1 : s'.1 = s.1) (e2 : s'.2.1 = s.2.1) (e3 : s'.2.2.1 = s.2.2.1) (e4 : s'.2.2.2.1 = s.2.2.2.1) (e5 : s'.2.2.2.2.1 = s.2.2.2.2.1) (hx : i' X 8 = nI (aA s') ∧ i' X 9 = nI (aW s') ∧ i' X 10 = aX s' ∧ i' X 11 = aN s' ∧ i' X 12 = aF s') (e : ∀ q, q ≠ X → i' q = i q) : CR i' X g s' := by
  obtain ⟨r1, r2, r3, r4, r5, r6⟩ := hr
  obtain ⟨p0, p1, p2, p3, p4⟩ := hp
  unfold CR aV aI aK TR aL aB
  rw [e1, e2, e3, e4, e5]
  refine ⟨r1.kp p1 hv.1.2.2.2.1 (fun q h1 h2 => e q (by omega)), fun h => (r2 h).kp p3 (hv.2.1 0 (by decide) h).2.2.2.1 (fun q h1 h2 => e q (by omega)), fun h => (r3 h).kp p4 (hv.2.1 1 (by decide) h).2.2.2.1 (fun q h1 h2 => e q (by omega)), ?_, hx, ?_⟩
  · rw [e (X + 173) (by omega)]; exact r4
  · rw [e (X + 209) (by omega), e (X + 209 + 1) (by omega)]; exact r6
/-- one of the crew -/
abbrev isH (s : Ab) (k : Int32) : Prop := 0 ≤ k ∧ k ≤ nI (hn (vh (aV s))) - 1
theorem nsub1 {n : Nat} (h : n ≤ 1000) : nI n - 1 = iN ((n : Int) - 1) := by rw [nI_iN, show (1 : Int32) = iN 1 from rfl, iN_sub]
theorem isH_of {s : Ab} {k : Int32} {b : Nat} (hv : AV b s) (h : isH s k) : ∃ j, j < hn (vh (aV s)) ∧ k = nI j := by
  have h6 := hv.1.1.1
  obtain ⟨h1, h2⟩ := h
  rw [nsub1 (by omega), Int32.le_iff_toInt_le, iN_toInt (by omega) (by omega)] at h2
  rw [Int32.le_iff_toInt_le] at h1
  have h0 : (0 : Int32).toInt = 0 := rfl
  rw [h0] at h1
  refine ⟨k.toInt.toNat, by omega, ?_⟩
  rw [nI_iN, Int.toNat_of_nonneg h1]
  exact iN_of k
theorem within_of {k : Int32} {lo hi : Int32} {n : Nat} (h : lo ≤ k ∧ k ≤ hi) (hlo : lo = 0) (hhi : hi = nI n) (hn : n < 2 ^ 31) : ∃ j, j ≤ n ∧ k = nI j := by
  obtain ⟨h1, h2⟩ := h
  rw [hlo, Int32.le_iff_toInt_le] at h1
  rw [hhi, Int32.le_iff_toInt_le, nI_toInt hn] at h2
  have h0 : (0 : Int32).toInt = 0 := rfl
  rw [h0] at h1
  refine ⟨k.toInt.toNat, by omega, ?_⟩
  rw [nI_iN, Int.toNat_of_nonneg h1]
  exact iN_of k
set_option maxRecDepth 100000 in
set_option maxHeartbeats 4000000 in
theorem spX11_refuseBad {G : GE} {d : Nat} {i : MI0} {S : MS} {X b : Nat} {g : Nat → Nat → Nat} {s : Ab} (hP : CP S X g) (hR : CR i X g s) (hV : AV b s) (r : Int32) : Mt G iX11_refuseBad d [.ref X, .int r] (i, S) (Wi r S (fun i' => CR i' X g (bad s) ∧ ∀ q, q ≠ X → i' q = i q)) := by
  have hP' := hP
  have hR' := hR
  have hV' := hV
  obtain ⟨⟨Gx, Gr, Gks, ⟨Gv, Gd, Gi0, Gi1⟩, Gi, Gk, Gt, Gc, Gp, Ge⟩, Pv0, Pv1, Pv2, Pv3⟩ := hP
  have Gh := Gv.2.2.2.2.2.2.2.2.2.2.1
  obtain ⟨Vr, Vi0, Vi1, Vk, Vx, Vt⟩ := hR
  have Vh := Vr.2.2.2.1
  obtain ⟨Av, Ai, At, Ab', Aa, Aw⟩ := hV
  have Ah := Av.1
  have Ah1 := Ah.1
  have Av1 := Av.2.1
  have Av2 := Av.2.2.1
  have Av3 := Av.2.2.2.1
  refine Mt_in 0 (ls := [.ref X, .int r]) moX11_refuseBad (Nat.le_of_ble_eq_true rfl) rfl ?_
  refine PW_aload_n (i := 0) dX11_refuseBad_0 rfl rfl ?_
  refine PW_dup dX11_refuseBad_1 rfl ?_
  refine PW_giv (v := aX s) dX11_refuseBad_2 fg11_258 (Gx) (Vx.2.2.1) ?_
  refine PW_iconst (v := 1) dX11_refuseBad_5 (by decide) ?_
  refine PW_iadd dX11_refuseBad_6 ?_
  refine PW_putI dX11_refuseBad_7 fr11_258 (fun h => by cases h) (Gx) ?_
  refine PW_iload_n (i := 1) dX11_refuseBad_10 rfl rfl ?_
  refine PW_ireturn rfl (rfl) dX11_refuseBad_11 (Nat.le_of_ble_eq_true rfl) (Nat.le_of_ble_eq_true rfl) ?_
  refine Wi_mk rfl rfl ⟨hR'.sx (s' := bad s) hP' hV' rfl rfl rfl rfl rfl ⟨?_, ?_, ?_, ?_, ?_⟩ (fun q hq => rI_f _ _ hq), fun q hq => rI_f _ _ hq⟩
  · simp (disch := omega) only [rI_s, rI_k, rI_a, rI_f, rA_s, rA_n, rA_f, rP, rP_f]; exact Vx.1
  · simp (disch := omega) only [rI_s, rI_k, rI_a, rI_f, rA_s, rA_n, rA_f, rP, rP_f]; exact Vx.2.1
  · simp (disch := omega) only [rI_s, rI_k, rI_a, rI_f, rA_s, rA_n, rA_f, rP, rP_f]; exact rfl
  · simp (disch := omega) only [rI_s, rI_k, rI_a, rI_f, rA_s, rA_n, rA_f, rP, rP_f]; exact Vx.2.2.2.1
  · simp (disch := omega) only [rI_s, rI_k, rI_a, rI_f, rA_s, rA_n, rA_f, rP, rP_f]; exact Vx.2.2.2.2
set_option maxRecDepth 100000 in
set_option maxHeartbeats 4000000 in
theorem spX11_refuseNo {G : GE} {d : Nat} {i : MI0} {S : MS} {X b : Nat} {g : Nat → Nat → Nat} {s : Ab} (hP : CP S X g) (hR : CR i X g s) (hV : AV b s) : Mt G iX11_refuseNo d [.ref X] (i, S) (Wi (-3) S (fun i' => CR i' X g (noo s) ∧ ∀ q, q ≠ X → i' q = i q)) := by
  have hP' := hP
  have hR' := hR
  have hV' := hV
  obtain ⟨⟨Gx, Gr, Gks, ⟨Gv, Gd, Gi0, Gi1⟩, Gi, Gk, Gt, Gc, Gp, Ge⟩, Pv0, Pv1, Pv2, Pv3⟩ := hP
  have Gh := Gv.2.2.2.2.2.2.2.2.2.2.1
  obtain ⟨Vr, Vi0, Vi1, Vk, Vx, Vt⟩ := hR
  have Vh := Vr.2.2.2.1
  obtain ⟨Av, Ai, At, Ab', Aa, Aw⟩ := hV
  have Ah := Av.1
  have Ah1 := Ah.1
  have Av1 := Av.2.1
  have Av2 := Av.2.2.1
  have Av3 := Av.2.2.2.1
  refine Mt_in 0 (ls := [.ref X]) moX11_refuseNo (Nat.le_of_ble_eq_true rfl) rfl ?_
  refine PW_aload_n (i := 0) dX11_refuseNo_0 rfl rfl ?_
  refine PW_dup dX11_refuseNo_1 rfl ?_
  refine PW_giv (v := aN s) dX11_refuseNo_2 fg11_261 (Gx) (Vx.2.2.2.1) ?_
  refine PW_iconst (v := 1) dX11_refuseNo_5 (by decide) ?_
  refine PW_iadd dX11_refuseNo_6 ?_
  refine PW_putI dX11_refuseNo_7 fr11_261 (fun h => by cases h) (Gx) ?_
  refine PW_bipush (v := -3) dX11_refuseNo_10 (by decide) ?_
  refine PW_ireturn rfl (rfl) dX11_refuseNo_12 (Nat.le_of_ble_eq_true rfl) (Nat.le_of_ble_eq_true rfl) ?_
  refine Wi_mk rfl rfl ⟨hR'.sx (s' := noo s) hP' hV' rfl rfl rfl rfl rfl ⟨?_, ?_, ?_, ?_, ?_⟩ (fun q hq => rI_f _ _ hq), fun q hq => rI_f _ _ hq⟩
  · simp (disch := omega) only [rI_s, rI_k, rI_a, rI_f, rA_s, rA_n, rA_f, rP, rP_f]; exact Vx.1
  · simp (disch := omega) only [rI_s, rI_k, rI_a, rI_f, rA_s, rA_n, rA_f, rP, rP_f]; exact Vx.2.1
  · simp (disch := omega) only [rI_s, rI_k, rI_a, rI_f, rA_s, rA_n, rA_f, rP, rP_f]; exact Vx.2.2.1
  · simp (disch := omega) only [rI_s, rI_k, rI_a, rI_f, rA_s, rA_n, rA_f, rP, rP_f]; exact rfl
  · simp (disch := omega) only [rI_s, rI_k, rI_a, rI_f, rA_s, rA_n, rA_f, rP, rP_f]; exact Vx.2.2.2.2
set_option maxRecDepth 100000 in
set_option maxHeartbeats 4000000 in
theorem spX11_refuseFull {G : GE} {d : Nat} {i : MI0} {S : MS} {X b : Nat} {g : Nat → Nat → Nat} {s : Ab} (hP : CP S X g) (hR : CR i X g s) (hV : AV b s) : Mt G iX11_refuseFull d [.ref X] (i, S) (Wi (-4) S (fun i' => CR i' X g (ful s) ∧ ∀ q, q ≠ X → i' q = i q)) := by
  have hP' := hP
  have hR' := hR
  have hV' := hV
  obtain ⟨⟨Gx, Gr, Gks, ⟨Gv, Gd, Gi0, Gi1⟩, Gi, Gk, Gt, Gc, Gp, Ge⟩, Pv0, Pv1, Pv2, Pv3⟩ := hP
  have Gh := Gv.2.2.2.2.2.2.2.2.2.2.1
  obtain ⟨Vr, Vi0, Vi1, Vk, Vx, Vt⟩ := hR
  have Vh := Vr.2.2.2.1
  obtain ⟨Av, Ai, At, Ab', Aa, Aw⟩ := hV
  have Ah := Av.1
  have Ah1 := Ah.1
  have Av1 := Av.2.1
  have Av2 := Av.2.2.1
  have Av3 := Av.2.2.2.1
  refine Mt_in 0 (ls := [.ref X]) moX11_refuseFull (Nat.le_of_ble_eq_true rfl) rfl ?_
  refine PW_aload_n (i := 0) dX11_refuseFull_0 rfl rfl ?_
  refine PW_dup dX11_refuseFull_1 rfl ?_
  refine PW_giv (v := aF s) dX11_refuseFull_2 fg11_264 (Gx) (Vx.2.2.2.2) ?_
  refine PW_iconst (v := 1) dX11_refuseFull_5 (by decide) ?_
  refine PW_iadd dX11_refuseFull_6 ?_
  refine PW_putI dX11_refuseFull_7 fr11_264 (fun h => by cases h) (Gx) ?_
  refine PW_bipush (v := -4) dX11_refuseFull_10 (by decide) ?_
  refine PW_ireturn rfl (rfl) dX11_refuseFull_12 (Nat.le_of_ble_eq_true rfl) (Nat.le_of_ble_eq_true rfl) ?_
  refine Wi_mk rfl rfl ⟨hR'.sx (s' := ful s) hP' hV' rfl rfl rfl rfl rfl ⟨?_, ?_, ?_, ?_, ?_⟩ (fun q hq => rI_f _ _ hq), fun q hq => rI_f _ _ hq⟩
  · simp (disch := omega) only [rI_s, rI_k, rI_a, rI_f, rA_s, rA_n, rA_f, rP, rP_f]; exact Vx.1
  · simp (disch := omega) only [rI_s, rI_k, rI_a, rI_f, rA_s, rA_n, rA_f, rP, rP_f]; exact Vx.2.1
  · simp (disch := omega) only [rI_s, rI_k, rI_a, rI_f, rA_s, rA_n, rA_f, rP, rP_f]; exact Vx.2.2.1
  · simp (disch := omega) only [rI_s, rI_k, rI_a, rI_f, rA_s, rA_n, rA_f, rP, rP_f]; exact Vx.2.2.2.1
  · simp (disch := omega) only [rI_s, rI_k, rI_a, rI_f, rA_s, rA_n, rA_f, rP, rP_f]; exact rfl
set_option maxRecDepth 100000 in
set_option maxHeartbeats 4000000 in
theorem spX11_isHand {G : GE} {d : Nat} {i : MI0} {S : MS} {X b : Nat} {g : Nat → Nat → Nat} {s : Ab} (hd : 1 ≤ d) (hP : CP S X g) (hR : CR i X g s) (hV : AV b s) (hb : b ≤ 100) (k : Int32) : Mt G iX11_isHand d [.ref X, .int k] (i, S) (Rt (b1 (0 ≤ k ∧ k ≤ nI (hn (vh (aV s))) - 1)) (i, S)) := by
  have hP' := hP
  have hR' := hR
  have hV' := hV
  obtain ⟨⟨Gx, Gr, Gks, ⟨Gv, Gd, Gi0, Gi1⟩, Gi, Gk, Gt, Gc, Gp, Ge⟩, Pv0, Pv1, Pv2, Pv3⟩ := hP
  have Gh := Gv.2.2.2.2.2.2.2.2.2.2.1
  obtain ⟨Vr, Vi0, Vi1, Vk, Vx, Vt⟩ := hR
  have Vh := Vr.2.2.2.1
  obtain ⟨Av, Ai, At, Ab', Aa, Aw⟩ := hV
  have Ah := Av.1
  have Ah1 := Ah.1
  have Av1 := Av.2.1
  have Av2 := Av.2.2.1
  have Av3 := Av.2.2.2.1
  refine Mt_in 0 (ls := [.ref X, .int k]) moX11_isHand (Nat.le_of_ble_eq_true rfl) rfl ?_
  refine PW_iload_n (i := 1) dX11_isHand_0 rfl rfl ?_
  refine PW_iconst (v := 0) dX11_isHand_1 (by decide) ?_
  refine PW_aload_n (i := 0) dX11_isHand_2 rfl rfl ?_
  refine PW_getR dX11_isHand_3 fg11_32 (Gx) (Gr.1) ?_
  refine PW_getR dX11_isHand_6 fg11_82 (Gv.1) (Gv.2.2.2.2.2.1) ?_
  refine PW_giv (v := nI (hn (vh (aV s)))) dX11_isHand_9 fg11_85 (Gh.1) (Vh.1) ?_
  refine PW_iconst (v := 1) dX11_isHand_12 (by decide) ?_
  refine PW_isub dX11_isHand_13 ?_
  refine PW_callS dX11_isHand_14 moX11_isWithin cs11_116 (by omega) rfl rfl (Nat.le_of_ble_eq_true rfl) (Nat.le_of_ble_eq_true rfl) (Nat.le_of_ble_eq_true rfl) (spX11_isWithin (d := d - 1) _ _ _) (fun v M1 hq => ?_)
  obtain ⟨rfl, rfl⟩ := hq
  refine PW_ireturn rfl (b1_n _) dX11_isHand_17 (Nat.le_of_ble_eq_true rfl) (Nat.le_of_ble_eq_true rfl) ?_
  exact rt_i rfl
def oShip (s : Ab) : Int32 × Ab := (nI (hn (vh (aV s))), setV s vy0)
set_option maxRecDepth 100000 in
set_option maxHeartbeats 4000000 in
theorem spX11_ship {G : GE} {d : Nat} {i : MI0} {S : MS} {X b : Nat} {g : Nat → Nat → Nat} {s : Ab} (hd : 20 ≤ d) (hP : CP S X g) (hR : CR i X g s) (hV : AV b s) (hb : b ≤ 100) : Mt G iX11_ship d [.ref X] (i, S) (Op X (i, S) (.int (oShip s).1) (oShip s).2) := by
  have hP' := hP
  have hR' := hR
  have hV' := hV
  obtain ⟨⟨Gx, Gr, Gks, ⟨Gv, Gd, Gi0, Gi1⟩, Gi, Gk, Gt, Gc, Gp, Ge⟩, Pv0, Pv1, Pv2, Pv3⟩ := hP
  have Gh := Gv.2.2.2.2.2.2.2.2.2.2.1
  obtain ⟨Vr, Vi0, Vi1, Vk, Vx, Vt⟩ := hR
  have Vh := Vr.2.2.2.1
  obtain ⟨Av, Ai, At, Ab', Aa, Aw⟩ := hV
  have Ah := Av.1
  have Ah1 := Ah.1
  have Av1 := Av.2.1
  have Av2 := Av.2.2.1
  have Av3 := Av.2.2.2.1
  refine Mt_in 1 (ls := [.ref X, .null]) moX11_ship (Nat.le_of_ble_eq_true rfl) rfl ?_
  refine PW_aload_n (i := 0) dX11_ship_0 rfl rfl ?_
  refine PW_getR dX11_ship_1 fg11_32 (Gx) (Gr.1) ?_
  refine PW_getR dX11_ship_4 fg11_82 (Gv.1) (Gv.2.2.2.2.2.1) ?_
  refine PW_giv (v := nI (hn (vh (aV s)))) dX11_ship_7 fg11_85 (Gh.1) (Vh.1) ?_
  refine PW_istore_n (i := 1) dX11_ship_10 rfl (Nat.le_of_ble_eq_true rfl) rfl ?_
  refine PW_aload_n (i := 0) dX11_ship_11 rfl rfl ?_
  refine PW_getR dX11_ship_12 fg11_32 (Gx) (Gr.1) ?_
  refine PW_callV dX11_ship_15 moX10_begin cv11_88 (Gv.1) (by omega) rfl rfl (Nat.le_of_ble_eq_true rfl) (Nat.le_of_ble_eq_true rfl) (Nat.le_of_ble_eq_true rfl) (spX10_begin (d := d - 1) (y := vy0) (σ := g 0) (by omega) Gv) (fun v M1 hq => ?_)
  obtain ⟨rfl, i1, rfl, p1, p2⟩ := hq
  refine PW_iload_n (i := 1) dX11_ship_18 rfl rfl ?_
  refine PW_ireturn rfl (rfl) dX11_ship_19 (Nat.le_of_ble_eq_true rfl) (Nat.le_of_ble_eq_true rfl) ?_
  exact Op_i (o := oShip s) rfl hP' (hR'.sv hP' hV' p1 (fun q hq => p2 q (by omega) (by omega))) (fun q hq => p2 q (by omega) (by omega))
def oRock (s : Ab) (p : Int32) : Int32 × Ab := if (-60 : Int32) ≤ p ∧ p ≤ 60 then (if rkB (aV s) p then (-3, noo s) else if vr (aV s) < 6 then (nI (vr (aV s) + 1), setV s (adR (aV s) p)) else (-4, ful s)) else (-2, bad s)
set_option maxRecDepth 100000 in
set_option maxHeartbeats 4000000 in
theorem spX11_rock {G : GE} {d : Nat} {i : MI0} {S : MS} {X b : Nat} {g : Nat → Nat → Nat} {s : Ab} (hd : 20 ≤ d) (hP : CP S X g) (hR : CR i X g s) (hV : AV b s) (hb : b ≤ 100) (p : Int32) : Mt G iX11_rock d [.ref X, .int p] (i, S) (Op X (i, S) (.int (oRock s p).1) (oRock s p).2) := by
  have hP' := hP
  have hR' := hR
  have hV' := hV
  obtain ⟨⟨Gx, Gr, Gks, ⟨Gv, Gd, Gi0, Gi1⟩, Gi, Gk, Gt, Gc, Gp, Ge⟩, Pv0, Pv1, Pv2, Pv3⟩ := hP
  have Gh := Gv.2.2.2.2.2.2.2.2.2.2.1
  obtain ⟨Vr, Vi0, Vi1, Vk, Vx, Vt⟩ := hR
  have Vh := Vr.2.2.2.1
  obtain ⟨Av, Ai, At, Ab', Aa, Aw⟩ := hV
  have Ah := Av.1
  have Ah1 := Ah.1
  have Av1 := Av.2.1
  have Av2 := Av.2.2.1
  have Av3 := Av.2.2.2.1
  refine Mt_in 0 (ls := [.ref X, .int p]) moX11_rock (Nat.le_of_ble_eq_true rfl) rfl ?_
  refine PW_iload_n (i := 1) dX11_rock_0 rfl rfl ?_
  refine PW_callS dX11_rock_1 moX11_isPlace cs11_91 (by omega) rfl rfl (Nat.le_of_ble_eq_true rfl) (Nat.le_of_ble_eq_true rfl) (Nat.le_of_ble_eq_true rfl) (spX11_isPlace (d := d - 1) (by omega) _) (fun v M1 hq => ?_)
  obtain ⟨rfl, rfl⟩ := hq
  refine PW_if_ne 14 dX11_rock_4 (by decide) (fun h4 => ?_) (fun h4 => ?_)
  · have h4 := b1_1.mp h4
    refine PW_aload_n (i := 0) dX11_rock_14 rfl rfl ?_
    refine PW_getR dX11_rock_15 fg11_32 (Gx) (Gr.1) ?_
    refine PW_iload_n (i := 1) dX11_rock_18 rfl rfl ?_
    refine PW_callV dX11_rock_19 moX10_isRock cv11_99 (Gv.1) (by omega) rfl rfl (Nat.le_of_ble_eq_true rfl) (Nat.le_of_ble_eq_true rfl) (Nat.le_of_ble_eq_true rfl) (spX10_isRock (d := d - 1) (by omega) Gv Pv0 Vr Av _) (fun v M1 hq => ?_)
    obtain ⟨rfl, rfl⟩ := hq
    refine PW_if_eq 30 dX11_rock_22 (by decide) (fun h22 => ?_) (fun h22 => ?_)
    · have h22 := b2i_0.mp h22
      refine PW_aload_n (i := 0) dX11_rock_30 rfl rfl ?_
      refine PW_getR dX11_rock_31 fg11_32 (Gx) (Gr.1) ?_
      refine PW_giv (v := nI (vr (aV s))) dX11_rock_34 fg11_106 (Gv.1) (Vr.1) ?_
      refine PW_bipush (v := 6) dX11_rock_37 (by decide) ?_
      refine PW_icmp_lt 47 dX11_rock_39 (by decide) (fun h39 => ?_) (fun h39 => ?_)
      · have h39 := jlt (b := 6) h39
        refine PW_aload_n (i := 0) dX11_rock_47 rfl rfl ?_
        refine PW_getR dX11_rock_48 fg11_32 (Gx) (Gr.1) ?_
        refine PW_iload_n (i := 1) dX11_rock_51 rfl rfl ?_
        refine PW_callV dX11_rock_52 moX10_addRock cv11_112 (Gv.1) (by omega) rfl rfl (Nat.le_of_ble_eq_true rfl) (Nat.le_of_ble_eq_true rfl) (Nat.le_of_ble_eq_true rfl) (spX10_addRock (d := d - 1) (by omega) Gv Pv0 Vr Av h39 _) (fun v M1 hq => ?_)
        obtain ⟨rfl, i1, rfl, p1, p2⟩ := hq
        refine PW_aload_n (i := 0) dX11_rock_55 rfl rfl ?_
        refine PW_getR dX11_rock_56 fg11_32 (Gx) (Gr.1) ?_
        refine PW_giv (v := nI (vr (aV s) + 1)) dX11_rock_59 fg11_106 (Gv.1) (p1.1) ?_
        refine PW_ireturn rfl (rfl) dX11_rock_62 (Nat.le_of_ble_eq_true rfl) (Nat.le_of_ble_eq_true rfl) ?_
        exact Op_i (by unfold oRock; rw [if_pos h4, if_neg (by rw [h22]; decide), if_pos h39]) hP' (hR'.sv hP' hV' p1 (fun q hq => p2 q (by omega))) (fun q hq => p2 q (by omega))
      · have h39 := jnlt (b := 6) h39
        refine PW_aload_n (i := 0) dX11_rock_42 rfl rfl ?_
        refine PW_callV dX11_rock_43 moX11_refuseFull cv11_109 (Gx) (by omega) rfl rfl (Nat.le_of_ble_eq_true rfl) (Nat.le_of_ble_eq_true rfl) (Nat.le_of_ble_eq_true rfl) (spX11_refuseFull (d := d - 1) hP' hR' hV') (fun v M1 hq => ?_)
        obtain ⟨rfl, i1, rfl, c1, c2⟩ := hq
        refine PW_ireturn rfl (rfl) dX11_rock_46 (Nat.le_of_ble_eq_true rfl) (Nat.le_of_ble_eq_true rfl) ?_
        exact Op_i (by unfold oRock; rw [if_pos h4, if_neg (by rw [h22]; decide), if_neg (by omega)]) hP' c1 (fun q hq => c2 q (by omega))
    · have h22 := b2i_n.mp h22
      refine PW_aload_n (i := 0) dX11_rock_25 rfl rfl ?_
      refine PW_callV dX11_rock_26 moX11_refuseNo cv11_102 (Gx) (by omega) rfl rfl (Nat.le_of_ble_eq_true rfl) (Nat.le_of_ble_eq_true rfl) (Nat.le_of_ble_eq_true rfl) (spX11_refuseNo (d := d - 1) hP' hR' hV') (fun v M1 hq => ?_)
      obtain ⟨rfl, i1, rfl, c1, c2⟩ := hq
      refine PW_ireturn rfl (rfl) dX11_rock_29 (Nat.le_of_ble_eq_true rfl) (Nat.le_of_ble_eq_true rfl) ?_
      exact Op_i (by unfold oRock; rw [if_pos h4, if_pos h22]) hP' c1 (fun q hq => c2 q (by omega))
  · have h4 := b1_0.mp h4
    refine PW_aload_n (i := 0) dX11_rock_7 rfl rfl ?_
    refine PW_bipush (v := -2) dX11_rock_8 (by decide) ?_
    refine PW_callV dX11_rock_10 moX11_refuseBad cv11_95 (Gx) (by omega) rfl rfl (Nat.le_of_ble_eq_true rfl) (Nat.le_of_ble_eq_true rfl) (Nat.le_of_ble_eq_true rfl) (spX11_refuseBad (d := d - 1) hP' hR' hV' _) (fun v M1 hq => ?_)
    obtain ⟨rfl, i1, rfl, c1, c2⟩ := hq
    refine PW_ireturn rfl (rfl) dX11_rock_13 (Nat.le_of_ble_eq_true rfl) (Nat.le_of_ble_eq_true rfl) ?_
    exact Op_i (by unfold oRock; rw [if_neg h4]) hP' c1 (fun q hq => c2 q (by omega))
def oHand (s : Ab) (k t n : Int32) : Int32 × Ab := if ((0 : Int32) ≤ k ∧ k ≤ 5) ∧ ((0 : Int32) ≤ t ∧ t ≤ 40) ∧ ((-3 : Int32) ≤ n ∧ n ≤ 3) then (if hn (vh (aV s)) < 6 then (nI (hn (vh (aV s))), setV s (adV (aV s) k.toNatClampNeg t.toNatClampNeg n.toInt)) else (-4, ful s)) else (-2, bad s)
theorem cl_of {k hi : Int32} {n : Nat} (h : (0 : Int32) ≤ k ∧ k ≤ hi) (hh : hi = nI n) (hn : n < 2 ^ 30) : k = nI k.toNatClampNeg ∧ k.toNatClampNeg ≤ n := by
  obtain ⟨j, h1, h2⟩ := within_of h rfl hh (by omega)
  rw [h2, cln (by omega)]
  exact ⟨rfl, h1⟩
set_option maxRecDepth 100000 in
set_option maxHeartbeats 4000000 in
theorem spX11_hand {G : GE} {d : Nat} {i : MI0} {S : MS} {X b : Nat} {g : Nat → Nat → Nat} {s : Ab} (hd : 20 ≤ d) (hP : CP S X g) (hR : CR i X g s) (hV : AV b s) (hb : b ≤ 100) (k t n : Int32) : Mt G iX11_hand d [.ref X, .int k, .int t, .int n] (i, S) (Op X (i, S) (.int (oHand s k t n).1) (oHand s k t n).2) := by
  have hP' := hP
  have hR' := hR
  have hV' := hV
  obtain ⟨⟨Gx, Gr, Gks, ⟨Gv, Gd, Gi0, Gi1⟩, Gi, Gk, Gt, Gc, Gp, Ge⟩, Pv0, Pv1, Pv2, Pv3⟩ := hP
  have Gh := Gv.2.2.2.2.2.2.2.2.2.2.1
  obtain ⟨Vr, Vi0, Vi1, Vk, Vx, Vt⟩ := hR
  have Vh := Vr.2.2.2.1
  obtain ⟨Av, Ai, At, Ab', Aa, Aw⟩ := hV
  have Ah := Av.1
  have Ah1 := Ah.1
  have Av1 := Av.2.1
  have Av2 := Av.2.2.1
  have Av3 := Av.2.2.2.1
  refine Mt_in 0 (ls := [.ref X, .int k, .int t, .int n]) moX11_hand (Nat.le_of_ble_eq_true rfl) rfl ?_
  refine PW_iload_n (i := 1) dX11_hand_0 rfl rfl ?_
  refine PW_iconst (v := 0) dX11_hand_1 (by decide) ?_
  refine PW_iconst (v := 5) dX11_hand_2 (by decide) ?_
  refine PW_callS dX11_hand_3 moX11_isWithin cs11_116 (by omega) rfl rfl (Nat.le_of_ble_eq_true rfl) (Nat.le_of_ble_eq_true rfl) (Nat.le_of_ble_eq_true rfl) (spX11_isWithin (d := d - 1) _ _ _) (fun v M1 hq => ?_)
  obtain ⟨rfl, rfl⟩ := hq
  refine PW_if_eq 26 dX11_hand_6 (by decide) (fun h6 => ?_) (fun h6 => ?_)
  · have h6 := b1_0.mp h6
    refine PW_aload_n (i := 0) dX11_hand_26 rfl rfl ?_
    refine PW_bipush (v := -2) dX11_hand_27 (by decide) ?_
    refine PW_callV dX11_hand_29 moX11_refuseBad cv11_95 (Gx) (by omega) rfl rfl (Nat.le_of_ble_eq_true rfl) (Nat.le_of_ble_eq_true rfl) (Nat.le_of_ble_eq_true rfl) (spX11_refuseBad (d := d - 1) hP' hR' hV' _) (fun v M1 hq => ?_)
    obtain ⟨rfl, i1, rfl, c1, c2⟩ := hq
    refine PW_ireturn rfl (rfl) dX11_hand_32 (Nat.le_of_ble_eq_true rfl) (Nat.le_of_ble_eq_true rfl) ?_
    exact Op_i (by unfold oHand; rw [if_neg (fun q => by first | exact h6 q.1 | exact h16 q.2.1 | exact h23 q.2.2)]) hP' c1 (fun q hq => c2 q (by omega))
  · have h6 := b1_1.mp h6
    refine PW_iload_n (i := 2) dX11_hand_9 rfl rfl ?_
    refine PW_iconst (v := 0) dX11_hand_10 (by decide) ?_
    refine PW_bipush (v := 40) dX11_hand_11 (by decide) ?_
    refine PW_callS dX11_hand_13 moX11_isWithin cs11_116 (by omega) rfl rfl (Nat.le_of_ble_eq_true rfl) (Nat.le_of_ble_eq_true rfl) (Nat.le_of_ble_eq_true rfl) (spX11_isWithin (d := d - 1) _ _ _) (fun v M1 hq => ?_)
    obtain ⟨rfl, rfl⟩ := hq
    refine PW_if_eq 26 dX11_hand_16 (by decide) (fun h16 => ?_) (fun h16 => ?_)
    · have h16 := b1_0.mp h16
      refine PW_aload_n (i := 0) dX11_hand_26 rfl rfl ?_
      refine PW_bipush (v := -2) dX11_hand_27 (by decide) ?_
      refine PW_callV dX11_hand_29 moX11_refuseBad cv11_95 (Gx) (by omega) rfl rfl (Nat.le_of_ble_eq_true rfl) (Nat.le_of_ble_eq_true rfl) (Nat.le_of_ble_eq_true rfl) (spX11_refuseBad (d := d - 1) hP' hR' hV' _) (fun v M1 hq => ?_)
      obtain ⟨rfl, i1, rfl, c1, c2⟩ := hq
      refine PW_ireturn rfl (rfl) dX11_hand_32 (Nat.le_of_ble_eq_true rfl) (Nat.le_of_ble_eq_true rfl) ?_
      exact Op_i (by unfold oHand; rw [if_neg (fun q => by first | exact h6 q.1 | exact h16 q.2.1 | exact h23 q.2.2)]) hP' c1 (fun q hq => c2 q (by omega))
    · have h16 := b1_1.mp h16
      refine PW_iload_n (i := 3) dX11_hand_19 rfl rfl ?_
      refine PW_callS dX11_hand_20 moX11_isNods cs11_120 (by omega) rfl rfl (Nat.le_of_ble_eq_true rfl) (Nat.le_of_ble_eq_true rfl) (Nat.le_of_ble_eq_true rfl) (spX11_isNods (d := d - 1) (by omega) _) (fun v M1 hq => ?_)
      obtain ⟨rfl, rfl⟩ := hq
      refine PW_if_ne 33 dX11_hand_23 (by decide) (fun h23 => ?_) (fun h23 => ?_)
      · have h23 := b1_1.mp h23
        refine PW_aload_n (i := 0) dX11_hand_33 rfl rfl ?_
        refine PW_getR dX11_hand_34 fg11_32 (Gx) (Gr.1) ?_
        refine PW_getR dX11_hand_37 fg11_82 (Gv.1) (Gv.2.2.2.2.2.1) ?_
        refine PW_giv (v := nI (hn (vh (aV s)))) dX11_hand_40 fg11_85 (Gh.1) (Vh.1) ?_
        refine PW_bipush (v := 6) dX11_hand_43 (by decide) ?_
        refine PW_icmp_lt 53 dX11_hand_45 (by decide) (fun h45 => ?_) (fun h45 => ?_)
        · have h45 := jlt (b := 6) h45
          refine PW_aload_n (i := 0) dX11_hand_53 rfl rfl ?_
          refine PW_getR dX11_hand_54 fg11_32 (Gx) (Gr.1) ?_
          refine PW_iload_n (i := 1) dX11_hand_57 rfl rfl ?_
          refine PW_iload_n (i := 2) dX11_hand_58 rfl rfl ?_
          refine PW_iload_n (i := 3) dX11_hand_59 rfl rfl ?_
          have k1 := cl_of (n := 5) h6 rfl (by decide)
          have k2 := cl_of (n := 40) h16 rfl (by decide)
          have k3 := iN_of n
          refine PW_eqS (show _ = [.int (iN n.toInt), .int (nI t.toNatClampNeg), .int (nI k.toNatClampNeg), .ref (X + 8)] by rw [← k3, ← k2.1, ← k1.1]; rfl) ?_
          refine PW_callV dX11_hand_60 moX10_addHand cv11_123 (Gv.1) (by omega) rfl rfl (Nat.le_of_ble_eq_true rfl) (Nat.le_of_ble_eq_true rfl) (Nat.le_of_ble_eq_true rfl) (spX10_addHand (d := d - 1) (by omega) Gv Pv0 Vr Av h45 _ _ _) (fun v M1 hq => ?_)
          obtain ⟨rfl, i1, rfl, p1, p2⟩ := hq
          refine PW_aload_n (i := 0) dX11_hand_63 rfl rfl ?_
          refine PW_getR dX11_hand_64 fg11_32 (Gx) (Gr.1) ?_
          refine PW_getR dX11_hand_67 fg11_82 (Gv.1) (Gv.2.2.2.2.2.1) ?_
          refine PW_giv (v := nI (hn (vh (aV s)) + 1)) dX11_hand_70 fg11_85 (Gh.1) (p1.2.2.2.1.1) ?_
          refine PW_iconst (v := 1) dX11_hand_73 (by decide) ?_
          refine PW_isub dX11_hand_74 ?_
          refine PW_eqi (nI_pred _) ?_
          refine PW_ireturn rfl (rfl) dX11_hand_75 (Nat.le_of_ble_eq_true rfl) (Nat.le_of_ble_eq_true rfl) ?_
          exact Op_i (by unfold oHand; rw [if_pos ⟨h6, h16, h23⟩, if_pos h45]) hP' (hR'.sv hP' hV' p1 (fun q hq => p2 q (by omega))) (fun q hq => p2 q (by omega))
        · have h45 := jnlt (b := 6) h45
          refine PW_aload_n (i := 0) dX11_hand_48 rfl rfl ?_
          refine PW_callV dX11_hand_49 moX11_refuseFull cv11_109 (Gx) (by omega) rfl rfl (Nat.le_of_ble_eq_true rfl) (Nat.le_of_ble_eq_true rfl) (Nat.le_of_ble_eq_true rfl) (spX11_refuseFull (d := d - 1) hP' hR' hV') (fun v M1 hq => ?_)
          obtain ⟨rfl, i1, rfl, c1, c2⟩ := hq
          refine PW_ireturn rfl (rfl) dX11_hand_52 (Nat.le_of_ble_eq_true rfl) (Nat.le_of_ble_eq_true rfl) ?_
          exact Op_i (by unfold oHand; rw [if_pos ⟨h6, h16, h23⟩, if_neg (by omega)]) hP' c1 (fun q hq => c2 q (by omega))
      · have h23 := b1_0.mp h23
        refine PW_aload_n (i := 0) dX11_hand_26 rfl rfl ?_
        refine PW_bipush (v := -2) dX11_hand_27 (by decide) ?_
        refine PW_callV dX11_hand_29 moX11_refuseBad cv11_95 (Gx) (by omega) rfl rfl (Nat.le_of_ble_eq_true rfl) (Nat.le_of_ble_eq_true rfl) (Nat.le_of_ble_eq_true rfl) (spX11_refuseBad (d := d - 1) hP' hR' hV' _) (fun v M1 hq => ?_)
        obtain ⟨rfl, i1, rfl, c1, c2⟩ := hq
        refine PW_ireturn rfl (rfl) dX11_hand_32 (Nat.le_of_ble_eq_true rfl) (Nat.le_of_ble_eq_true rfl) ?_
        exact Op_i (by unfold oHand; rw [if_neg (fun q => by first | exact h6 q.1 | exact h16 q.2.1 | exact h23 q.2.2)]) hP' c1 (fun q hq => c2 q (by omega))
def oSeen (s : Ab) (m p : Int32) : Int32 × Ab := if ((0 : Int32) ≤ m ∧ m ≤ 20) ∧ ((-60 : Int32) ≤ p ∧ p ≤ 60) then (if vs (aV s) < 6 then (nI (vs (aV s) + 1), setV s (adS (aV s) m.toNatClampNeg p)) else (-4, ful s)) else (-2, bad s)
def oForget (s : Ab) : Int32 × Ab := (nI (vs (aV s)), setV s (vh (aV s), vr (aV s), vR (aV s), 0, vW (aV s), vP (aV s), vu (aV s), vU (aV s)))
set_option maxRecDepth 100000 in
set_option maxHeartbeats 4000000 in
theorem spX11_seen {G : GE} {d : Nat} {i : MI0} {S : MS} {X b : Nat} {g : Nat → Nat → Nat} {s : Ab} (hd : 20 ≤ d) (hP : CP S X g) (hR : CR i X g s) (hV : AV b s) (hb : b ≤ 100) (m p : Int32) : Mt G iX11_seen d [.ref X, .int m, .int p] (i, S) (Op X (i, S) (.int (oSeen s m p).1) (oSeen s m p).2) := by
  have hP' := hP
  have hR' := hR
  have hV' := hV
  obtain ⟨⟨Gx, Gr, Gks, ⟨Gv, Gd, Gi0, Gi1⟩, Gi, Gk, Gt, Gc, Gp, Ge⟩, Pv0, Pv1, Pv2, Pv3⟩ := hP
  have Gh := Gv.2.2.2.2.2.2.2.2.2.2.1
  obtain ⟨Vr, Vi0, Vi1, Vk, Vx, Vt⟩ := hR
  have Vh := Vr.2.2.2.1
  obtain ⟨Av, Ai, At, Ab', Aa, Aw⟩ := hV
  have Ah := Av.1
  have Ah1 := Ah.1
  have Av1 := Av.2.1
  have Av2 := Av.2.2.1
  have Av3 := Av.2.2.2.1
  refine Mt_in 0 (ls := [.ref X, .int m, .int p]) moX11_seen (Nat.le_of_ble_eq_true rfl) rfl ?_
  refine PW_iload_n (i := 1) dX11_seen_0 rfl rfl ?_
  refine PW_iconst (v := 0) dX11_seen_1 (by decide) ?_
  refine PW_bipush (v := 20) dX11_seen_2 (by decide) ?_
  refine PW_callS dX11_seen_4 moX11_isWithin cs11_116 (by omega) rfl rfl (Nat.le_of_ble_eq_true rfl) (Nat.le_of_ble_eq_true rfl) (Nat.le_of_ble_eq_true rfl) (spX11_isWithin (d := d - 1) _ _ _) (fun v M1 hq => ?_)
  obtain ⟨rfl, rfl⟩ := hq
  refine PW_if_eq 17 dX11_seen_7 (by decide) (fun h7 => ?_) (fun h7 => ?_)
  · have h7 := b1_0.mp h7
    refine PW_aload_n (i := 0) dX11_seen_17 rfl rfl ?_
    refine PW_bipush (v := -2) dX11_seen_18 (by decide) ?_
    refine PW_callV dX11_seen_20 moX11_refuseBad cv11_95 (Gx) (by omega) rfl rfl (Nat.le_of_ble_eq_true rfl) (Nat.le_of_ble_eq_true rfl) (Nat.le_of_ble_eq_true rfl) (spX11_refuseBad (d := d - 1) hP' hR' hV' _) (fun v M1 hq => ?_)
    obtain ⟨rfl, i1, rfl, c1, c2⟩ := hq
    refine PW_ireturn rfl (rfl) dX11_seen_23 (Nat.le_of_ble_eq_true rfl) (Nat.le_of_ble_eq_true rfl) ?_
    exact Op_i (by unfold oSeen; rw [if_neg (fun q => by first | exact h7 q.1 | exact h14 q.2)]) hP' c1 (fun q hq => c2 q (by omega))
  · have h7 := b1_1.mp h7
    refine PW_iload_n (i := 2) dX11_seen_10 rfl rfl ?_
    refine PW_callS dX11_seen_11 moX11_isPlace cs11_91 (by omega) rfl rfl (Nat.le_of_ble_eq_true rfl) (Nat.le_of_ble_eq_true rfl) (Nat.le_of_ble_eq_true rfl) (spX11_isPlace (d := d - 1) (by omega) _) (fun v M1 hq => ?_)
    obtain ⟨rfl, rfl⟩ := hq
    refine PW_if_ne 24 dX11_seen_14 (by decide) (fun h14 => ?_) (fun h14 => ?_)
    · have h14 := b1_1.mp h14
      refine PW_aload_n (i := 0) dX11_seen_24 rfl rfl ?_
      refine PW_getR dX11_seen_25 fg11_32 (Gx) (Gr.1) ?_
      refine PW_giv (v := nI (vs (aV s))) dX11_seen_28 fg11_216 (Gv.1) (Vr.2.1) ?_
      refine PW_bipush (v := 6) dX11_seen_31 (by decide) ?_
      refine PW_icmp_lt 41 dX11_seen_33 (by decide) (fun h33 => ?_) (fun h33 => ?_)
      · have h33 := jlt (b := 6) h33
        refine PW_aload_n (i := 0) dX11_seen_41 rfl rfl ?_
        refine PW_getR dX11_seen_42 fg11_32 (Gx) (Gr.1) ?_
        refine PW_iload_n (i := 1) dX11_seen_45 rfl rfl ?_
        refine PW_iload_n (i := 2) dX11_seen_46 rfl rfl ?_
        have k1 := cl_of (n := 20) h7 rfl (by decide)
        refine PW_eqS (show _ = [.int p, .int (nI m.toNatClampNeg), .ref (X + 8)] by rw [← k1.1]; rfl) ?_
        refine PW_callV dX11_seen_47 moX10_addSight cv11_219 (Gv.1) (by omega) rfl rfl (Nat.le_of_ble_eq_true rfl) (Nat.le_of_ble_eq_true rfl) (Nat.le_of_ble_eq_true rfl) (spX10_addSight (d := d - 1) (by omega) Gv Pv0 Vr Av h33 _ _) (fun v M1 hq => ?_)
        obtain ⟨rfl, i1, rfl, p1, p2⟩ := hq
        refine PW_aload_n (i := 0) dX11_seen_50 rfl rfl ?_
        refine PW_getR dX11_seen_51 fg11_32 (Gx) (Gr.1) ?_
        refine PW_giv (v := nI (vs (aV s) + 1)) dX11_seen_54 fg11_216 (Gv.1) (p1.2.1) ?_
        refine PW_ireturn rfl (rfl) dX11_seen_57 (Nat.le_of_ble_eq_true rfl) (Nat.le_of_ble_eq_true rfl) ?_
        exact Op_i (by unfold oSeen; rw [if_pos ⟨h7, h14⟩, if_pos h33]) hP' (hR'.sv hP' hV' p1 (fun q hq => p2 q (by omega))) (fun q hq => p2 q (by omega))
      · have h33 := jnlt (b := 6) h33
        refine PW_aload_n (i := 0) dX11_seen_36 rfl rfl ?_
        refine PW_callV dX11_seen_37 moX11_refuseFull cv11_109 (Gx) (by omega) rfl rfl (Nat.le_of_ble_eq_true rfl) (Nat.le_of_ble_eq_true rfl) (Nat.le_of_ble_eq_true rfl) (spX11_refuseFull (d := d - 1) hP' hR' hV') (fun v M1 hq => ?_)
        obtain ⟨rfl, i1, rfl, c1, c2⟩ := hq
        refine PW_ireturn rfl (rfl) dX11_seen_40 (Nat.le_of_ble_eq_true rfl) (Nat.le_of_ble_eq_true rfl) ?_
        exact Op_i (by unfold oSeen; rw [if_pos ⟨h7, h14⟩, if_neg (by omega)]) hP' c1 (fun q hq => c2 q (by omega))
    · have h14 := b1_0.mp h14
      refine PW_aload_n (i := 0) dX11_seen_17 rfl rfl ?_
      refine PW_bipush (v := -2) dX11_seen_18 (by decide) ?_
      refine PW_callV dX11_seen_20 moX11_refuseBad cv11_95 (Gx) (by omega) rfl rfl (Nat.le_of_ble_eq_true rfl) (Nat.le_of_ble_eq_true rfl) (Nat.le_of_ble_eq_true rfl) (spX11_refuseBad (d := d - 1) hP' hR' hV' _) (fun v M1 hq => ?_)
      obtain ⟨rfl, i1, rfl, c1, c2⟩ := hq
      refine PW_ireturn rfl (rfl) dX11_seen_23 (Nat.le_of_ble_eq_true rfl) (Nat.le_of_ble_eq_true rfl) ?_
      exact Op_i (by unfold oSeen; rw [if_neg (fun q => by first | exact h7 q.1 | exact h14 q.2)]) hP' c1 (fun q hq => c2 q (by omega))
set_option maxRecDepth 100000 in
set_option maxHeartbeats 4000000 in
theorem spX11_forget {G : GE} {d : Nat} {i : MI0} {S : MS} {X b : Nat} {g : Nat → Nat → Nat} {s : Ab} (hd : 20 ≤ d) (hP : CP S X g) (hR : CR i X g s) (hV : AV b s) (hb : b ≤ 100) : Mt G iX11_forget d [.ref X] (i, S) (Op X (i, S) (.int (oForget s).1) (oForget s).2) := by
  have hP' := hP
  have hR' := hR
  have hV' := hV
  obtain ⟨⟨Gx, Gr, Gks, ⟨Gv, Gd, Gi0, Gi1⟩, Gi, Gk, Gt, Gc, Gp, Ge⟩, Pv0, Pv1, Pv2, Pv3⟩ := hP
  have Gh := Gv.2.2.2.2.2.2.2.2.2.2.1
  obtain ⟨Vr, Vi0, Vi1, Vk, Vx, Vt⟩ := hR
  have Vh := Vr.2.2.2.1
  obtain ⟨Av, Ai, At, Ab', Aa, Aw⟩ := hV
  have Ah := Av.1
  have Ah1 := Ah.1
  have Av1 := Av.2.1
  have Av2 := Av.2.2.1
  have Av3 := Av.2.2.2.1
  refine Mt_in 1 (ls := [.ref X, .null]) moX11_forget (Nat.le_of_ble_eq_true rfl) rfl ?_
  refine PW_aload_n (i := 0) dX11_forget_0 rfl rfl ?_
  refine PW_getR dX11_forget_1 fg11_32 (Gx) (Gr.1) ?_
  refine PW_giv (v := nI (vs (aV s))) dX11_forget_4 fg11_216 (Gv.1) (Vr.2.1) ?_
  refine PW_istore_n (i := 1) dX11_forget_7 rfl (Nat.le_of_ble_eq_true rfl) rfl ?_
  refine PW_aload_n (i := 0) dX11_forget_8 rfl rfl ?_
  refine PW_getR dX11_forget_9 fg11_32 (Gx) (Gr.1) ?_
  refine PW_iconst (v := 0) dX11_forget_12 (by decide) ?_
  refine PW_putI dX11_forget_13 fr11_216 (fun h => by cases h) (Gv.1) ?_
  refine PW_nm rfl (fun i1 e1 => ?_)
  have e2 : ∀ q, q ≠ X + 8 → i1 q = i q := fun q hq => by rw [e1, rI_f _ _ hq]; rfl
  refine PW_iload_n (i := 1) dX11_forget_16 rfl rfl ?_
  refine PW_ireturn rfl (rfl) dX11_forget_17 (Nat.le_of_ble_eq_true rfl) (Nat.le_of_ble_eq_true rfl) ?_
  refine Op_i (o := oForget s) rfl hP' (hR'.sv hP' hV' ⟨?_, ?_, ?_, ?_, fun j hj => ?_, fun j hj => absurd hj (Nat.not_lt_zero j), fun u hu => ?_⟩ (fun q hq => e2 _ (by omega))) (fun q hq => e2 _ (by omega))
  · rw [e1, rI_k _ _ _ (by decide)]; exact Vr.1
  · rw [e1]; exact rI_s _ _ _ _
  · rw [e1, rI_k _ _ _ (by decide)]; exact Vr.2.2.1
  · exact Vh.kp (fun q h1 h2 => e2 _ (by omega))
  · rw [e2 _ (by omega)]; exact Vr.2.2.2.2.1 j hj
  · exact (Vr.2.2.2.2.2.2 u hu).kp (fun q h1 h2 => e2 _ (by omega))

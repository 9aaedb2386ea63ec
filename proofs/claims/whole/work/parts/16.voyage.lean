/-! ===== Voyage ===== -/
/-! ===== Voyage: helm, rocks, sights, what may be undone ===== -/
abbrev Vy : Type := Hm × Nat × (Nat → Int32) × Nat × (Nat → Nat) × (Nat → Int32) × Nat × (Nat → Hm)
def vh (y : Vy) : Hm := y.1
def vr (y : Vy) : Nat := y.2.1
def vR (y : Vy) : Nat → Int32 := y.2.2.1
def vs (y : Vy) : Nat := y.2.2.2.1
def vW (y : Vy) : Nat → Nat := y.2.2.2.2.1
def vP (y : Vy) : Nat → Int32 := y.2.2.2.2.2.1
def vu (y : Vy) : Nat := y.2.2.2.2.2.2.1
def vU (y : Vy) : Nat → Hm := y.2.2.2.2.2.2.2
def VV (b : Nat) (y : Vy) : Prop := HV b (vh y) ∧ vr y ≤ 6 ∧ vs y ≤ 6 ∧ vu y ≤ 8 ∧ (∀ j, j < vs y → vW y j ≤ 20) ∧ ∀ u, u < vu y → HV b (vU y u) ∧ hn (vU y u) = hn (vh y) ∧ ∀ j, j < hn (vh y) → hK (vU y u) j = hK (vh y) j ∧ hN (vU y u) j = hN (vh y) j
def VS (S : MS) (X v : Nat) : Prop := sT S v = (10, 0) ∧ sT S (v + 1) = (13, 6) ∧ sT S (v + 2) = (13, 6) ∧ sT S (v + 3) = (13, 6) ∧ sT S (v + 4) = (15, 8) ∧ sR S v 0 = some (v + 5) ∧ sR S v 1 = some (v + 1) ∧ sR S v 2 = some (v + 2) ∧ sR S v 3 = some (v + 3) ∧ sR S v 4 = some (v + 4) ∧ HS S X (v + 5) ∧ ∀ u, u < 8 → HS S X (v + 9 + 4 * u)
/-- where the helms kept for undo lie -/
def PV (S : MS) (v : Nat) (σ : Nat → Nat) : Prop := (∀ u, u < 8 → σ u < 8 ∧ sR S (v + 4) u = some (v + 9 + 4 * σ u)) ∧ ∀ u w, u < 8 → w < 8 → σ u = σ w → u = w
def VR (i : MI0) (v : Nat) (σ : Nat → Nat) (y : Vy) : Prop := i v 5 = nI (vr y) ∧ i v 6 = nI (vs y) ∧ i v 7 = nI (vu y) ∧ HR i (v + 5) (vh y) ∧ (∀ j, j < vr y → i (v + 1) j = vR y j) ∧ (∀ j, j < vs y → i (v + 2) j = nI (vW y j) ∧ i (v + 3) j = vP y j) ∧ ∀ u, u < vu y → HR i (v + 9 + 4 * σ u) (vU y u)
theorem VR.kp {i i' : MI0} {v : Nat} {σ : Nat → Nat} {y : Vy} {S : MS} (hr : VR i v σ y) (hp : PV S v σ) (h8 : vu y ≤ 8) (e : ∀ q, v ≤ q → q ≤ v + 40 → i' q = i q) : VR i' v σ y := by
  obtain ⟨r1, r2, r3, r4, r5, r6, r7⟩ := hr
  refine ⟨by rw [e v (by omega) (by omega)]; exact r1, by rw [e v (by omega) (by omega)]; exact r2, by rw [e v (by omega) (by omega)]; exact r3, r4.kp (fun q h1 h2 => e q (by omega) (by omega)), fun j hj => by rw [e _ (by omega) (by omega)]; exact r5 j hj, fun j hj => by rw [e (v + 2) (by omega) (by omega), e (v + 3) (by omega) (by omega)]; exact r6 j hj, fun u hu => ?_⟩
  have := (hp.1 u (by omega)).1
  exact (r7 u hu).kp (fun q h1 h2 => e q (by omega) (by omega))
/-- but for the references of the row p the same -/
def SE (S S' : MS) (p : Nat) : Prop := sL S' = sL S ∧ sT S' = sT S ∧ S'.2.2.2 = S.2.2.2 ∧ ∀ q, q ≠ p → sR S' q = sR S q
theorem SE.rfl' (S : MS) (p : Nat) : SE S S p := ⟨rfl, rfl, rfl, fun _ _ => rfl⟩
theorem HS.se {S S' : MS} {X a p : Nat} (h : HS S X a) (e : SE S S' p) (n : a ≠ p) : HS S' X a := by
  unfold HS
  rw [e.2.1, e.2.2.2 a n]
  exact h
theorem KS.se {S S' : MS} {X p : Nat} (h : KS S X) (e : SE S S' p) (n : X + 1 ≠ p) : KS S' X := by
  unfold KS
  rw [e.2.1, e.2.2.2 _ n]
  exact h
theorem CU.se {S S' : MS} {X c p : Nat} (h : CU S X c) (e : SE S S' p) (n : c ≠ p) (n2 : c + 3 ≠ p) : CU S' X c := by
  obtain ⟨h1, h2, h3, h4, h5, h6, h7⟩ := h
  unfold CU
  rw [e.2.1, e.2.2.2 _ n]
  exact ⟨h1, h2, h3, h4, h5, h6, h7.se e n2⟩
theorem VS.se {S S' : MS} {X v p : Nat} (h : VS S X v) (e : SE S S' p) (n : p < v ∨ v + 40 < p ∨ p = v + 4) : VS S' X v := by
  obtain ⟨h1, h2, h3, h4, h5, h6, h7, h8, h9, h10, h11, h12⟩ := h
  unfold VS
  rw [e.2.1, e.2.2.2 v (by omega)]
  exact ⟨h1, h2, h3, h4, h5, h6, h7, h8, h9, h10, h11.se e (by omega), fun u hu => (h12 u hu).se e (by omega)⟩
theorem PV.se {S S' : MS} {v p : Nat} {σ : Nat → Nat} (h : PV S v σ) (e : SE S S' p) (n : v + 4 ≠ p) : PV S' v σ := by
  unfold PV
  rw [e.2.2.2 _ n]
  exact h
theorem PW_nmS {G : GE} {I : MI} {d : Nat} {Post : Option Value → Mm → Prop} {pc : Nat} {ls st : List Value} {M' : Mm} {i : MI0} {nc ns : Nat} (h2 : M'.1 = i) (k : ∀ S1 : MS, S1 = M'.2 → PW G I d Post pc ls st (i, S1) nc ns) : PW G I d Post pc ls st M' nc ns := by
  subst h2
  exact k M'.2 rfl
theorem rR (M : Mm) (a k : Nat) (v : Option Nat) (b j : Nat) : sR (wR M a k v).2 b j = if b = a ∧ j = k then v else sR M.2 b j := by
  unfold sR wR va_up
  by_cases h : b = a
  · subst h
    by_cases h2 : j = k <;> simp [h2]
  · simp [h]
theorem SE_w {S0 S : MS} {p : Nat} (h : SE S0 S p) (i : MI0) (k : Nat) (v : Option Nat) : SE S0 (wR (i, S) p k v).2 p := by
  obtain ⟨h1, h2, h3, h4⟩ := h
  refine ⟨h1, h2, h3, fun q hq => ?_⟩
  rw [← h4 q hq]
  funext j
  rw [rR, if_neg (fun z => hq z.1)]
def anyB (f : Nat → Bool) : Nat → Bool
  | 0 => false
  | n + 1 => anyB f n || f n
theorem anyB_t {f : Nat → Bool} {j : Nat} (hj : f j = true) : ∀ {n : Nat}, j < n → anyB f n = true
  | 0, h => absurd h (Nat.not_lt_zero _)
  | n + 1, h => by
    unfold anyB
    by_cases e : j = n
    · rw [← e, hj, Bool.or_true]
    · rw [anyB_t hj (by omega), Bool.true_or]
theorem anyB_iff {f : Nat → Bool} : ∀ {n : Nat}, anyB f n = true ↔ ∃ j, j < n ∧ f j = true
  | 0 => ⟨fun h => (by cases h), fun ⟨j, h, _⟩ => absurd h (Nat.not_lt_zero j)⟩
  | n + 1 => by
    constructor
    · intro h
      unfold anyB at h
      rcases Bool.or_eq_true_iff.mp h with h | h
      · obtain ⟨j, h1, h2⟩ := anyB_iff.mp h
        exact ⟨j, by omega, h2⟩
      · exact ⟨n, by omega, h⟩
    · rintro ⟨j, h1, h2⟩
      exact anyB_t h2 h1
theorem anyB_cong {f g : Nat → Bool} : ∀ {n : Nat}, (∀ j, j < n → f j = g j) → anyB f n = anyB g n
  | 0, _ => rfl
  | n + 1, h => by
    unfold anyB
    rw [anyB_cong (fun j hj => h j (Nat.lt_succ_of_lt hj)), h n (Nat.lt_succ_self n)]
/-- there is a rock at p -/
def rkB (y : Vy) (p : Int32) : Bool := anyB (fun j => decide (vR y j = p)) (vr y)
def hm0 : Hm := (0, fun _ => 0, fun _ => 0, fun _ => 0, 0, 0, 0)
def vy0 : Vy := (hm0, 0, fun _ => 0, 0, fun _ => 0, fun _ => 0, 0, fun _ => hm0)
def adR (y : Vy) (p : Int32) : Vy := (vh y, vr y + 1, (fun j => if j = vr y then p else vR y j), vs y, vW y, vP y, vu y, vU y)
def adH (h : Hm) (k t : Nat) (n : Int) : Hm := (hn h + 1, (fun j => if j = hn h then k else hK h j), (fun j => if j = hn h then t else hT h j), (fun j => if j = hn h then n else hN h j), hp h, hw h, hf h)
def adV (y : Vy) (k t : Nat) (n : Int) : Vy := (adH (vh y) k t n, vr y, vR y, vs y, vW y, vP y, 0, vU y)
def adS (y : Vy) (m : Nat) (p : Int32) : Vy := (vh y, vr y, vR y, vs y + 1, (fun j => if j = vs y then m else vW y j), (fun j => if j = vs y then p else vP y j), vu y, vU y)
def wH (y : Vy) (h : Hm) : Vy := (h, vr y, vR y, vs y, vW y, vP y, vu y, vU y)
/-- the helm is kept -/
def remV (y : Vy) : Vy := (vh y, vr y, vR y, vs y, vW y, vP y, (if vu y = 8 then 8 else vu y + 1), (if vu y = 8 then (fun u => if u = 7 then vh y else vU y (u + 1)) else (fun u => if u = vu y then vh y else vU y u)))
def gbV (y : Vy) : Vy := (vU y (vu y - 1), vr y, vR y, vs y, vW y, vP y, vu y - 1, vU y)
/-- take's loop -/
def TI (i i' : MI0) (v w : Nat) (σ : Nat → Nat) (y : Vy) (j : Nat) : Prop := HR i' (v + 5) (vh y) ∧ (∀ k, k < 6 → i' (v + 1) k = i (w + 1) k ∧ i' (v + 2) k = i (w + 2) k ∧ i' (v + 3) k = i (w + 3) k) ∧ (∀ u, u < j → HR i' (v + 9 + 4 * σ u) (vU y u)) ∧ ∀ q, (q < v ∨ v + 40 < q) → i' q = i q
def mx (x : Int64) (v : Int32) : Int64 := 31 * x + v.toInt64
def dgc (h : Hm) (x : Int64) : Nat → Int64
  | 0 => x
  | j + 1 => mx (mx (mx (mx (dgc h x j) (nI (hK h j))) (nI (hT h j))) (iN (hN h j))) (b2i ((hf h).testBit j))
def dgr (y : Vy) (x : Int64) : Nat → Int64
  | 0 => x
  | j + 1 => mx (dgr y x j) (vR y j)
def dgs (y : Vy) (x : Int64) : Nat → Int64
  | 0 => x
  | j + 1 => mx (mx (dgs y x j) (nI (vW y j))) (vP y j)
def dgV (y : Vy) (x : Int64) : Int64 := dgs y (dgr y (dgc (vh y) (mx x (iN (hp (vh y)))) (hn (vh y))) (vr y)) (vs y)
/-- a long answer, the memory as it was -/
def Rl (r : Int64) (M : Mm) : Option Value → Mm → Prop := fun v M' => v = some (.long r) ∧ M' = M
set_option maxRecDepth 100000 in
set_option maxHeartbeats 4000000 in
theorem spX10_begin {G : GE} {d : Nat} {i : MI0} {S : MS} {X v : Nat} {σ : Nat → Nat} {y : Vy} (hd : 8 ≤ d) (hS : VS S X v) : Mt G iX10_begin d [.ref v] (i, S) (Wr S (fun i' => VR i' v σ vy0 ∧ ∀ q, q ≠ v → q ≠ v + 5 → i' q = i q)) := by
  have hS' := hS
  obtain ⟨Fv0, Fv1, Fv2, Fv3, Fv4, Fvr0, Fvr1, Fvr2, Fvr3, Fvr4, Fvh, Fvp⟩ := hS
  refine Mt_in 0 (ls := [.ref v]) moX10_begin (Nat.le_of_ble_eq_true rfl) rfl ?_
  refine PW_aload_n (i := 0) dX10_begin_0 rfl rfl ?_
  refine PW_getR dX10_begin_1 fg10_30 (Fv0) (Fvr0) ?_
  refine PW_callV dX10_begin_4 moX4_begin cv10_34 (Fvh.1) (by omega) rfl rfl (Nat.le_of_ble_eq_true rfl) (Nat.le_of_ble_eq_true rfl) (Nat.le_of_ble_eq_true rfl) (spX4_begin (d := d - 1) Fvh.1) (fun v M1 hq => ?_)
  obtain ⟨rfl, i1, rfl, b4, b5, b6, b7, bq⟩ := hq
  refine PW_aload_n (i := 0) dX10_begin_7 rfl rfl ?_
  refine PW_iconst (v := 0) dX10_begin_8 (by decide) ?_
  refine PW_putI dX10_begin_9 fr10_37 (fun h => by cases h) (Fv0) ?_
  refine PW_aload_n (i := 0) dX10_begin_12 rfl rfl ?_
  refine PW_iconst (v := 0) dX10_begin_13 (by decide) ?_
  refine PW_putI dX10_begin_14 fr10_41 (fun h => by cases h) (Fv0) ?_
  refine PW_aload_n (i := 0) dX10_begin_17 rfl rfl ?_
  refine PW_iconst (v := 0) dX10_begin_18 (by decide) ?_
  refine PW_putI dX10_begin_19 fr10_44 (fun h => by cases h) (Fv0) ?_
  refine PW_return rfl dX10_begin_22 (Nat.le_of_ble_eq_true rfl) (Nat.le_of_ble_eq_true rfl) ?_
  refine Wr_mk rfl ⟨⟨?_, ?_, ?_, ⟨?_, ?_, ?_, ?_, fun j hj => absurd hj (Nat.not_lt_zero j)⟩, fun j hj => absurd hj (Nat.not_lt_zero j), fun j hj => absurd hj (Nat.not_lt_zero j), fun j hj => absurd hj (Nat.not_lt_zero j)⟩, fun q h1 h2 => ?_⟩
  · simp (disch := omega) only [rI_s, rI_k, rI_a, rI_f, rA_s, rA_n, rA_f, rP, rP_f]; rfl
  · simp (disch := omega) only [rI_s, rI_k, rI_a, rI_f, rA_s, rA_n, rA_f, rP, rP_f]; rfl
  · simp (disch := omega) only [rI_s, rI_k, rI_a, rI_f, rA_s, rA_n, rA_f, rP, rP_f]; rfl
  · simp (disch := omega) only [rI_s, rI_k, rI_a, rI_f, rA_s, rA_n, rA_f, rP, rP_f]; exact b4
  · simp (disch := omega) only [rI_s, rI_k, rI_a, rI_f, rA_s, rA_n, rA_f, rP, rP_f]; exact b5
  · simp (disch := omega) only [rI_s, rI_k, rI_a, rI_f, rA_s, rA_n, rA_f, rP, rP_f]; exact b6
  · simp (disch := omega) only [rI_s, rI_k, rI_a, rI_f, rA_s, rA_n, rA_f, rP, rP_f]; exact b7
  · simp (disch := omega) only [rI_s, rI_k, rI_a, rI_f, rA_s, rA_n, rA_f, rP, rP_f]; exact bq q h2
set_option maxRecDepth 100000 in
set_option maxHeartbeats 4000000 in
theorem lpX10_take {G : GE} {d : Nat} {i : MI0} {S : MS} {X v w : Nat} {σ τ : Nat → Nat} {y : Vy} (hd : 8 ≤ d) (hS : VS S X v) (hP : PV S v σ) (hSw : VS S X w) (hPw : PV S w τ) (hR : VR i w τ y) {b : Nat} (hV : VV b y) (hvw : v + 41 ≤ w ∨ w + 41 ≤ v) : ∀ (n0 j : Nat), j ≤ vu y → vu y < j + n0 → ∀ (i' : MI0), TI i i' v w σ y j → PW G iX10_take d (Wr S (fun i' => VR i' v σ y ∧ ∀ q, (q < v ∨ v + 40 < q) → i' q = i q)) 58 [.ref v, .ref w, .int (nI j)] [] (i', S) 0 0 := by
  have hS' := hS
  obtain ⟨Fv0, Fv1, Fv2, Fv3, Fv4, Fvr0, Fvr1, Fvr2, Fvr3, Fvr4, Fvh, Fvp⟩ := hS
  have hSw' := hSw
  obtain ⟨Fw0, Fw1, Fw2, Fw3, Fw4, Fwr0, Fwr1, Fwr2, Fwr3, Fwr4, Fwh, Fwp⟩ := hSw
  have hR' := hR
  obtain ⟨Fq5, Fq6, Fq7, Fqh, Fqr, Fqs, Fqu⟩ := hR
  obtain ⟨Fvv, Fvb1, Fvb2, Fvb3, Fvb4, Fvb5⟩ := hV
  intro n0
  induction n0 with
  | zero => intro j h1 h2; exact absurd h2 (by omega)
  | succ n0 ih =>
    intro j hj1 hj2 i' t0
    obtain ⟨t1, t2, t3, t4⟩ := t0
    refine PW_iload_n (i := 2) dX10_take_58 rfl rfl ?_
    refine PW_aload_n (i := 1) dX10_take_59 rfl rfl ?_
    refine PW_giv (v := nI (vu y)) dX10_take_60 fg10_44 (Fw0) ((congrFun (t4 w (by omega)) 7).trans Fq7) ?_
    refine PW_icmp_ge 87 dX10_take_63 (by decide) (fun h63 => ?_) (fun h63 => ?_)
    · have h63 := jle h63
      have ej : j = vu y := by omega
      subst ej
      refine PW_aload_n (i := 0) dX10_take_87 rfl rfl ?_
      refine PW_aload_n (i := 1) dX10_take_88 rfl rfl ?_
      refine PW_giv (v := nI (vr y)) dX10_take_89 fg10_37 (Fw0) ((congrFun (t4 w (by omega)) 5).trans Fq5) ?_
      refine PW_putI dX10_take_92 fr10_37 (fun h => by cases h) (Fv0) ?_
      refine PW_aload_n (i := 0) dX10_take_95 rfl rfl ?_
      refine PW_aload_n (i := 1) dX10_take_96 rfl rfl ?_
      refine PW_giv (v := nI (vs y)) dX10_take_97 fg10_41 (Fw0) (by first | exact (congrFun (t4 w (by omega)) 6).trans Fq6 | (simp (disch := omega) only [rI_s, rI_k, rI_a, rI_f, rA_s, rA_n, rA_f, rP, rP_f]; exact (congrFun (t4 w (by omega)) 6).trans Fq6)) ?_
      refine PW_putI dX10_take_100 fr10_41 (fun h => by cases h) (Fv0) ?_
      refine PW_aload_n (i := 0) dX10_take_103 rfl rfl ?_
      refine PW_aload_n (i := 1) dX10_take_104 rfl rfl ?_
      refine PW_giv (v := nI (vu y)) dX10_take_105 fg10_44 (Fw0) (by first | exact (congrFun (t4 w (by omega)) 7).trans Fq7 | (simp (disch := omega) only [rI_s, rI_k, rI_a, rI_f, rA_s, rA_n, rA_f, rP, rP_f]; exact (congrFun (t4 w (by omega)) 7).trans Fq7)) ?_
      refine PW_putI dX10_take_108 fr10_44 (fun h => by cases h) (Fv0) ?_
      refine PW_return rfl dX10_take_111 (Nat.le_of_ble_eq_true rfl) (Nat.le_of_ble_eq_true rfl) ?_
      refine Wr_mk rfl ⟨⟨?_, ?_, ?_, ?_, fun j hj => ?_, fun j hj => ?_, fun u hu => ?_⟩, fun q hq => ?_⟩
      · simp (disch := omega) only [rI_s, rI_k, rI_a, rI_f, rA_s, rA_n, rA_f, rP, rP_f]
      · simp (disch := omega) only [rI_s, rI_k, rI_a, rI_f, rA_s, rA_n, rA_f, rP, rP_f]
      · simp (disch := omega) only [rI_s, rI_k, rI_a, rI_f, rA_s, rA_n, rA_f, rP, rP_f]
      · exact t1.kp (fun q h1 h2 => by simp (disch := omega) only [rI_s, rI_k, rI_a, rI_f, rA_s, rA_n, rA_f, rP, rP_f])
      · simp (disch := omega) only [rI_s, rI_k, rI_a, rI_f, rA_s, rA_n, rA_f, rP, rP_f]; rw [(t2 j (by omega)).1]; exact Fqr j hj
      · simp (disch := omega) only [rI_s, rI_k, rI_a, rI_f, rA_s, rA_n, rA_f, rP, rP_f]; rw [(t2 j (by omega)).2.1, (t2 j (by omega)).2.2]; exact Fqs j hj
      · exact (t3 u hu).kp (fun q h1 h2 => by simp (disch := omega) only [rI_s, rI_k, rI_a, rI_f, rA_s, rA_n, rA_f, rP, rP_f])
      · simp (disch := omega) only [rI_s, rI_k, rI_a, rI_f, rA_s, rA_n, rA_f, rP, rP_f]; exact t4 q hq
    · have h63 := jnle h63
      have Fsj := (hP.1 j (by omega)).1
      have Ftj := (hPw.1 j (by omega)).1
      refine PW_aload_n (i := 0) dX10_take_66 rfl rfl ?_
      refine PW_getR dX10_take_67 fg10_23 (Fv0) (Fvr4) ?_
      refine PW_iload_n (i := 2) dX10_take_70 rfl rfl ?_
      refine PW_aal dX10_take_71 (Fv4) (by decide) (by decide) (by decide) (by omega) ((hP.1 j (by omega)).2) ?_
      refine PW_aload_n (i := 1) dX10_take_72 rfl rfl ?_
      refine PW_getR dX10_take_73 fg10_23 (Fw0) (Fwr4) ?_
      refine PW_iload_n (i := 2) dX10_take_76 rfl rfl ?_
      refine PW_aal dX10_take_77 (Fw4) (by decide) (by decide) (by decide) (by omega) ((hPw.1 j (by omega)).2) ?_
      refine PW_callV dX10_take_78 moX4_take cv10_47 ((Fvp (σ j) Fsj).1) (by omega) rfl rfl (Nat.le_of_ble_eq_true rfl) (Nat.le_of_ble_eq_true rfl) (Nat.le_of_ble_eq_true rfl) (spX4_take (d := d - 1) (Fvp (σ j) Fsj) (Fwp (τ j) Ftj) ((Fqu j h63).kp (fun q _ _ => t4 q (by omega))) (Fvb5 j h63).1.1 (by omega)) (fun v M1 hq => ?_)
      obtain ⟨rfl, i3, rfl, p1, p2⟩ := hq
      refine PW_inc1 dX10_take_81 rfl (Nat.le_of_ble_eq_true rfl) rfl ?_
      refine PW_goto 58 dX10_take_84 (by decide) ?_
      refine ih (j + 1) (by omega) (by omega) i3 ⟨t1.kp (fun q _ _ => p2 q (by omega)), fun k hk => ?_, fun u hu => ?_, fun q hq => (p2 q (by omega)).trans (t4 q hq)⟩
      · rw [p2 (v + 1) (by omega), p2 (v + 2) (by omega), p2 (v + 3) (by omega)]; exact t2 k hk
      · by_cases e : u = j
        · rw [e]; exact p1
        · have n1 : σ u ≠ σ j := fun z => e (hP.2 u j (by omega) (by omega) z)
          have Fsu := (hP.1 u (by omega)).1
          exact (t3 u (by omega)).kp (fun q _ _ => p2 q (by omega))
set_option maxRecDepth 100000 in
set_option maxHeartbeats 4000000 in
theorem spX10_take {G : GE} {d : Nat} {i : MI0} {S : MS} {X v w : Nat} {σ τ : Nat → Nat} {y : Vy} (hd : 8 ≤ d) (hS : VS S X v) (hP : PV S v σ) (hSw : VS S X w) (hPw : PV S w τ) (hR : VR i w τ y) {b : Nat} (hV : VV b y) (hvw : v + 41 ≤ w ∨ w + 41 ≤ v) : Mt G iX10_take d [.ref v, .ref w] (i, S) (Wr S (fun i' => VR i' v σ y ∧ ∀ q, (q < v ∨ v + 40 < q) → i' q = i q)) := by
  have hV' := hV
  have hS' := hS
  obtain ⟨Fv0, Fv1, Fv2, Fv3, Fv4, Fvr0, Fvr1, Fvr2, Fvr3, Fvr4, Fvh, Fvp⟩ := hS
  have hSw' := hSw
  obtain ⟨Fw0, Fw1, Fw2, Fw3, Fw4, Fwr0, Fwr1, Fwr2, Fwr3, Fwr4, Fwh, Fwp⟩ := hSw
  have hR' := hR
  obtain ⟨Fq5, Fq6, Fq7, Fqh, Fqr, Fqs, Fqu⟩ := hR
  obtain ⟨Fvv, Fvb1, Fvb2, Fvb3, Fvb4, Fvb5⟩ := hV
  refine Mt_in 1 (ls := [.ref v, .ref w, .null]) moX10_take (Nat.le_of_ble_eq_true rfl) rfl ?_
  refine PW_aload_n (i := 0) dX10_take_0 rfl rfl ?_
  refine PW_getR dX10_take_1 fg10_30 (Fv0) (Fvr0) ?_
  refine PW_aload_n (i := 1) dX10_take_4 rfl rfl ?_
  refine PW_getR dX10_take_5 fg10_30 (Fw0) (Fwr0) ?_
  refine PW_callV dX10_take_8 moX4_take cv10_47 (Fvh.1) (by omega) rfl rfl (Nat.le_of_ble_eq_true rfl) (Nat.le_of_ble_eq_true rfl) (Nat.le_of_ble_eq_true rfl) (spX4_take (d := d - 1) Fvh Fwh Fqh Fvv.1 (by omega)) (fun v M1 hq => ?_)
  obtain ⟨rfl, i3, rfl, p1, p2⟩ := hq
  refine PW_aload_n (i := 1) dX10_take_11 rfl rfl ?_
  refine PW_getR dX10_take_12 fg10_9 (Fw0) (Fwr1) ?_
  refine PW_iconst (v := 0) dX10_take_15 (by decide) ?_
  refine PW_aload_n (i := 0) dX10_take_16 rfl rfl ?_
  refine PW_getR dX10_take_17 fg10_9 (Fv0) (Fvr1) ?_
  refine PW_iconst (v := 0) dX10_take_20 (by decide) ?_
  refine PW_bipush (v := 6) dX10_take_21 (by decide) ?_
  refine PW_copy dX10_take_23 ac10_51 acw (Fw1) (Fv1) (by decide) (Nat.le_of_ble_eq_true rfl) (Nat.le_of_ble_eq_true rfl) (Nat.le_of_ble_eq_true rfl) ?_
  refine PW_aload_n (i := 1) dX10_take_26 rfl rfl ?_
  refine PW_getR dX10_take_27 fg10_15 (Fw0) (Fwr2) ?_
  refine PW_iconst (v := 0) dX10_take_30 (by decide) ?_
  refine PW_aload_n (i := 0) dX10_take_31 rfl rfl ?_
  refine PW_getR dX10_take_32 fg10_15 (Fv0) (Fvr2) ?_
  refine PW_iconst (v := 0) dX10_take_35 (by decide) ?_
  refine PW_bipush (v := 6) dX10_take_36 (by decide) ?_
  refine PW_copy dX10_take_38 ac10_51 acw (Fw2) (Fv2) (by decide) (Nat.le_of_ble_eq_true rfl) (Nat.le_of_ble_eq_true rfl) (Nat.le_of_ble_eq_true rfl) ?_
  refine PW_aload_n (i := 1) dX10_take_41 rfl rfl ?_
  refine PW_getR dX10_take_42 fg10_18 (Fw0) (Fwr3) ?_
  refine PW_iconst (v := 0) dX10_take_45 (by decide) ?_
  refine PW_aload_n (i := 0) dX10_take_46 rfl rfl ?_
  refine PW_getR dX10_take_47 fg10_18 (Fv0) (Fvr3) ?_
  refine PW_iconst (v := 0) dX10_take_50 (by decide) ?_
  refine PW_bipush (v := 6) dX10_take_51 (by decide) ?_
  refine PW_copy dX10_take_53 ac10_51 acw (Fw3) (Fv3) (by decide) (Nat.le_of_ble_eq_true rfl) (Nat.le_of_ble_eq_true rfl) (Nat.le_of_ble_eq_true rfl) ?_
  refine PW_iconst (v := 0) dX10_take_56 (by decide) ?_
  refine PW_istore_n (i := 2) dX10_take_57 rfl (Nat.le_of_ble_eq_true rfl) rfl ?_
  refine PW_nm rfl (fun i4 e4 => ?_)
  have q := lpX10_take (G := G) (i := i) hd hS' hP hSw' hPw hR' hV' hvw (vu y + 1) 0 (by omega) (by omega) i4 ⟨p1.kp (fun q _ _ => by rw [e4]; simp (disch := omega) only [rI_s, rI_k, rI_a, rI_f, rA_s, rA_n, rA_f, rP, rP_f]), fun k hk => ?_, fun u hu => absurd hu (Nat.not_lt_zero u), fun q hq => ?_⟩
  · exact q
  · rw [e4]; simp (disch := omega) only [rA_s, rA_n, c6, cpy0, rP]; rw [p2 (w + 1) (by omega), p2 (w + 2) (by omega), p2 (w + 3) (by omega)]; exact ⟨rfl, rfl, rfl⟩
  · rw [e4]; simp (disch := omega) only [rI_s, rI_k, rI_a, rI_f, rA_s, rA_n, rA_f, rP, rP_f]; exact p2 q (by omega)
set_option maxRecDepth 100000 in
set_option maxHeartbeats 4000000 in
theorem lpX10_isRock {G : GE} {d : Nat} {i : MI0} {S : MS} {X v : Nat} {σ : Nat → Nat} {y : Vy} (hd : 8 ≤ d) (hS : VS S X v) (hP : PV S v σ) (hR : VR i v σ y) {b : Nat} (hV : VV b y) (p : Int32) : ∀ (n0 j : Nat), j ≤ vr y → vr y < j + n0 → anyB (fun j => decide (vR y j = p)) j = false → PW G iX10_isRock d (Rt (b2i (rkB y p)) (i, S)) 2 [.ref v, .int p, .int (nI j)] [] (i, S) 0 0 := by
  have hS' := hS
  obtain ⟨Fv0, Fv1, Fv2, Fv3, Fv4, Fvr0, Fvr1, Fvr2, Fvr3, Fvr4, Fvh, Fvp⟩ := hS
  have hR' := hR
  obtain ⟨Fq5, Fq6, Fq7, Fqh, Fqr, Fqs, Fqu⟩ := hR
  obtain ⟨Fvv, Fvb1, Fvb2, Fvb3, Fvb4, Fvb5⟩ := hV
  intro n0
  induction n0 with
  | zero => intro j h1 h2; exact absurd h2 (by omega)
  | succ n0 ih =>
    intro j hj1 hj2 hj0
    refine PW_iload_n (i := 2) dX10_isRock_2 rfl rfl ?_
    refine PW_aload_n (i := 0) dX10_isRock_3 rfl rfl ?_
    refine PW_giv (v := nI (vr y)) dX10_isRock_4 fg10_37 (Fv0) (Fq5) ?_
    refine PW_icmp_ge 28 dX10_isRock_7 (by decide) (fun h7 => ?_) (fun h7 => ?_)
    · have h7 := jle h7
      have ej : j = vr y := by omega
      subst ej
      refine PW_iconst (v := 0) dX10_isRock_28 (by decide) ?_
      refine PW_ireturn rfl (rfl) dX10_isRock_29 (Nat.le_of_ble_eq_true rfl) (Nat.le_of_ble_eq_true rfl) ?_
      refine rt_i ?_
      have q : rkB y p = false := hj0
      rw [q]; rfl
    · have h7 := jnle h7
      refine PW_aload_n (i := 0) dX10_isRock_10 rfl rfl ?_
      refine PW_getR dX10_isRock_11 fg10_9 (Fv0) (Fvr1) ?_
      refine PW_iload_n (i := 2) dX10_isRock_14 rfl rfl ?_
      refine PW_ial (v := vR y j) dX10_isRock_15 (Fv1) (by decide) (by omega) (Fqr j h7) ?_
      refine PW_iload_n (i := 1) dX10_isRock_16 rfl rfl ?_
      refine PW_icmp_ne 22 dX10_isRock_17 (by decide) (fun h17 => ?_) (fun h17 => ?_)
      · refine PW_inc1 dX10_isRock_22 rfl (Nat.le_of_ble_eq_true rfl) rfl ?_
        refine PW_goto 2 dX10_isRock_25 (by decide) ?_
        exact ih (j + 1) (by omega) (by omega) (by unfold anyB; rw [hj0, decide_eq_false h17]; rfl)
      · refine PW_iconst (v := 1) dX10_isRock_20 (by decide) ?_
        refine PW_ireturn rfl (rfl) dX10_isRock_21 (Nat.le_of_ble_eq_true rfl) (Nat.le_of_ble_eq_true rfl) ?_
        refine rt_i ?_
        have q : rkB y p = true := anyB_t (j := j) (decide_eq_true h17) h7
        rw [q]; rfl
set_option maxRecDepth 100000 in
set_option maxHeartbeats 4000000 in
theorem spX10_isRock {G : GE} {d : Nat} {i : MI0} {S : MS} {X v : Nat} {σ : Nat → Nat} {y : Vy} (hd : 8 ≤ d) (hS : VS S X v) (hP : PV S v σ) (hR : VR i v σ y) {b : Nat} (hV : VV b y) (p : Int32) : Mt G iX10_isRock d [.ref v, .int p] (i, S) (Rt (b2i (rkB y p)) (i, S)) := by
  refine Mt_in 1 (ls := [.ref v, .int p, .null]) moX10_isRock (Nat.le_of_ble_eq_true rfl) rfl ?_
  refine PW_iconst (v := 0) dX10_isRock_0 (by decide) ?_
  refine PW_istore_n (i := 2) dX10_isRock_1 rfl (Nat.le_of_ble_eq_true rfl) rfl ?_
  exact lpX10_isRock hd hS hP hR hV p (vr y + 1) 0 (by omega) (by omega) rfl
set_option maxRecDepth 100000 in
set_option maxHeartbeats 4000000 in
theorem spX10_addRock {G : GE} {d : Nat} {i : MI0} {S : MS} {X v : Nat} {σ : Nat → Nat} {y : Vy} (hd : 8 ≤ d) (hS : VS S X v) (hP : PV S v σ) (hR : VR i v σ y) {b : Nat} (hV : VV b y) (h6 : vr y < 6) (p : Int32) : Mt G iX10_addRock d [.ref v, .int p] (i, S) (Wr S (fun i' => VR i' v σ (adR y p) ∧ ∀ q, (q < v ∨ v + 40 < q) → i' q = i q)) := by
  have hS' := hS
  obtain ⟨Fv0, Fv1, Fv2, Fv3, Fv4, Fvr0, Fvr1, Fvr2, Fvr3, Fvr4, Fvh, Fvp⟩ := hS
  have hR' := hR
  obtain ⟨Fq5, Fq6, Fq7, Fqh, Fqr, Fqs, Fqu⟩ := hR
  obtain ⟨Fvv, Fvb1, Fvb2, Fvb3, Fvb4, Fvb5⟩ := hV
  have Fvu : vu (adR y p) ≤ 8 := Fvb3
  refine Mt_in 0 (ls := [.ref v, .int p]) moX10_addRock (Nat.le_of_ble_eq_true rfl) rfl ?_
  refine PW_aload_n (i := 0) dX10_addRock_0 rfl rfl ?_
  refine PW_giv (v := nI (vr y)) dX10_addRock_1 fg10_37 (Fv0) (Fq5) ?_
  refine PW_bipush (v := 6) dX10_addRock_4 (by decide) ?_
  refine PW_icmp_ge 29 dX10_addRock_6 (by decide) (fun q => absurd (jle (a := 6) q) (by omega)) (fun _ => ?_)
  refine PW_aload_n (i := 0) dX10_addRock_9 rfl rfl ?_
  refine PW_getR dX10_addRock_10 fg10_9 (Fv0) (Fvr1) ?_
  refine PW_aload_n (i := 0) dX10_addRock_13 rfl rfl ?_
  refine PW_giv (v := nI (vr y)) dX10_addRock_14 fg10_37 (Fv0) (Fq5) ?_
  refine PW_iload_n (i := 1) dX10_addRock_17 rfl rfl ?_
  refine PW_ias dX10_addRock_18 (Fv1) (by decide) (by omega) ?_
  refine PW_aload_n (i := 0) dX10_addRock_19 rfl rfl ?_
  refine PW_dup dX10_addRock_20 rfl ?_
  refine PW_giv (v := nI (vr y)) dX10_addRock_21 fg10_37 (Fv0) (by first | exact Fq5 | (simp (disch := omega) only [rI_s, rI_k, rI_a, rI_f, rA_s, rA_n, rA_f, rP, rP_f]; exact Fq5)) ?_
  refine PW_iconst (v := 1) dX10_addRock_24 (by decide) ?_
  refine PW_iadd dX10_addRock_25 ?_
  refine PW_eqi (nI_1 _) ?_
  refine PW_putI dX10_addRock_26 fr10_37 (fun h => by cases h) (Fv0) ?_
  refine PW_return rfl dX10_addRock_29 (Nat.le_of_ble_eq_true rfl) (Nat.le_of_ble_eq_true rfl) ?_
  refine Wr_mk rfl ⟨⟨?_, ?_, ?_, ?_, fun j hj => ?_, fun j hj => ?_, fun u hu => ?_⟩, fun q hq => ?_⟩
  · simp (disch := omega) only [rI_s, rI_k, rI_a, rI_f, rA_s, rA_n, rA_f, rP, rP_f]; rfl
  · simp (disch := omega) only [rI_s, rI_k, rI_a, rI_f, rA_s, rA_n, rA_f, rP, rP_f]; exact Fq6
  · simp (disch := omega) only [rI_s, rI_k, rI_a, rI_f, rA_s, rA_n, rA_f, rP, rP_f]; exact Fq7
  · exact Fqh.kp (fun q h1 h2 => by simp (disch := omega) only [rI_s, rI_k, rI_a, rI_f, rA_s, rA_n, rA_f, rP, rP_f])
  · by_cases e : j = vr y
    · rw [e]; simp (disch := omega) only [rI_s, rI_k, rI_a, rI_f, rA_s, rA_n, rA_f, rP, rP_f]; exact (if_pos rfl).symm
    · simp (disch := omega) only [rI_s, rI_k, rI_a, rI_f, rA_s, rA_n, rA_f, rP, rP_f]; refine (Fqr j ?_).trans (if_neg e).symm; have : j < vr y + 1 := hj; omega
  · simp (disch := omega) only [rI_s, rI_k, rI_a, rI_f, rA_s, rA_n, rA_f, rP, rP_f]; exact Fqs j hj
  · have := (hP.1 u (by omega)).1; exact (Fqu u hu).kp (fun q h1 h2 => by simp (disch := omega) only [rI_s, rI_k, rI_a, rI_f, rA_s, rA_n, rA_f, rP, rP_f])
  · simp (disch := omega) only [rI_s, rI_k, rI_a, rI_f, rA_s, rA_n, rA_f, rP, rP_f]
set_option maxRecDepth 100000 in
set_option maxHeartbeats 4000000 in
theorem spX10_addSight {G : GE} {d : Nat} {i : MI0} {S : MS} {X v : Nat} {σ : Nat → Nat} {y : Vy} (hd : 8 ≤ d) (hS : VS S X v) (hP : PV S v σ) (hR : VR i v σ y) {b : Nat} (hV : VV b y) (h6 : vs y < 6) (m : Nat) (p : Int32) : Mt G iX10_addSight d [.ref v, .int (nI m), .int p] (i, S) (Wr S (fun i' => VR i' v σ (adS y m p) ∧ ∀ q, (q < v ∨ v + 40 < q) → i' q = i q)) := by
  have hS' := hS
  obtain ⟨Fv0, Fv1, Fv2, Fv3, Fv4, Fvr0, Fvr1, Fvr2, Fvr3, Fvr4, Fvh, Fvp⟩ := hS
  have hR' := hR
  obtain ⟨Fq5, Fq6, Fq7, Fqh, Fqr, Fqs, Fqu⟩ := hR
  obtain ⟨Fvv, Fvb1, Fvb2, Fvb3, Fvb4, Fvb5⟩ := hV
  have Fvu : vu (adS y m p) ≤ 8 := Fvb3
  refine Mt_in 0 (ls := [.ref v, .int (nI m), .int p]) moX10_addSight (Nat.le_of_ble_eq_true rfl) rfl ?_
  refine PW_aload_n (i := 0) dX10_addSight_0 rfl rfl ?_
  refine PW_giv (v := nI (vs y)) dX10_addSight_1 fg10_41 (Fv0) (Fq6) ?_
  refine PW_bipush (v := 6) dX10_addSight_4 (by decide) ?_
  refine PW_icmp_ge 39 dX10_addSight_6 (by decide) (fun q => absurd (jle (a := 6) q) (by omega)) (fun _ => ?_)
  refine PW_aload_n (i := 0) dX10_addSight_9 rfl rfl ?_
  refine PW_getR dX10_addSight_10 fg10_15 (Fv0) (Fvr2) ?_
  refine PW_aload_n (i := 0) dX10_addSight_13 rfl rfl ?_
  refine PW_giv (v := nI (vs y)) dX10_addSight_14 fg10_41 (Fv0) (Fq6) ?_
  refine PW_iload_n (i := 1) dX10_addSight_17 rfl rfl ?_
  refine PW_ias dX10_addSight_18 (Fv2) (by decide) (by omega) ?_
  refine PW_aload_n (i := 0) dX10_addSight_19 rfl rfl ?_
  refine PW_getR dX10_addSight_20 fg10_18 (Fv0) (Fvr3) ?_
  refine PW_aload_n (i := 0) dX10_addSight_23 rfl rfl ?_
  refine PW_giv (v := nI (vs y)) dX10_addSight_24 fg10_41 (Fv0) (by first | exact Fq6 | (simp (disch := omega) only [rI_s, rI_k, rI_a, rI_f, rA_s, rA_n, rA_f, rP, rP_f]; exact Fq6)) ?_
  refine PW_iload_n (i := 2) dX10_addSight_27 rfl rfl ?_
  refine PW_ias dX10_addSight_28 (Fv3) (by decide) (by omega) ?_
  refine PW_aload_n (i := 0) dX10_addSight_29 rfl rfl ?_
  refine PW_dup dX10_addSight_30 rfl ?_
  refine PW_giv (v := nI (vs y)) dX10_addSight_31 fg10_41 (Fv0) (by first | exact Fq6 | (simp (disch := omega) only [rI_s, rI_k, rI_a, rI_f, rA_s, rA_n, rA_f, rP, rP_f]; exact Fq6)) ?_
  refine PW_iconst (v := 1) dX10_addSight_34 (by decide) ?_
  refine PW_iadd dX10_addSight_35 ?_
  refine PW_eqi (nI_1 _) ?_
  refine PW_putI dX10_addSight_36 fr10_41 (fun h => by cases h) (Fv0) ?_
  refine PW_return rfl dX10_addSight_39 (Nat.le_of_ble_eq_true rfl) (Nat.le_of_ble_eq_true rfl) ?_
  refine Wr_mk rfl ⟨⟨?_, ?_, ?_, ?_, fun j hj => ?_, fun j hj => ?_, fun u hu => ?_⟩, fun q hq => ?_⟩
  · simp (disch := omega) only [rI_s, rI_k, rI_a, rI_f, rA_s, rA_n, rA_f, rP, rP_f]; exact Fq5
  · simp (disch := omega) only [rI_s, rI_k, rI_a, rI_f, rA_s, rA_n, rA_f, rP, rP_f]; rfl
  · simp (disch := omega) only [rI_s, rI_k, rI_a, rI_f, rA_s, rA_n, rA_f, rP, rP_f]; exact Fq7
  · exact Fqh.kp (fun q h1 h2 => by simp (disch := omega) only [rI_s, rI_k, rI_a, rI_f, rA_s, rA_n, rA_f, rP, rP_f])
  · simp (disch := omega) only [rI_s, rI_k, rI_a, rI_f, rA_s, rA_n, rA_f, rP, rP_f]; exact Fqr j hj
  · by_cases e : j = vs y
    · rw [e]; simp (disch := omega) only [rI_s, rI_k, rI_a, rI_f, rA_s, rA_n, rA_f, rP, rP_f]; exact ⟨congrArg nI (if_pos rfl).symm, (if_pos rfl).symm⟩
    · simp (disch := omega) only [rI_s, rI_k, rI_a, rI_f, rA_s, rA_n, rA_f, rP, rP_f]; have q := Fqs j (by have : j < vs y + 1 := hj; omega); exact ⟨q.1.trans (congrArg nI (if_neg e).symm), q.2.trans (if_neg e).symm⟩
  · have := (hP.1 u (by omega)).1; exact (Fqu u hu).kp (fun q h1 h2 => by simp (disch := omega) only [rI_s, rI_k, rI_a, rI_f, rA_s, rA_n, rA_f, rP, rP_f])
  · simp (disch := omega) only [rI_s, rI_k, rI_a, rI_f, rA_s, rA_n, rA_f, rP, rP_f]
set_option maxRecDepth 100000 in
set_option maxHeartbeats 4000000 in
theorem spX10_addHand {G : GE} {d : Nat} {i : MI0} {S : MS} {X v : Nat} {σ : Nat → Nat} {y : Vy} (hd : 8 ≤ d) (hS : VS S X v) (hP : PV S v σ) (hR : VR i v σ y) {b : Nat} (hV : VV b y) (h6 : hn (vh y) < 6) (k t : Nat) (n : Int) : Mt G iX10_addHand d [.ref v, .int (nI k), .int (nI t), .int (iN n)] (i, S) (Wr S (fun i' => VR i' v σ (adV y k t n) ∧ ∀ q, (q < v ∨ v + 40 < q) → i' q = i q)) := by
  have hS' := hS
  obtain ⟨Fv0, Fv1, Fv2, Fv3, Fv4, Fvr0, Fvr1, Fvr2, Fvr3, Fvr4, Fvh, Fvp⟩ := hS
  have hR' := hR
  obtain ⟨Fq5, Fq6, Fq7, Fqh, Fqr, Fqs, Fqu⟩ := hR
  obtain ⟨Fvv, Fvb1, Fvb2, Fvb3, Fvb4, Fvb5⟩ := hV
  refine Mt_in 1 (ls := [.ref v, .int (nI k), .int (nI t), .int (iN n), .null]) moX10_addHand (Nat.le_of_ble_eq_true rfl) rfl ?_
  refine PW_aload_n (i := 0) dX10_addHand_0 rfl rfl ?_
  refine PW_getR dX10_addHand_1 fg10_30 (Fv0) (Fvr0) ?_
  refine PW_giv (v := nI (hn (vh y))) dX10_addHand_4 fg10_57 (Fvh.1) (Fqh.1) ?_
  refine PW_istore dX10_addHand_7 (Nat.le_of_ble_eq_true rfl) rfl ?_
  refine PW_iload dX10_addHand_9 rfl ?_
  refine PW_bipush (v := 6) dX10_addHand_11 (by decide) ?_
  refine PW_icmp_ge 67 dX10_addHand_13 (by decide) (fun q => absurd (jle (a := 6) q) (by omega)) (fun _ => ?_)
  refine PW_aload_n (i := 0) dX10_addHand_16 rfl rfl ?_
  refine PW_getR dX10_addHand_17 fg10_30 (Fv0) (Fvr0) ?_
  refine PW_getR dX10_addHand_20 fg10_60 (Fvh.1) (Fvh.2.2.2.2.2.1) ?_
  refine PW_iload dX10_addHand_23 rfl ?_
  refine PW_iload_n (i := 1) dX10_addHand_25 rfl rfl ?_
  refine PW_ias dX10_addHand_26 (Fvh.2.1) (by decide) (by omega) ?_
  refine PW_aload_n (i := 0) dX10_addHand_27 rfl rfl ?_
  refine PW_getR dX10_addHand_28 fg10_30 (Fv0) (Fvr0) ?_
  refine PW_getR dX10_addHand_31 fg10_63 (Fvh.1) (Fvh.2.2.2.2.2.2.1) ?_
  refine PW_iload dX10_addHand_34 rfl ?_
  refine PW_iload_n (i := 2) dX10_addHand_36 rfl rfl ?_
  refine PW_ias dX10_addHand_37 (Fvh.2.2.1) (by decide) (by omega) ?_
  refine PW_aload_n (i := 0) dX10_addHand_38 rfl rfl ?_
  refine PW_getR dX10_addHand_39 fg10_30 (Fv0) (Fvr0) ?_
  refine PW_getR dX10_addHand_42 fg10_66 (Fvh.1) (Fvh.2.2.2.2.2.2.2) ?_
  refine PW_iload dX10_addHand_45 rfl ?_
  refine PW_iload_n (i := 3) dX10_addHand_47 rfl rfl ?_
  refine PW_ias dX10_addHand_48 (Fvh.2.2.2.1) (by decide) (by omega) ?_
  refine PW_aload_n (i := 0) dX10_addHand_49 rfl rfl ?_
  refine PW_getR dX10_addHand_50 fg10_30 (Fv0) (Fvr0) ?_
  refine PW_dup dX10_addHand_53 rfl ?_
  refine PW_giv (v := nI (hn (vh y))) dX10_addHand_54 fg10_57 (Fvh.1) (by first | exact Fqh.1 | (simp (disch := omega) only [rI_s, rI_k, rI_a, rI_f, rA_s, rA_n, rA_f, rP, rP_f]; exact Fqh.1)) ?_
  refine PW_iconst (v := 1) dX10_addHand_57 (by decide) ?_
  refine PW_iadd dX10_addHand_58 ?_
  refine PW_eqi (nI_1 _) ?_
  refine PW_putI dX10_addHand_59 fr10_57 (fun h => by cases h) (Fvh.1) ?_
  refine PW_aload_n (i := 0) dX10_addHand_62 rfl rfl ?_
  refine PW_iconst (v := 0) dX10_addHand_63 (by decide) ?_
  refine PW_putI dX10_addHand_64 fr10_44 (fun h => by cases h) (Fv0) ?_
  refine PW_return rfl dX10_addHand_67 (Nat.le_of_ble_eq_true rfl) (Nat.le_of_ble_eq_true rfl) ?_
  refine Wr_mk rfl ⟨⟨?_, ?_, ?_, ⟨?_, ?_, ?_, ?_, fun j hj => ⟨?_, ?_, ?_⟩⟩, fun j hj => ?_, fun j hj => ?_, fun u hu => absurd hu (Nat.not_lt_zero u)⟩, fun q hq => ?_⟩
  · simp (disch := omega) only [rI_s, rI_k, rI_a, rI_f, rA_s, rA_n, rA_f, rP, rP_f]; exact Fq5
  · simp (disch := omega) only [rI_s, rI_k, rI_a, rI_f, rA_s, rA_n, rA_f, rP, rP_f]; exact Fq6
  · simp (disch := omega) only [rI_s, rI_k, rI_a, rI_f, rA_s, rA_n, rA_f, rP, rP_f]; rfl
  · simp (disch := omega) only [rI_s, rI_k, rI_a, rI_f, rA_s, rA_n, rA_f, rP, rP_f]; rfl
  · simp (disch := omega) only [rI_s, rI_k, rI_a, rI_f, rA_s, rA_n, rA_f, rP, rP_f]; exact Fqh.2.1
  · simp (disch := omega) only [rI_s, rI_k, rI_a, rI_f, rA_s, rA_n, rA_f, rP, rP_f]; exact Fqh.2.2.1
  · simp (disch := omega) only [rI_s, rI_k, rI_a, rI_f, rA_s, rA_n, rA_f, rP, rP_f]; exact Fqh.2.2.2.1
  · by_cases e : j = hn (vh y)
    · rw [e]; simp (disch := omega) only [rI_s, rI_k, rI_a, rI_f, rA_s, rA_n, rA_f, rP, rP_f]; exact (congrArg nI (if_pos rfl)).symm
    · simp (disch := omega) only [rI_s, rI_k, rI_a, rI_f, rA_s, rA_n, rA_f, rP, rP_f]; exact (Fqh.2.2.2.2 j (by have : j < hn (vh y) + 1 := hj; omega)).1.trans (congrArg nI (if_neg e)).symm
  · by_cases e : j = hn (vh y)
    · rw [e]; simp (disch := omega) only [rI_s, rI_k, rI_a, rI_f, rA_s, rA_n, rA_f, rP, rP_f]; exact (congrArg nI (if_pos rfl)).symm
    · simp (disch := omega) only [rI_s, rI_k, rI_a, rI_f, rA_s, rA_n, rA_f, rP, rP_f]; exact (Fqh.2.2.2.2 j (by have : j < hn (vh y) + 1 := hj; omega)).2.1.trans (congrArg nI (if_neg e)).symm
  · by_cases e : j = hn (vh y)
    · rw [e]; simp (disch := omega) only [rI_s, rI_k, rI_a, rI_f, rA_s, rA_n, rA_f, rP, rP_f]; exact (congrArg iN (if_pos rfl)).symm
    · simp (disch := omega) only [rI_s, rI_k, rI_a, rI_f, rA_s, rA_n, rA_f, rP, rP_f]; exact (Fqh.2.2.2.2 j (by have : j < hn (vh y) + 1 := hj; omega)).2.2.trans (congrArg iN (if_neg e)).symm
  · simp (disch := omega) only [rI_s, rI_k, rI_a, rI_f, rA_s, rA_n, rA_f, rP, rP_f]; exact Fqr j hj
  · simp (disch := omega) only [rI_s, rI_k, rI_a, rI_f, rA_s, rA_n, rA_f, rP, rP_f]; exact Fqs j hj
  · simp (disch := omega) only [rI_s, rI_k, rI_a, rI_f, rA_s, rA_n, rA_f, rP, rP_f]

/-! ===== SleepyHelm: type, clear, feed, watch, undo ===== -/
theorem sw_out {w : Int32} (n : Nat) (hn : n < 2 ^ 31) (h : ∀ j, j ≤ n → ¬ w = nI j) : w.toInt < 0 ∨ (n : Int) < w.toInt := by
  by_cases h0 : w.toInt < 0
  · exact Or.inl h0
  · by_cases h1 : (n : Int) < w.toInt
    · exact Or.inr h1
    · refine absurd ?_ (h w.toInt.toNat (by omega))
      rw [nI_iN, Int.toNat_of_nonneg (by omega)]
      exact iN_of w
theorem VR.sh {i i' : MI0} {S : MS} {v : Nat} {σ : Nat → Nat} {y : Vy} {h : Hm} (hr : VR i v σ y) (hp : PV S v σ) (h8 : vu y ≤ 8) (hh : HR i' (v + 5) h) (e : ∀ q, (q < v + 5 ∨ v + 8 < q) → i' q = i q) : VR i' v σ (wH y h) := by
  obtain ⟨r1, r2, r3, r4, r5, r6, r7⟩ := hr
  refine ⟨by rw [e v (by omega)]; exact r1, by rw [e v (by omega)]; exact r2, by rw [e v (by omega)]; exact r3, hh, fun j hj => by rw [e _ (by omega)]; exact r5 j hj, fun j hj => by rw [e (v + 2) (by omega), e (v + 3) (by omega)]; exact r6 j hj, fun u hu => ?_⟩
  have := (hp.1 u (by have : u < vu y := hu; omega)).1
  exact (r7 u hu).kp (fun q h1 h2 => e q (by omega))
theorem PS.se {S S' : MS} {X a p : Nat} (h : PS S X a) (e : SE S S' p) (n : p < a ∨ a + 24 < p) : PS S' X a := by
  obtain ⟨h1, h2, h3, h4, h5, h6, h7, h8⟩ := h
  unfold PS
  rw [e.2.1, e.2.2.2 a (by omega), e.2.2.2 (a + 1) (by omega)]
  exact ⟨h1, h2, h3, h4, h5, h6, h7, fun k hk => ⟨(h8 k hk).1, (h8 k hk).2.se e (by omega)⟩⟩
def g0 (g : Nat → Nat → Nat) (σ : Nat → Nat) : Nat → Nat → Nat := fun n => if n = 0 then σ else g n
theorem CP.se {S S' : MS} {X : Nat} {g : Nat → Nat → Nat} {σ : Nat → Nat} (h : CP S X g) (e : SE S S' (X + 8 + 4)) (hs : PV S' (X + 8) σ) : CP S' X (g0 g σ) := by
  obtain ⟨⟨Gx, Gr, Gks, ⟨Gv, Gd, Gi0, Gi1⟩, Gi, Gk, Gt, Gc, Gp, Ge⟩, Pv0, Pv1, Pv2, Pv3⟩ := h
  have eT := e.2.1
  refine ⟨⟨by rw [eT]; exact Gx, by rw [e.2.2.2 X (by omega)]; exact Gr, Gks.se e (by omega), ⟨Gv.se e (by omega), Gd.se e (by omega), Gi0.se e (by omega), Gi1.se e (by omega)⟩, by rw [eT, e.2.2.2 (X + 90) (by omega)]; exact Gi, by rw [eT]; exact Gk, Gt.se e (by omega), Gc.se e (by omega) (by omega), Gp.se e (by omega), ?_⟩, hs, Pv1.se e (by omega), Pv2.se e (by omega), Pv3.se e (by omega)⟩
  unfold TS
  rw [eT, e.2.2.2 (X + 209) (by omega)]
  exact Ge
theorem CR.rm {i i' : MI0} {S : MS} {X : Nat} {g : Nat → Nat → Nat} {σ : Nat → Nat} {s : Ab} {b : Nat} {y : Vy} (hr : CR i X g s) (hp : CP S X g) (hv : AV b s) (hy : VR i' (X + 8) σ y) (e : ∀ q, (q < X + 8 ∨ X + 8 + 40 < q) → i' q = i q) : CR i' X (g0 g σ) (setV s y) := by
  obtain ⟨r1, r2, r3, r4, r5, r6⟩ := hr
  obtain ⟨p0, p1, p2, p3, p4⟩ := hp
  refine ⟨hy, fun h => (r2 h).kp p3 (hv.2.1 0 (by decide) h).2.2.2.1 (fun q h1 h2 => e q (by omega)), fun h => (r3 h).kp p4 (hv.2.1 1 (by decide) h).2.2.2.1 (fun q h1 h2 => e q (by omega)), ?_, ?_, ?_⟩
  · rw [e (X + 173) (by omega)]; exact r4
  · rw [e X (by omega)]; exact r5
  · show i' (X + 209) 1 = nI (aL s) ∧ ∀ j, j < aL s → i' (X + 209 + 1) j = nI (aB s j)
    rw [e (X + 209) (by omega), e (X + 209 + 1) (by omega)]; exact r6
theorem CR.st {i i' : MI0} {S : MS} {X : Nat} {g : Nat → Nat → Nat} {s : Ab} {b n : Nat} {f : Nat → Nat} (hr : CR i X g s) (hp : CP S X g) (hv : AV b s) (ht : i' (X + 209) 1 = nI n ∧ ∀ j, j < n → i' (X + 209 + 1) j = nI (f j)) (e : ∀ q, q ≠ X + 209 → q ≠ X + 210 → i' q = i q) : CR i' X g (setT s n f) := by
  obtain ⟨r1, r2, r3, r4, r5, r6⟩ := hr
  obtain ⟨p0, p1, p2, p3, p4⟩ := hp
  refine ⟨r1.kp p1 hv.1.2.2.2.1 (fun q h1 h2 => e q (by omega) (by omega)), fun h => (r2 h).kp p3 (hv.2.1 0 (by decide) h).2.2.2.1 (fun q h1 h2 => e q (by omega) (by omega)), fun h => (r3 h).kp p4 (hv.2.1 1 (by decide) h).2.2.2.1 (fun q h1 h2 => e q (by omega) (by omega)), ?_, ?_, ht⟩
  · rw [e (X + 173) (by omega) (by omega)]; exact r4
  · rw [e X (by omega) (by omega)]; exact r5
theorem Op_s {i i' : MI0} {S S' : MS} {X : Nat} {g : Nat → Nat → Nat} {s' : Ab} {o : Int32 × Ab} {r : Int32} (e : o = (r, s')) (hse : SE S S' (X + 8 + 4)) (hP : CP S' X g) (hR : CR i' X g s') (h : ∀ q, (q < X ∨ X + 211 ≤ q) → i' q = i q) : Op X (i, S) (.int o.1) o.2 (some (.int r)) (i', S') := by
  rw [e]
  exact ⟨rfl, ⟨g, hP, hR⟩, hse.2.1, hse.2.2.1, fun q hq => ⟨h q hq, congrFun hse.1 q, hse.2.2.2 q (by omega)⟩⟩
theorem Op_l {i i' : MI0} {S : MS} {X : Nat} {g : Nat → Nat → Nat} {s' : Ab} {o : Int64 × Ab} {r : Int64} (e : o = (r, s')) (hP : CP S X g) (hR : CR i' X g s') (h : ∀ q, (q < X ∨ X + 211 ≤ q) → i' q = i q) : Op X (i, S) (.long o.1) o.2 (some (.long r)) (i', S) := by
  rw [e]
  exact ⟨rfl, ⟨g, hP, hR⟩, Fr_i h⟩
theorem AV_rem {b : Nat} {y : Vy} (h : VV b y) : VV b (remV y) := by
  obtain ⟨h1, h2, h3, h4, h5, h6⟩ := h
  refine ⟨h1, h2, h3, ?_, h5, fun u hu => ?_⟩
  · by_cases e : vu y = 8
    · rw [(remV_8 e).1]; decide
    · rw [(remV_n e).1]; omega
  · have hs : HV b (vh y) ∧ hn (vh y) = hn (vh (remV y)) ∧ ∀ j, j < hn (vh (remV y)) → hK (vh y) j = hK (vh (remV y)) j ∧ hN (vh y) j = hN (vh (remV y)) j := ⟨h1, rfl, fun j _ => ⟨rfl, rfl⟩⟩
    by_cases e : vu y = 8
    · rw [(remV_8 e).1] at hu
      rw [(remV_8 e).2]
      by_cases e2 : u = 7
      · simp only [e2, if_true]; exact hs
      · simp only [e2, if_false]; exact h6 (u + 1) (by omega)
    · rw [(remV_n e).1] at hu
      rw [(remV_n e).2]
      by_cases e2 : u = vu y
      · simp only [e2, if_true]; exact hs
      · simp only [e2, if_false]; exact h6 u (by omega)
/-- the first m below n with f m -/
def fstW (f : Nat → Bool) : Nat → Option Nat
  | 0 => none
  | n + 1 => match fstW f n with
    | some m => some m
    | none => if f n then some n else none
theorem fstW_none {f : Nat → Bool} {j : Nat} (h : fstW f j = none) (hj : ¬ f j = true) : fstW f (j + 1) = none := by rw [fstW, h]; exact if_neg hj
theorem fstW_some {f : Nat → Bool} {j : Nat} (h : fstW f j = none) (hj : f j = true) : ∀ {n : Nat}, j < n → fstW f n = some j
  | 0, hn => absurd hn (Nat.not_lt_zero _)
  | n + 1, hn => by
    by_cases e : j = n
    · subst e; rw [fstW, h]; exact if_pos hj
    · rw [fstW, fstW_some h hj (by omega)]
def oI : Option Nat → Int32
  | none => -1
  | some m => nI m
/-- bits of the numbers below n -/
def bitsN (f : Nat → Bool) : Nat → Nat
  | 0 => 0
  | n + 1 => bitsN f n + if f n then 2 ^ n else 0
theorem bitsN_lt (f : Nat → Bool) : ∀ n, bitsN f n < 2 ^ n
  | 0 => Nat.one_pos
  | n + 1 => by
    have := bitsN_lt f n
    rw [bitsN, Nat.pow_succ]
    split <;> omega
theorem bitsN_t {f : Nat → Bool} {n : Nat} (h : f n = true) : bitsN f (n + 1) = bitsN f n + 2 ^ n := by rw [bitsN, if_pos h]
theorem bitsN_f {f : Nat → Bool} {n : Nat} (h : ¬ f n = true) : bitsN f (n + 1) = bitsN f n := by rw [bitsN, if_neg h]; rfl
theorem or_bit {x k : Nat} (hx : x < 2 ^ k) (hk : k < 31) : nI x ||| (1 : Int32) <<< (nI k &&& 31) = nI (x + 2 ^ k) := by
  have h31 : 2 ^ k ≤ 2 ^ 30 := Nat.pow_le_pow_right (by decide) (by omega)
  have e : (1 : Int32) <<< (nI k &&& 31) = nI (2 ^ k) := by
    have := shl_n (x := 1) (a := k) (by omega) (by omega)
    rw [Nat.one_mul] at this
    exact this
  have h2 := Nat.two_pow_add_eq_or_of_lt hx 1
  rw [Nat.mul_one] at h2
  rw [e, fa_or, Nat.or_comm, ← h2, Nat.add_comm]
def pop (n : Nat) : Nat := n % 2 + n / 2 % 2 + n / 4 % 2 + n / 8 % 2 + n / 16 % 2 + n / 32 % 2 + n / 64 % 2
theorem pop_ok : ∀ n, n < 128 → (((((((nI n - (((nI n).toUInt32 >>> ((1 : Int32).toUInt32 &&& Int32.toUInt32 31)).toInt32 &&& 1431655765)) &&& 858993459) + ((((nI n - (((nI n).toUInt32 >>> ((1 : Int32).toUInt32 &&& Int32.toUInt32 31)).toInt32 &&& 1431655765))).toUInt32 >>> ((2 : Int32).toUInt32 &&& Int32.toUInt32 31)).toInt32 &&& 858993459)) + (((((nI n - (((nI n).toUInt32 >>> ((1 : Int32).toUInt32 &&& Int32.toUInt32 31)).toInt32 &&& 1431655765)) &&& 858993459) + ((((nI n - (((nI n).toUInt32 >>> ((1 : Int32).toUInt32 &&& Int32.toUInt32 31)).toInt32 &&& 1431655765))).toUInt32 >>> ((2 : Int32).toUInt32 &&& Int32.toUInt32 31)).toInt32 &&& 858993459))).toUInt32 >>> ((4 : Int32).toUInt32 &&& Int32.toUInt32 31)).toInt32) &&& 252645135) + (((((((nI n - (((nI n).toUInt32 >>> ((1 : Int32).toUInt32 &&& Int32.toUInt32 31)).toInt32 &&& 1431655765)) &&& 858993459) + ((((nI n - (((nI n).toUInt32 >>> ((1 : Int32).toUInt32 &&& Int32.toUInt32 31)).toInt32 &&& 1431655765))).toUInt32 >>> ((2 : Int32).toUInt32 &&& Int32.toUInt32 31)).toInt32 &&& 858993459)) + (((((nI n - (((nI n).toUInt32 >>> ((1 : Int32).toUInt32 &&& Int32.toUInt32 31)).toInt32 &&& 1431655765)) &&& 858993459) + ((((nI n - (((nI n).toUInt32 >>> ((1 : Int32).toUInt32 &&& Int32.toUInt32 31)).toInt32 &&& 1431655765))).toUInt32 >>> ((2 : Int32).toUInt32 &&& Int32.toUInt32 31)).toInt32 &&& 858993459))).toUInt32 >>> ((4 : Int32).toUInt32 &&& Int32.toUInt32 31)).toInt32) &&& 252645135)).toUInt32 >>> ((8 : Int32).toUInt32 &&& Int32.toUInt32 31)).toInt32) + ((((((((nI n - (((nI n).toUInt32 >>> ((1 : Int32).toUInt32 &&& Int32.toUInt32 31)).toInt32 &&& 1431655765)) &&& 858993459) + ((((nI n - (((nI n).toUInt32 >>> ((1 : Int32).toUInt32 &&& Int32.toUInt32 31)).toInt32 &&& 1431655765))).toUInt32 >>> ((2 : Int32).toUInt32 &&& Int32.toUInt32 31)).toInt32 &&& 858993459)) + (((((nI n - (((nI n).toUInt32 >>> ((1 : Int32).toUInt32 &&& Int32.toUInt32 31)).toInt32 &&& 1431655765)) &&& 858993459) + ((((nI n - (((nI n).toUInt32 >>> ((1 : Int32).toUInt32 &&& Int32.toUInt32 31)).toInt32 &&& 1431655765))).toUInt32 >>> ((2 : Int32).toUInt32 &&& Int32.toUInt32 31)).toInt32 &&& 858993459))).toUInt32 >>> ((4 : Int32).toUInt32 &&& Int32.toUInt32 31)).toInt32) &&& 252645135) + (((((((nI n - (((nI n).toUInt32 >>> ((1 : Int32).toUInt32 &&& Int32.toUInt32 31)).toInt32 &&& 1431655765)) &&& 858993459) + ((((nI n - (((nI n).toUInt32 >>> ((1 : Int32).toUInt32 &&& Int32.toUInt32 31)).toInt32 &&& 1431655765))).toUInt32 >>> ((2 : Int32).toUInt32 &&& Int32.toUInt32 31)).toInt32 &&& 858993459)) + (((((nI n - (((nI n).toUInt32 >>> ((1 : Int32).toUInt32 &&& Int32.toUInt32 31)).toInt32 &&& 1431655765)) &&& 858993459) + ((((nI n - (((nI n).toUInt32 >>> ((1 : Int32).toUInt32 &&& Int32.toUInt32 31)).toInt32 &&& 1431655765))).toUInt32 >>> ((2 : Int32).toUInt32 &&& Int32.toUInt32 31)).toInt32 &&& 858993459))).toUInt32 >>> ((4 : Int32).toUInt32 &&& Int32.toUInt32 31)).toInt32) &&& 252645135)).toUInt32 >>> ((8 : Int32).toUInt32 &&& Int32.toUInt32 31)).toInt32)).toUInt32 >>> ((16 : Int32).toUInt32 &&& Int32.toUInt32 31)).toInt32) &&& 63 = nI (pop n) := by decide +kernel
set_option maxRecDepth 100000 in
set_option maxHeartbeats 4000000 in
theorem spJ6_bitCount {G : GE} {d : Nat} {M : Mm} {n : Nat} (hn : n < 128) : Mt G iJ6_bitCount_0f7a4 d [.int (nI n)] M (Rt (nI (pop n)) M) := by
  refine Mt_in 0 (ls := [.int (nI n)]) moJ6_bitCount_0f7a4 (Nat.le_of_ble_eq_true rfl) rfl ?_
  refine PW_iload_n (i := 0) dJ6_bitCount_0f7a4_0 rfl rfl ?_
  refine PW_iload_n (i := 0) dJ6_bitCount_0f7a4_1 rfl rfl ?_
  refine PW_iconst (v := 1) dJ6_bitCount_0f7a4_2 (by decide) ?_
  refine PW_iushr dJ6_bitCount_0f7a4_3 rfl ?_
  refine PW_ldcw dJ6_bitCount_0f7a4_4 kcJ6_265 ?_
  refine PW_iand dJ6_bitCount_0f7a4_7 ?_
  refine PW_isub dJ6_bitCount_0f7a4_8 ?_
  refine PW_istore_n (i := 0) dJ6_bitCount_0f7a4_9 rfl (Nat.le_of_ble_eq_true rfl) rfl ?_
  refine PW_iload_n (i := 0) dJ6_bitCount_0f7a4_10 rfl rfl ?_
  refine PW_ldcw dJ6_bitCount_0f7a4_11 kcJ6_266 ?_
  refine PW_iand dJ6_bitCount_0f7a4_14 ?_
  refine PW_iload_n (i := 0) dJ6_bitCount_0f7a4_15 rfl rfl ?_
  refine PW_iconst (v := 2) dJ6_bitCount_0f7a4_16 (by decide) ?_
  refine PW_iushr dJ6_bitCount_0f7a4_17 rfl ?_
  refine PW_ldcw dJ6_bitCount_0f7a4_18 kcJ6_266 ?_
  refine PW_iand dJ6_bitCount_0f7a4_21 ?_
  refine PW_iadd dJ6_bitCount_0f7a4_22 ?_
  refine PW_istore_n (i := 0) dJ6_bitCount_0f7a4_23 rfl (Nat.le_of_ble_eq_true rfl) rfl ?_
  refine PW_iload_n (i := 0) dJ6_bitCount_0f7a4_24 rfl rfl ?_
  refine PW_iload_n (i := 0) dJ6_bitCount_0f7a4_25 rfl rfl ?_
  refine PW_iconst (v := 4) dJ6_bitCount_0f7a4_26 (by decide) ?_
  refine PW_iushr dJ6_bitCount_0f7a4_27 rfl ?_
  refine PW_iadd dJ6_bitCount_0f7a4_28 ?_
  refine PW_ldcw dJ6_bitCount_0f7a4_29 kcJ6_267 ?_
  refine PW_iand dJ6_bitCount_0f7a4_32 ?_
  refine PW_istore_n (i := 0) dJ6_bitCount_0f7a4_33 rfl (Nat.le_of_ble_eq_true rfl) rfl ?_
  refine PW_iload_n (i := 0) dJ6_bitCount_0f7a4_34 rfl rfl ?_
  refine PW_iload_n (i := 0) dJ6_bitCount_0f7a4_35 rfl rfl ?_
  refine PW_bipush (v := 8) dJ6_bitCount_0f7a4_36 (by decide) ?_
  refine PW_iushr dJ6_bitCount_0f7a4_38 rfl ?_
  refine PW_iadd dJ6_bitCount_0f7a4_39 ?_
  refine PW_istore_n (i := 0) dJ6_bitCount_0f7a4_40 rfl (Nat.le_of_ble_eq_true rfl) rfl ?_
  refine PW_iload_n (i := 0) dJ6_bitCount_0f7a4_41 rfl rfl ?_
  refine PW_iload_n (i := 0) dJ6_bitCount_0f7a4_42 rfl rfl ?_
  refine PW_bipush (v := 16) dJ6_bitCount_0f7a4_43 (by decide) ?_
  refine PW_iushr dJ6_bitCount_0f7a4_45 rfl ?_
  refine PW_iadd dJ6_bitCount_0f7a4_46 ?_
  refine PW_istore_n (i := 0) dJ6_bitCount_0f7a4_47 rfl (Nat.le_of_ble_eq_true rfl) rfl ?_
  refine PW_iload_n (i := 0) dJ6_bitCount_0f7a4_48 rfl rfl ?_
  refine PW_bipush (v := 63) dJ6_bitCount_0f7a4_49 (by decide) ?_
  refine PW_iand dJ6_bitCount_0f7a4_51 ?_
  refine PW_ireturn rfl (rfl) dJ6_bitCount_0f7a4_52 (Nat.le_of_ble_eq_true rfl) (Nat.le_of_ble_eq_true rfl) ?_
  exact rt_i (pop_ok n hn)
set_option maxRecDepth 100000 in
set_option maxHeartbeats 4000000 in
theorem spX9_append {G : GE} {d : Nat} {i : MI0} {S : MS} {t n : Nat} (Ft : TS S t) (h1 : i t 1 = nI n) (hn : n < 150) (c : Int32) : Mt G iX9_append d [.ref t, .int c] (i, S) (Wr S (fun i' => i' t 1 = nI (n + 1) ∧ i' (t + 1) n = c ∧ (∀ j, j ≠ n → i' (t + 1) j = i (t + 1) j) ∧ ∀ q, q ≠ t → q ≠ t + 1 → i' q = i q)) := by
  refine Mt_in 0 (ls := [.ref t, .int c]) moX9_append (Nat.le_of_ble_eq_true rfl) rfl ?_
  refine PW_aload_n (i := 0) dX9_append_0 rfl rfl ?_
  refine PW_giv (v := nI n) dX9_append_1 fg9_15 (Ft.1) (h1) ?_
  refine PW_sipush (v := 150) dX9_append_4 (by decide) ?_
  refine PW_icmp_ge 30 dX9_append_7 (by decide) (fun q => absurd (jle (a := 150) q) (by omega)) (fun _ => ?_)
  refine PW_aload_n (i := 0) dX9_append_10 rfl rfl ?_
  refine PW_getR dX9_append_11 fg9_9 (Ft.1) (Ft.2.2) ?_
  refine PW_aload_n (i := 0) dX9_append_14 rfl rfl ?_
  refine PW_giv (v := nI n) dX9_append_15 fg9_15 (Ft.1) (h1) ?_
  refine PW_iload_n (i := 1) dX9_append_18 rfl rfl ?_
  refine PW_ias dX9_append_19 (Ft.2.1) (by decide) (by omega) ?_
  refine PW_aload_n (i := 0) dX9_append_20 rfl rfl ?_
  refine PW_dup dX9_append_21 rfl ?_
  refine PW_giv (v := nI n) dX9_append_22 fg9_15 (Ft.1) (by first | exact h1 | (simp (disch := omega) only [rI_s, rI_k, rI_a, rI_f, rA_s, rA_n, rA_f, rP, rP_f]; exact h1)) ?_
  refine PW_iconst (v := 1) dX9_append_25 (by decide) ?_
  refine PW_iadd dX9_append_26 ?_
  refine PW_eqi (nI_1 _) ?_
  refine PW_putI dX9_append_27 fr9_15 (fun h => by cases h) (Ft.1) ?_
  refine PW_return rfl dX9_append_30 (Nat.le_of_ble_eq_true rfl) (Nat.le_of_ble_eq_true rfl) ?_
  refine Wr_mk rfl ⟨?_, ?_, fun j hj => ?_, fun q h1 h2 => ?_⟩
  · simp (disch := omega) only [rI_s, rI_k, rI_a, rI_f, rA_s, rA_n, rA_f, rP, rP_f]
  · simp (disch := omega) only [rI_s, rI_k, rI_a, rI_f, rA_s, rA_n, rA_f, rP, rP_f]
  · rw [rI_f _ _ (by omega), rI_k _ _ _ hj]; rfl
  · rw [rI_f _ _ h1, rI_f _ _ h2]; rfl
def oType (s : Ab) (c : Int32) : Int32 × Ab := if (0 : Int32) ≤ c ∧ c ≤ 127 then (if aL s < 150 then (nI (aL s + 1), setT s (aL s + 1) (fun j => if j = aL s then c.toNatClampNeg else aB s j)) else (-4, ful s)) else (-2, bad s)
def oClear (s : Ab) : Int32 × Ab := (nI (aL s), setT s 0 (aB s))
set_option maxRecDepth 100000 in
set_option maxHeartbeats 4000000 in
theorem spX11_type {G : GE} {d : Nat} {i : MI0} {S : MS} {X b : Nat} {g : Nat → Nat → Nat} {s : Ab} (hd : 20 ≤ d) (hP : CP S X g) (hR : CR i X g s) (hV : AV b s) (hb : b ≤ 100) (c : Int32) : Mt G iX11_type d [.ref X, .int c] (i, S) (Op X (i, S) (.int (oType s c).1) (oType s c).2) := by
  have hP' := hP
  have hR' := hR
  have hV' := hV
  obtain ⟨⟨Gx, Gr, Gks, ⟨Gv, Gd, Gi0, Gi1⟩, Gi, Gk, Gt, Gc, Gp, Ge⟩, Pv0, Pv1, Pv2, Pv3⟩ := hP
  have Gh := Gv.2.2.2.2.2.2.2.2.2.2.1
  obtain ⟨Vr, Vi0, Vi1, Vk, Vx, Vt⟩ := hR
  have Vh := Vr.2.2.2.1
  obtain ⟨Av, Ai, At, Ab', Aa, Aw⟩ := hV
  have Ah := Av.1
  have Ah1 := Ah.1
  have Av1 := Av.2.1
  have Av2 := Av.2.2.1
  have Av3 := Av.2.2.2.1
  refine Mt_in 0 (ls := [.ref X, .int c]) moX11_type (Nat.le_of_ble_eq_true rfl) rfl ?_
  refine PW_iload_n (i := 1) dX11_type_0 rfl rfl ?_
  refine PW_iconst (v := 0) dX11_type_1 (by decide) ?_
  refine PW_bipush (v := 127) dX11_type_2 (by decide) ?_
  refine PW_callS dX11_type_4 moX11_isWithin cs11_116 (by omega) rfl rfl (Nat.le_of_ble_eq_true rfl) (Nat.le_of_ble_eq_true rfl) (Nat.le_of_ble_eq_true rfl) (spX11_isWithin (d := d - 1) _ _ _) (fun v M1 hq => ?_)
  obtain ⟨rfl, rfl⟩ := hq
  refine PW_if_ne 17 dX11_type_7 (by decide) (fun h7 => ?_) (fun h7 => ?_)
  · have h7 := b1_1.mp h7
    refine PW_aload_n (i := 0) dX11_type_17 rfl rfl ?_
    refine PW_getR dX11_type_18 fg11_71 (Gx) (Gr.2.2.2.2.2.2.2) ?_
    refine PW_giv (v := nI (aL s)) dX11_type_21 fg11_127 (Ge.1) (Vt.1) ?_
    refine PW_sipush (v := 150) dX11_type_24 (by decide) ?_
    refine PW_icmp_lt 35 dX11_type_27 (by decide) (fun h27 => ?_) (fun h27 => ?_)
    · have h27 := jlt (b := 150) h27
      refine PW_aload_n (i := 0) dX11_type_35 rfl rfl ?_
      refine PW_getR dX11_type_36 fg11_71 (Gx) (Gr.2.2.2.2.2.2.2) ?_
      refine PW_iload_n (i := 1) dX11_type_39 rfl rfl ?_
      refine PW_callV dX11_type_40 moX9_append cv11_130 (Ge.1) (by omega) rfl rfl (Nat.le_of_ble_eq_true rfl) (Nat.le_of_ble_eq_true rfl) (Nat.le_of_ble_eq_true rfl) (spX9_append (d := d - 1) Ge Vt.1 h27 _) (fun v M1 hq => ?_)
      obtain ⟨rfl, i1, rfl, p1, p2, p3, p4⟩ := hq
      refine PW_aload_n (i := 0) dX11_type_43 rfl rfl ?_
      refine PW_getR dX11_type_44 fg11_71 (Gx) (Gr.2.2.2.2.2.2.2) ?_
      refine PW_giv (v := nI (aL s + 1)) dX11_type_47 fg11_127 (Ge.1) (p1) ?_
      refine PW_ireturn rfl (rfl) dX11_type_50 (Nat.le_of_ble_eq_true rfl) (Nat.le_of_ble_eq_true rfl) ?_
      have k1 := cl_of (n := 127) h7 rfl (by decide)
      refine Op_i (by unfold oType; rw [if_pos h7, if_pos h27]) hP' (hR'.st hP' hV' ⟨p1, fun j hj => ?_⟩ p4) (fun q hq => p4 q (by omega) (by omega))
      by_cases e : j = aL s
      · rw [if_pos e, e, p2]; exact k1.1
      · rw [if_neg e, p3 j e]; exact Vt.2 j (by omega)
    · have h27 := jnlt (b := 150) h27
      refine PW_aload_n (i := 0) dX11_type_30 rfl rfl ?_
      refine PW_callV dX11_type_31 moX11_refuseFull cv11_109 (Gx) (by omega) rfl rfl (Nat.le_of_ble_eq_true rfl) (Nat.le_of_ble_eq_true rfl) (Nat.le_of_ble_eq_true rfl) (spX11_refuseFull (d := d - 1) hP' hR' hV') (fun v M1 hq => ?_)
      obtain ⟨rfl, i1, rfl, c1, c2⟩ := hq
      refine PW_ireturn rfl (rfl) dX11_type_34 (Nat.le_of_ble_eq_true rfl) (Nat.le_of_ble_eq_true rfl) ?_
      exact Op_i (by unfold oType; rw [if_pos h7, if_neg (by omega)]) hP' c1 (fun q hq => c2 q (by omega))
  · have h7 := b1_0.mp h7
    refine PW_aload_n (i := 0) dX11_type_10 rfl rfl ?_
    refine PW_bipush (v := -2) dX11_type_11 (by decide) ?_
    refine PW_callV dX11_type_13 moX11_refuseBad cv11_95 (Gx) (by omega) rfl rfl (Nat.le_of_ble_eq_true rfl) (Nat.le_of_ble_eq_true rfl) (Nat.le_of_ble_eq_true rfl) (spX11_refuseBad (d := d - 1) hP' hR' hV' _) (fun v M1 hq => ?_)
    obtain ⟨rfl, i1, rfl, c1, c2⟩ := hq
    refine PW_ireturn rfl (rfl) dX11_type_16 (Nat.le_of_ble_eq_true rfl) (Nat.le_of_ble_eq_true rfl) ?_
    exact Op_i (by unfold oType; rw [if_neg h7]) hP' c1 (fun q hq => c2 q (by omega))
set_option maxRecDepth 100000 in
set_option maxHeartbeats 4000000 in
theorem spX11_clear {G : GE} {d : Nat} {i : MI0} {S : MS} {X b : Nat} {g : Nat → Nat → Nat} {s : Ab} (hd : 20 ≤ d) (hP : CP S X g) (hR : CR i X g s) (hV : AV b s) (hb : b ≤ 100) : Mt G iX11_clear d [.ref X] (i, S) (Op X (i, S) (.int (oClear s).1) (oClear s).2) := by
  have hP' := hP
  have hR' := hR
  have hV' := hV
  obtain ⟨⟨Gx, Gr, Gks, ⟨Gv, Gd, Gi0, Gi1⟩, Gi, Gk, Gt, Gc, Gp, Ge⟩, Pv0, Pv1, Pv2, Pv3⟩ := hP
  have Gh := Gv.2.2.2.2.2.2.2.2.2.2.1
  obtain ⟨Vr, Vi0, Vi1, Vk, Vx, Vt⟩ := hR
  have Vh := Vr.2.2.2.1
  obtain ⟨Av, Ai, At, Ab', Aa, Aw⟩ := hV
  have Ah := Av.1
  have Ah1 := Ah.1
  have Av1 := Av.2.1
  have Av2 := Av.2.2.1
  have Av3 := Av.2.2.2.1
  refine Mt_in 1 (ls := [.ref X, .null]) moX11_clear (Nat.le_of_ble_eq_true rfl) rfl ?_
  refine PW_aload_n (i := 0) dX11_clear_0 rfl rfl ?_
  refine PW_getR dX11_clear_1 fg11_71 (Gx) (Gr.2.2.2.2.2.2.2) ?_
  refine PW_giv (v := nI (aL s)) dX11_clear_4 fg11_127 (Ge.1) (Vt.1) ?_
  refine PW_istore_n (i := 1) dX11_clear_7 rfl (Nat.le_of_ble_eq_true rfl) rfl ?_
  refine PW_aload_n (i := 0) dX11_clear_8 rfl rfl ?_
  refine PW_getR dX11_clear_9 fg11_71 (Gx) (Gr.2.2.2.2.2.2.2) ?_
  refine PW_iconst (v := 0) dX11_clear_12 (by decide) ?_
  refine PW_putI dX11_clear_13 fr11_127 (fun h => by cases h) (Ge.1) ?_
  refine PW_nm rfl (fun i1 e1 => ?_)
  refine PW_iload_n (i := 1) dX11_clear_16 rfl rfl ?_
  refine PW_ireturn rfl (rfl) dX11_clear_17 (Nat.le_of_ble_eq_true rfl) (Nat.le_of_ble_eq_true rfl) ?_
  exact Op_i (o := oClear s) rfl hP' (hR'.st hP' hV' ⟨by rw [e1]; exact rI_s _ _ _ _, fun j hj => absurd hj (Nat.not_lt_zero j)⟩ (fun q h1 h2 => by rw [e1, rI_f _ _ h1]; rfl)) (fun q hq => by rw [e1, rI_f _ _ (by omega)]; rfl)
def fdV (y : Vy) (j : Nat) : Vy := wH y (hn (vh y), hK (vh y), hT (vh y), hN (vh y), hp (vh y), hw (vh y), hf (vh y) ||| 2 ^ j)
def oFeed (s : Ab) (k : Int32) : Int32 × Ab := if isH s k then (if (hf (vh (aV s))).testBit k.toNatClampNeg then (-3, noo s) else (1, setV s (fdV (remV (aV s)) k.toNatClampNeg))) else (-2, bad s)
def oWatch (s : Ab) : Int32 × Ab := (pI (stw (vh (aV s)) (hf (vh (aV s)))), setV s (wH (remV (aV s)) (pas (vh (aV s)))))
def oUndo (s : Ab) : Int32 × Ab := if vu (aV s) = 0 then (-3, noo s) else (nI (hw (vU (aV s) (vu (aV s) - 1))), setV s (gbV (aV s)))
set_option maxRecDepth 100000 in
set_option maxHeartbeats 4000000 in
theorem spX11_feed {G : GE} {d : Nat} {i : MI0} {S : MS} {X b : Nat} {g : Nat → Nat → Nat} {s : Ab} (hd : 20 ≤ d) (hP : CP S X g) (hR : CR i X g s) (hV : AV b s) (hb : b ≤ 100) (k : Int32) : Mt G iX11_feed d [.ref X, .int k] (i, S) (Op X (i, S) (.int (oFeed s k).1) (oFeed s k).2) := by
  have hP' := hP
  have hR' := hR
  have hV' := hV
  obtain ⟨⟨Gx, Gr, Gks, ⟨Gv, Gd, Gi0, Gi1⟩, Gi, Gk, Gt, Gc, Gp, Ge⟩, Pv0, Pv1, Pv2, Pv3⟩ := hP
  have Gh := Gv.2.2.2.2.2.2.2.2.2.2.1
  obtain ⟨Vr, Vi0, Vi1, Vk, Vx, Vt⟩ := hR
  have Vh := Vr.2.2.2.1
  obtain ⟨Av, Ai, At, Ab', Aa, Aw⟩ := hV
  have Ah := Av.1
  have Ah1 := Ah.1
  have Av1 := Av.2.1
  have Av2 := Av.2.2.1
  have Av3 := Av.2.2.2.1
  refine Mt_in 0 (ls := [.ref X, .int k]) moX11_feed (Nat.le_of_ble_eq_true rfl) rfl ?_
  refine PW_aload_n (i := 0) dX11_feed_0 rfl rfl ?_
  refine PW_iload_n (i := 1) dX11_feed_1 rfl rfl ?_
  refine PW_callV dX11_feed_2 moX11_isHand cv11_144 (Gx) (by omega) rfl rfl (Nat.le_of_ble_eq_true rfl) (Nat.le_of_ble_eq_true rfl) (Nat.le_of_ble_eq_true rfl) (spX11_isHand (d := d - 1) (by omega) hP' hR' hV' hb _) (fun v M1 hq => ?_)
  obtain ⟨rfl, rfl⟩ := hq
  refine PW_if_ne 15 dX11_feed_5 (by decide) (fun h5 => ?_) (fun h5 => ?_)
  · have h5 := b1_1.mp h5
    refine PW_aload_n (i := 0) dX11_feed_15 rfl rfl ?_
    refine PW_getR dX11_feed_16 fg11_32 (Gx) (Gr.1) ?_
    refine PW_getR dX11_feed_19 fg11_82 (Gv.1) (Gv.2.2.2.2.2.1) ?_
    refine PW_giv (v := nI (hf (vh (aV s)))) dX11_feed_22 fg11_147 (Gh.1) (Vh.2.2.2.1) ?_
    refine PW_iload_n (i := 1) dX11_feed_25 rfl rfl ?_
    refine PW_callS dX11_feed_26 moX11_holds cs11_150 (by omega) rfl rfl (Nat.le_of_ble_eq_true rfl) (Nat.le_of_ble_eq_true rfl) (Nat.le_of_ble_eq_true rfl) (spX11_holds (d := d - 1) _ _) (fun v M1 hq => ?_)
    obtain ⟨rfl, rfl⟩ := hq
    have Ff := hf64 Ah
    obtain ⟨j, hj, rfl⟩ := isH_of hV' h5
    have ek : (nI j).toNatClampNeg = j := cln (by omega)
    rw [hold_b (by omega) (by omega)]
    refine PW_if_eq 37 dX11_feed_29 (by decide) (fun h29 => ?_) (fun h29 => ?_)
    · have h29 := b2i_0.mp h29
      refine PW_aload_n (i := 0) dX11_feed_37 rfl rfl ?_
      refine PW_getR dX11_feed_38 fg11_32 (Gx) (Gr.1) ?_
      refine PW_callV dX11_feed_41 moX10_remember cv11_154 (Gv.1) (by omega) rfl rfl (Nat.le_of_ble_eq_true rfl) (Nat.le_of_ble_eq_true rfl) (Nat.le_of_ble_eq_true rfl) (spX10_remember (d := d - 1) (by omega) Gv Pv0 Vr Av) (fun v M1 hq => ?_)
      obtain ⟨rfl, i1, S1, σ1, rfl, s1, s2, s3, s4⟩ := hq
      have hP1 := hP'.se s1 s2
      have hR1 := hR'.rm hP' hV' s3 s4
      have Av4 := AV_rem Av
      obtain ⟨⟨Gx, Gr, Gks, ⟨Gv, Gd, Gi0, Gi1⟩, Gi, Gk, Gt, Gc, Gp, Ge⟩, Pv0, Pv1, Pv2, Pv3⟩ := hP1
      have Gh := Gv.2.2.2.2.2.2.2.2.2.2.1
      have hP1 := hP'.se s1 s2
      have Vh1 := s3.2.2.2.1
      refine PW_aload_n (i := 0) dX11_feed_44 rfl rfl ?_
      refine PW_getR dX11_feed_45 fg11_32 (Gx) (Gr.1) ?_
      refine PW_getR dX11_feed_48 fg11_82 (Gv.1) (Gv.2.2.2.2.2.1) ?_
      refine PW_dup dX11_feed_51 rfl ?_
      refine PW_giv (v := nI (hf (vh (aV s)))) dX11_feed_52 fg11_147 (Gh.1) (Vh1.2.2.2.1) ?_
      refine PW_iconst (v := 1) dX11_feed_55 (by decide) ?_
      refine PW_iload_n (i := 1) dX11_feed_56 rfl rfl ?_
      refine PW_ishl dX11_feed_57 ?_
      refine PW_ior dX11_feed_58 ?_
      refine PW_eqi (show _ = nI (hf (vh (aV s)) ||| 2 ^ j) by rw [show (1 : Int32) = nI 1 from rfl, shl_n (by omega) (by have := pow_le6 (a := j) (by omega); omega), Nat.one_mul, fa_or]) ?_
      refine PW_putI dX11_feed_59 fr11_147 (fun h => by cases h) (Gh.1) ?_
      refine PW_nm rfl (fun i2 e2 => ?_)
      have e3 : ∀ q, q ≠ X + 8 + 5 → i2 q = i1 q := fun q hq => by rw [e2, rI_f _ _ hq]; rfl
      refine PW_iconst (v := 1) dX11_feed_62 (by decide) ?_
      refine PW_ireturn rfl (rfl) dX11_feed_63 (Nat.le_of_ble_eq_true rfl) (Nat.le_of_ble_eq_true rfl) ?_
      have hR2 := CR.rm (σ := σ1) hR' hP' hV' (y := fdV (remV (aV s)) j) (i' := i2) (s3.sh s2 Av4.2.2.2.1 ⟨?_, ?_, ?_, ?_, fun a ha => ?_⟩ (fun q hq => e3 q (by omega))) (fun q hq => (e3 q (by omega)).trans (s4 q hq))
      · exact Op_s (by unfold oFeed; rw [if_pos h5, ek, if_neg (by rw [h29]; decide)]) s1 hP1 hR2 (fun q hq => (e3 q (by omega)).trans (s4 q (by omega)))
      · rw [e2, rI_k _ _ _ (by decide)]; exact Vh1.1
      · rw [e2, rI_k _ _ _ (by decide)]; exact Vh1.2.1
      · rw [e2, rI_k _ _ _ (by decide)]; exact Vh1.2.2.1
      · rw [e2]; exact rI_s _ _ _ _
      · rw [e3 _ (by omega), e3 _ (by omega), e3 _ (by omega)]; exact Vh1.2.2.2.2 a ha
    · have h29 := b2i_n.mp h29
      refine PW_aload_n (i := 0) dX11_feed_32 rfl rfl ?_
      refine PW_callV dX11_feed_33 moX11_refuseNo cv11_102 (Gx) (by omega) rfl rfl (Nat.le_of_ble_eq_true rfl) (Nat.le_of_ble_eq_true rfl) (Nat.le_of_ble_eq_true rfl) (spX11_refuseNo (d := d - 1) hP' hR' hV') (fun v M1 hq => ?_)
      obtain ⟨rfl, i1, rfl, c1, c2⟩ := hq
      refine PW_ireturn rfl (rfl) dX11_feed_36 (Nat.le_of_ble_eq_true rfl) (Nat.le_of_ble_eq_true rfl) ?_
      exact Op_i (by unfold oFeed; rw [if_pos h5, ek, if_pos h29]) hP' c1 (fun q hq => c2 q (by omega))
  · have h5 := b1_0.mp h5
    refine PW_aload_n (i := 0) dX11_feed_8 rfl rfl ?_
    refine PW_bipush (v := -2) dX11_feed_9 (by decide) ?_
    refine PW_callV dX11_feed_11 moX11_refuseBad cv11_95 (Gx) (by omega) rfl rfl (Nat.le_of_ble_eq_true rfl) (Nat.le_of_ble_eq_true rfl) (Nat.le_of_ble_eq_true rfl) (spX11_refuseBad (d := d - 1) hP' hR' hV' _) (fun v M1 hq => ?_)
    obtain ⟨rfl, i1, rfl, c1, c2⟩ := hq
    refine PW_ireturn rfl (rfl) dX11_feed_14 (Nat.le_of_ble_eq_true rfl) (Nat.le_of_ble_eq_true rfl) ?_
    exact Op_i (by unfold oFeed; rw [if_neg h5]) hP' c1 (fun q hq => c2 q (by omega))
set_option maxRecDepth 100000 in
set_option maxHeartbeats 4000000 in
theorem spX11_watch {G : GE} {d : Nat} {i : MI0} {S : MS} {X b : Nat} {g : Nat → Nat → Nat} {s : Ab} (hd : 20 ≤ d) (hP : CP S X g) (hR : CR i X g s) (hV : AV b s) (hb : b ≤ 100) : Mt G iX11_watch d [.ref X] (i, S) (Op X (i, S) (.int (oWatch s).1) (oWatch s).2) := by
  have hP' := hP
  have hR' := hR
  have hV' := hV
  obtain ⟨⟨Gx, Gr, Gks, ⟨Gv, Gd, Gi0, Gi1⟩, Gi, Gk, Gt, Gc, Gp, Ge⟩, Pv0, Pv1, Pv2, Pv3⟩ := hP
  have Gh := Gv.2.2.2.2.2.2.2.2.2.2.1
  obtain ⟨Vr, Vi0, Vi1, Vk, Vx, Vt⟩ := hR
  have Vh := Vr.2.2.2.1
  obtain ⟨Av, Ai, At, Ab', Aa, Aw⟩ := hV
  have Ah := Av.1
  have Ah1 := Ah.1
  have Av1 := Av.2.1
  have Av2 := Av.2.2.1
  have Av3 := Av.2.2.2.1
  refine Mt_in 1 (ls := [.ref X, .null]) moX11_watch (Nat.le_of_ble_eq_true rfl) rfl ?_
  refine PW_aload_n (i := 0) dX11_watch_0 rfl rfl ?_
  refine PW_getR dX11_watch_1 fg11_32 (Gx) (Gr.1) ?_
  refine PW_getR dX11_watch_4 fg11_82 (Gv.1) (Gv.2.2.2.2.2.1) ?_
  refine PW_aload_n (i := 0) dX11_watch_7 rfl rfl ?_
  refine PW_getR dX11_watch_8 fg11_32 (Gx) (Gr.1) ?_
  refine PW_getR dX11_watch_11 fg11_82 (Gv.1) (Gv.2.2.2.2.2.1) ?_
  refine PW_giv (v := nI (hf (vh (aV s)))) dX11_watch_14 fg11_147 (Gh.1) (Vh.2.2.2.1) ?_
  have Ff := hf64 Ah
  refine PW_callV dX11_watch_17 moX4_steerer cv11_157 (Gh.1) (by omega) rfl rfl (Nat.le_of_ble_eq_true rfl) (Nat.le_of_ble_eq_true rfl) (Nat.le_of_ble_eq_true rfl) (spX4_steerer (d := d - 1) (by omega) Gks Gh Vh Ah (by omega) (by omega)) (fun v M1 hq => ?_)
  obtain ⟨rfl, rfl⟩ := hq
  refine PW_istore_n (i := 1) dX11_watch_20 rfl (Nat.le_of_ble_eq_true rfl) rfl ?_
  refine PW_aload_n (i := 0) dX11_watch_21 rfl rfl ?_
  refine PW_getR dX11_watch_22 fg11_32 (Gx) (Gr.1) ?_
  refine PW_callV dX11_watch_25 moX10_remember cv11_154 (Gv.1) (by omega) rfl rfl (Nat.le_of_ble_eq_true rfl) (Nat.le_of_ble_eq_true rfl) (Nat.le_of_ble_eq_true rfl) (spX10_remember (d := d - 1) (by omega) Gv Pv0 Vr Av) (fun v M1 hq => ?_)
  obtain ⟨rfl, i1, S1, σ1, rfl, s1, s2, s3, s4⟩ := hq
  have hP1 := hP'.se s1 s2
  have hR1 := hR'.rm hP' hV' s3 s4
  have Av4 := AV_rem Av
  obtain ⟨⟨Gx, Gr, Gks, ⟨Gv, Gd, Gi0, Gi1⟩, Gi, Gk, Gt, Gc, Gp, Ge⟩, Pv0, Pv1, Pv2, Pv3⟩ := hP1
  have Gh := Gv.2.2.2.2.2.2.2.2.2.2.1
  have hP1 := hP'.se s1 s2
  have Vh1 := s3.2.2.2.1
  refine PW_aload_n (i := 0) dX11_watch_28 rfl rfl ?_
  refine PW_getR dX11_watch_29 fg11_32 (Gx) (Gr.1) ?_
  refine PW_getR dX11_watch_32 fg11_82 (Gv.1) (Gv.2.2.2.2.2.1) ?_
  refine PW_iload_n (i := 1) dX11_watch_35 rfl rfl ?_
  refine PW_callV dX11_watch_36 moX4_go cv11_160 (Gh.1) (by omega) rfl rfl (Nat.le_of_ble_eq_true rfl) (Nat.le_of_ble_eq_true rfl) (Nat.le_of_ble_eq_true rfl) (spX4_go (d := d - 1) (by omega) Gks Gh Vh1 (h := vh (aV s)) Ah (by omega) (stw_le _ _)) (fun v M1 hq => ?_)
  obtain ⟨rfl, i2, rfl, p1, p2⟩ := hq
  refine PW_iload_n (i := 1) dX11_watch_39 rfl rfl ?_
  refine PW_ireturn rfl (rfl) dX11_watch_40 (Nat.le_of_ble_eq_true rfl) (Nat.le_of_ble_eq_true rfl) ?_
  have hR2 := CR.rm (σ := σ1) hR' hP' hV' (y := wH (remV (aV s)) (pas (vh (aV s)))) (i' := i2) (s3.sh s2 Av4.2.2.2.1 p1 (fun q hq => p2 q (by omega) (by omega))) (fun q hq => (p2 q (by omega) (by omega)).trans (s4 q hq))
  exact Op_s (o := oWatch s) rfl s1 hP1 hR2 (fun q hq => (p2 q (by omega) (by omega)).trans (s4 q (by omega)))
set_option maxRecDepth 100000 in
set_option maxHeartbeats 4000000 in
theorem spX11_undo0 {G : GE} {d : Nat} {i : MI0} {S : MS} {X b : Nat} {g : Nat → Nat → Nat} {s : Ab} (hd : 20 ≤ d) (hP : CP S X g) (hR : CR i X g s) (hV : AV b s) (hb : b ≤ 100) (h0 : vu (aV s) = 0) : Mt G iX11_undo d [.ref X] (i, S) (Op X (i, S) (.int (oUndo s).1) (oUndo s).2) := by
  have hP' := hP
  have hR' := hR
  have hV' := hV
  obtain ⟨⟨Gx, Gr, Gks, ⟨Gv, Gd, Gi0, Gi1⟩, Gi, Gk, Gt, Gc, Gp, Ge⟩, Pv0, Pv1, Pv2, Pv3⟩ := hP
  have Gh := Gv.2.2.2.2.2.2.2.2.2.2.1
  obtain ⟨Vr, Vi0, Vi1, Vk, Vx, Vt⟩ := hR
  have Vh := Vr.2.2.2.1
  obtain ⟨Av, Ai, At, Ab', Aa, Aw⟩ := hV
  have Ah := Av.1
  have Ah1 := Ah.1
  have Av1 := Av.2.1
  have Av2 := Av.2.2.1
  have Av3 := Av.2.2.2.1
  refine Mt_in 0 (ls := [.ref X]) moX11_undo (Nat.le_of_ble_eq_true rfl) rfl ?_
  refine PW_aload_n (i := 0) dX11_undo_0 rfl rfl ?_
  refine PW_getR dX11_undo_1 fg11_32 (Gx) (Gr.1) ?_
  refine PW_callV dX11_undo_4 moX10_goBack cv11_163 (Gv.1) (by omega) rfl rfl (Nat.le_of_ble_eq_true rfl) (Nat.le_of_ble_eq_true rfl) (Nat.le_of_ble_eq_true rfl) (spX10_goBack0 (d := d - 1) (by omega) Gv Pv0 Vr Av h0) (fun v M1 hq => ?_)
  obtain ⟨rfl, rfl⟩ := hq
  refine PW_if_ne 15 dX11_undo_7 (by decide) (fun q => absurd rfl q) (fun _ => ?_)
  refine PW_aload_n (i := 0) dX11_undo_10 rfl rfl ?_
  refine PW_callV dX11_undo_11 moX11_refuseNo cv11_102 (Gx) (by omega) rfl rfl (Nat.le_of_ble_eq_true rfl) (Nat.le_of_ble_eq_true rfl) (Nat.le_of_ble_eq_true rfl) (spX11_refuseNo (d := d - 1) hP' hR' hV') (fun v M1 hq => ?_)
  obtain ⟨rfl, i1, rfl, c1, c2⟩ := hq
  refine PW_ireturn rfl (rfl) dX11_undo_14 (Nat.le_of_ble_eq_true rfl) (Nat.le_of_ble_eq_true rfl) ?_
  exact Op_i (by unfold oUndo; rw [if_pos h0]) hP' c1 (fun q hq => c2 q (by omega))
set_option maxRecDepth 100000 in
set_option maxHeartbeats 4000000 in
theorem spX11_undo1 {G : GE} {d : Nat} {i : MI0} {S : MS} {X b : Nat} {g : Nat → Nat → Nat} {s : Ab} (hd : 20 ≤ d) (hP : CP S X g) (hR : CR i X g s) (hV : AV b s) (hb : b ≤ 100) (h0 : ¬ vu (aV s) = 0) : Mt G iX11_undo d [.ref X] (i, S) (Op X (i, S) (.int (oUndo s).1) (oUndo s).2) := by
  have hP' := hP
  have hR' := hR
  have hV' := hV
  obtain ⟨⟨Gx, Gr, Gks, ⟨Gv, Gd, Gi0, Gi1⟩, Gi, Gk, Gt, Gc, Gp, Ge⟩, Pv0, Pv1, Pv2, Pv3⟩ := hP
  have Gh := Gv.2.2.2.2.2.2.2.2.2.2.1
  obtain ⟨Vr, Vi0, Vi1, Vk, Vx, Vt⟩ := hR
  have Vh := Vr.2.2.2.1
  obtain ⟨Av, Ai, At, Ab', Aa, Aw⟩ := hV
  have Ah := Av.1
  have Ah1 := Ah.1
  have Av1 := Av.2.1
  have Av2 := Av.2.2.1
  have Av3 := Av.2.2.2.1
  refine Mt_in 0 (ls := [.ref X]) moX11_undo (Nat.le_of_ble_eq_true rfl) rfl ?_
  refine PW_aload_n (i := 0) dX11_undo_0 rfl rfl ?_
  refine PW_getR dX11_undo_1 fg11_32 (Gx) (Gr.1) ?_
  refine PW_callV dX11_undo_4 moX10_goBack cv11_163 (Gv.1) (by omega) rfl rfl (Nat.le_of_ble_eq_true rfl) (Nat.le_of_ble_eq_true rfl) (Nat.le_of_ble_eq_true rfl) (spX10_goBack1 (d := d - 1) (by omega) Gv Pv0 Vr Av (by omega)) (fun v M1 hq => ?_)
  obtain ⟨rfl, i1, rfl, p1, p2⟩ := hq
  refine PW_if_ne 15 dX11_undo_7 (by decide) (fun _ => ?_) (fun q => absurd q (by decide))
  refine PW_aload_n (i := 0) dX11_undo_15 rfl rfl ?_
  refine PW_getR dX11_undo_16 fg11_32 (Gx) (Gr.1) ?_
  refine PW_getR dX11_undo_19 fg11_82 (Gv.1) (Gv.2.2.2.2.2.1) ?_
  refine PW_giv (v := nI (hw (vU (aV s) (vu (aV s) - 1)))) dX11_undo_22 fg11_167 (Gh.1) (p1.2.2.2.1.2.2.1) ?_
  refine PW_ireturn rfl (rfl) dX11_undo_25 (Nat.le_of_ble_eq_true rfl) (Nat.le_of_ble_eq_true rfl) ?_
  exact Op_i (by unfold oUndo; rw [if_neg h0]) hP' (hR'.sv hP' hV' p1 p2) (fun q hq => p2 q (by omega))
set_option maxRecDepth 100000 in
set_option maxHeartbeats 4000000 in
theorem spX11_undo {G : GE} {d : Nat} {i : MI0} {S : MS} {X b : Nat} {g : Nat → Nat → Nat} {s : Ab} (hd : 20 ≤ d) (hP : CP S X g) (hR : CR i X g s) (hV : AV b s) (hb : b ≤ 100) : Mt G iX11_undo d [.ref X] (i, S) (Op X (i, S) (.int (oUndo s).1) (oUndo s).2) := by
  by_cases h0 : vu (aV s) = 0
  · exact spX11_undo0 hd hP hR hV hb h0
  · exact spX11_undo1 hd hP hR hV hb h0

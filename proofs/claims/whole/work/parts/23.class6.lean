/-! ===== SleepyHelm: nod, look, pulled ===== -/
theorem allB_f {f : Nat → Bool} {j : Nat} (hj : f j = false) : ∀ {n : Nat}, j < n → allB f n = false
  | 0, h => absurd h (Nat.not_lt_zero _)
  | n + 1, h => by
    unfold allB
    by_cases e : j = n
    · rw [← e, hj, Bool.and_false]
    · rw [allB_f hj (by omega), Bool.false_and]
theorem allB_s {f : Nat → Bool} {n : Nat} (h : allB f n = true) (h2 : f n = true) : allB f (n + 1) = true := by rw [allB, h, h2]; rfl
theorem allB_cong {f g : Nat → Bool} : ∀ {n : Nat}, (∀ j, j < n → f j = g j) → allB f n = allB g n
  | 0, _ => rfl
  | n + 1, h => by
    unfold allB
    rw [allB_cong (fun j hj => h j (Nat.lt_succ_of_lt hj)), h n (Nat.lt_succ_self n)]
/-- all that was seen is so on the course from h, pulled by b behind the k-th watch -/
def fpF (y : Vy) (h : Hm) (k : Nat) (b : Int32) (j : Nat) : Bool := decide (iN (hp (pasN h (vW y j))) + (if k < vW y j then b else 0) = vP y j)
def fpB (y : Vy) (h : Hm) (k : Nat) (b : Int32) : Bool := allB (fpF y h k b) (vs y)
/-- all that was seen is so, if a nods by so much more -/
def fnF (y : Vy) (a : Nat) (m : Int32) (j : Nat) : Bool := decide (iN (hp (pasN (vh y) (vW y j))) + m * nI (tst (vh y) a (vW y j)) = vP y j)
def fnB (y : Vy) (a : Nat) (m : Int32) : Bool := allB (fnF y a m) (vs y)
def nodF (y : Vy) (a j : Nat) : Bool := fnB y a (iN ((j : Int) - 3 - hN (vh y) a))
def nodS (y : Vy) (a : Nat) : Nat := bitsN (nodF y a) 7
def oNod (s : Ab) (k : Int32) : Int32 × Ab := if isH s k then (nI (nodS (aV s) k.toNatClampNeg), s) else (-2, bad s)
def oPulled (s : Ab) (b : Int32) : Int32 × Ab := if (-9 : Int32) ≤ b ∧ b ≤ 9 then (nI (bitsN (fun k => fpB (aV s) (vh (aV s)) k b) 20), s) else (-2, bad s)
def chK (h : Hm) (a c : Nat) : Hm := (hn h, (fun j => if j = a then c else hK h j), hT h, hN h, hp h, hw h, hf h)
def isF (y : Vy) (a c : Nat) : Bool := fpB y (chK (vh y) a c) 0 0
def oIs (s : Ab) (k : Int32) : Int32 × Ab := if isH s k then (nI (bitsN (isF (aV s) k.toNatClampNeg) 6), s) else (-2, bad s)
def alk (h : Hm) (a n m : Nat) : Nat := if 0 < tst h a m then 1 else n
def lkN (h : Hm) (a n : Nat) : Nat → Nat × Nat
  | 0 => (0, n)
  | m + 1 => if alk h a n (m + 1) < (lkN h a n m).2 then (m + 1, alk h a n (m + 1)) else lkN h a n m
theorem lkN_le (h : Hm) (a n : Nat) : ∀ m, (lkN h a n m).1 ≤ m ∧ (lkN h a n m).2 ≤ n + 1
  | 0 => ⟨Nat.le_refl _, Nat.le_succ _⟩
  | m + 1 => by
    have := lkN_le h a n m
    unfold lkN
    split
    · refine ⟨Nat.le_refl _, ?_⟩
      unfold alk
      split <;> simp
    · omega
theorem lkN_t {h : Hm} {a n m : Nat} (q : alk h a n (m + 1) < (lkN h a n m).2) : lkN h a n (m + 1) = (m + 1, alk h a n (m + 1)) := by rw [lkN, if_pos q]
theorem lkN_f {h : Hm} {a n m : Nat} (q : ¬ alk h a n (m + 1) < (lkN h a n m).2) : lkN h a n (m + 1) = lkN h a n m := by rw [lkN, if_neg q]
theorem pop_le (n : Nat) : pop n ≤ 7 := by unfold pop; omega
def oLook (s : Ab) (k : Int32) : Int32 × Ab := if isH s k then ((if pop (nodS (aV s) k.toNatClampNeg) = 0 then -1 else nI (lkN (vh (aV s)) k.toNatClampNeg (pop (nodS (aV s) k.toNatClampNeg)) 20).1), s) else (-2, bad s)
def cmp3 (x y : Int32) : Int32 := if x < y then -1 else if x = y then 0 else 1
def mtF (h : Hm) (p b w : Int32) (m : Nat) : Bool := decide (cmp3 (iN (hp (pasN h m))) (p + b * nI m) = 0) || (decide (w = 1) && !decide (cmp3 (iN (hp (pasN h m))) (p + b * nI m) = cmp3 (iN (hp h)) p))
def oMeet (s : Ab) (p b w : Int32) : Int32 × Ab := if ((-60 : Int32) ≤ p ∧ p ≤ 60) ∧ ((-3 : Int32) ≤ b ∧ b ≤ 3) ∧ ((0 : Int32) ≤ w ∧ w ≤ 1) then (oI (fstW (mtF (vh (aV s)) p b w) 61), s) else (-2, bad s)
set_option maxRecDepth 100000 in
set_option maxHeartbeats 4000000 in
theorem lpX11_fitsPulled {G : GE} {d : Nat} {i : MI0} {S : MS} {X b : Nat} {g : Nat → Nat → Nat} {s : Ab} (hd : 15 ≤ d) (hP : CP S X g) (hR : CR i X g s) (hV : AV b s) (hb : b ≤ 100) {h : Hm} (hW : CW i (X + 178) h 21) {k : Nat} (hk : k < 1000) (c : Int32) : ∀ (n0 j : Nat), j ≤ vs (aV s) → vs (aV s) < j + n0 → ∀ (z4 z5 : Value), allB (fpF (aV s) h k c) j = true → PW G iX11_fitsPulled d (Rt (b2i (fpB (aV s) h k c)) (i, S)) 2 [.ref X, .int (nI k), .int c, .int (nI j), z4, z5] [] (i, S) 0 0 := by
  have hP' := hP
  have hR' := hR
  have hV' := hV
  obtain ⟨⟨Gx, Gr, Gks, ⟨Gv, Gd, Gi0, Gi1⟩, Gi, Gk, Gt, Gc, Gp, Ge⟩, Pv0, Pv1, Pv2, Pv3⟩ := hP
  have Gh := Gv.2.2.2.2.2.2.2.2.2.2.1
  obtain ⟨Vr, Vi0, Vi1, Vk, Vx, Vt⟩ := hR
  have Vh := Vr.2.2.2.1
  obtain ⟨Av, Ai, At, Ab', Aa, Aw⟩ := hV
  have Ah := Av.1
  have Ah1 := Ah.1
  have Av1 := Av.2.1
  have Av2 := Av.2.2.1
  have Av3 := Av.2.2.2.1
  intro n0
  induction n0 with
  | zero => intro j h1 h2; exact absurd h2 (by omega)
  | succ n0 ih =>
    intro j hj1 hj2 z4 z5 f0
    refine PW_iload_n (i := 3) dX11_fitsPulled_2 rfl rfl ?_
    refine PW_aload_n (i := 0) dX11_fitsPulled_3 rfl rfl ?_
    refine PW_getR dX11_fitsPulled_4 fg11_32 (Gx) (Gr.1) ?_
    refine PW_giv (v := nI (vs (aV s))) dX11_fitsPulled_7 fg11_216 (Gv.1) (Vr.2.1) ?_
    refine PW_icmp_ge 70 dX11_fitsPulled_10 (by decide) (fun h10 => ?_) (fun h10 => ?_)
    · have h10 := jle h10
      have ej : j = vs (aV s) := by omega
      subst ej
      refine PW_iconst (v := 1) dX11_fitsPulled_70 (by decide) ?_
      refine PW_ireturn rfl (rfl) dX11_fitsPulled_71 (Nat.le_of_ble_eq_true rfl) (Nat.le_of_ble_eq_true rfl) ?_
      refine rt_i ?_
      have q : fpB (aV s) h k c = true := f0
      rw [q]; rfl
    · have h10 := jnle h10
      have Fm := Av.2.2.2.2.1 j h10
      refine PW_aload_n (i := 0) dX11_fitsPulled_13 rfl rfl ?_
      refine PW_getR dX11_fitsPulled_14 fg11_32 (Gx) (Gr.1) ?_
      refine PW_getR dX11_fitsPulled_17 fg11_284 (Gv.1) (Gv.2.2.2.2.2.2.2.1) ?_
      refine PW_iload_n (i := 3) dX11_fitsPulled_20 rfl rfl ?_
      refine PW_ial (v := nI (vW (aV s) j)) dX11_fitsPulled_21 (Gv.2.2.1) (by decide) (by omega) ((Vr.2.2.2.2.2.1 j h10).1) ?_
      refine PW_istore dX11_fitsPulled_22 (Nat.le_of_ble_eq_true rfl) rfl ?_
      refine PW_aload_n (i := 0) dX11_fitsPulled_24 rfl rfl ?_
      refine PW_getR dX11_fitsPulled_25 fg11_57 (Gx) (Gr.2.2.2.2.2.1) ?_
      refine PW_getR dX11_fitsPulled_28 fg11_191 (Gc.1) (Gc.2.2.2.2.1) ?_
      refine PW_iload dX11_fitsPulled_31 rfl ?_
      refine PW_ial (v := iN (hp (pasN h (vW (aV s) j)))) dX11_fitsPulled_33 (Gc.2.1) (by decide) (by omega) ((hW _ (by omega)).1) ?_
      refine PW_iload dX11_fitsPulled_34 rfl ?_
      refine PW_iload_n (i := 1) dX11_fitsPulled_36 rfl rfl ?_
      refine PW_icmp_le 44 dX11_fitsPulled_37 (by decide) (fun h37 => ?_) (fun h37 => ?_)
      · have h37 := jle h37
        refine PW_iconst (v := 0) dX11_fitsPulled_44 (by decide) ?_
        refine PW_iadd dX11_fitsPulled_45 ?_
        refine PW_istore dX11_fitsPulled_46 (Nat.le_of_ble_eq_true rfl) rfl ?_
        refine PW_iload dX11_fitsPulled_48 rfl ?_
        refine PW_aload_n (i := 0) dX11_fitsPulled_50 rfl rfl ?_
        refine PW_getR dX11_fitsPulled_51 fg11_32 (Gx) (Gr.1) ?_
        refine PW_getR dX11_fitsPulled_54 fg11_287 (Gv.1) (Gv.2.2.2.2.2.2.2.2.1) ?_
        refine PW_iload_n (i := 3) dX11_fitsPulled_57 rfl rfl ?_
        refine PW_ial (v := vP (aV s) j) dX11_fitsPulled_58 (Gv.2.2.2.1) (by decide) (by omega) ((Vr.2.2.2.2.2.1 j h10).2) ?_
        refine PW_icmp_eq 64 dX11_fitsPulled_59 (by decide) (fun h59 => ?_) (fun h59 => ?_)
        · refine PW_inc1 dX11_fitsPulled_64 rfl (Nat.le_of_ble_eq_true rfl) rfl ?_
          refine PW_goto 2 dX11_fitsPulled_67 (by decide) ?_
          exact ih (j + 1) (by omega) (by omega) _ _ (allB_s f0 (by unfold fpF; first | (rw [if_pos h37]; exact decide_eq_true h59) | (rw [if_neg (by omega)]; exact decide_eq_true h59)))
        · refine PW_iconst (v := 0) dX11_fitsPulled_62 (by decide) ?_
          refine PW_ireturn rfl (rfl) dX11_fitsPulled_63 (Nat.le_of_ble_eq_true rfl) (Nat.le_of_ble_eq_true rfl) ?_
          refine rt_i ?_
          have q : fpB (aV s) h k c = false := allB_f (j := j) (by unfold fpF; first | (rw [if_pos h37]; exact decide_eq_false h59) | (rw [if_neg (by omega)]; exact decide_eq_false h59)) h10
          rw [q]; rfl
      · have h37 := jnle h37
        refine PW_iload_n (i := 2) dX11_fitsPulled_40 rfl rfl ?_
        refine PW_goto 45 dX11_fitsPulled_41 (by decide) ?_
        refine PW_iadd dX11_fitsPulled_45 ?_
        refine PW_istore dX11_fitsPulled_46 (Nat.le_of_ble_eq_true rfl) rfl ?_
        refine PW_iload dX11_fitsPulled_48 rfl ?_
        refine PW_aload_n (i := 0) dX11_fitsPulled_50 rfl rfl ?_
        refine PW_getR dX11_fitsPulled_51 fg11_32 (Gx) (Gr.1) ?_
        refine PW_getR dX11_fitsPulled_54 fg11_287 (Gv.1) (Gv.2.2.2.2.2.2.2.2.1) ?_
        refine PW_iload_n (i := 3) dX11_fitsPulled_57 rfl rfl ?_
        refine PW_ial (v := vP (aV s) j) dX11_fitsPulled_58 (Gv.2.2.2.1) (by decide) (by omega) ((Vr.2.2.2.2.2.1 j h10).2) ?_
        refine PW_icmp_eq 64 dX11_fitsPulled_59 (by decide) (fun h59 => ?_) (fun h59 => ?_)
        · refine PW_inc1 dX11_fitsPulled_64 rfl (Nat.le_of_ble_eq_true rfl) rfl ?_
          refine PW_goto 2 dX11_fitsPulled_67 (by decide) ?_
          exact ih (j + 1) (by omega) (by omega) _ _ (allB_s f0 (by unfold fpF; first | (rw [if_pos h37]; exact decide_eq_true h59) | (rw [if_neg (by omega)]; exact decide_eq_true h59)))
        · refine PW_iconst (v := 0) dX11_fitsPulled_62 (by decide) ?_
          refine PW_ireturn rfl (rfl) dX11_fitsPulled_63 (Nat.le_of_ble_eq_true rfl) (Nat.le_of_ble_eq_true rfl) ?_
          refine rt_i ?_
          have q : fpB (aV s) h k c = false := allB_f (j := j) (by unfold fpF; first | (rw [if_pos h37]; exact decide_eq_false h59) | (rw [if_neg (by omega)]; exact decide_eq_false h59)) h10
          rw [q]; rfl
set_option maxRecDepth 100000 in
set_option maxHeartbeats 4000000 in
theorem spX11_fitsPulled {G : GE} {d : Nat} {i : MI0} {S : MS} {X b : Nat} {g : Nat → Nat → Nat} {s : Ab} (hd : 15 ≤ d) (hP : CP S X g) (hR : CR i X g s) (hV : AV b s) (hb : b ≤ 100) {h : Hm} (hW : CW i (X + 178) h 21) {k : Nat} (hk : k < 1000) (c : Int32) : Mt G iX11_fitsPulled d [.ref X, .int (nI k), .int c] (i, S) (Rt (b2i (fpB (aV s) h k c)) (i, S)) := by
  have hP' := hP
  have hR' := hR
  have hV' := hV
  obtain ⟨⟨Gx, Gr, Gks, ⟨Gv, Gd, Gi0, Gi1⟩, Gi, Gk, Gt, Gc, Gp, Ge⟩, Pv0, Pv1, Pv2, Pv3⟩ := hP
  have Gh := Gv.2.2.2.2.2.2.2.2.2.2.1
  obtain ⟨Vr, Vi0, Vi1, Vk, Vx, Vt⟩ := hR
  have Vh := Vr.2.2.2.1
  obtain ⟨Av, Ai, At, Ab', Aa, Aw⟩ := hV
  have Ah := Av.1
  have Ah1 := Ah.1
  have Av1 := Av.2.1
  have Av2 := Av.2.2.1
  have Av3 := Av.2.2.2.1
  refine Mt_in 3 (ls := [.ref X, .int (nI k), .int c, .null, .null, .null]) moX11_fitsPulled (Nat.le_of_ble_eq_true rfl) rfl ?_
  refine PW_iconst (v := 0) dX11_fitsPulled_0 (by decide) ?_
  refine PW_istore_n (i := 3) dX11_fitsPulled_1 rfl (Nat.le_of_ble_eq_true rfl) rfl ?_
  exact lpX11_fitsPulled hd hP' hR' hV' hb hW hk c (vs (aV s) + 1) 0 (by omega) (by omega) _ _ rfl
set_option maxRecDepth 100000 in
set_option maxHeartbeats 4000000 in
theorem lpX11_fitsNods {G : GE} {d : Nat} {i : MI0} {S : MS} {X b : Nat} {g : Nat → Nat → Nat} {s : Ab} (hd : 15 ≤ d) (hP : CP S X g) (hR : CR i X g s) (hV : AV b s) (hb : b ≤ 100) (hW : CW i (X + 178) (vh (aV s)) 21) {a : Nat} (ha : a < hn (vh (aV s))) (c : Int32) : ∀ (n0 j : Nat), j ≤ vs (aV s) → vs (aV s) < j + n0 → ∀ (z4 : Value), allB (fnF (aV s) a c) j = true → PW G iX11_fitsNods d (Rt (b2i (fnB (aV s) a c)) (i, S)) 2 [.ref X, .int (nI a), .int c, .int (nI j), z4] [] (i, S) 0 0 := by
  have hP' := hP
  have hR' := hR
  have hV' := hV
  obtain ⟨⟨Gx, Gr, Gks, ⟨Gv, Gd, Gi0, Gi1⟩, Gi, Gk, Gt, Gc, Gp, Ge⟩, Pv0, Pv1, Pv2, Pv3⟩ := hP
  have Gh := Gv.2.2.2.2.2.2.2.2.2.2.1
  obtain ⟨Vr, Vi0, Vi1, Vk, Vx, Vt⟩ := hR
  have Vh := Vr.2.2.2.1
  obtain ⟨Av, Ai, At, Ab', Aa, Aw⟩ := hV
  have Ah := Av.1
  have Ah1 := Ah.1
  have Av1 := Av.2.1
  have Av2 := Av.2.2.1
  have Av3 := Av.2.2.2.1
  intro n0
  induction n0 with
  | zero => intro j h1 h2; exact absurd h2 (by omega)
  | succ n0 ih =>
    intro j hj1 hj2 z4 f0
    refine PW_iload_n (i := 3) dX11_fitsNods_2 rfl rfl ?_
    refine PW_aload_n (i := 0) dX11_fitsNods_3 rfl rfl ?_
    refine PW_getR dX11_fitsNods_4 fg11_32 (Gx) (Gr.1) ?_
    refine PW_giv (v := nI (vs (aV s))) dX11_fitsNods_7 fg11_216 (Gv.1) (Vr.2.1) ?_
    refine PW_icmp_ge 67 dX11_fitsNods_10 (by decide) (fun h10 => ?_) (fun h10 => ?_)
    · have h10 := jle h10
      have ej : j = vs (aV s) := by omega
      subst ej
      refine PW_iconst (v := 1) dX11_fitsNods_67 (by decide) ?_
      refine PW_ireturn rfl (rfl) dX11_fitsNods_68 (Nat.le_of_ble_eq_true rfl) (Nat.le_of_ble_eq_true rfl) ?_
      refine rt_i ?_
      have q : fnB (aV s) a c = true := f0
      rw [q]; rfl
    · have h10 := jnle h10
      have Fm := Av.2.2.2.2.1 j h10
      refine PW_aload_n (i := 0) dX11_fitsNods_13 rfl rfl ?_
      refine PW_getR dX11_fitsNods_14 fg11_32 (Gx) (Gr.1) ?_
      refine PW_getR dX11_fitsNods_17 fg11_284 (Gv.1) (Gv.2.2.2.2.2.2.2.1) ?_
      refine PW_iload_n (i := 3) dX11_fitsNods_20 rfl rfl ?_
      refine PW_ial (v := nI (vW (aV s) j)) dX11_fitsNods_21 (Gv.2.2.1) (by decide) (by omega) ((Vr.2.2.2.2.2.1 j h10).1) ?_
      refine PW_istore dX11_fitsNods_22 (Nat.le_of_ble_eq_true rfl) rfl ?_
      refine PW_aload_n (i := 0) dX11_fitsNods_24 rfl rfl ?_
      refine PW_getR dX11_fitsNods_25 fg11_57 (Gx) (Gr.2.2.2.2.2.1) ?_
      refine PW_getR dX11_fitsNods_28 fg11_191 (Gc.1) (Gc.2.2.2.2.1) ?_
      refine PW_iload dX11_fitsNods_31 rfl ?_
      refine PW_ial (v := iN (hp (pasN (vh (aV s)) (vW (aV s) j)))) dX11_fitsNods_33 (Gc.2.1) (by decide) (by omega) ((hW _ (by omega)).1) ?_
      refine PW_iload_n (i := 2) dX11_fitsNods_34 rfl rfl ?_
      refine PW_aload_n (i := 0) dX11_fitsNods_35 rfl rfl ?_
      refine PW_getR dX11_fitsNods_36 fg11_57 (Gx) (Gr.2.2.2.2.2.1) ?_
      refine PW_iload_n (i := 1) dX11_fitsNods_39 rfl rfl ?_
      refine PW_iload dX11_fitsNods_40 rfl ?_
      refine PW_callV dX11_fitsNods_42 moX3_timesSteered cv11_234 (Gc.1) (by omega) rfl rfl (Nat.le_of_ble_eq_true rfl) (Nat.le_of_ble_eq_true rfl) (Nat.le_of_ble_eq_true rfl) (spX3_times (d := d - 1) Gc (by omega) (by omega) Ah1 hW (by omega)) (fun v M1 hq => ?_)
      obtain ⟨rfl, rfl⟩ := hq
      refine PW_imul dX11_fitsNods_45 ?_
      refine PW_iadd dX11_fitsNods_46 ?_
      refine PW_aload_n (i := 0) dX11_fitsNods_47 rfl rfl ?_
      refine PW_getR dX11_fitsNods_48 fg11_32 (Gx) (Gr.1) ?_
      refine PW_getR dX11_fitsNods_51 fg11_287 (Gv.1) (Gv.2.2.2.2.2.2.2.2.1) ?_
      refine PW_iload_n (i := 3) dX11_fitsNods_54 rfl rfl ?_
      refine PW_ial (v := vP (aV s) j) dX11_fitsNods_55 (Gv.2.2.2.1) (by decide) (by omega) ((Vr.2.2.2.2.2.1 j h10).2) ?_
      refine PW_icmp_eq 61 dX11_fitsNods_56 (by decide) (fun h56 => ?_) (fun h56 => ?_)
      · refine PW_inc1 dX11_fitsNods_61 rfl (Nat.le_of_ble_eq_true rfl) rfl ?_
        refine PW_goto 2 dX11_fitsNods_64 (by decide) ?_
        exact ih (j + 1) (by omega) (by omega) _ (allB_s f0 (decide_eq_true h56))
      · refine PW_iconst (v := 0) dX11_fitsNods_59 (by decide) ?_
        refine PW_ireturn rfl (rfl) dX11_fitsNods_60 (Nat.le_of_ble_eq_true rfl) (Nat.le_of_ble_eq_true rfl) ?_
        refine rt_i ?_
        have q : fnB (aV s) a c = false := allB_f (j := j) (decide_eq_false h56) h10
        rw [q]; rfl
set_option maxRecDepth 100000 in
set_option maxHeartbeats 4000000 in
theorem spX11_fitsNods {G : GE} {d : Nat} {i : MI0} {S : MS} {X b : Nat} {g : Nat → Nat → Nat} {s : Ab} (hd : 15 ≤ d) (hP : CP S X g) (hR : CR i X g s) (hV : AV b s) (hb : b ≤ 100) (hW : CW i (X + 178) (vh (aV s)) 21) {a : Nat} (ha : a < hn (vh (aV s))) (c : Int32) : Mt G iX11_fitsNods d [.ref X, .int (nI a), .int c] (i, S) (Rt (b2i (fnB (aV s) a c)) (i, S)) := by
  have hP' := hP
  have hR' := hR
  have hV' := hV
  obtain ⟨⟨Gx, Gr, Gks, ⟨Gv, Gd, Gi0, Gi1⟩, Gi, Gk, Gt, Gc, Gp, Ge⟩, Pv0, Pv1, Pv2, Pv3⟩ := hP
  have Gh := Gv.2.2.2.2.2.2.2.2.2.2.1
  obtain ⟨Vr, Vi0, Vi1, Vk, Vx, Vt⟩ := hR
  have Vh := Vr.2.2.2.1
  obtain ⟨Av, Ai, At, Ab', Aa, Aw⟩ := hV
  have Ah := Av.1
  have Ah1 := Ah.1
  have Av1 := Av.2.1
  have Av2 := Av.2.2.1
  have Av3 := Av.2.2.2.1
  refine Mt_in 2 (ls := [.ref X, .int (nI a), .int c, .null, .null]) moX11_fitsNods (Nat.le_of_ble_eq_true rfl) rfl ?_
  refine PW_iconst (v := 0) dX11_fitsNods_0 (by decide) ?_
  refine PW_istore_n (i := 3) dX11_fitsNods_1 rfl (Nat.le_of_ble_eq_true rfl) rfl ?_
  exact lpX11_fitsNods hd hP' hR' hV' hb hW ha c (vs (aV s) + 1) 0 (by omega) (by omega) _ rfl
set_option maxRecDepth 100000 in
set_option maxHeartbeats 4000000 in
theorem lpX11_fittingNods {G : GE} {d : Nat} {i : MI0} {S : MS} {X b : Nat} {g : Nat → Nat → Nat} {s : Ab} (hd : 16 ≤ d) (hP : CP S X g) (hR : CR i X g s) (hV : AV b s) (hb : b ≤ 100) (hW : CW i (X + 178) (vh (aV s)) 21) {a : Nat} (ha : a < hn (vh (aV s))) : ∀ (n0 j : Nat), j ≤ 7 → 7 < j + n0 → PW G iX11_fittingNods d (Rt (nI (nodS (aV s) a)) (i, S)) 5 [.ref X, .int (nI a), .int (nI (bitsN (nodF (aV s) a) j)), .int (iN ((j : Int) - 3))] [] (i, S) 0 0 := by
  have hP' := hP
  have hR' := hR
  have hV' := hV
  obtain ⟨⟨Gx, Gr, Gks, ⟨Gv, Gd, Gi0, Gi1⟩, Gi, Gk, Gt, Gc, Gp, Ge⟩, Pv0, Pv1, Pv2, Pv3⟩ := hP
  have Gh := Gv.2.2.2.2.2.2.2.2.2.2.1
  obtain ⟨Vr, Vi0, Vi1, Vk, Vx, Vt⟩ := hR
  have Vh := Vr.2.2.2.1
  obtain ⟨Av, Ai, At, Ab', Aa, Aw⟩ := hV
  have Ah := Av.1
  have Ah1 := Ah.1
  have Av1 := Av.2.1
  have Av2 := Av.2.2.1
  have Av3 := Av.2.2.2.1
  intro n0
  induction n0 with
  | zero => intro j h1 h2; exact absurd h2 (by omega)
  | succ n0 ih =>
    intro j hj1 hj2 
    refine PW_iload_n (i := 3) dX11_fittingNods_5 rfl rfl ?_
    refine PW_iconst (v := 3) dX11_fittingNods_6 (by decide) ?_
    refine PW_icmp_gt 46 dX11_fittingNods_7 (by decide) (fun h7 => ?_) (fun h7 => ?_)
    · have h7 := (iN_lt (x := 3) (y := (j : Int) - 3) (by omega) (by omega) (by omega) (by omega)).mp h7
      have ej : j = 7 := by omega
      subst ej
      refine PW_iload_n (i := 2) dX11_fittingNods_46 rfl rfl ?_
      refine PW_ireturn rfl (rfl) dX11_fittingNods_47 (Nat.le_of_ble_eq_true rfl) (Nat.le_of_ble_eq_true rfl) ?_
      exact rt_i rfl
    · have h7 : ¬ 3 < (j : Int) - 3 := fun z => h7 ((iN_lt (x := 3) (by omega) (by omega) (by omega) (by omega)).mpr z)
      refine PW_aload_n (i := 0) dX11_fittingNods_10 rfl rfl ?_
      refine PW_iload_n (i := 1) dX11_fittingNods_11 rfl rfl ?_
      refine PW_iload_n (i := 3) dX11_fittingNods_12 rfl rfl ?_
      refine PW_aload_n (i := 0) dX11_fittingNods_13 rfl rfl ?_
      refine PW_getR dX11_fittingNods_14 fg11_32 (Gx) (Gr.1) ?_
      refine PW_getR dX11_fittingNods_17 fg11_82 (Gv.1) (Gv.2.2.2.2.2.1) ?_
      refine PW_getR dX11_fittingNods_20 fg11_177 (Gh.1) (Gh.2.2.2.2.2.2.2) ?_
      refine PW_iload_n (i := 1) dX11_fittingNods_23 rfl rfl ?_
      refine PW_ial (v := iN (hN (vh (aV s)) a)) dX11_fittingNods_24 (Gh.2.2.2.1) (by decide) (by omega) ((Vh.2.2.2.2 a ha).2.2) ?_
      refine PW_isub dX11_fittingNods_25 ?_
      refine PW_eqi (iN_sub _ _) ?_
      refine PW_callV dX11_fittingNods_26 moX11_fitsNods cv11_281 (Gx) (by omega) rfl rfl (Nat.le_of_ble_eq_true rfl) (Nat.le_of_ble_eq_true rfl) (Nat.le_of_ble_eq_true rfl) (spX11_fitsNods (d := d - 1) (by omega) hP' hR' hV' hb hW ha _) (fun v M1 hq => ?_)
      obtain ⟨rfl, rfl⟩ := hq
      refine PW_if_eq 40 dX11_fittingNods_29 (by decide) (fun h29 => ?_) (fun h29 => ?_)
      · have h29 := b2i_0.mp h29
        refine PW_iinc dX11_fittingNods_40 rfl (Nat.le_of_ble_eq_true rfl) rfl ?_
        refine PW_goto 5 dX11_fittingNods_43 (by decide) ?_
        have q := ih (j + 1) (by omega) (by omega)
        have e1 : iN ((j : Int) - 3) + Int32.ofInt 1 = iN (((j + 1 : Nat) : Int) - 3) := by rw [show Int32.ofInt 1 = iN 1 from rfl, iN_add]; congr 1; omega
        rw [← e1] at q
        first | (rw [bitsN_t (n := j) h29] at q; exact q) | (rw [bitsN_f (n := j) (by unfold nodF; rw [h29]; decide)] at q; exact q)
      · have h29 := b2i_n.mp h29
        refine PW_iload_n (i := 2) dX11_fittingNods_32 rfl rfl ?_
        refine PW_iconst (v := 1) dX11_fittingNods_33 (by decide) ?_
        refine PW_iload_n (i := 3) dX11_fittingNods_34 rfl rfl ?_
        refine PW_iconst (v := 3) dX11_fittingNods_35 (by decide) ?_
        refine PW_iadd dX11_fittingNods_36 ?_
        refine PW_eqi (show _ = nI j by rw [show (3 : Int32) = iN 3 from rfl, iN_add, nI_iN]; congr 1; omega) ?_
        refine PW_ishl dX11_fittingNods_37 ?_
        refine PW_ior dX11_fittingNods_38 ?_
        refine PW_eqi (or_bit (bitsN_lt _ _) (by omega)) ?_
        refine PW_istore_n (i := 2) dX11_fittingNods_39 rfl (Nat.le_of_ble_eq_true rfl) rfl ?_
        refine PW_iinc dX11_fittingNods_40 rfl (Nat.le_of_ble_eq_true rfl) rfl ?_
        refine PW_goto 5 dX11_fittingNods_43 (by decide) ?_
        have q := ih (j + 1) (by omega) (by omega)
        have e1 : iN ((j : Int) - 3) + Int32.ofInt 1 = iN (((j + 1 : Nat) : Int) - 3) := by rw [show Int32.ofInt 1 = iN 1 from rfl, iN_add]; congr 1; omega
        rw [← e1] at q
        first | (rw [bitsN_t (n := j) h29] at q; exact q) | (rw [bitsN_f (n := j) (by unfold nodF; rw [h29]; decide)] at q; exact q)
set_option maxRecDepth 100000 in
set_option maxHeartbeats 4000000 in
theorem spX11_fittingNods {G : GE} {d : Nat} {i : MI0} {S : MS} {X b : Nat} {g : Nat → Nat → Nat} {s : Ab} (hd : 16 ≤ d) (hP : CP S X g) (hR : CR i X g s) (hV : AV b s) (hb : b ≤ 100) (hW : CW i (X + 178) (vh (aV s)) 21) {a : Nat} (ha : a < hn (vh (aV s))) : Mt G iX11_fittingNods d [.ref X, .int (nI a)] (i, S) (Rt (nI (nodS (aV s) a)) (i, S)) := by
  have hP' := hP
  have hR' := hR
  have hV' := hV
  obtain ⟨⟨Gx, Gr, Gks, ⟨Gv, Gd, Gi0, Gi1⟩, Gi, Gk, Gt, Gc, Gp, Ge⟩, Pv0, Pv1, Pv2, Pv3⟩ := hP
  have Gh := Gv.2.2.2.2.2.2.2.2.2.2.1
  obtain ⟨Vr, Vi0, Vi1, Vk, Vx, Vt⟩ := hR
  have Vh := Vr.2.2.2.1
  obtain ⟨Av, Ai, At, Ab', Aa, Aw⟩ := hV
  have Ah := Av.1
  have Ah1 := Ah.1
  have Av1 := Av.2.1
  have Av2 := Av.2.2.1
  have Av3 := Av.2.2.2.1
  refine Mt_in 2 (ls := [.ref X, .int (nI a), .null, .null]) moX11_fittingNods (Nat.le_of_ble_eq_true rfl) rfl ?_
  refine PW_iconst (v := 0) dX11_fittingNods_0 (by decide) ?_
  refine PW_istore_n (i := 2) dX11_fittingNods_1 rfl (Nat.le_of_ble_eq_true rfl) rfl ?_
  refine PW_bipush (v := -3) dX11_fittingNods_2 (by decide) ?_
  refine PW_istore_n (i := 3) dX11_fittingNods_4 rfl (Nat.le_of_ble_eq_true rfl) rfl ?_
  exact lpX11_fittingNods hd hP' hR' hV' hb hW ha 8 0 (by omega) (by omega)
set_option maxRecDepth 100000 in
set_option maxHeartbeats 4000000 in
theorem spX11_nod {G : GE} {d : Nat} {i : MI0} {S : MS} {X b : Nat} {g : Nat → Nat → Nat} {s : Ab} (hd : 20 ≤ d) (hP : CP S X g) (hR : CR i X g s) (hV : AV b s) (hb : b ≤ 100) (k : Int32) : Mt G iX11_nod d [.ref X, .int k] (i, S) (Op X (i, S) (.int (oNod s k).1) (oNod s k).2) := by
  have hP' := hP
  have hR' := hR
  have hV' := hV
  obtain ⟨⟨Gx, Gr, Gks, ⟨Gv, Gd, Gi0, Gi1⟩, Gi, Gk, Gt, Gc, Gp, Ge⟩, Pv0, Pv1, Pv2, Pv3⟩ := hP
  have Gh := Gv.2.2.2.2.2.2.2.2.2.2.1
  obtain ⟨Vr, Vi0, Vi1, Vk, Vx, Vt⟩ := hR
  have Vh := Vr.2.2.2.1
  obtain ⟨Av, Ai, At, Ab', Aa, Aw⟩ := hV
  have Ah := Av.1
  have Ah1 := Ah.1
  have Av1 := Av.2.1
  have Av2 := Av.2.2.1
  have Av3 := Av.2.2.2.1
  refine Mt_in 0 (ls := [.ref X, .int k]) moX11_nod (Nat.le_of_ble_eq_true rfl) rfl ?_
  refine PW_aload_n (i := 0) dX11_nod_0 rfl rfl ?_
  refine PW_iload_n (i := 1) dX11_nod_1 rfl rfl ?_
  refine PW_callV dX11_nod_2 moX11_isHand cv11_144 (Gx) (by omega) rfl rfl (Nat.le_of_ble_eq_true rfl) (Nat.le_of_ble_eq_true rfl) (Nat.le_of_ble_eq_true rfl) (spX11_isHand (d := d - 1) (by omega) hP' hR' hV' hb _) (fun v M1 hq => ?_)
  obtain ⟨rfl, rfl⟩ := hq
  refine PW_if_ne 15 dX11_nod_5 (by decide) (fun h5 => ?_) (fun h5 => ?_)
  · have h5 := b1_1.mp h5
    obtain ⟨j, hj, rfl⟩ := isH_of hV' h5
    have ek : (nI j).toNatClampNeg = j := cln (by omega)
    refine PW_aload_n (i := 0) dX11_nod_15 rfl rfl ?_
    refine PW_getR dX11_nod_16 fg11_57 (Gx) (Gr.2.2.2.2.2.1) ?_
    refine PW_aload_n (i := 0) dX11_nod_19 rfl rfl ?_
    refine PW_getR dX11_nod_20 fg11_32 (Gx) (Gr.1) ?_
    refine PW_getR dX11_nod_23 fg11_82 (Gv.1) (Gv.2.2.2.2.2.1) ?_
    refine PW_bipush (v := 20) dX11_nod_26 (by decide) ?_
    refine PW_callV dX11_nod_28 moX3_run cv11_187 (Gc.1) (by omega) rfl rfl (Nat.le_of_ble_eq_true rfl) (Nat.le_of_ble_eq_true rfl) (Nat.le_of_ble_eq_true rfl) (spX3_run (d := d - 1) (by omega) Gks Gc Ah (by omega) (m := 20) (by omega) Gh Vh (by omega)) (fun v M1 hq => ?_)
    obtain ⟨rfl, i1, rfl, w1, w2⟩ := hq
    have hR1 := hR'.kp hP' hV' (fun q h1 h2 h3 h4 => w2 q (by omega))
    obtain ⟨Vr, Vi0, Vi1, Vk, Vx, Vt⟩ := hR1
    have hR1 := hR'.kp hP' hV' (fun q h1 h2 h3 h4 => w2 q (by omega))
    have Vh := Vr.2.2.2.1
    refine PW_aload_n (i := 0) dX11_nod_31 rfl rfl ?_
    refine PW_iload_n (i := 1) dX11_nod_32 rfl rfl ?_
    refine PW_callV dX11_nod_33 moX11_fittingNods cv11_223 (Gx) (by omega) rfl rfl (Nat.le_of_ble_eq_true rfl) (Nat.le_of_ble_eq_true rfl) (Nat.le_of_ble_eq_true rfl) (spX11_fittingNods (d := d - 1) (by omega) hP' hR1 hV' hb w1 hj) (fun v M1 hq => ?_)
    obtain ⟨rfl, rfl⟩ := hq
    refine PW_ireturn rfl (rfl) dX11_nod_36 (Nat.le_of_ble_eq_true rfl) (Nat.le_of_ble_eq_true rfl) ?_
    exact Op_i (by unfold oNod; rw [if_pos h5, ek]) hP' hR1 (fun q hq => w2 q (by omega))
  · have h5 := b1_0.mp h5
    refine PW_aload_n (i := 0) dX11_nod_8 rfl rfl ?_
    refine PW_bipush (v := -2) dX11_nod_9 (by decide) ?_
    refine PW_callV dX11_nod_11 moX11_refuseBad cv11_95 (Gx) (by omega) rfl rfl (Nat.le_of_ble_eq_true rfl) (Nat.le_of_ble_eq_true rfl) (Nat.le_of_ble_eq_true rfl) (spX11_refuseBad (d := d - 1) hP' hR' hV' _) (fun v M1 hq => ?_)
    obtain ⟨rfl, i1, rfl, c1, c2⟩ := hq
    refine PW_ireturn rfl (rfl) dX11_nod_14 (Nat.le_of_ble_eq_true rfl) (Nat.le_of_ble_eq_true rfl) ?_
    exact Op_i (by unfold oNod; rw [if_neg h5]) hP' c1 (fun q hq => c2 q (by omega))
set_option maxRecDepth 100000 in
set_option maxHeartbeats 4000000 in
theorem lpX11_look {G : GE} {d : Nat} {i : MI0} {S : MS} {X b : Nat} {g : Nat → Nat → Nat} {s : Ab} (hd : 20 ≤ d) (hP : CP S X g) (hR : CR i X g s) (hV : AV b s) (hb : b ≤ 100) (hW : CW i (X + 178) (vh (aV s)) 21) {a n : Nat} (ha : a < hn (vh (aV s))) (hn7 : n ≤ 7) : ∀ (n0 j : Nat), j ≤ 20 → 20 < j + n0 → ∀ (z6 : Value), PW G iX11_look d (Rt (nI (lkN (vh (aV s)) a n 20).1) (i, S)) 54 [.ref X, .int (nI a), .int (nI n), .int (nI (lkN (vh (aV s)) a n j).1), .int (nI (lkN (vh (aV s)) a n j).2), .int (nI (j + 1)), z6] [] (i, S) 0 0 := by
  have hP' := hP
  have hR' := hR
  have hV' := hV
  obtain ⟨⟨Gx, Gr, Gks, ⟨Gv, Gd, Gi0, Gi1⟩, Gi, Gk, Gt, Gc, Gp, Ge⟩, Pv0, Pv1, Pv2, Pv3⟩ := hP
  have Gh := Gv.2.2.2.2.2.2.2.2.2.2.1
  obtain ⟨Vr, Vi0, Vi1, Vk, Vx, Vt⟩ := hR
  have Vh := Vr.2.2.2.1
  obtain ⟨Av, Ai, At, Ab', Aa, Aw⟩ := hV
  have Ah := Av.1
  have Ah1 := Ah.1
  have Av1 := Av.2.1
  have Av2 := Av.2.2.1
  have Av3 := Av.2.2.2.1
  intro n0
  induction n0 with
  | zero => intro j h1 h2; exact absurd h2 (by omega)
  | succ n0 ih =>
    intro j hj1 hj2 z6
    refine PW_iload dX11_look_54 rfl ?_
    refine PW_bipush (v := 20) dX11_look_56 (by decide) ?_
    have Fl := lkN_le (vh (aV s)) a n j
    have Ft := tst_le (vh (aV s)) a (j + 1)
    refine PW_icmp_gt 101 dX11_look_58 (by decide) (fun h58 => ?_) (fun h58 => ?_)
    · have h58 := jlt (a := 20) h58
      have ej : j = 20 := by omega
      subst ej
      refine PW_iload_n (i := 3) dX11_look_101 rfl rfl ?_
      refine PW_ireturn rfl (rfl) dX11_look_102 (Nat.le_of_ble_eq_true rfl) (Nat.le_of_ble_eq_true rfl) ?_
      exact rt_i rfl
    · have h58 := jnlt (a := 20) h58
      refine PW_aload_n (i := 0) dX11_look_61 rfl rfl ?_
      refine PW_getR dX11_look_62 fg11_57 (Gx) (Gr.2.2.2.2.2.1) ?_
      refine PW_iload_n (i := 1) dX11_look_65 rfl rfl ?_
      refine PW_iload dX11_look_66 rfl ?_
      refine PW_callV dX11_look_68 moX3_timesSteered cv11_234 (Gc.1) (by omega) rfl rfl (Nat.le_of_ble_eq_true rfl) (Nat.le_of_ble_eq_true rfl) (Nat.le_of_ble_eq_true rfl) (spX3_times (d := d - 1) (m := j + 1) Gc (by omega) (by omega) Ah1 hW (by omega)) (fun v M1 hq => ?_)
      obtain ⟨rfl, rfl⟩ := hq
      refine PW_if_le 78 dX11_look_71 (by decide) (fun h71 => ?_) (fun h71 => ?_)
      · have h71 : ¬ 0 < tst (vh (aV s)) a (j + 1) := by have := jle (b := 0) h71; omega
        refine PW_iload_n (i := 2) dX11_look_78 rfl rfl ?_
        first | refine PW_eqi (show (1 : Int32) = nI (alk (vh (aV s)) a n (j + 1)) by unfold alk; rw [if_pos h71]; rfl) ?_ | refine PW_eqi (show nI n = nI (alk (vh (aV s)) a n (j + 1)) by unfold alk; rw [if_neg h71]) ?_
        have Fa : alk (vh (aV s)) a n (j + 1) ≤ 7 := by unfold alk; split <;> omega
        refine PW_istore dX11_look_79 (Nat.le_of_ble_eq_true rfl) rfl ?_
        refine PW_iload dX11_look_81 rfl ?_
        refine PW_iload dX11_look_83 rfl ?_
        refine PW_icmp_ge 95 dX11_look_85 (by decide) (fun h85 => ?_) (fun h85 => ?_)
        · have h85 := jle h85
          refine PW_inc1 dX11_look_95 rfl (Nat.le_of_ble_eq_true rfl) rfl ?_
          refine PW_goto 54 dX11_look_98 (by decide) ?_
          have q := ih (j + 1) (by omega) (by omega) (.int (nI (alk (vh (aV s)) a n (j + 1))))
          first | (rw [lkN_t (m := j) h85] at q; exact q) | (rw [lkN_f (m := j) (by omega)] at q; exact q)
        · have h85 := jnle h85
          refine PW_iload dX11_look_88 rfl ?_
          refine PW_istore dX11_look_90 (Nat.le_of_ble_eq_true rfl) rfl ?_
          refine PW_iload dX11_look_92 rfl ?_
          refine PW_istore_n (i := 3) dX11_look_94 rfl (Nat.le_of_ble_eq_true rfl) rfl ?_
          refine PW_inc1 dX11_look_95 rfl (Nat.le_of_ble_eq_true rfl) rfl ?_
          refine PW_goto 54 dX11_look_98 (by decide) ?_
          have q := ih (j + 1) (by omega) (by omega) (.int (nI (alk (vh (aV s)) a n (j + 1))))
          first | (rw [lkN_t (m := j) h85] at q; exact q) | (rw [lkN_f (m := j) (by omega)] at q; exact q)
      · have h71 : 0 < tst (vh (aV s)) a (j + 1) := by have := jnle (b := 0) h71; omega
        refine PW_iconst (v := 1) dX11_look_74 (by decide) ?_
        refine PW_goto 79 dX11_look_75 (by decide) ?_
        first | refine PW_eqi (show (1 : Int32) = nI (alk (vh (aV s)) a n (j + 1)) by unfold alk; rw [if_pos h71]; rfl) ?_ | refine PW_eqi (show nI n = nI (alk (vh (aV s)) a n (j + 1)) by unfold alk; rw [if_neg h71]) ?_
        have Fa : alk (vh (aV s)) a n (j + 1) ≤ 7 := by unfold alk; split <;> omega
        refine PW_istore dX11_look_79 (Nat.le_of_ble_eq_true rfl) rfl ?_
        refine PW_iload dX11_look_81 rfl ?_
        refine PW_iload dX11_look_83 rfl ?_
        refine PW_icmp_ge 95 dX11_look_85 (by decide) (fun h85 => ?_) (fun h85 => ?_)
        · have h85 := jle h85
          refine PW_inc1 dX11_look_95 rfl (Nat.le_of_ble_eq_true rfl) rfl ?_
          refine PW_goto 54 dX11_look_98 (by decide) ?_
          have q := ih (j + 1) (by omega) (by omega) (.int (nI (alk (vh (aV s)) a n (j + 1))))
          first | (rw [lkN_t (m := j) h85] at q; exact q) | (rw [lkN_f (m := j) (by omega)] at q; exact q)
        · have h85 := jnle h85
          refine PW_iload dX11_look_88 rfl ?_
          refine PW_istore dX11_look_90 (Nat.le_of_ble_eq_true rfl) rfl ?_
          refine PW_iload dX11_look_92 rfl ?_
          refine PW_istore_n (i := 3) dX11_look_94 rfl (Nat.le_of_ble_eq_true rfl) rfl ?_
          refine PW_inc1 dX11_look_95 rfl (Nat.le_of_ble_eq_true rfl) rfl ?_
          refine PW_goto 54 dX11_look_98 (by decide) ?_
          have q := ih (j + 1) (by omega) (by omega) (.int (nI (alk (vh (aV s)) a n (j + 1))))
          first | (rw [lkN_t (m := j) h85] at q; exact q) | (rw [lkN_f (m := j) (by omega)] at q; exact q)
set_option maxRecDepth 100000 in
set_option maxHeartbeats 4000000 in
theorem spX11_look {G : GE} {d : Nat} {i : MI0} {S : MS} {X b : Nat} {g : Nat → Nat → Nat} {s : Ab} (hd : 20 ≤ d) (hP : CP S X g) (hR : CR i X g s) (hV : AV b s) (hb : b ≤ 100) (k : Int32) : Mt G iX11_look d [.ref X, .int k] (i, S) (Op X (i, S) (.int (oLook s k).1) (oLook s k).2) := by
  have hP' := hP
  have hR' := hR
  have hV' := hV
  obtain ⟨⟨Gx, Gr, Gks, ⟨Gv, Gd, Gi0, Gi1⟩, Gi, Gk, Gt, Gc, Gp, Ge⟩, Pv0, Pv1, Pv2, Pv3⟩ := hP
  have Gh := Gv.2.2.2.2.2.2.2.2.2.2.1
  obtain ⟨Vr, Vi0, Vi1, Vk, Vx, Vt⟩ := hR
  have Vh := Vr.2.2.2.1
  obtain ⟨Av, Ai, At, Ab', Aa, Aw⟩ := hV
  have Ah := Av.1
  have Ah1 := Ah.1
  have Av1 := Av.2.1
  have Av2 := Av.2.2.1
  have Av3 := Av.2.2.2.1
  refine Mt_in 5 (ls := [.ref X, .int k, .null, .null, .null, .null, .null]) moX11_look (Nat.le_of_ble_eq_true rfl) rfl ?_
  refine PW_aload_n (i := 0) dX11_look_0 rfl rfl ?_
  refine PW_iload_n (i := 1) dX11_look_1 rfl rfl ?_
  refine PW_callV dX11_look_2 moX11_isHand cv11_144 (Gx) (by omega) rfl rfl (Nat.le_of_ble_eq_true rfl) (Nat.le_of_ble_eq_true rfl) (Nat.le_of_ble_eq_true rfl) (spX11_isHand (d := d - 1) (by omega) hP' hR' hV' hb _) (fun v M1 hq => ?_)
  obtain ⟨rfl, rfl⟩ := hq
  refine PW_if_ne 15 dX11_look_5 (by decide) (fun h5 => ?_) (fun h5 => ?_)
  · have h5 := b1_1.mp h5
    obtain ⟨j, hj, rfl⟩ := isH_of hV' h5
    have ek : (nI j).toNatClampNeg = j := cln (by omega)
    refine PW_aload_n (i := 0) dX11_look_15 rfl rfl ?_
    refine PW_getR dX11_look_16 fg11_57 (Gx) (Gr.2.2.2.2.2.1) ?_
    refine PW_aload_n (i := 0) dX11_look_19 rfl rfl ?_
    refine PW_getR dX11_look_20 fg11_32 (Gx) (Gr.1) ?_
    refine PW_getR dX11_look_23 fg11_82 (Gv.1) (Gv.2.2.2.2.2.1) ?_
    refine PW_bipush (v := 20) dX11_look_26 (by decide) ?_
    refine PW_callV dX11_look_28 moX3_run cv11_187 (Gc.1) (by omega) rfl rfl (Nat.le_of_ble_eq_true rfl) (Nat.le_of_ble_eq_true rfl) (Nat.le_of_ble_eq_true rfl) (spX3_run (d := d - 1) (by omega) Gks Gc Ah (by omega) (m := 20) (by omega) Gh Vh (by omega)) (fun v M1 hq => ?_)
    obtain ⟨rfl, i1, rfl, w1, w2⟩ := hq
    have hR1 := hR'.kp hP' hV' (fun q h1 h2 h3 h4 => w2 q (by omega))
    obtain ⟨Vr, Vi0, Vi1, Vk, Vx, Vt⟩ := hR1
    have hR1 := hR'.kp hP' hV' (fun q h1 h2 h3 h4 => w2 q (by omega))
    have Vh := Vr.2.2.2.1
    refine PW_aload_n (i := 0) dX11_look_31 rfl rfl ?_
    refine PW_iload_n (i := 1) dX11_look_32 rfl rfl ?_
    refine PW_callV dX11_look_33 moX11_fittingNods cv11_223 (Gx) (by omega) rfl rfl (Nat.le_of_ble_eq_true rfl) (Nat.le_of_ble_eq_true rfl) (Nat.le_of_ble_eq_true rfl) (spX11_fittingNods (d := d - 1) (by omega) hP' hR1 hV' hb w1 hj) (fun v M1 hq => ?_)
    obtain ⟨rfl, rfl⟩ := hq
    refine PW_callS dX11_look_36 moJ6_bitCount_0f7a4 cs11_229 (by omega) rfl rfl (Nat.le_of_ble_eq_true rfl) (Nat.le_of_ble_eq_true rfl) (Nat.le_of_ble_eq_true rfl) (spJ6_bitCount (d := d - 1) (n := nodS (aV s) j) (bitsN_lt _ 7)) (fun v M1 hq => ?_)
    obtain ⟨rfl, rfl⟩ := hq
    refine PW_istore_n (i := 2) dX11_look_39 rfl (Nat.le_of_ble_eq_true rfl) rfl ?_
    refine PW_iload_n (i := 2) dX11_look_40 rfl rfl ?_
    have Fp := pop_le (nodS (aV s) j)
    refine PW_if_ne 46 dX11_look_41 (by decide) (fun h41 => ?_) (fun h41 => ?_)
    · have h41 : ¬ pop (nodS (aV s) j) = 0 := fun q => h41 (by rw [q]; rfl)
      refine PW_iconst (v := 0) dX11_look_46 (by decide) ?_
      refine PW_istore_n (i := 3) dX11_look_47 rfl (Nat.le_of_ble_eq_true rfl) rfl ?_
      refine PW_iload_n (i := 2) dX11_look_48 rfl rfl ?_
      refine PW_istore dX11_look_49 (Nat.le_of_ble_eq_true rfl) rfl ?_
      refine PW_iconst (v := 1) dX11_look_51 (by decide) ?_
      refine PW_istore dX11_look_52 (Nat.le_of_ble_eq_true rfl) rfl ?_
      refine PW_mono (fun v M' hq => ?_) (lpX11_look hd hP' hR1 hV' hb w1 hj Fp 21 0 (by omega) (by omega) _)
      obtain ⟨rfl, rfl⟩ := hq
      exact Op_i (by unfold oLook; rw [if_pos h5, ek, if_neg h41]) hP' hR1 (fun q hq => w2 q (by omega))
    · have h41 := jeq (b := 0) h41
      refine PW_iconst (v := -1) dX11_look_44 (by decide) ?_
      refine PW_ireturn rfl (rfl) dX11_look_45 (Nat.le_of_ble_eq_true rfl) (Nat.le_of_ble_eq_true rfl) ?_
      exact Op_i (by unfold oLook; rw [if_pos h5, ek, if_pos h41]) hP' hR1 (fun q hq => w2 q (by omega))
  · have h5 := b1_0.mp h5
    refine PW_aload_n (i := 0) dX11_look_8 rfl rfl ?_
    refine PW_bipush (v := -2) dX11_look_9 (by decide) ?_
    refine PW_callV dX11_look_11 moX11_refuseBad cv11_95 (Gx) (by omega) rfl rfl (Nat.le_of_ble_eq_true rfl) (Nat.le_of_ble_eq_true rfl) (Nat.le_of_ble_eq_true rfl) (spX11_refuseBad (d := d - 1) hP' hR' hV' _) (fun v M1 hq => ?_)
    obtain ⟨rfl, i1, rfl, c1, c2⟩ := hq
    refine PW_ireturn rfl (rfl) dX11_look_14 (Nat.le_of_ble_eq_true rfl) (Nat.le_of_ble_eq_true rfl) ?_
    exact Op_i (by unfold oLook; rw [if_neg h5]) hP' c1 (fun q hq => c2 q (by omega))
set_option maxRecDepth 100000 in
set_option maxHeartbeats 4000000 in
theorem lpX11_pulled {G : GE} {d : Nat} {i : MI0} {S : MS} {X b : Nat} {g : Nat → Nat → Nat} {s : Ab} (hd : 20 ≤ d) (hP : CP S X g) (hR : CR i X g s) (hV : AV b s) (hb : b ≤ 100) (hW : CW i (X + 178) (vh (aV s)) 21) (c : Int32) : ∀ (n0 j : Nat), j ≤ 20 → 20 < j + n0 → PW G iX11_pulled d (Rt (nI (bitsN (fun k => fpB (aV s) (vh (aV s)) k c) 20)) (i, S)) 38 [.ref X, .int c, .int (nI (bitsN (fun k => fpB (aV s) (vh (aV s)) k c) j)), .int (nI j)] [] (i, S) 0 0 := by
  have hP' := hP
  have hR' := hR
  have hV' := hV
  obtain ⟨⟨Gx, Gr, Gks, ⟨Gv, Gd, Gi0, Gi1⟩, Gi, Gk, Gt, Gc, Gp, Ge⟩, Pv0, Pv1, Pv2, Pv3⟩ := hP
  have Gh := Gv.2.2.2.2.2.2.2.2.2.2.1
  obtain ⟨Vr, Vi0, Vi1, Vk, Vx, Vt⟩ := hR
  have Vh := Vr.2.2.2.1
  obtain ⟨Av, Ai, At, Ab', Aa, Aw⟩ := hV
  have Ah := Av.1
  have Ah1 := Ah.1
  have Av1 := Av.2.1
  have Av2 := Av.2.2.1
  have Av3 := Av.2.2.2.1
  intro n0
  induction n0 with
  | zero => intro j h1 h2; exact absurd h2 (by omega)
  | succ n0 ih =>
    intro j hj1 hj2 
    refine PW_iload_n (i := 3) dX11_pulled_38 rfl rfl ?_
    refine PW_bipush (v := 20) dX11_pulled_39 (by decide) ?_
    refine PW_icmp_ge 65 dX11_pulled_41 (by decide) (fun h41 => ?_) (fun h41 => ?_)
    · have h41 := jle (a := 20) h41
      have ej : j = 20 := by omega
      subst ej
      refine PW_iload_n (i := 2) dX11_pulled_65 rfl rfl ?_
      refine PW_ireturn rfl (rfl) dX11_pulled_66 (Nat.le_of_ble_eq_true rfl) (Nat.le_of_ble_eq_true rfl) ?_
      exact rt_i rfl
    · have h41 := jnle (a := 20) h41
      refine PW_aload_n (i := 0) dX11_pulled_44 rfl rfl ?_
      refine PW_iload_n (i := 3) dX11_pulled_45 rfl rfl ?_
      refine PW_iload_n (i := 1) dX11_pulled_46 rfl rfl ?_
      refine PW_callV dX11_pulled_47 moX11_fitsPulled cv11_226 (Gx) (by omega) rfl rfl (Nat.le_of_ble_eq_true rfl) (Nat.le_of_ble_eq_true rfl) (Nat.le_of_ble_eq_true rfl) (spX11_fitsPulled (d := d - 1) (by omega) hP' hR' hV' hb hW (k := j) (by omega) c) (fun v M1 hq => ?_)
      obtain ⟨rfl, rfl⟩ := hq
      refine PW_if_eq 59 dX11_pulled_50 (by decide) (fun h50 => ?_) (fun h50 => ?_)
      · have h50 := b2i_0.mp h50
        refine PW_inc1 dX11_pulled_59 rfl (Nat.le_of_ble_eq_true rfl) rfl ?_
        refine PW_goto 38 dX11_pulled_62 (by decide) ?_
        have q := ih (j + 1) (by omega) (by omega)
        first | (rw [bitsN_t (n := j) h50] at q; exact q) | (rw [bitsN_f (n := j) (by rw [h50]; decide)] at q; exact q)
      · have h50 := b2i_n.mp h50
        refine PW_iload_n (i := 2) dX11_pulled_53 rfl rfl ?_
        refine PW_iconst (v := 1) dX11_pulled_54 (by decide) ?_
        refine PW_iload_n (i := 3) dX11_pulled_55 rfl rfl ?_
        refine PW_ishl dX11_pulled_56 ?_
        refine PW_ior dX11_pulled_57 ?_
        refine PW_eqi (or_bit (bitsN_lt _ _) (by omega)) ?_
        refine PW_istore_n (i := 2) dX11_pulled_58 rfl (Nat.le_of_ble_eq_true rfl) rfl ?_
        refine PW_inc1 dX11_pulled_59 rfl (Nat.le_of_ble_eq_true rfl) rfl ?_
        refine PW_goto 38 dX11_pulled_62 (by decide) ?_
        have q := ih (j + 1) (by omega) (by omega)
        first | (rw [bitsN_t (n := j) h50] at q; exact q) | (rw [bitsN_f (n := j) (by rw [h50]; decide)] at q; exact q)
set_option maxRecDepth 100000 in
set_option maxHeartbeats 4000000 in
theorem spX11_pulled {G : GE} {d : Nat} {i : MI0} {S : MS} {X b : Nat} {g : Nat → Nat → Nat} {s : Ab} (hd : 20 ≤ d) (hP : CP S X g) (hR : CR i X g s) (hV : AV b s) (hb : b ≤ 100) (c : Int32) : Mt G iX11_pulled d [.ref X, .int c] (i, S) (Op X (i, S) (.int (oPulled s c).1) (oPulled s c).2) := by
  have hP' := hP
  have hR' := hR
  have hV' := hV
  obtain ⟨⟨Gx, Gr, Gks, ⟨Gv, Gd, Gi0, Gi1⟩, Gi, Gk, Gt, Gc, Gp, Ge⟩, Pv0, Pv1, Pv2, Pv3⟩ := hP
  have Gh := Gv.2.2.2.2.2.2.2.2.2.2.1
  obtain ⟨Vr, Vi0, Vi1, Vk, Vx, Vt⟩ := hR
  have Vh := Vr.2.2.2.1
  obtain ⟨Av, Ai, At, Ab', Aa, Aw⟩ := hV
  have Ah := Av.1
  have Ah1 := Ah.1
  have Av1 := Av.2.1
  have Av2 := Av.2.2.1
  have Av3 := Av.2.2.2.1
  refine Mt_in 2 (ls := [.ref X, .int c, .null, .null]) moX11_pulled (Nat.le_of_ble_eq_true rfl) rfl ?_
  refine PW_iload_n (i := 1) dX11_pulled_0 rfl rfl ?_
  refine PW_bipush (v := -9) dX11_pulled_1 (by decide) ?_
  refine PW_bipush (v := 9) dX11_pulled_3 (by decide) ?_
  refine PW_callS dX11_pulled_5 moX11_isWithin cs11_116 (by omega) rfl rfl (Nat.le_of_ble_eq_true rfl) (Nat.le_of_ble_eq_true rfl) (Nat.le_of_ble_eq_true rfl) (spX11_isWithin (d := d - 1) _ _ _) (fun v M1 hq => ?_)
  obtain ⟨rfl, rfl⟩ := hq
  refine PW_if_ne 18 dX11_pulled_8 (by decide) (fun h8 => ?_) (fun h8 => ?_)
  · have h8 := b1_1.mp h8
    refine PW_aload_n (i := 0) dX11_pulled_18 rfl rfl ?_
    refine PW_getR dX11_pulled_19 fg11_57 (Gx) (Gr.2.2.2.2.2.1) ?_
    refine PW_aload_n (i := 0) dX11_pulled_22 rfl rfl ?_
    refine PW_getR dX11_pulled_23 fg11_32 (Gx) (Gr.1) ?_
    refine PW_getR dX11_pulled_26 fg11_82 (Gv.1) (Gv.2.2.2.2.2.1) ?_
    refine PW_bipush (v := 20) dX11_pulled_29 (by decide) ?_
    refine PW_callV dX11_pulled_31 moX3_run cv11_187 (Gc.1) (by omega) rfl rfl (Nat.le_of_ble_eq_true rfl) (Nat.le_of_ble_eq_true rfl) (Nat.le_of_ble_eq_true rfl) (spX3_run (d := d - 1) (by omega) Gks Gc Ah (by omega) (m := 20) (by omega) Gh Vh (by omega)) (fun v M1 hq => ?_)
    obtain ⟨rfl, i1, rfl, w1, w2⟩ := hq
    have hR1 := hR'.kp hP' hV' (fun q h1 h2 h3 h4 => w2 q (by omega))
    obtain ⟨Vr, Vi0, Vi1, Vk, Vx, Vt⟩ := hR1
    have hR1 := hR'.kp hP' hV' (fun q h1 h2 h3 h4 => w2 q (by omega))
    have Vh := Vr.2.2.2.1
    refine PW_iconst (v := 0) dX11_pulled_34 (by decide) ?_
    refine PW_istore_n (i := 2) dX11_pulled_35 rfl (Nat.le_of_ble_eq_true rfl) rfl ?_
    refine PW_iconst (v := 0) dX11_pulled_36 (by decide) ?_
    refine PW_istore_n (i := 3) dX11_pulled_37 rfl (Nat.le_of_ble_eq_true rfl) rfl ?_
    refine PW_mono (fun v M' hq => ?_) (lpX11_pulled hd hP' hR1 hV' hb w1 c 21 0 (by omega) (by omega))
    obtain ⟨rfl, rfl⟩ := hq
    exact Op_i (by unfold oPulled; rw [if_pos h8]) hP' hR1 (fun q hq => w2 q (by omega))
  · have h8 := b1_0.mp h8
    refine PW_aload_n (i := 0) dX11_pulled_11 rfl rfl ?_
    refine PW_bipush (v := -2) dX11_pulled_12 (by decide) ?_
    refine PW_callV dX11_pulled_14 moX11_refuseBad cv11_95 (Gx) (by omega) rfl rfl (Nat.le_of_ble_eq_true rfl) (Nat.le_of_ble_eq_true rfl) (Nat.le_of_ble_eq_true rfl) (spX11_refuseBad (d := d - 1) hP' hR' hV' _) (fun v M1 hq => ?_)
    obtain ⟨rfl, i1, rfl, c1, c2⟩ := hq
    refine PW_ireturn rfl (rfl) dX11_pulled_17 (Nat.le_of_ble_eq_true rfl) (Nat.le_of_ble_eq_true rfl) ?_
    exact Op_i (by unfold oPulled; rw [if_neg h8]) hP' c1 (fun q hq => c2 q (by omega))

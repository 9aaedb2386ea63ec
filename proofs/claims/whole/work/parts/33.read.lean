/-! ===== Text.parse, SleepyHelm.read ===== -/
set_option maxRecDepth 100000 in
set_option maxHeartbeats 4000000 in
theorem spX9_parse {G : GE} {d : Nat} {i : MI0} {S : MS} {X v : Nat} {σ : Nat → Nat} {t L : Nat} {B : Nat → Nat} (hS : VS S X v) (hP : PV S v σ) (Ft : TS S t) (hvt : v + 41 ≤ t ∨ t + 2 ≤ v) (hL : L ≤ 150) (hB : ∀ j, j < L → B j < 128) (b : Nat) (hT : TXT i t L B) (hd : 17 ≤ d) : Mt G iX9_parse d [.ref t, .ref v] (i, S) (Wi (nI (pAll L B).1) S (ZQ i v σ t L B (pAll L B).2)) := by
  have hd : 16 ≤ d := by omega
  have hS := hS
  have hS' := hS
  obtain ⟨Fv0, Fv1, Fv2, Fv3, Fv4, Fvr0, Fvr1, Fvr2, Fvr3, Fvr4, Fvh, Fvp⟩ := hS
  have hS := hS'
  refine Mt_in 1 (ls := [.ref t, .ref v, .null]) moX9_parse (Nat.le_of_ble_eq_true rfl) rfl ?_
  refine PW_aload_n (i := 1) dX9_parse_0 rfl rfl ?_
  refine PW_callV dX9_parse_1 moX10_begin cv9_19 (Fv0) (by omega) rfl rfl (Nat.le_of_ble_eq_true rfl) (Nat.le_of_ble_eq_true rfl) (Nat.le_of_ble_eq_true rfl) (spX10_begin (d := d - 1) (y := vy0) (σ := σ) (by omega) hS') (fun v M1 hq => ?_)
  obtain ⟨rfl, i1, rfl, a1, a2⟩ := hq
  refine PW_aload_n (i := 0) dX9_parse_4 rfl rfl ?_
  refine PW_iconst (v := -1) dX9_parse_5 (by decide) ?_
  refine PW_putI dX9_parse_6 fr9_24 (fun h => by cases h) (Ft.1) ?_
  refine PW_aload_n (i := 0) dX9_parse_9 rfl rfl ?_
  refine PW_iconst (v := 0) dX9_parse_10 (by decide) ?_
  refine PW_putI dX9_parse_11 fr9_27 (fun h => by cases h) (Ft.1) ?_
  refine PW_nm rfl (fun i2 e2 => ?_)
  have e3 : ∀ q, q ≠ t → i2 q = i1 q := fun q hq => by rw [e2, rI_f _ _ hq, rI_f _ _ hq]; rfl
  have hT2 : TXT i2 t L B := ⟨by rw [e2, rI_k _ _ _ (by decide), rI_k _ _ _ (by decide), rP, a2 t (by omega) (by omega)]; exact hT.1, fun j hj => by rw [e3 (t + 1) (by omega), a2 (t + 1) (by omega) (by omega)]; exact hT.2 j hj⟩
  have g5 : i2 t 5 = nI 0 := by rw [e2]; exact rI_s _ _ _ _
  have g2 : i2 t 2 = fI none := by rw [e2, rI_k _ _ _ (by decide)]; exact rI_s _ _ _ _
  have hs0 : rn pS L B 0 ≤ L := rn_le (Nat.zero_le _)
  refine PW_aload_n (i := 0) dX9_parse_14 rfl rfl ?_
  refine PW_callV dX9_parse_15 moX9_advance cv9_30 (Ft.1) (by omega) rfl rfl (Nat.le_of_ble_eq_true rfl) (Nat.le_of_ble_eq_true rfl) (Nat.le_of_ble_eq_true rfl) (spX9_advance (d := d - 1) (e := 0) Ft hT2 hL hB (by omega) (Nat.zero_le _) g5) (fun v M1 hq => ?_)
  obtain ⟨rfl, i3, rfl, k3, f3, w3⟩ := hq
  have h2a : i3 t 2 = fI none := f3.trans g2
  have hR3 : VR i3 v σ vy0 := a1.kp hP (Nat.zero_le _) (fun q h1 h2 => (w3 q (by omega)).trans (e3 q (by omega)))
  have fr3 : ∀ q, q ≠ t → (q < v ∨ v + 40 < q) → i3 q = i q := fun q h1 h2 => (w3 q h1).trans ((e3 q h1).trans (a2 q (by omega) (by omega)))
  refine PW_aload_n (i := 0) dX9_parse_18 rfl rfl ?_
  refine PW_ldcS 0 (by decide) rfl rfl dX9_parse_19 ?_
  refine PW_callV dX9_parse_21 moX9_isWord cv9_35 (Ft.1) (by omega) rfl rfl (Nat.le_of_ble_eq_true rfl) (Nat.le_of_ble_eq_true rfl) (Nat.le_of_ble_eq_true rfl) (spX9_isWord (d := d - 1) (w := 0) Ft hL hB hs0 k3 (by decide) (by omega)) (fun v M1 hq => ?_)
  obtain ⟨rfl, rfl⟩ := hq
  refine PW_if_eq 38 dX9_parse_24 (by decide) (fun h24 => ?_) (fun h24 => ?_)
  · have h24 := b2i_0.mp h24
    refine PW_aload_n (i := 0) dX9_parse_38 rfl rfl ?_
    refine PW_callV dX9_parse_39 moX9_fail cv9_42 (Ft.1) (by omega) rfl rfl (Nat.le_of_ble_eq_true rfl) (Nat.le_of_ble_eq_true rfl) (Nat.le_of_ble_eq_true rfl) (spX9_fail (d := d - 1) Ft hL hB hs0 k3 (fun p hp => (by cases hp)) h2a) (fun v M1 hq => ?_)
    obtain ⟨rfl, i9, rfl, k9, f9, w9⟩ := hq
    refine PW_iconst (v := 1) dX9_parse_42 (by decide) ?_
    refine PW_istore_n (i := 2) dX9_parse_43 rfl (Nat.le_of_ble_eq_true rfl) rfl ?_
    have zb := pBeg_ok (b := b) (L := L) (B := B)
    first
      | (have e : pBeg L B = pStop L B (nx L B (rn pS L B 0), none, vy0) := (if_pos h24); have e2 : (pStop L B (nx L B (rn pS L B 0), none, vy0)).2.2 = vy0 := (by unfold pStop; split <;> rfl); exact lpX9_parse hS hP Ft hvt hL hB hd 150 1 (by omega) (by omega) i5 (pBeg L B) zb (by rw [e]; exact ⟨by rw [e2]; exact hR3.kp hP (Nat.zero_le _) (fun q h1 h2 => (w5 q (by omega)).trans (w4 q (by omega))), k5, f5, fun q h1 h2 => (w5 q h1).trans ((w4 q h1).trans (fr3 q h1 h2))⟩))
      | (have e : pBeg L B = (rn pS L B 0, some (rn pS L B 0), vy0) := (if_neg (by rw [h24]; decide)); exact lpX9_parse hS hP Ft hvt hL hB hd 150 1 (by omega) (by omega) i9 (pBeg L B) zb (by rw [e]; exact ⟨hR3.kp hP (Nat.zero_le _) (fun q h1 h2 => w9 q (by omega)), k9, f9, fun q h1 h2 => (w9 q h1).trans (fr3 q h1 h2)⟩))
  · have h24 := b2i_n.mp h24
    refine PW_aload_n (i := 0) dX9_parse_27 rfl rfl ?_
    refine PW_callV dX9_parse_28 moX9_advance cv9_30 (Ft.1) (by omega) rfl rfl (Nat.le_of_ble_eq_true rfl) (Nat.le_of_ble_eq_true rfl) (Nat.le_of_ble_eq_true rfl) (spX9_advance (d := d - 1) Ft k3.1 hL hB (by omega) (tE_le hs0).1 k3.2.2.2.1) (fun v M1 hq => ?_)
    obtain ⟨rfl, i4, rfl, k4, f4, w4⟩ := hq
    refine PW_aload_n (i := 0) dX9_parse_31 rfl rfl ?_
    refine PW_callV dX9_parse_32 moX9_expectStop cv9_39 (Ft.1) (by omega) rfl rfl (Nat.le_of_ble_eq_true rfl) (Nat.le_of_ble_eq_true rfl) (Nat.le_of_ble_eq_true rfl) (spX9_expectStop (d := d - 1) Ft hL hB (nx_le hs0).1 k4 (fun p hp => (by cases hp)) (f4.trans h2a) (by omega) vy0) (fun v M1 hq => ?_)
    obtain ⟨rfl, i5, rfl, k5, f5, w5⟩ := hq
    refine PW_goto 42 dX9_parse_35 (by decide) ?_
    refine PW_iconst (v := 1) dX9_parse_42 (by decide) ?_
    refine PW_istore_n (i := 2) dX9_parse_43 rfl (Nat.le_of_ble_eq_true rfl) rfl ?_
    have zb := pBeg_ok (b := b) (L := L) (B := B)
    first
      | (have e : pBeg L B = pStop L B (nx L B (rn pS L B 0), none, vy0) := (if_pos h24); have e2 : (pStop L B (nx L B (rn pS L B 0), none, vy0)).2.2 = vy0 := (by unfold pStop; split <;> rfl); exact lpX9_parse hS hP Ft hvt hL hB hd 150 1 (by omega) (by omega) i5 (pBeg L B) zb (by rw [e]; exact ⟨by rw [e2]; exact hR3.kp hP (Nat.zero_le _) (fun q h1 h2 => (w5 q (by omega)).trans (w4 q (by omega))), k5, f5, fun q h1 h2 => (w5 q h1).trans ((w4 q h1).trans (fr3 q h1 h2))⟩))
      | (have e : pBeg L B = (rn pS L B 0, some (rn pS L B 0), vy0) := (if_neg (by rw [h24]; decide)); exact lpX9_parse hS hP Ft hvt hL hB hd 150 1 (by omega) (by omega) i9 (pBeg L B) zb (by rw [e]; exact ⟨hR3.kp hP (Nat.zero_le _) (fun q h1 h2 => w9 q (by omega)), k9, f9, fun q h1 h2 => (w9 q h1).trans (fr3 q h1 h2)⟩))
def oRead (s : Ab) : Int32 × Ab := if (pAll (aL s) (aB s)).2.2.1 = none then (nI (pAll (aL s) (aB s)).1, setV s (pAll (aL s) (aB s)).2.2.2) else (-10 - fI (pAll (aL s) (aB s)).2.2.1, s)
theorem CR.tx {i i' : MI0} {S : MS} {X : Nat} {g : Nat → Nat → Nat} {s : Ab} {b : Nat} (hr : CR i X g s) (hp : CP S X g) (hv : AV b s) (ht : TR i' (X + 209) s) (e : ∀ q, X ≤ q → q ≤ X + 208 → (q < X + 49 ∨ X + 90 < q) → (q < X + 174 ∨ X + 208 < q) → i' q = i q) : CR i' X g s := by
  obtain ⟨r1, r2, r3, r4, r5, r6⟩ := hr
  obtain ⟨p0, p1, p2, p3, p4⟩ := hp
  refine ⟨r1.kp p1 hv.1.2.2.2.1 (fun q h1 h2 => e q (by omega) (by omega) (by omega) (by omega)), fun h => (r2 h).kp p3 (hv.2.1 0 (by decide) h).2.2.2.1 (fun q h1 h2 => e q (by omega) (by omega) (by omega) (by omega)), fun h => (r3 h).kp p4 (hv.2.1 1 (by decide) h).2.2.2.1 (fun q h1 h2 => e q (by omega) (by omega) (by omega) (by omega)), ?_, ?_, ht⟩
  · rw [e (X + 173) (by omega) (by omega) (by omega) (by omega)]; exact r4
  · rw [e X (by omega) (by omega) (by omega) (by omega)]; exact r5
set_option maxRecDepth 100000 in
set_option maxHeartbeats 4000000 in
theorem spX11_read {G : GE} {d : Nat} {i : MI0} {S : MS} {X b : Nat} {g : Nat → Nat → Nat} {s : Ab} (hd : 20 ≤ d) (hP : CP S X g) (hR : CR i X g s) (hV : AV b s) (hb : b ≤ 100) : Mt G iX11_read d [.ref X] (i, S) (Op X (i, S) (.int (oRead s).1) (oRead s).2) := by
  have hP' := hP
  have hR' := hR
  have hV' := hV
  obtain ⟨⟨Gx, Gr, Gks, ⟨Gv, Gd, Gi0, Gi1⟩, Gi, Gk, Gt, Gc, Gp, Ge⟩, Pv0, Pv1, Pv2, Pv3⟩ := hP
  have Gh := Gv.2.2.2.2.2.2.2.2.2.2.1
  obtain ⟨Vr, Vi0, Vi1, Vk, Vx, Vt⟩ := hR
  have Vh := Vr.2.2.2.1
  obtain ⟨Av, Ai, At, Ab', Aa, Aw⟩ := hV
  have Ah := Av.1
  have Ah1 := Ah.1
  have Av1 := Av.2.1
  have Av2 := Av.2.2.1
  have Av3 := Av.2.2.2.1
  refine Mt_in 1 (ls := [.ref X, .null]) moX11_read (Nat.le_of_ble_eq_true rfl) rfl ?_
  refine PW_aload_n (i := 0) dX11_read_0 rfl rfl ?_
  refine PW_getR dX11_read_1 fg11_71 (Gx) (Gr.2.2.2.2.2.2.2) ?_
  refine PW_aload_n (i := 0) dX11_read_4 rfl rfl ?_
  refine PW_getR dX11_read_5 fg11_36 (Gx) (Gr.2.1) ?_
  refine PW_callV dX11_read_8 moX9_parse cv11_133 (Ge.1) (by omega) rfl rfl (Nat.le_of_ble_eq_true rfl) (Nat.le_of_ble_eq_true rfl) (Nat.le_of_ble_eq_true rfl) (spX9_parse (d := d - 1) Gd Pv1 Ge (by omega) At Ab' b Vt (by omega)) (fun v M1 hq => ?_)
  obtain ⟨rfl, i1, rfl, r1⟩ := hq
  have hR1 := hR'.tx hP' hV' (i' := i1) r1.2.1.1 (fun q h1 h2 h3 h4 => r1.2.2.2 q (by omega) (by omega))
  have zo := pAll_ok b (aL s) (aB s)
  have fN : fI (pAll (aL s) (aB s)).2.2.1 = -1 ↔ (pAll (aL s) (aB s)).2.2.1 = none := fI_none (fun p hp => by have := zo.2.1 p hp; omega)
  refine PW_istore_n (i := 1) dX11_read_11 rfl (Nat.le_of_ble_eq_true rfl) rfl ?_
  refine PW_aload_n (i := 0) dX11_read_12 rfl rfl ?_
  refine PW_getR dX11_read_13 fg11_71 (Gx) (Gr.2.2.2.2.2.2.2) ?_
  refine PW_giv (v := fI (pAll (aL s) (aB s)).2.2.1) dX11_read_16 fg11_137 (Ge.1) (r1.2.2.1) ?_
  refine PW_iconst (v := -1) dX11_read_19 (by decide) ?_
  refine PW_icmp_eq 34 dX11_read_20 (by decide) (fun h20 => ?_) (fun h20 => ?_)
  · have h20 := fN.mp h20
    refine PW_aload_n (i := 0) dX11_read_34 rfl rfl ?_
    refine PW_getR dX11_read_35 fg11_32 (Gx) (Gr.1) ?_
    refine PW_aload_n (i := 0) dX11_read_38 rfl rfl ?_
    refine PW_getR dX11_read_39 fg11_36 (Gx) (Gr.2.1) ?_
    refine PW_callV dX11_read_42 moX10_take cv11_140 (Gv.1) (by omega) rfl rfl (Nat.le_of_ble_eq_true rfl) (Nat.le_of_ble_eq_true rfl) (Nat.le_of_ble_eq_true rfl) (spX10_take (d := d - 1) (by omega) Gv Pv0 Gd Pv1 r1.1 zo.2.2 (by omega)) (fun v M1 hq => ?_)
    obtain ⟨rfl, i2, rfl, p1, p2⟩ := hq
    refine PW_iload_n (i := 1) dX11_read_45 rfl rfl ?_
    refine PW_ireturn rfl (rfl) dX11_read_46 (Nat.le_of_ble_eq_true rfl) (Nat.le_of_ble_eq_true rfl) ?_
    exact Op_i (by unfold oRead; rw [if_pos h20]) hP' (hR1.sv hP' hV' p1 p2) (fun q hq => (p2 q (by omega)).trans (r1.2.2.2 q (by omega) (by omega)))
  · have h20 : ¬ (pAll (aL s) (aB s)).2.2.1 = none := fun q => h20 (fN.mpr q)
    refine PW_bipush (v := -10) dX11_read_23 (by decide) ?_
    refine PW_aload_n (i := 0) dX11_read_25 rfl rfl ?_
    refine PW_getR dX11_read_26 fg11_71 (Gx) (Gr.2.2.2.2.2.2.2) ?_
    refine PW_giv (v := fI (pAll (aL s) (aB s)).2.2.1) dX11_read_29 fg11_137 (Ge.1) (r1.2.2.1) ?_
    refine PW_isub dX11_read_32 ?_
    refine PW_ireturn rfl (rfl) dX11_read_33 (Nat.le_of_ble_eq_true rfl) (Nat.le_of_ble_eq_true rfl) ?_
    exact Op_i (by unfold oRead; rw [if_neg h20]) hP' hR1 (fun q hq => r1.2.2.2 q (by omega) (by omega))

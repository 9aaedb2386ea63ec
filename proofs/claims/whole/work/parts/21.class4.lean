/-! ===== SleepyHelm: then, strikes, image, from, count, digest ===== -/
def oThen (s : Ab) (m w : Int32) : Int32 × Ab := if ((0 : Int32) ≤ m ∧ m ≤ 60) ∧ ((0 : Int32) ≤ w ∧ w ≤ 1) then ((if w = 0 then iN (hp (pasN (vh (aV s)) m.toNatClampNeg)) else pI (stN (vh (aV s)) m.toNatClampNeg)), s) else (-10000, bad s)
def stkF (y : Vy) (m : Nat) : Bool := decide (1 ≤ m) && rkB y (iN (hp (pasN (vh y) m)))
def oStrikes (s : Ab) : Int32 × Ab := (oI (fstW (stkF (aV s)) 61), s)
set_option maxRecDepth 100000 in
set_option maxHeartbeats 4000000 in
theorem spX11_then {G : GE} {d : Nat} {i : MI0} {S : MS} {X b : Nat} {g : Nat → Nat → Nat} {s : Ab} (hd : 20 ≤ d) (hP : CP S X g) (hR : CR i X g s) (hV : AV b s) (hb : b ≤ 100) (m w : Int32) : Mt G iX11_then d [.ref X, .int m, .int w] (i, S) (Op X (i, S) (.int (oThen s m w).1) (oThen s m w).2) := by
  have hP' := hP
  have hR' := hR
  have hV' := hV
  obtain ⟨⟨Gx, Gr, Gks, ⟨Gv, Gd, Gi0, Gi1⟩, Gi, Gk, Gt, Gc, Gp, Ge⟩, Pv0, Pv1, Pv2, Pv3⟩ := hP
  have Gh := Gv.2.2.2.2.2.2.2.2.2.2.1
  obtain ⟨Vr, Vi0, Vi1, Vk, Vx, Vt⟩ := hR
  have Vh := Vr.2.2.2.1
  obtain ⟨Av, Ai, At, Ab', Aa, Aw⟩ := hV
  have Ah := Av.1
  have Ah1 := Ah.1
  have Av1 := Av.2.1
  have Av2 := Av.2.2.1
  have Av3 := Av.2.2.2.1
  refine Mt_in 0 (ls := [.ref X, .int m, .int w]) moX11_then (Nat.le_of_ble_eq_true rfl) rfl ?_
  refine PW_iload_n (i := 1) dX11_then_0 rfl rfl ?_
  refine PW_iconst (v := 0) dX11_then_1 (by decide) ?_
  refine PW_bipush (v := 60) dX11_then_2 (by decide) ?_
  refine PW_callS dX11_then_4 moX11_isWithin cs11_116 (by omega) rfl rfl (Nat.le_of_ble_eq_true rfl) (Nat.le_of_ble_eq_true rfl) (Nat.le_of_ble_eq_true rfl) (spX11_isWithin (d := d - 1) _ _ _) (fun v M1 hq => ?_)
  obtain ⟨rfl, rfl⟩ := hq
  refine PW_if_eq 19 dX11_then_7 (by decide) (fun h7 => ?_) (fun h7 => ?_)
  · have h7 := b1_0.mp h7
    refine PW_aload_n (i := 0) dX11_then_19 rfl rfl ?_
    refine PW_sipush (v := -10000) dX11_then_20 (by decide) ?_
    refine PW_callV dX11_then_23 moX11_refuseBad cv11_95 (Gx) (by omega) rfl rfl (Nat.le_of_ble_eq_true rfl) (Nat.le_of_ble_eq_true rfl) (Nat.le_of_ble_eq_true rfl) (spX11_refuseBad (d := d - 1) hP' hR' hV' _) (fun v M1 hq => ?_)
    obtain ⟨rfl, i1, rfl, c1, c2⟩ := hq
    refine PW_ireturn rfl (rfl) dX11_then_26 (Nat.le_of_ble_eq_true rfl) (Nat.le_of_ble_eq_true rfl) ?_
    exact Op_i (by unfold oThen; rw [if_neg (fun q => by first | exact h7 q.1 | exact h16 q.2)]) hP' c1 (fun q hq => c2 q (by omega))
  · have h7 := b1_1.mp h7
    refine PW_iload_n (i := 2) dX11_then_10 rfl rfl ?_
    refine PW_iconst (v := 0) dX11_then_11 (by decide) ?_
    refine PW_iconst (v := 1) dX11_then_12 (by decide) ?_
    refine PW_callS dX11_then_13 moX11_isWithin cs11_116 (by omega) rfl rfl (Nat.le_of_ble_eq_true rfl) (Nat.le_of_ble_eq_true rfl) (Nat.le_of_ble_eq_true rfl) (spX11_isWithin (d := d - 1) _ _ _) (fun v M1 hq => ?_)
    obtain ⟨rfl, rfl⟩ := hq
    refine PW_if_ne 27 dX11_then_16 (by decide) (fun h16 => ?_) (fun h16 => ?_)
    · have h16 := b1_1.mp h16
      obtain ⟨j, hj, rfl⟩ := within_of (n := 60) h7 rfl rfl (by decide)
      have ek : (nI j).toNatClampNeg = j := cln (by omega)
      refine PW_aload_n (i := 0) dX11_then_27 rfl rfl ?_
      refine PW_getR dX11_then_28 fg11_57 (Gx) (Gr.2.2.2.2.2.1) ?_
      refine PW_aload_n (i := 0) dX11_then_31 rfl rfl ?_
      refine PW_getR dX11_then_32 fg11_32 (Gx) (Gr.1) ?_
      refine PW_getR dX11_then_35 fg11_82 (Gv.1) (Gv.2.2.2.2.2.1) ?_
      refine PW_iload_n (i := 1) dX11_then_38 rfl rfl ?_
      refine PW_callV dX11_then_39 moX3_run cv11_187 (Gc.1) (by omega) rfl rfl (Nat.le_of_ble_eq_true rfl) (Nat.le_of_ble_eq_true rfl) (Nat.le_of_ble_eq_true rfl) (spX3_run (d := d - 1) (by omega) Gks Gc Ah (by omega) (m := j) (by omega) Gh Vh (by omega)) (fun v M1 hq => ?_)
      obtain ⟨rfl, i1, rfl, w1, w2⟩ := hq
      have hR1 := hR'.kp hP' hV' (fun q h1 h2 h3 h4 => w2 q (by omega))
      obtain ⟨Vr, Vi0, Vi1, Vk, Vx, Vt⟩ := hR1
      have hR1 := hR'.kp hP' hV' (fun q h1 h2 h3 h4 => w2 q (by omega))
      have Vh := Vr.2.2.2.1
      refine PW_iload_n (i := 2) dX11_then_42 rfl rfl ?_
      refine PW_if_ne 58 dX11_then_43 (by decide) (fun h43 => ?_) (fun h43 => ?_)
      · refine PW_aload_n (i := 0) dX11_then_58 rfl rfl ?_
        refine PW_getR dX11_then_59 fg11_57 (Gx) (Gr.2.2.2.2.2.1) ?_
        refine PW_getR dX11_then_62 fg11_194 (Gc.1) (Gc.2.2.2.2.2.1) ?_
        refine PW_iload_n (i := 1) dX11_then_65 rfl rfl ?_
        refine PW_ial (v := pI (stN (vh (aV s)) j)) dX11_then_66 (Gc.2.2.1) (by decide) (by omega) ((w1 j (by omega)).2) ?_
        refine PW_ireturn rfl (rfl) dX11_then_67 (Nat.le_of_ble_eq_true rfl) (Nat.le_of_ble_eq_true rfl) ?_
        refine Op_i ?_ hP' hR1 (fun q hq => w2 q (by omega))
        unfold oThen
        rw [if_pos ⟨h7, h16⟩, ek]
        first | rw [if_pos h43] | rw [if_neg h43]
      · refine PW_aload_n (i := 0) dX11_then_46 rfl rfl ?_
        refine PW_getR dX11_then_47 fg11_57 (Gx) (Gr.2.2.2.2.2.1) ?_
        refine PW_getR dX11_then_50 fg11_191 (Gc.1) (Gc.2.2.2.2.1) ?_
        refine PW_iload_n (i := 1) dX11_then_53 rfl rfl ?_
        refine PW_ial (v := iN (hp (pasN (vh (aV s)) j))) dX11_then_54 (Gc.2.1) (by decide) (by omega) ((w1 j (by omega)).1) ?_
        refine PW_goto 67 dX11_then_55 (by decide) ?_
        refine PW_ireturn rfl (rfl) dX11_then_67 (Nat.le_of_ble_eq_true rfl) (Nat.le_of_ble_eq_true rfl) ?_
        refine Op_i ?_ hP' hR1 (fun q hq => w2 q (by omega))
        unfold oThen
        rw [if_pos ⟨h7, h16⟩, ek]
        first | rw [if_pos h43] | rw [if_neg h43]
    · have h16 := b1_0.mp h16
      refine PW_aload_n (i := 0) dX11_then_19 rfl rfl ?_
      refine PW_sipush (v := -10000) dX11_then_20 (by decide) ?_
      refine PW_callV dX11_then_23 moX11_refuseBad cv11_95 (Gx) (by omega) rfl rfl (Nat.le_of_ble_eq_true rfl) (Nat.le_of_ble_eq_true rfl) (Nat.le_of_ble_eq_true rfl) (spX11_refuseBad (d := d - 1) hP' hR' hV' _) (fun v M1 hq => ?_)
      obtain ⟨rfl, i1, rfl, c1, c2⟩ := hq
      refine PW_ireturn rfl (rfl) dX11_then_26 (Nat.le_of_ble_eq_true rfl) (Nat.le_of_ble_eq_true rfl) ?_
      exact Op_i (by unfold oThen; rw [if_neg (fun q => by first | exact h7 q.1 | exact h16 q.2)]) hP' c1 (fun q hq => c2 q (by omega))
set_option maxRecDepth 100000 in
set_option maxHeartbeats 4000000 in
theorem lpX11_strikes {G : GE} {d : Nat} {i : MI0} {S : MS} {X b : Nat} {g : Nat → Nat → Nat} {s : Ab} (hd : 20 ≤ d) (hP : CP S X g) (hR : CR i X g s) (hV : AV b s) (hb : b ≤ 100) (w1 : CW i (X + 178) (vh (aV s)) 61) : ∀ (n0 j : Nat), j ≤ 61 → 61 < j + n0 → 1 ≤ j → fstW (stkF (aV s)) j = none → PW G iX11_strikes d (Rt (oI (fstW (stkF (aV s)) 61)) (i, S)) 18 [.ref X, .int (nI j)] [] (i, S) 0 0 := by
  have hP' := hP
  have hR' := hR
  have hV' := hV
  obtain ⟨⟨Gx, Gr, Gks, ⟨Gv, Gd, Gi0, Gi1⟩, Gi, Gk, Gt, Gc, Gp, Ge⟩, Pv0, Pv1, Pv2, Pv3⟩ := hP
  have Gh := Gv.2.2.2.2.2.2.2.2.2.2.1
  obtain ⟨Vr, Vi0, Vi1, Vk, Vx, Vt⟩ := hR
  have Vh := Vr.2.2.2.1
  obtain ⟨Av, Ai, At, Ab', Aa, Aw⟩ := hV
  have Ah := Av.1
  have Ah1 := Ah.1
  have Av1 := Av.2.1
  have Av2 := Av.2.2.1
  have Av3 := Av.2.2.2.1
  intro n0
  induction n0 with
  | zero => intro j h1 h2; exact absurd h2 (by omega)
  | succ n0 ih =>
    intro j hj1 hj2 j1 f0
    refine PW_iload_n (i := 1) dX11_strikes_18 rfl rfl ?_
    refine PW_bipush (v := 60) dX11_strikes_19 (by decide) ?_
    refine PW_icmp_gt 51 dX11_strikes_21 (by decide) (fun h21 => ?_) (fun h21 => ?_)
    · have h21 := jlt (a := 60) h21
      have ej : j = 61 := by omega
      subst ej
      refine PW_iconst (v := -1) dX11_strikes_51 (by decide) ?_
      refine PW_ireturn rfl (rfl) dX11_strikes_52 (Nat.le_of_ble_eq_true rfl) (Nat.le_of_ble_eq_true rfl) ?_
      exact ⟨by rw [f0]; rfl, rfl⟩
    · have h21 := jnlt (a := 60) h21
      refine PW_aload_n (i := 0) dX11_strikes_24 rfl rfl ?_
      refine PW_getR dX11_strikes_25 fg11_32 (Gx) (Gr.1) ?_
      refine PW_aload_n (i := 0) dX11_strikes_28 rfl rfl ?_
      refine PW_getR dX11_strikes_29 fg11_57 (Gx) (Gr.2.2.2.2.2.1) ?_
      refine PW_getR dX11_strikes_32 fg11_191 (Gc.1) (Gc.2.2.2.2.1) ?_
      refine PW_iload_n (i := 1) dX11_strikes_35 rfl rfl ?_
      refine PW_ial (v := iN (hp (pasN (vh (aV s)) j))) dX11_strikes_36 (Gc.2.1) (by decide) (by omega) ((w1 j (by omega)).1) ?_
      refine PW_callV dX11_strikes_37 moX10_isRock cv11_99 (Gv.1) (by omega) rfl rfl (Nat.le_of_ble_eq_true rfl) (Nat.le_of_ble_eq_true rfl) (Nat.le_of_ble_eq_true rfl) (spX10_isRock (d := d - 1) (by omega) Gv Pv0 Vr Av _) (fun v M1 hq => ?_)
      obtain ⟨rfl, rfl⟩ := hq
      refine PW_if_eq 45 dX11_strikes_40 (by decide) (fun h40 => ?_) (fun h40 => ?_)
      · have h40 := b2i_0.mp h40
        refine PW_inc1 dX11_strikes_45 rfl (Nat.le_of_ble_eq_true rfl) rfl ?_
        refine PW_goto 18 dX11_strikes_48 (by decide) ?_
        exact ih (j + 1) (by omega) (by omega) (by omega) (fstW_none f0 (by unfold stkF; rw [h40, Bool.and_false]; decide))
      · have h40 := b2i_n.mp h40
        refine PW_iload_n (i := 1) dX11_strikes_43 rfl rfl ?_
        refine PW_ireturn rfl (rfl) dX11_strikes_44 (Nat.le_of_ble_eq_true rfl) (Nat.le_of_ble_eq_true rfl) ?_
        exact ⟨by rw [fstW_some f0 (by unfold stkF; rw [h40, decide_eq_true j1]; rfl) (n := 61) (by omega)]; rfl, rfl⟩
set_option maxRecDepth 100000 in
set_option maxHeartbeats 4000000 in
theorem spX11_strikes {G : GE} {d : Nat} {i : MI0} {S : MS} {X b : Nat} {g : Nat → Nat → Nat} {s : Ab} (hd : 20 ≤ d) (hP : CP S X g) (hR : CR i X g s) (hV : AV b s) (hb : b ≤ 100) : Mt G iX11_strikes d [.ref X] (i, S) (Op X (i, S) (.int (oStrikes s).1) (oStrikes s).2) := by
  have hP' := hP
  have hR' := hR
  have hV' := hV
  obtain ⟨⟨Gx, Gr, Gks, ⟨Gv, Gd, Gi0, Gi1⟩, Gi, Gk, Gt, Gc, Gp, Ge⟩, Pv0, Pv1, Pv2, Pv3⟩ := hP
  have Gh := Gv.2.2.2.2.2.2.2.2.2.2.1
  obtain ⟨Vr, Vi0, Vi1, Vk, Vx, Vt⟩ := hR
  have Vh := Vr.2.2.2.1
  obtain ⟨Av, Ai, At, Ab', Aa, Aw⟩ := hV
  have Ah := Av.1
  have Ah1 := Ah.1
  have Av1 := Av.2.1
  have Av2 := Av.2.2.1
  have Av3 := Av.2.2.2.1
  refine Mt_in 1 (ls := [.ref X, .null]) moX11_strikes (Nat.le_of_ble_eq_true rfl) rfl ?_
  refine PW_aload_n (i := 0) dX11_strikes_0 rfl rfl ?_
  refine PW_getR dX11_strikes_1 fg11_57 (Gx) (Gr.2.2.2.2.2.1) ?_
  refine PW_aload_n (i := 0) dX11_strikes_4 rfl rfl ?_
  refine PW_getR dX11_strikes_5 fg11_32 (Gx) (Gr.1) ?_
  refine PW_getR dX11_strikes_8 fg11_82 (Gv.1) (Gv.2.2.2.2.2.1) ?_
  refine PW_bipush (v := 60) dX11_strikes_11 (by decide) ?_
  refine PW_callV dX11_strikes_13 moX3_run cv11_187 (Gc.1) (by omega) rfl rfl (Nat.le_of_ble_eq_true rfl) (Nat.le_of_ble_eq_true rfl) (Nat.le_of_ble_eq_true rfl) (spX3_run (d := d - 1) (by omega) Gks Gc Ah (by omega) (m := 60) (by omega) Gh Vh (by omega)) (fun v M1 hq => ?_)
  obtain ⟨rfl, i1, rfl, w1, w2⟩ := hq
  have hR1 := hR'.kp hP' hV' (fun q h1 h2 h3 h4 => w2 q (by omega))
  obtain ⟨Vr, Vi0, Vi1, Vk, Vx, Vt⟩ := hR1
  have hR1 := hR'.kp hP' hV' (fun q h1 h2 h3 h4 => w2 q (by omega))
  have Vh := Vr.2.2.2.1
  refine PW_iconst (v := 1) dX11_strikes_16 (by decide) ?_
  refine PW_istore_n (i := 1) dX11_strikes_17 rfl (Nat.le_of_ble_eq_true rfl) rfl ?_
  exact PW_mono (fun v M' hq => by obtain ⟨rfl, rfl⟩ := hq; exact Op_i (o := oStrikes s) rfl hP' hR1 (fun q hq => w2 q (by omega))) (lpX11_strikes hd hP' hR1 hV' hb w1 61 1 (by omega) (by omega) (by omega) rfl)
def oImage (s : Ab) (k : Int32) : Int32 × Ab := if (0 : Int32) ≤ k ∧ k ≤ 1 then (1, setI s k.toNatClampNeg (aV s)) else (-2, bad s)
def oFrom (s : Ab) (k : Int32) : Int32 × Ab := if (0 : Int32) ≤ k ∧ k ≤ 1 then (if aK s k.toNatClampNeg then (1, setV s (aI s k.toNatClampNeg)) else (-3, noo s)) else (-2, bad s)
theorem c0 : (0 : Int32).toNatClampNeg = 0 := rfl
theorem c1' : (1 : Int32).toNatClampNeg = 1 := rfl
set_option maxRecDepth 100000 in
set_option maxHeartbeats 4000000 in
theorem spX11_imageB {G : GE} {d : Nat} {i : MI0} {S : MS} {X b : Nat} {g : Nat → Nat → Nat} {s : Ab} (hd : 20 ≤ d) (hP : CP S X g) (hR : CR i X g s) (hV : AV b s) (hb : b ≤ 100) {k : Int32} (hk : ¬ ((0 : Int32) ≤ k ∧ k ≤ 1)) : Mt G iX11_image d [.ref X, .int k] (i, S) (Op X (i, S) (.int (oImage s k).1) (oImage s k).2) := by
  have hP' := hP
  have hR' := hR
  have hV' := hV
  obtain ⟨⟨Gx, Gr, Gks, ⟨Gv, Gd, Gi0, Gi1⟩, Gi, Gk, Gt, Gc, Gp, Ge⟩, Pv0, Pv1, Pv2, Pv3⟩ := hP
  have Gh := Gv.2.2.2.2.2.2.2.2.2.2.1
  obtain ⟨Vr, Vi0, Vi1, Vk, Vx, Vt⟩ := hR
  have Vh := Vr.2.2.2.1
  obtain ⟨Av, Ai, At, Ab', Aa, Aw⟩ := hV
  have Ah := Av.1
  have Ah1 := Ah.1
  have Av1 := Av.2.1
  have Av2 := Av.2.2.1
  have Av3 := Av.2.2.2.1
  refine Mt_in 0 (ls := [.ref X, .int k]) moX11_image (Nat.le_of_ble_eq_true rfl) rfl ?_
  refine PW_iload_n (i := 1) dX11_image_0 rfl rfl ?_
  refine PW_iconst (v := 0) dX11_image_1 (by decide) ?_
  refine PW_iconst (v := 1) dX11_image_2 (by decide) ?_
  refine PW_callS dX11_image_3 moX11_isWithin cs11_116 (by omega) rfl rfl (Nat.le_of_ble_eq_true rfl) (Nat.le_of_ble_eq_true rfl) (Nat.le_of_ble_eq_true rfl) (spX11_isWithin (d := d - 1) _ _ _) (fun v M1 hq => ?_)
  obtain ⟨rfl, rfl⟩ := hq
  refine PW_if_ne 16 dX11_image_6 (by decide) (fun q => absurd (b1_1.mp q) hk) (fun _ => ?_)
  refine PW_aload_n (i := 0) dX11_image_9 rfl rfl ?_
  refine PW_bipush (v := -2) dX11_image_10 (by decide) ?_
  refine PW_callV dX11_image_12 moX11_refuseBad cv11_95 (Gx) (by omega) rfl rfl (Nat.le_of_ble_eq_true rfl) (Nat.le_of_ble_eq_true rfl) (Nat.le_of_ble_eq_true rfl) (spX11_refuseBad (d := d - 1) hP' hR' hV' _) (fun v M1 hq => ?_)
  obtain ⟨rfl, i1, rfl, c1, c2⟩ := hq
  refine PW_ireturn rfl (rfl) dX11_image_15 (Nat.le_of_ble_eq_true rfl) (Nat.le_of_ble_eq_true rfl) ?_
  exact Op_i (by unfold oImage; rw [if_neg hk]) hP' c1 (fun q hq => c2 q (by omega))
set_option maxRecDepth 100000 in
set_option maxHeartbeats 4000000 in
theorem spX11_fromB {G : GE} {d : Nat} {i : MI0} {S : MS} {X b : Nat} {g : Nat → Nat → Nat} {s : Ab} (hd : 20 ≤ d) (hP : CP S X g) (hR : CR i X g s) (hV : AV b s) (hb : b ≤ 100) {k : Int32} (hk : ¬ ((0 : Int32) ≤ k ∧ k ≤ 1)) : Mt G iX11_from d [.ref X, .int k] (i, S) (Op X (i, S) (.int (oFrom s k).1) (oFrom s k).2) := by
  have hP' := hP
  have hR' := hR
  have hV' := hV
  obtain ⟨⟨Gx, Gr, Gks, ⟨Gv, Gd, Gi0, Gi1⟩, Gi, Gk, Gt, Gc, Gp, Ge⟩, Pv0, Pv1, Pv2, Pv3⟩ := hP
  have Gh := Gv.2.2.2.2.2.2.2.2.2.2.1
  obtain ⟨Vr, Vi0, Vi1, Vk, Vx, Vt⟩ := hR
  have Vh := Vr.2.2.2.1
  obtain ⟨Av, Ai, At, Ab', Aa, Aw⟩ := hV
  have Ah := Av.1
  have Ah1 := Ah.1
  have Av1 := Av.2.1
  have Av2 := Av.2.2.1
  have Av3 := Av.2.2.2.1
  refine Mt_in 0 (ls := [.ref X, .int k]) moX11_from (Nat.le_of_ble_eq_true rfl) rfl ?_
  refine PW_iload_n (i := 1) dX11_from_0 rfl rfl ?_
  refine PW_iconst (v := 0) dX11_from_1 (by decide) ?_
  refine PW_iconst (v := 1) dX11_from_2 (by decide) ?_
  refine PW_callS dX11_from_3 moX11_isWithin cs11_116 (by omega) rfl rfl (Nat.le_of_ble_eq_true rfl) (Nat.le_of_ble_eq_true rfl) (Nat.le_of_ble_eq_true rfl) (spX11_isWithin (d := d - 1) _ _ _) (fun v M1 hq => ?_)
  obtain ⟨rfl, rfl⟩ := hq
  refine PW_if_ne 16 dX11_from_6 (by decide) (fun q => absurd (b1_1.mp q) hk) (fun _ => ?_)
  refine PW_aload_n (i := 0) dX11_from_9 rfl rfl ?_
  refine PW_bipush (v := -2) dX11_from_10 (by decide) ?_
  refine PW_callV dX11_from_12 moX11_refuseBad cv11_95 (Gx) (by omega) rfl rfl (Nat.le_of_ble_eq_true rfl) (Nat.le_of_ble_eq_true rfl) (Nat.le_of_ble_eq_true rfl) (spX11_refuseBad (d := d - 1) hP' hR' hV' _) (fun v M1 hq => ?_)
  obtain ⟨rfl, i1, rfl, c1, c2⟩ := hq
  refine PW_ireturn rfl (rfl) dX11_from_15 (Nat.le_of_ble_eq_true rfl) (Nat.le_of_ble_eq_true rfl) ?_
  exact Op_i (by unfold oFrom; rw [if_neg hk]) hP' c1 (fun q hq => c2 q (by omega))
set_option maxRecDepth 100000 in
set_option maxHeartbeats 4000000 in
theorem spX11_image0 {G : GE} {d : Nat} {i : MI0} {S : MS} {X b : Nat} {g : Nat → Nat → Nat} {s : Ab} (hd : 20 ≤ d) (hP : CP S X g) (hR : CR i X g s) (hV : AV b s) (hb : b ≤ 100) : Mt G iX11_image d [.ref X, .int 0] (i, S) (Op X (i, S) (.int (oImage s 0).1) (oImage s 0).2) := by
  have hP' := hP
  have hR' := hR
  have hV' := hV
  obtain ⟨⟨Gx, Gr, Gks, ⟨Gv, Gd, Gi0, Gi1⟩, Gi, Gk, Gt, Gc, Gp, Ge⟩, Pv0, Pv1, Pv2, Pv3⟩ := hP
  have Gh := Gv.2.2.2.2.2.2.2.2.2.2.1
  obtain ⟨Vr, Vi0, Vi1, Vk, Vx, Vt⟩ := hR
  have Vh := Vr.2.2.2.1
  obtain ⟨Av, Ai, At, Ab', Aa, Aw⟩ := hV
  have Ah := Av.1
  have Ah1 := Ah.1
  have Av1 := Av.2.1
  have Av2 := Av.2.2.1
  have Av3 := Av.2.2.2.1
  refine Mt_in 0 (ls := [.ref X, .int 0]) moX11_image (Nat.le_of_ble_eq_true rfl) rfl ?_
  refine PW_iload_n (i := 1) dX11_image_0 rfl rfl ?_
  refine PW_iconst (v := 0) dX11_image_1 (by decide) ?_
  refine PW_iconst (v := 1) dX11_image_2 (by decide) ?_
  refine PW_callS dX11_image_3 moX11_isWithin cs11_116 (by omega) rfl rfl (Nat.le_of_ble_eq_true rfl) (Nat.le_of_ble_eq_true rfl) (Nat.le_of_ble_eq_true rfl) (spX11_isWithin (d := d - 1) _ _ _) (fun v M1 hq => ?_)
  obtain ⟨rfl, rfl⟩ := hq
  refine PW_if_ne 16 dX11_image_6 (by decide) (fun _ => ?_) (fun q => absurd ⟨by decide, by decide⟩ (b1_0.mp q))
  refine PW_aload_n (i := 0) dX11_image_16 rfl rfl ?_
  refine PW_getR dX11_image_17 fg11_39 (Gx) (Gr.2.2.1) ?_
  refine PW_iload_n (i := 1) dX11_image_20 rfl rfl ?_
  refine PW_aal (j := 0) dX11_image_21 (Gi.1) (by decide) (by decide) (by decide) (by decide) (Gi.2.1) ?_
  refine PW_aload_n (i := 0) dX11_image_22 rfl rfl ?_
  refine PW_getR dX11_image_23 fg11_32 (Gx) (Gr.1) ?_
  refine PW_callV dX11_image_26 moX10_take cv11_140 (Gi0.1) (by omega) rfl rfl (Nat.le_of_ble_eq_true rfl) (Nat.le_of_ble_eq_true rfl) (Nat.le_of_ble_eq_true rfl) (spX10_take (d := d - 1) (by omega) Gi0 Pv2 Gv Pv0 Vr Av (by omega)) (fun v M1 hq => ?_)
  obtain ⟨rfl, i1, rfl, p1, p2⟩ := hq
  refine PW_aload_n (i := 0) dX11_image_29 rfl rfl ?_
  refine PW_getR dX11_image_30 fg11_43 (Gx) (Gr.2.2.2.1) ?_
  refine PW_iload_n (i := 1) dX11_image_33 rfl rfl ?_
  refine PW_iconst (v := 1) dX11_image_34 (by decide) ?_
  refine PW_bastore dX11_image_35 (Gk) (vin (k := 0) (by decide) (by decide)) rfl ?_
  refine PW_nm rfl (fun i2 e2 => ?_)
  have e3 : ∀ q, q ≠ X + 173 → i2 q = i1 q := fun q hq => by rw [e2, rI_f _ _ hq]; rfl
  refine PW_iconst (v := 1) dX11_image_36 (by decide) ?_
  refine PW_ireturn rfl (rfl) dX11_image_37 (Nat.le_of_ble_eq_true rfl) (Nat.le_of_ble_eq_true rfl) ?_
  refine Op_i (o := oImage s 0) rfl hP' (s' := setI s 0 (aV s)) ⟨Vr.kp Pv0 Av3 (fun q h1 h2 => by rw [e3 q (by omega)]; exact p2 q (by omega)), fun _ => VR.kp (i := i1) p1 Pv2 Av3 (fun q h1 h2 => e3 q (by omega)), fun h => (Vi1 h).kp Pv3 (Ai 1 (by decide) h).2.2.2.1 (fun q h1 h2 => by rw [e3 q (by omega)]; exact p2 q (by omega)), ⟨?_, ?_⟩, ?_, ?_⟩ (fun q hq => by rw [e3 q (by omega)]; exact p2 q (by omega))
  · rw [e2]; exact rI_s _ _ _ _
  · rw [e2, rI_k _ _ _ (by decide), rP, p2 _ (by omega)]; exact Vk.2
  · rw [e3 _ (by omega), p2 _ (by omega)]; exact Vx
  · unfold TR; rw [e3 _ (by omega), e3 _ (by omega), p2 _ (by omega), p2 _ (by omega)]; exact Vt
set_option maxRecDepth 100000 in
set_option maxHeartbeats 4000000 in
theorem spX11_from00 {G : GE} {d : Nat} {i : MI0} {S : MS} {X b : Nat} {g : Nat → Nat → Nat} {s : Ab} (hd : 20 ≤ d) (hP : CP S X g) (hR : CR i X g s) (hV : AV b s) (hb : b ≤ 100) (hk : ¬ aK s 0 = true) : Mt G iX11_from d [.ref X, .int 0] (i, S) (Op X (i, S) (.int (oFrom s 0).1) (oFrom s 0).2) := by
  have hP' := hP
  have hR' := hR
  have hV' := hV
  obtain ⟨⟨Gx, Gr, Gks, ⟨Gv, Gd, Gi0, Gi1⟩, Gi, Gk, Gt, Gc, Gp, Ge⟩, Pv0, Pv1, Pv2, Pv3⟩ := hP
  have Gh := Gv.2.2.2.2.2.2.2.2.2.2.1
  obtain ⟨Vr, Vi0, Vi1, Vk, Vx, Vt⟩ := hR
  have Vh := Vr.2.2.2.1
  obtain ⟨Av, Ai, At, Ab', Aa, Aw⟩ := hV
  have Ah := Av.1
  have Ah1 := Ah.1
  have Av1 := Av.2.1
  have Av2 := Av.2.2.1
  have Av3 := Av.2.2.2.1
  refine Mt_in 0 (ls := [.ref X, .int 0]) moX11_from (Nat.le_of_ble_eq_true rfl) rfl ?_
  refine PW_iload_n (i := 1) dX11_from_0 rfl rfl ?_
  refine PW_iconst (v := 0) dX11_from_1 (by decide) ?_
  refine PW_iconst (v := 1) dX11_from_2 (by decide) ?_
  refine PW_callS dX11_from_3 moX11_isWithin cs11_116 (by omega) rfl rfl (Nat.le_of_ble_eq_true rfl) (Nat.le_of_ble_eq_true rfl) (Nat.le_of_ble_eq_true rfl) (spX11_isWithin (d := d - 1) _ _ _) (fun v M1 hq => ?_)
  obtain ⟨rfl, rfl⟩ := hq
  refine PW_if_ne 16 dX11_from_6 (by decide) (fun _ => ?_) (fun q => absurd ⟨by decide, by decide⟩ (b1_0.mp q))
  refine PW_aload_n (i := 0) dX11_from_16 rfl rfl ?_
  refine PW_getR dX11_from_17 fg11_43 (Gx) (Gr.2.2.2.1) ?_
  refine PW_iload_n (i := 1) dX11_from_20 rfl rfl ?_
  refine PW_baload dX11_from_21 (Gk) (vin (k := 0) (by decide) (by decide)) ?_
  refine PW_eqi (show _ = b2i (aK s 0) from Vk.1) ?_
  refine PW_if_ne 30 dX11_from_22 (by decide) (fun q => absurd (b2i_n.mp q) hk) (fun _ => ?_)
  refine PW_aload_n (i := 0) dX11_from_25 rfl rfl ?_
  refine PW_callV dX11_from_26 moX11_refuseNo cv11_102 (Gx) (by omega) rfl rfl (Nat.le_of_ble_eq_true rfl) (Nat.le_of_ble_eq_true rfl) (Nat.le_of_ble_eq_true rfl) (spX11_refuseNo (d := d - 1) hP' hR' hV') (fun v M1 hq => ?_)
  obtain ⟨rfl, i1, rfl, c1, c2⟩ := hq
  refine PW_ireturn rfl (rfl) dX11_from_29 (Nat.le_of_ble_eq_true rfl) (Nat.le_of_ble_eq_true rfl) ?_
  exact Op_i (by unfold oFrom; rw [if_pos (by decide), c0, if_neg hk]) hP' c1 (fun q hq => c2 q (by omega))
set_option maxRecDepth 100000 in
set_option maxHeartbeats 4000000 in
theorem spX11_from01 {G : GE} {d : Nat} {i : MI0} {S : MS} {X b : Nat} {g : Nat → Nat → Nat} {s : Ab} (hd : 20 ≤ d) (hP : CP S X g) (hR : CR i X g s) (hV : AV b s) (hb : b ≤ 100) (hk : aK s 0 = true) : Mt G iX11_from d [.ref X, .int 0] (i, S) (Op X (i, S) (.int (oFrom s 0).1) (oFrom s 0).2) := by
  have hP' := hP
  have hR' := hR
  have hV' := hV
  obtain ⟨⟨Gx, Gr, Gks, ⟨Gv, Gd, Gi0, Gi1⟩, Gi, Gk, Gt, Gc, Gp, Ge⟩, Pv0, Pv1, Pv2, Pv3⟩ := hP
  have Gh := Gv.2.2.2.2.2.2.2.2.2.2.1
  obtain ⟨Vr, Vi0, Vi1, Vk, Vx, Vt⟩ := hR
  have Vh := Vr.2.2.2.1
  obtain ⟨Av, Ai, At, Ab', Aa, Aw⟩ := hV
  have Ah := Av.1
  have Ah1 := Ah.1
  have Av1 := Av.2.1
  have Av2 := Av.2.2.1
  have Av3 := Av.2.2.2.1
  refine Mt_in 0 (ls := [.ref X, .int 0]) moX11_from (Nat.le_of_ble_eq_true rfl) rfl ?_
  refine PW_iload_n (i := 1) dX11_from_0 rfl rfl ?_
  refine PW_iconst (v := 0) dX11_from_1 (by decide) ?_
  refine PW_iconst (v := 1) dX11_from_2 (by decide) ?_
  refine PW_callS dX11_from_3 moX11_isWithin cs11_116 (by omega) rfl rfl (Nat.le_of_ble_eq_true rfl) (Nat.le_of_ble_eq_true rfl) (Nat.le_of_ble_eq_true rfl) (spX11_isWithin (d := d - 1) _ _ _) (fun v M1 hq => ?_)
  obtain ⟨rfl, rfl⟩ := hq
  refine PW_if_ne 16 dX11_from_6 (by decide) (fun _ => ?_) (fun q => absurd ⟨by decide, by decide⟩ (b1_0.mp q))
  refine PW_aload_n (i := 0) dX11_from_16 rfl rfl ?_
  refine PW_getR dX11_from_17 fg11_43 (Gx) (Gr.2.2.2.1) ?_
  refine PW_iload_n (i := 1) dX11_from_20 rfl rfl ?_
  refine PW_baload dX11_from_21 (Gk) (vin (k := 0) (by decide) (by decide)) ?_
  refine PW_eqi (show _ = b2i (aK s 0) from Vk.1) ?_
  refine PW_if_ne 30 dX11_from_22 (by decide) (fun _ => ?_) (fun q => absurd hk (by rw [b2i_0.mp q]; decide))
  refine PW_aload_n (i := 0) dX11_from_30 rfl rfl ?_
  refine PW_getR dX11_from_31 fg11_32 (Gx) (Gr.1) ?_
  refine PW_aload_n (i := 0) dX11_from_34 rfl rfl ?_
  refine PW_getR dX11_from_35 fg11_39 (Gx) (Gr.2.2.1) ?_
  refine PW_iload_n (i := 1) dX11_from_38 rfl rfl ?_
  refine PW_aal (j := 0) dX11_from_39 (Gi.1) (by decide) (by decide) (by decide) (by decide) (Gi.2.1) ?_
  refine PW_callV dX11_from_40 moX10_take cv11_140 (Gv.1) (by omega) rfl rfl (Nat.le_of_ble_eq_true rfl) (Nat.le_of_ble_eq_true rfl) (Nat.le_of_ble_eq_true rfl) (spX10_take (d := d - 1) (by omega) Gv Pv0 Gi0 Pv2 (Vi0 hk) (Ai 0 (by decide) hk) (by omega)) (fun v M1 hq => ?_)
  obtain ⟨rfl, i1, rfl, p1, p2⟩ := hq
  refine PW_iconst (v := 1) dX11_from_43 (by decide) ?_
  refine PW_ireturn rfl (rfl) dX11_from_44 (Nat.le_of_ble_eq_true rfl) (Nat.le_of_ble_eq_true rfl) ?_
  exact Op_i (by unfold oFrom; rw [if_pos (by decide), c0, if_pos hk]) hP' (hR'.sv hP' hV' p1 p2) (fun q hq => p2 q (by omega))
set_option maxRecDepth 100000 in
set_option maxHeartbeats 4000000 in
theorem spX11_image1 {G : GE} {d : Nat} {i : MI0} {S : MS} {X b : Nat} {g : Nat → Nat → Nat} {s : Ab} (hd : 20 ≤ d) (hP : CP S X g) (hR : CR i X g s) (hV : AV b s) (hb : b ≤ 100) : Mt G iX11_image d [.ref X, .int 1] (i, S) (Op X (i, S) (.int (oImage s 1).1) (oImage s 1).2) := by
  have hP' := hP
  have hR' := hR
  have hV' := hV
  obtain ⟨⟨Gx, Gr, Gks, ⟨Gv, Gd, Gi0, Gi1⟩, Gi, Gk, Gt, Gc, Gp, Ge⟩, Pv0, Pv1, Pv2, Pv3⟩ := hP
  have Gh := Gv.2.2.2.2.2.2.2.2.2.2.1
  obtain ⟨Vr, Vi0, Vi1, Vk, Vx, Vt⟩ := hR
  have Vh := Vr.2.2.2.1
  obtain ⟨Av, Ai, At, Ab', Aa, Aw⟩ := hV
  have Ah := Av.1
  have Ah1 := Ah.1
  have Av1 := Av.2.1
  have Av2 := Av.2.2.1
  have Av3 := Av.2.2.2.1
  refine Mt_in 0 (ls := [.ref X, .int 1]) moX11_image (Nat.le_of_ble_eq_true rfl) rfl ?_
  refine PW_iload_n (i := 1) dX11_image_0 rfl rfl ?_
  refine PW_iconst (v := 0) dX11_image_1 (by decide) ?_
  refine PW_iconst (v := 1) dX11_image_2 (by decide) ?_
  refine PW_callS dX11_image_3 moX11_isWithin cs11_116 (by omega) rfl rfl (Nat.le_of_ble_eq_true rfl) (Nat.le_of_ble_eq_true rfl) (Nat.le_of_ble_eq_true rfl) (spX11_isWithin (d := d - 1) _ _ _) (fun v M1 hq => ?_)
  obtain ⟨rfl, rfl⟩ := hq
  refine PW_if_ne 16 dX11_image_6 (by decide) (fun _ => ?_) (fun q => absurd ⟨by decide, by decide⟩ (b1_0.mp q))
  refine PW_aload_n (i := 0) dX11_image_16 rfl rfl ?_
  refine PW_getR dX11_image_17 fg11_39 (Gx) (Gr.2.2.1) ?_
  refine PW_iload_n (i := 1) dX11_image_20 rfl rfl ?_
  refine PW_aal (j := 1) dX11_image_21 (Gi.1) (by decide) (by decide) (by decide) (by decide) (Gi.2.2) ?_
  refine PW_aload_n (i := 0) dX11_image_22 rfl rfl ?_
  refine PW_getR dX11_image_23 fg11_32 (Gx) (Gr.1) ?_
  refine PW_callV dX11_image_26 moX10_take cv11_140 (Gi1.1) (by omega) rfl rfl (Nat.le_of_ble_eq_true rfl) (Nat.le_of_ble_eq_true rfl) (Nat.le_of_ble_eq_true rfl) (spX10_take (d := d - 1) (by omega) Gi1 Pv3 Gv Pv0 Vr Av (by omega)) (fun v M1 hq => ?_)
  obtain ⟨rfl, i1, rfl, p1, p2⟩ := hq
  refine PW_aload_n (i := 0) dX11_image_29 rfl rfl ?_
  refine PW_getR dX11_image_30 fg11_43 (Gx) (Gr.2.2.2.1) ?_
  refine PW_iload_n (i := 1) dX11_image_33 rfl rfl ?_
  refine PW_iconst (v := 1) dX11_image_34 (by decide) ?_
  refine PW_bastore dX11_image_35 (Gk) (vin (k := 1) (by decide) (by decide)) rfl ?_
  refine PW_nm rfl (fun i2 e2 => ?_)
  have e3 : ∀ q, q ≠ X + 173 → i2 q = i1 q := fun q hq => by rw [e2, rI_f _ _ hq]; rfl
  refine PW_iconst (v := 1) dX11_image_36 (by decide) ?_
  refine PW_ireturn rfl (rfl) dX11_image_37 (Nat.le_of_ble_eq_true rfl) (Nat.le_of_ble_eq_true rfl) ?_
  refine Op_i (o := oImage s 1) rfl hP' (s' := setI s 1 (aV s)) ⟨Vr.kp Pv0 Av3 (fun q h1 h2 => by rw [e3 q (by omega)]; exact p2 q (by omega)), fun h => (Vi0 h).kp Pv2 (Ai 0 (by decide) h).2.2.2.1 (fun q h1 h2 => by rw [e3 q (by omega)]; exact p2 q (by omega)), fun _ => VR.kp (i := i1) p1 Pv3 Av3 (fun q h1 h2 => e3 q (by omega)), ⟨?_, ?_⟩, ?_, ?_⟩ (fun q hq => by rw [e3 q (by omega)]; exact p2 q (by omega))
  · rw [e2, rI_k _ _ _ (by decide), rP, p2 _ (by omega)]; exact Vk.1
  · rw [e2]; exact rI_s _ _ _ _
  · rw [e3 _ (by omega), p2 _ (by omega)]; exact Vx
  · unfold TR; rw [e3 _ (by omega), e3 _ (by omega), p2 _ (by omega), p2 _ (by omega)]; exact Vt
set_option maxRecDepth 100000 in
set_option maxHeartbeats 4000000 in
theorem spX11_from10 {G : GE} {d : Nat} {i : MI0} {S : MS} {X b : Nat} {g : Nat → Nat → Nat} {s : Ab} (hd : 20 ≤ d) (hP : CP S X g) (hR : CR i X g s) (hV : AV b s) (hb : b ≤ 100) (hk : ¬ aK s 1 = true) : Mt G iX11_from d [.ref X, .int 1] (i, S) (Op X (i, S) (.int (oFrom s 1).1) (oFrom s 1).2) := by
  have hP' := hP
  have hR' := hR
  have hV' := hV
  obtain ⟨⟨Gx, Gr, Gks, ⟨Gv, Gd, Gi0, Gi1⟩, Gi, Gk, Gt, Gc, Gp, Ge⟩, Pv0, Pv1, Pv2, Pv3⟩ := hP
  have Gh := Gv.2.2.2.2.2.2.2.2.2.2.1
  obtain ⟨Vr, Vi0, Vi1, Vk, Vx, Vt⟩ := hR
  have Vh := Vr.2.2.2.1
  obtain ⟨Av, Ai, At, Ab', Aa, Aw⟩ := hV
  have Ah := Av.1
  have Ah1 := Ah.1
  have Av1 := Av.2.1
  have Av2 := Av.2.2.1
  have Av3 := Av.2.2.2.1
  refine Mt_in 0 (ls := [.ref X, .int 1]) moX11_from (Nat.le_of_ble_eq_true rfl) rfl ?_
  refine PW_iload_n (i := 1) dX11_from_0 rfl rfl ?_
  refine PW_iconst (v := 0) dX11_from_1 (by decide) ?_
  refine PW_iconst (v := 1) dX11_from_2 (by decide) ?_
  refine PW_callS dX11_from_3 moX11_isWithin cs11_116 (by omega) rfl rfl (Nat.le_of_ble_eq_true rfl) (Nat.le_of_ble_eq_true rfl) (Nat.le_of_ble_eq_true rfl) (spX11_isWithin (d := d - 1) _ _ _) (fun v M1 hq => ?_)
  obtain ⟨rfl, rfl⟩ := hq
  refine PW_if_ne 16 dX11_from_6 (by decide) (fun _ => ?_) (fun q => absurd ⟨by decide, by decide⟩ (b1_0.mp q))
  refine PW_aload_n (i := 0) dX11_from_16 rfl rfl ?_
  refine PW_getR dX11_from_17 fg11_43 (Gx) (Gr.2.2.2.1) ?_
  refine PW_iload_n (i := 1) dX11_from_20 rfl rfl ?_
  refine PW_baload dX11_from_21 (Gk) (vin (k := 1) (by decide) (by decide)) ?_
  refine PW_eqi (show _ = b2i (aK s 1) from Vk.2) ?_
  refine PW_if_ne 30 dX11_from_22 (by decide) (fun q => absurd (b2i_n.mp q) hk) (fun _ => ?_)
  refine PW_aload_n (i := 0) dX11_from_25 rfl rfl ?_
  refine PW_callV dX11_from_26 moX11_refuseNo cv11_102 (Gx) (by omega) rfl rfl (Nat.le_of_ble_eq_true rfl) (Nat.le_of_ble_eq_true rfl) (Nat.le_of_ble_eq_true rfl) (spX11_refuseNo (d := d - 1) hP' hR' hV') (fun v M1 hq => ?_)
  obtain ⟨rfl, i1, rfl, c1, c2⟩ := hq
  refine PW_ireturn rfl (rfl) dX11_from_29 (Nat.le_of_ble_eq_true rfl) (Nat.le_of_ble_eq_true rfl) ?_
  exact Op_i (by unfold oFrom; rw [if_pos (by decide), c1', if_neg hk]) hP' c1 (fun q hq => c2 q (by omega))
set_option maxRecDepth 100000 in
set_option maxHeartbeats 4000000 in
theorem spX11_from11 {G : GE} {d : Nat} {i : MI0} {S : MS} {X b : Nat} {g : Nat → Nat → Nat} {s : Ab} (hd : 20 ≤ d) (hP : CP S X g) (hR : CR i X g s) (hV : AV b s) (hb : b ≤ 100) (hk : aK s 1 = true) : Mt G iX11_from d [.ref X, .int 1] (i, S) (Op X (i, S) (.int (oFrom s 1).1) (oFrom s 1).2) := by
  have hP' := hP
  have hR' := hR
  have hV' := hV
  obtain ⟨⟨Gx, Gr, Gks, ⟨Gv, Gd, Gi0, Gi1⟩, Gi, Gk, Gt, Gc, Gp, Ge⟩, Pv0, Pv1, Pv2, Pv3⟩ := hP
  have Gh := Gv.2.2.2.2.2.2.2.2.2.2.1
  obtain ⟨Vr, Vi0, Vi1, Vk, Vx, Vt⟩ := hR
  have Vh := Vr.2.2.2.1
  obtain ⟨Av, Ai, At, Ab', Aa, Aw⟩ := hV
  have Ah := Av.1
  have Ah1 := Ah.1
  have Av1 := Av.2.1
  have Av2 := Av.2.2.1
  have Av3 := Av.2.2.2.1
  refine Mt_in 0 (ls := [.ref X, .int 1]) moX11_from (Nat.le_of_ble_eq_true rfl) rfl ?_
  refine PW_iload_n (i := 1) dX11_from_0 rfl rfl ?_
  refine PW_iconst (v := 0) dX11_from_1 (by decide) ?_
  refine PW_iconst (v := 1) dX11_from_2 (by decide) ?_
  refine PW_callS dX11_from_3 moX11_isWithin cs11_116 (by omega) rfl rfl (Nat.le_of_ble_eq_true rfl) (Nat.le_of_ble_eq_true rfl) (Nat.le_of_ble_eq_true rfl) (spX11_isWithin (d := d - 1) _ _ _) (fun v M1 hq => ?_)
  obtain ⟨rfl, rfl⟩ := hq
  refine PW_if_ne 16 dX11_from_6 (by decide) (fun _ => ?_) (fun q => absurd ⟨by decide, by decide⟩ (b1_0.mp q))
  refine PW_aload_n (i := 0) dX11_from_16 rfl rfl ?_
  refine PW_getR dX11_from_17 fg11_43 (Gx) (Gr.2.2.2.1) ?_
  refine PW_iload_n (i := 1) dX11_from_20 rfl rfl ?_
  refine PW_baload dX11_from_21 (Gk) (vin (k := 1) (by decide) (by decide)) ?_
  refine PW_eqi (show _ = b2i (aK s 1) from Vk.2) ?_
  refine PW_if_ne 30 dX11_from_22 (by decide) (fun _ => ?_) (fun q => absurd hk (by rw [b2i_0.mp q]; decide))
  refine PW_aload_n (i := 0) dX11_from_30 rfl rfl ?_
  refine PW_getR dX11_from_31 fg11_32 (Gx) (Gr.1) ?_
  refine PW_aload_n (i := 0) dX11_from_34 rfl rfl ?_
  refine PW_getR dX11_from_35 fg11_39 (Gx) (Gr.2.2.1) ?_
  refine PW_iload_n (i := 1) dX11_from_38 rfl rfl ?_
  refine PW_aal (j := 1) dX11_from_39 (Gi.1) (by decide) (by decide) (by decide) (by decide) (Gi.2.2) ?_
  refine PW_callV dX11_from_40 moX10_take cv11_140 (Gv.1) (by omega) rfl rfl (Nat.le_of_ble_eq_true rfl) (Nat.le_of_ble_eq_true rfl) (Nat.le_of_ble_eq_true rfl) (spX10_take (d := d - 1) (by omega) Gv Pv0 Gi1 Pv3 (Vi1 hk) (Ai 1 (by decide) hk) (by omega)) (fun v M1 hq => ?_)
  obtain ⟨rfl, i1, rfl, p1, p2⟩ := hq
  refine PW_iconst (v := 1) dX11_from_43 (by decide) ?_
  refine PW_ireturn rfl (rfl) dX11_from_44 (Nat.le_of_ble_eq_true rfl) (Nat.le_of_ble_eq_true rfl) ?_
  exact Op_i (by unfold oFrom; rw [if_pos (by decide), c1', if_pos hk]) hP' (hR'.sv hP' hV' p1 p2) (fun q hq => p2 q (by omega))
theorem two_of {k : Int32} (h : (0 : Int32) ≤ k ∧ k ≤ 1) : k = 0 ∨ k = 1 := by
  obtain ⟨j, h1, h2⟩ := within_of (n := 1) h rfl rfl (by decide)
  rcases (by omega : j = 0 ∨ j = 1) with rfl | rfl
  · exact Or.inl h2
  · exact Or.inr h2
set_option maxRecDepth 100000 in
set_option maxHeartbeats 4000000 in
theorem spX11_image {G : GE} {d : Nat} {i : MI0} {S : MS} {X b : Nat} {g : Nat → Nat → Nat} {s : Ab} (hd : 20 ≤ d) (hP : CP S X g) (hR : CR i X g s) (hV : AV b s) (hb : b ≤ 100) (k : Int32) : Mt G iX11_image d [.ref X, .int k] (i, S) (Op X (i, S) (.int (oImage s k).1) (oImage s k).2) := by
  by_cases hk : (0 : Int32) ≤ k ∧ k ≤ 1
  · rcases two_of hk with rfl | rfl
    · exact spX11_image0 hd hP hR hV hb
    · exact spX11_image1 hd hP hR hV hb
  · exact spX11_imageB hd hP hR hV hb hk
set_option maxRecDepth 100000 in
set_option maxHeartbeats 4000000 in
theorem spX11_from {G : GE} {d : Nat} {i : MI0} {S : MS} {X b : Nat} {g : Nat → Nat → Nat} {s : Ab} (hd : 20 ≤ d) (hP : CP S X g) (hR : CR i X g s) (hV : AV b s) (hb : b ≤ 100) (k : Int32) : Mt G iX11_from d [.ref X, .int k] (i, S) (Op X (i, S) (.int (oFrom s k).1) (oFrom s k).2) := by
  by_cases hk : (0 : Int32) ≤ k ∧ k ≤ 1
  · rcases two_of hk with rfl | rfl
    · by_cases h : aK s 0 = true
      · exact spX11_from01 hd hP hR hV hb h
      · exact spX11_from00 hd hP hR hV hb h
    · by_cases h : aK s 1 = true
      · exact spX11_from11 hd hP hR hV hb h
      · exact spX11_from10 hd hP hR hV hb h
  · exact spX11_fromB hd hP hR hV hb hk
def amt (s : Ab) (w : Nat) : Int32 := if w = 0 then nI (hn (vh (aV s))) else if w = 1 then nI (vr (aV s)) else if w = 2 then nI (hw (vh (aV s))) else if w = 3 then nI (pop (hf (vh (aV s)))) else if w = 4 then nI (vs (aV s)) else if w = 5 then nI (vu (aV s)) else nI (aL s)
def oCount (s : Ab) (w : Int32) : Int32 × Ab := if (0 : Int32) ≤ w ∧ w ≤ 6 then (amt s w.toNatClampNeg, s) else (-2, bad s)
def dgA (s : Ab) : Nat → Int64
  | 0 => 1181
  | j + 1 => mx (dgA s j) (amt s j)
def oDigest (s : Ab) : Int64 × Ab := (mx (mx (dgV (aV s) (dgA s 7)) (nI (aA s))) (nI (aW s)), s)
set_option maxRecDepth 100000 in
set_option maxHeartbeats 4000000 in
theorem spX11_amount {G : GE} {d : Nat} {i : MI0} {S : MS} {X b : Nat} {g : Nat → Nat → Nat} {s : Ab} (hd : 15 ≤ d) (hP : CP S X g) (hR : CR i X g s) (hV : AV b s) (hb : b ≤ 100) {w : Nat} (hw6 : w ≤ 6) : Mt G iX11_amount d [.ref X, .int (nI w)] (i, S) (Rt (amt s w) (i, S)) := by
  have hP' := hP
  have hR' := hR
  have hV' := hV
  obtain ⟨⟨Gx, Gr, Gks, ⟨Gv, Gd, Gi0, Gi1⟩, Gi, Gk, Gt, Gc, Gp, Ge⟩, Pv0, Pv1, Pv2, Pv3⟩ := hP
  have Gh := Gv.2.2.2.2.2.2.2.2.2.2.1
  obtain ⟨Vr, Vi0, Vi1, Vk, Vx, Vt⟩ := hR
  have Vh := Vr.2.2.2.1
  obtain ⟨Av, Ai, At, Ab', Aa, Aw⟩ := hV
  have Ah := Av.1
  have Ah1 := Ah.1
  have Av1 := Av.2.1
  have Av2 := Av.2.2.1
  have Av3 := Av.2.2.2.1
  rcases (by omega : w = 0 ∨ w = 1 ∨ w = 2 ∨ w = 3 ∨ w = 4 ∨ w = 5 ∨ w = 6) with rfl | rfl | rfl | rfl | rfl | rfl | rfl
  · refine Mt_in 0 (ls := [.ref X, .int (nI 0)]) moX11_amount (Nat.le_of_ble_eq_true rfl) rfl ?_
    refine PW_iload_n (i := 1) dX11_amount_0 rfl rfl ?_
    refine PW_tableIn 40 dX11_amount_1 (by decide) (by decide) rfl (by decide) ?_
    refine PW_aload_n (i := 0) dX11_amount_40 rfl rfl ?_
    refine PW_getR dX11_amount_41 fg11_32 (Gx) (Gr.1) ?_
    refine PW_getR dX11_amount_44 fg11_82 (Gv.1) (Gv.2.2.2.2.2.1) ?_
    refine PW_giv (v := nI (hn (vh (aV s)))) dX11_amount_47 fg11_85 (Gh.1) (Vh.1) ?_
    refine PW_ireturn rfl (rfl) dX11_amount_50 (Nat.le_of_ble_eq_true rfl) (Nat.le_of_ble_eq_true rfl) ?_
    exact rt_i rfl
  · refine Mt_in 0 (ls := [.ref X, .int (nI 1)]) moX11_amount (Nat.le_of_ble_eq_true rfl) rfl ?_
    refine PW_iload_n (i := 1) dX11_amount_0 rfl rfl ?_
    refine PW_tableIn 51 dX11_amount_1 (by decide) (by decide) rfl (by decide) ?_
    refine PW_aload_n (i := 0) dX11_amount_51 rfl rfl ?_
    refine PW_getR dX11_amount_52 fg11_32 (Gx) (Gr.1) ?_
    refine PW_giv (v := nI (vr (aV s))) dX11_amount_55 fg11_106 (Gv.1) (Vr.1) ?_
    refine PW_ireturn rfl (rfl) dX11_amount_58 (Nat.le_of_ble_eq_true rfl) (Nat.le_of_ble_eq_true rfl) ?_
    exact rt_i rfl
  · refine Mt_in 0 (ls := [.ref X, .int (nI 2)]) moX11_amount (Nat.le_of_ble_eq_true rfl) rfl ?_
    refine PW_iload_n (i := 1) dX11_amount_0 rfl rfl ?_
    refine PW_tableIn 59 dX11_amount_1 (by decide) (by decide) rfl (by decide) ?_
    refine PW_aload_n (i := 0) dX11_amount_59 rfl rfl ?_
    refine PW_getR dX11_amount_60 fg11_32 (Gx) (Gr.1) ?_
    refine PW_getR dX11_amount_63 fg11_82 (Gv.1) (Gv.2.2.2.2.2.1) ?_
    refine PW_giv (v := nI (hw (vh (aV s)))) dX11_amount_66 fg11_167 (Gh.1) (Vh.2.2.1) ?_
    refine PW_ireturn rfl (rfl) dX11_amount_69 (Nat.le_of_ble_eq_true rfl) (Nat.le_of_ble_eq_true rfl) ?_
    exact rt_i rfl
  · refine Mt_in 0 (ls := [.ref X, .int (nI 3)]) moX11_amount (Nat.le_of_ble_eq_true rfl) rfl ?_
    refine PW_iload_n (i := 1) dX11_amount_0 rfl rfl ?_
    refine PW_tableIn 70 dX11_amount_1 (by decide) (by decide) rfl (by decide) ?_
    refine PW_aload_n (i := 0) dX11_amount_70 rfl rfl ?_
    refine PW_getR dX11_amount_71 fg11_32 (Gx) (Gr.1) ?_
    refine PW_getR dX11_amount_74 fg11_82 (Gv.1) (Gv.2.2.2.2.2.1) ?_
    refine PW_giv (v := nI (hf (vh (aV s)))) dX11_amount_77 fg11_147 (Gh.1) (Vh.2.2.2.1) ?_
    refine PW_callS dX11_amount_80 moJ6_bitCount_0f7a4 cs11_229 (by omega) rfl rfl (Nat.le_of_ble_eq_true rfl) (Nat.le_of_ble_eq_true rfl) (Nat.le_of_ble_eq_true rfl) (spJ6_bitCount (d := d - 1) (by have := hf64 Ah; omega)) (fun v M1 hq => ?_)
    obtain ⟨rfl, rfl⟩ := hq
    refine PW_ireturn rfl (rfl) dX11_amount_83 (Nat.le_of_ble_eq_true rfl) (Nat.le_of_ble_eq_true rfl) ?_
    exact rt_i rfl
  · refine Mt_in 0 (ls := [.ref X, .int (nI 4)]) moX11_amount (Nat.le_of_ble_eq_true rfl) rfl ?_
    refine PW_iload_n (i := 1) dX11_amount_0 rfl rfl ?_
    refine PW_tableIn 84 dX11_amount_1 (by decide) (by decide) rfl (by decide) ?_
    refine PW_aload_n (i := 0) dX11_amount_84 rfl rfl ?_
    refine PW_getR dX11_amount_85 fg11_32 (Gx) (Gr.1) ?_
    refine PW_giv (v := nI (vs (aV s))) dX11_amount_88 fg11_216 (Gv.1) (Vr.2.1) ?_
    refine PW_ireturn rfl (rfl) dX11_amount_91 (Nat.le_of_ble_eq_true rfl) (Nat.le_of_ble_eq_true rfl) ?_
    exact rt_i rfl
  · refine Mt_in 0 (ls := [.ref X, .int (nI 5)]) moX11_amount (Nat.le_of_ble_eq_true rfl) rfl ?_
    refine PW_iload_n (i := 1) dX11_amount_0 rfl rfl ?_
    refine PW_tableIn 92 dX11_amount_1 (by decide) (by decide) rfl (by decide) ?_
    refine PW_aload_n (i := 0) dX11_amount_92 rfl rfl ?_
    refine PW_getR dX11_amount_93 fg11_32 (Gx) (Gr.1) ?_
    refine PW_giv (v := nI (vu (aV s))) dX11_amount_96 fg11_278 (Gv.1) (Vr.2.2.1) ?_
    refine PW_ireturn rfl (rfl) dX11_amount_99 (Nat.le_of_ble_eq_true rfl) (Nat.le_of_ble_eq_true rfl) ?_
    exact rt_i rfl
  · refine Mt_in 0 (ls := [.ref X, .int (nI 6)]) moX11_amount (Nat.le_of_ble_eq_true rfl) rfl ?_
    refine PW_iload_n (i := 1) dX11_amount_0 rfl rfl ?_
    refine PW_tableOut 100 dX11_amount_1 (Or.inr (by decide)) (by decide) ?_
    refine PW_aload_n (i := 0) dX11_amount_100 rfl rfl ?_
    refine PW_getR dX11_amount_101 fg11_71 (Gx) (Gr.2.2.2.2.2.2.2) ?_
    refine PW_giv (v := nI (aL s)) dX11_amount_104 fg11_127 (Ge.1) (Vt.1) ?_
    refine PW_ireturn rfl (rfl) dX11_amount_107 (Nat.le_of_ble_eq_true rfl) (Nat.le_of_ble_eq_true rfl) ?_
    exact rt_i rfl
set_option maxRecDepth 100000 in
set_option maxHeartbeats 4000000 in
theorem spX11_count {G : GE} {d : Nat} {i : MI0} {S : MS} {X b : Nat} {g : Nat → Nat → Nat} {s : Ab} (hd : 20 ≤ d) (hP : CP S X g) (hR : CR i X g s) (hV : AV b s) (hb : b ≤ 100) (w : Int32) : Mt G iX11_count d [.ref X, .int w] (i, S) (Op X (i, S) (.int (oCount s w).1) (oCount s w).2) := by
  have hP' := hP
  have hR' := hR
  have hV' := hV
  obtain ⟨⟨Gx, Gr, Gks, ⟨Gv, Gd, Gi0, Gi1⟩, Gi, Gk, Gt, Gc, Gp, Ge⟩, Pv0, Pv1, Pv2, Pv3⟩ := hP
  have Gh := Gv.2.2.2.2.2.2.2.2.2.2.1
  obtain ⟨Vr, Vi0, Vi1, Vk, Vx, Vt⟩ := hR
  have Vh := Vr.2.2.2.1
  obtain ⟨Av, Ai, At, Ab', Aa, Aw⟩ := hV
  have Ah := Av.1
  have Ah1 := Ah.1
  have Av1 := Av.2.1
  have Av2 := Av.2.2.1
  have Av3 := Av.2.2.2.1
  refine Mt_in 0 (ls := [.ref X, .int w]) moX11_count (Nat.le_of_ble_eq_true rfl) rfl ?_
  refine PW_iload_n (i := 1) dX11_count_0 rfl rfl ?_
  refine PW_iconst (v := 0) dX11_count_1 (by decide) ?_
  refine PW_bipush (v := 6) dX11_count_2 (by decide) ?_
  refine PW_callS dX11_count_4 moX11_isWithin cs11_116 (by omega) rfl rfl (Nat.le_of_ble_eq_true rfl) (Nat.le_of_ble_eq_true rfl) (Nat.le_of_ble_eq_true rfl) (spX11_isWithin (d := d - 1) _ _ _) (fun v M1 hq => ?_)
  obtain ⟨rfl, rfl⟩ := hq
  refine PW_if_eq 18 dX11_count_7 (by decide) (fun h7 => ?_) (fun h7 => ?_)
  · have h7 := b1_0.mp h7
    refine PW_aload_n (i := 0) dX11_count_18 rfl rfl ?_
    refine PW_bipush (v := -2) dX11_count_19 (by decide) ?_
    refine PW_callV dX11_count_21 moX11_refuseBad cv11_95 (Gx) (by omega) rfl rfl (Nat.le_of_ble_eq_true rfl) (Nat.le_of_ble_eq_true rfl) (Nat.le_of_ble_eq_true rfl) (spX11_refuseBad (d := d - 1) hP' hR' hV' _) (fun v M1 hq => ?_)
    obtain ⟨rfl, i1, rfl, c1, c2⟩ := hq
    refine PW_ireturn rfl (rfl) dX11_count_24 (Nat.le_of_ble_eq_true rfl) (Nat.le_of_ble_eq_true rfl) ?_
    first | exact Op_i (by unfold oCount; rw [if_pos h7, ek]) hP' hR' (fun _ _ => rfl) | exact Op_i (by unfold oCount; rw [if_neg h7]) hP' c1 (fun q hq => c2 q (by omega))
  · have h7 := b1_1.mp h7
    obtain ⟨j, hj, rfl⟩ := within_of (n := 6) h7 rfl rfl (by decide)
    have ek : (nI j).toNatClampNeg = j := cln (by omega)
    refine PW_aload_n (i := 0) dX11_count_10 rfl rfl ?_
    refine PW_iload_n (i := 1) dX11_count_11 rfl rfl ?_
    refine PW_callV dX11_count_12 moX11_amount cv11_267 (Gx) (by omega) rfl rfl (Nat.le_of_ble_eq_true rfl) (Nat.le_of_ble_eq_true rfl) (Nat.le_of_ble_eq_true rfl) (spX11_amount (d := d - 1) (by omega) hP' hR' hV' hb (w := j) (by omega)) (fun v M1 hq => ?_)
    obtain ⟨rfl, rfl⟩ := hq
    refine PW_goto 24 dX11_count_15 (by decide) ?_
    refine PW_ireturn rfl (rfl) dX11_count_24 (Nat.le_of_ble_eq_true rfl) (Nat.le_of_ble_eq_true rfl) ?_
    first | exact Op_i (by unfold oCount; rw [if_pos h7, ek]) hP' hR' (fun _ _ => rfl) | exact Op_i (by unfold oCount; rw [if_neg h7]) hP' c1 (fun q hq => c2 q (by omega))
set_option maxRecDepth 100000 in
set_option maxHeartbeats 4000000 in
theorem lpX11_digest {G : GE} {d : Nat} {i : MI0} {S : MS} {X b : Nat} {g : Nat → Nat → Nat} {s : Ab} (hd : 20 ≤ d) (hP : CP S X g) (hR : CR i X g s) (hV : AV b s) (hb : b ≤ 100) : ∀ (n0 j : Nat), j ≤ 7 → 7 < j + n0 → PW G iX11_digest d (Op X (i, S) (.long (oDigest s).1) (oDigest s).2) 6 [.ref X, .long (dgA s j), .null, .int (nI j)] [] (i, S) 0 0 := by
  have hP' := hP
  have hR' := hR
  have hV' := hV
  obtain ⟨⟨Gx, Gr, Gks, ⟨Gv, Gd, Gi0, Gi1⟩, Gi, Gk, Gt, Gc, Gp, Ge⟩, Pv0, Pv1, Pv2, Pv3⟩ := hP
  have Gh := Gv.2.2.2.2.2.2.2.2.2.2.1
  obtain ⟨Vr, Vi0, Vi1, Vk, Vx, Vt⟩ := hR
  have Vh := Vr.2.2.2.1
  obtain ⟨Av, Ai, At, Ab', Aa, Aw⟩ := hV
  have Ah := Av.1
  have Ah1 := Ah.1
  have Av1 := Av.2.1
  have Av2 := Av.2.2.1
  have Av3 := Av.2.2.2.1
  intro n0
  induction n0 with
  | zero => intro j h1 h2; exact absurd h2 (by omega)
  | succ n0 ih =>
    intro j hj1 hj2 
    refine PW_iload_n (i := 3) dX11_digest_6 rfl rfl ?_
    refine PW_bipush (v := 6) dX11_digest_7 (by decide) ?_
    refine PW_icmp_gt 31 dX11_digest_9 (by decide) (fun h9 => ?_) (fun h9 => ?_)
    · have h9 := jlt (a := 6) h9
      have ej : j = 7 := by omega
      subst ej
      refine PW_aload_n (i := 0) dX11_digest_31 rfl rfl ?_
      refine PW_getR dX11_digest_32 fg11_32 (Gx) (Gr.1) ?_
      refine PW_lload_n (i := 1) dX11_digest_35 rfl rfl ?_
      refine PW_callV dX11_digest_36 moX10_digestOnto cv11_274 (Gv.1) (by omega) rfl rfl (Nat.le_of_ble_eq_true rfl) (Nat.le_of_ble_eq_true rfl) (Nat.le_of_ble_eq_true rfl) (spX10_digestOnto (d := d - 1) (by omega) Gv Pv0 Vr Av _) (fun v M1 hq => ?_)
      obtain ⟨rfl, rfl⟩ := hq
      refine PW_lstore_n (i := 1) dX11_digest_39 rfl (Nat.le_of_ble_eq_true rfl) rfl ?_
      refine PW_ldc2 dX11_digest_40 kc11_272 ?_
      refine PW_lload_n (i := 1) dX11_digest_43 rfl rfl ?_
      refine PW_lmul dX11_digest_44 ?_
      refine PW_aload_n (i := 0) dX11_digest_45 rfl rfl ?_
      refine PW_giv (v := nI (aA s)) dX11_digest_46 fg11_75 (Gx) (Vx.1) ?_
      refine PW_i2l dX11_digest_49 ?_
      refine PW_ladd dX11_digest_50 ?_
      refine PW_lstore_n (i := 1) dX11_digest_51 rfl (Nat.le_of_ble_eq_true rfl) rfl ?_
      refine PW_ldc2 dX11_digest_52 kc11_272 ?_
      refine PW_lload_n (i := 1) dX11_digest_55 rfl rfl ?_
      refine PW_lmul dX11_digest_56 ?_
      refine PW_aload_n (i := 0) dX11_digest_57 rfl rfl ?_
      refine PW_giv (v := nI (aW s)) dX11_digest_58 fg11_79 (Gx) (Vx.2.1) ?_
      refine PW_i2l dX11_digest_61 ?_
      refine PW_ladd dX11_digest_62 ?_
      refine PW_lreturn rfl dX11_digest_63 (Nat.le_of_ble_eq_true rfl) (Nat.le_of_ble_eq_true rfl) ?_
      exact Op_l (o := oDigest s) rfl hP' hR' (fun _ _ => rfl)
    · have h9 := jnlt (a := 6) h9
      refine PW_ldc2 dX11_digest_12 kc11_272 ?_
      refine PW_lload_n (i := 1) dX11_digest_15 rfl rfl ?_
      refine PW_lmul dX11_digest_16 ?_
      refine PW_aload_n (i := 0) dX11_digest_17 rfl rfl ?_
      refine PW_iload_n (i := 3) dX11_digest_18 rfl rfl ?_
      refine PW_callV dX11_digest_19 moX11_amount cv11_267 (Gx) (by omega) rfl rfl (Nat.le_of_ble_eq_true rfl) (Nat.le_of_ble_eq_true rfl) (Nat.le_of_ble_eq_true rfl) (spX11_amount (d := d - 1) (by omega) hP' hR' hV' hb (w := j) (by omega)) (fun v M1 hq => ?_)
      obtain ⟨rfl, rfl⟩ := hq
      refine PW_i2l dX11_digest_22 ?_
      refine PW_ladd dX11_digest_23 ?_
      refine PW_lstore_n (i := 1) dX11_digest_24 rfl (Nat.le_of_ble_eq_true rfl) rfl ?_
      refine PW_inc1 dX11_digest_25 rfl (Nat.le_of_ble_eq_true rfl) rfl ?_
      refine PW_goto 6 dX11_digest_28 (by decide) ?_
      exact ih (j + 1) (by omega) (by omega)
set_option maxRecDepth 100000 in
set_option maxHeartbeats 4000000 in
theorem spX11_digest {G : GE} {d : Nat} {i : MI0} {S : MS} {X b : Nat} {g : Nat → Nat → Nat} {s : Ab} (hd : 20 ≤ d) (hP : CP S X g) (hR : CR i X g s) (hV : AV b s) (hb : b ≤ 100) : Mt G iX11_digest d [.ref X] (i, S) (Op X (i, S) (.long (oDigest s).1) (oDigest s).2) := by
  have hP' := hP
  have hR' := hR
  have hV' := hV
  obtain ⟨⟨Gx, Gr, Gks, ⟨Gv, Gd, Gi0, Gi1⟩, Gi, Gk, Gt, Gc, Gp, Ge⟩, Pv0, Pv1, Pv2, Pv3⟩ := hP
  have Gh := Gv.2.2.2.2.2.2.2.2.2.2.1
  obtain ⟨Vr, Vi0, Vi1, Vk, Vx, Vt⟩ := hR
  have Vh := Vr.2.2.2.1
  obtain ⟨Av, Ai, At, Ab', Aa, Aw⟩ := hV
  have Ah := Av.1
  have Ah1 := Ah.1
  have Av1 := Av.2.1
  have Av2 := Av.2.2.1
  have Av3 := Av.2.2.2.1
  refine Mt_in 3 (ls := [.ref X, .null, .null, .null]) moX11_digest (Nat.le_of_ble_eq_true rfl) rfl ?_
  refine PW_ldc2 dX11_digest_0 kc11_270 ?_
  refine PW_lstore_n (i := 1) dX11_digest_3 rfl (Nat.le_of_ble_eq_true rfl) rfl ?_
  refine PW_iconst (v := 0) dX11_digest_4 (by decide) ?_
  refine PW_istore_n (i := 3) dX11_digest_5 rfl (Nat.le_of_ble_eq_true rfl) rfl ?_
  exact lpX11_digest hd hP' hR' hV' hb 8 0 (by omega) (by omega)

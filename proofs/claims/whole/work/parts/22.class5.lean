/-! ===== SleepyHelm: canNot, eat, voyages, odds ===== -/
theorem PW_eql {G : GE} {I : MI} {d : Nat} {Post : Option Value → Mm → Prop} {pc : Nat} {ls st : List Value} {M : Mm} {nc ns : Nat} {x y : Int64} (h : x = y) (k : PW G I d Post pc ls (.long y :: st) M nc ns) : PW G I d Post pc ls (.long x :: st) M nc ns := h ▸ k
/-! ===== canNot ===== -/
def cnF (h : Hm) (a m : Nat) : Bool := !csP (pasN h m) a (hn h)
def oCanNot (s : Ab) (k : Int32) : Int32 × Ab := if isH s k then (nI (bitsN (cnF (vh (aV s)) k.toNatClampNeg) 8), s) else (-2, bad s)
set_option maxRecDepth 100000 in
set_option maxHeartbeats 4000000 in
theorem lpX11_canNot {G : GE} {d : Nat} {i : MI0} {S : MS} {X b : Nat} {g : Nat → Nat → Nat} {s : Ab} (hd : 20 ≤ d) (hP : CP S X g) (hR : CR i X g s) (hV : AV b s) (hb : b ≤ 100) {a : Nat} (ha : a < hn (vh (aV s))) : ∀ (n0 j : Nat), j ≤ 8 → 8 < j + n0 → ∀ (i' : MI0), HR i' (X + 174) (pasN (vh (aV s)) j) → (∀ q, (q < X + 174 ∨ X + 177 < q) → i' q = i q) → PW G iX11_canNot d (Wi (nI (bitsN (cnF (vh (aV s)) a) 8)) S (fun i' => ∀ q, (q < X + 174 ∨ X + 177 < q) → i' q = i q)) 33 [.ref X, .int (nI a), .int (nI (bitsN (cnF (vh (aV s)) a) j)), .int (nI j)] [] (i', S) 0 0 := by
  have hP' := hP
  have hR' := hR
  have hV' := hV
  obtain ⟨⟨Gx, Gr, Gks, ⟨Gv, Gd, Gi0, Gi1⟩, Gi, Gk, Gt, Gc, Gp, Ge⟩, Pv0, Pv1, Pv2, Pv3⟩ := hP
  have Gh := Gv.2.2.2.2.2.2.2.2.2.2.1
  obtain ⟨Vr, Vi0, Vi1, Vk, Vx, Vt⟩ := hR
  have Vh := Vr.2.2.2.1
  obtain ⟨Av, Ai, At, Ab', Aa, Aw⟩ := hV
  have Ah := Av.1
  have Ah1 := Ah.1
  have Av1 := Av.2.1
  have Av2 := Av.2.2.1
  have Av3 := Av.2.2.2.1
  intro n0
  induction n0 with
  | zero => intro j h1 h2; exact absurd h2 (by omega)
  | succ n0 ih =>
    intro j hj1 hj2 i' r1 r2
    have Fv := pasN_V Ah j
    refine PW_iload_n (i := 3) dX11_canNot_33 rfl rfl ?_
    refine PW_bipush (v := 8) dX11_canNot_34 (by decide) ?_
    refine PW_icmp_ge 83 dX11_canNot_36 (by decide) (fun h36 => ?_) (fun h36 => ?_)
    · have h36 := jle (a := 8) h36
      have ej : j = 8 := by omega
      subst ej
      refine PW_iload_n (i := 2) dX11_canNot_83 rfl rfl ?_
      refine PW_ireturn rfl (rfl) dX11_canNot_84 (Nat.le_of_ble_eq_true rfl) (Nat.le_of_ble_eq_true rfl) ?_
      exact Wi_mk rfl rfl r2
    · have h36 := jnle (a := 8) h36
      refine PW_aload_n (i := 0) dX11_canNot_39 rfl rfl ?_
      refine PW_getR dX11_canNot_40 fg11_50 (Gx) (Gr.2.2.2.2.1) ?_
      refine PW_iload_n (i := 1) dX11_canNot_43 rfl rfl ?_
      refine PW_callV dX11_canNot_44 moX4_canSteer cv11_210 (Gt.1) (by omega) rfl rfl (Nat.le_of_ble_eq_true rfl) (Nat.le_of_ble_eq_true rfl) (Nat.le_of_ble_eq_true rfl) (spX4_canSteer (d := d - 1) (by omega) Gks Gt r1 Fv (by omega) (k := a) (by rw [pasN_n]; exact ha)) (fun v M1 hq => ?_)
      obtain ⟨rfl, rfl⟩ := hq
      rw [pasN_n]
      refine PW_if_ne 56 dX11_canNot_47 (by decide) (fun h47 => ?_) (fun h47 => ?_)
      · have h47 := b2i_n.mp h47
        refine PW_aload_n (i := 0) dX11_canNot_56 rfl rfl ?_
        refine PW_getR dX11_canNot_57 fg11_50 (Gx) (Gr.2.2.2.2.1) ?_
        refine PW_aload_n (i := 0) dX11_canNot_60 rfl rfl ?_
        refine PW_getR dX11_canNot_61 fg11_50 (Gx) (Gr.2.2.2.2.1) ?_
        refine PW_aload_n (i := 0) dX11_canNot_64 rfl rfl ?_
        refine PW_getR dX11_canNot_65 fg11_50 (Gx) (Gr.2.2.2.2.1) ?_
        refine PW_giv (v := nI (hf (pasN (vh (aV s)) j))) dX11_canNot_68 fg11_147 (Gt.1) (r1.2.2.2.1) ?_
        have Ff := hf64 Fv
        refine PW_callV dX11_canNot_71 moX4_steerer cv11_157 (Gt.1) (by omega) rfl rfl (Nat.le_of_ble_eq_true rfl) (Nat.le_of_ble_eq_true rfl) (Nat.le_of_ble_eq_true rfl) (spX4_steerer (d := d - 1) (by omega) Gks Gt r1 Fv (by omega) (by omega)) (fun v M1 hq => ?_)
        obtain ⟨rfl, rfl⟩ := hq
        refine PW_callV dX11_canNot_74 moX4_go cv11_160 (Gt.1) (by omega) rfl rfl (Nat.le_of_ble_eq_true rfl) (Nat.le_of_ble_eq_true rfl) (Nat.le_of_ble_eq_true rfl) (spX4_go (d := d - 1) (by omega) Gks Gt r1 Fv (by omega) (stw_le _ _)) (fun v M1 hq => ?_)
        obtain ⟨rfl, i3, rfl, p1, p2⟩ := hq
        refine PW_inc1 dX11_canNot_77 rfl (Nat.le_of_ble_eq_true rfl) rfl ?_
        refine PW_goto 33 dX11_canNot_80 (by decide) ?_
        have q := ih (j + 1) (by omega) (by omega) i3 p1 (fun q hq => (p2 q (by omega) (by omega)).trans (r2 q hq))
        first | (rw [bitsN_t (n := j) (by unfold cnF; rw [h47]; rfl)] at q; exact q) | (rw [bitsN_f (n := j) (by unfold cnF; rw [h47]; decide)] at q; exact q)
      · have h47 := b2i_0.mp h47
        refine PW_iload_n (i := 2) dX11_canNot_50 rfl rfl ?_
        refine PW_iconst (v := 1) dX11_canNot_51 (by decide) ?_
        refine PW_iload_n (i := 3) dX11_canNot_52 rfl rfl ?_
        refine PW_ishl dX11_canNot_53 ?_
        refine PW_ior dX11_canNot_54 ?_
        refine PW_eqi (or_bit (bitsN_lt _ _) (by omega)) ?_
        refine PW_istore_n (i := 2) dX11_canNot_55 rfl (Nat.le_of_ble_eq_true rfl) rfl ?_
        refine PW_aload_n (i := 0) dX11_canNot_56 rfl rfl ?_
        refine PW_getR dX11_canNot_57 fg11_50 (Gx) (Gr.2.2.2.2.1) ?_
        refine PW_aload_n (i := 0) dX11_canNot_60 rfl rfl ?_
        refine PW_getR dX11_canNot_61 fg11_50 (Gx) (Gr.2.2.2.2.1) ?_
        refine PW_aload_n (i := 0) dX11_canNot_64 rfl rfl ?_
        refine PW_getR dX11_canNot_65 fg11_50 (Gx) (Gr.2.2.2.2.1) ?_
        refine PW_giv (v := nI (hf (pasN (vh (aV s)) j))) dX11_canNot_68 fg11_147 (Gt.1) (r1.2.2.2.1) ?_
        have Ff := hf64 Fv
        refine PW_callV dX11_canNot_71 moX4_steerer cv11_157 (Gt.1) (by omega) rfl rfl (Nat.le_of_ble_eq_true rfl) (Nat.le_of_ble_eq_true rfl) (Nat.le_of_ble_eq_true rfl) (spX4_steerer (d := d - 1) (by omega) Gks Gt r1 Fv (by omega) (by omega)) (fun v M1 hq => ?_)
        obtain ⟨rfl, rfl⟩ := hq
        refine PW_callV dX11_canNot_74 moX4_go cv11_160 (Gt.1) (by omega) rfl rfl (Nat.le_of_ble_eq_true rfl) (Nat.le_of_ble_eq_true rfl) (Nat.le_of_ble_eq_true rfl) (spX4_go (d := d - 1) (by omega) Gks Gt r1 Fv (by omega) (stw_le _ _)) (fun v M1 hq => ?_)
        obtain ⟨rfl, i3, rfl, p1, p2⟩ := hq
        refine PW_inc1 dX11_canNot_77 rfl (Nat.le_of_ble_eq_true rfl) rfl ?_
        refine PW_goto 33 dX11_canNot_80 (by decide) ?_
        have q := ih (j + 1) (by omega) (by omega) i3 p1 (fun q hq => (p2 q (by omega) (by omega)).trans (r2 q hq))
        first | (rw [bitsN_t (n := j) (by unfold cnF; rw [h47]; rfl)] at q; exact q) | (rw [bitsN_f (n := j) (by unfold cnF; rw [h47]; decide)] at q; exact q)
set_option maxRecDepth 100000 in
set_option maxHeartbeats 4000000 in
theorem spX11_canNot {G : GE} {d : Nat} {i : MI0} {S : MS} {X b : Nat} {g : Nat → Nat → Nat} {s : Ab} (hd : 20 ≤ d) (hP : CP S X g) (hR : CR i X g s) (hV : AV b s) (hb : b ≤ 100) (k : Int32) : Mt G iX11_canNot d [.ref X, .int k] (i, S) (Op X (i, S) (.int (oCanNot s k).1) (oCanNot s k).2) := by
  have hP' := hP
  have hR' := hR
  have hV' := hV
  obtain ⟨⟨Gx, Gr, Gks, ⟨Gv, Gd, Gi0, Gi1⟩, Gi, Gk, Gt, Gc, Gp, Ge⟩, Pv0, Pv1, Pv2, Pv3⟩ := hP
  have Gh := Gv.2.2.2.2.2.2.2.2.2.2.1
  obtain ⟨Vr, Vi0, Vi1, Vk, Vx, Vt⟩ := hR
  have Vh := Vr.2.2.2.1
  obtain ⟨Av, Ai, At, Ab', Aa, Aw⟩ := hV
  have Ah := Av.1
  have Ah1 := Ah.1
  have Av1 := Av.2.1
  have Av2 := Av.2.2.1
  have Av3 := Av.2.2.2.1
  refine Mt_in 2 (ls := [.ref X, .int k, .null, .null]) moX11_canNot (Nat.le_of_ble_eq_true rfl) rfl ?_
  refine PW_aload_n (i := 0) dX11_canNot_0 rfl rfl ?_
  refine PW_iload_n (i := 1) dX11_canNot_1 rfl rfl ?_
  refine PW_callV dX11_canNot_2 moX11_isHand cv11_144 (Gx) (by omega) rfl rfl (Nat.le_of_ble_eq_true rfl) (Nat.le_of_ble_eq_true rfl) (Nat.le_of_ble_eq_true rfl) (spX11_isHand (d := d - 1) (by omega) hP' hR' hV' hb _) (fun v M1 hq => ?_)
  obtain ⟨rfl, rfl⟩ := hq
  refine PW_if_ne 15 dX11_canNot_5 (by decide) (fun h5 => ?_) (fun h5 => ?_)
  · have h5 := b1_1.mp h5
    obtain ⟨j, hj, rfl⟩ := isH_of hV' h5
    have ek : (nI j).toNatClampNeg = j := cln (by omega)
    refine PW_aload_n (i := 0) dX11_canNot_15 rfl rfl ?_
    refine PW_getR dX11_canNot_16 fg11_50 (Gx) (Gr.2.2.2.2.1) ?_
    refine PW_aload_n (i := 0) dX11_canNot_19 rfl rfl ?_
    refine PW_getR dX11_canNot_20 fg11_32 (Gx) (Gr.1) ?_
    refine PW_getR dX11_canNot_23 fg11_82 (Gv.1) (Gv.2.2.2.2.2.1) ?_
    refine PW_callV dX11_canNot_26 moX4_take cv11_207 (Gt.1) (by omega) rfl rfl (Nat.le_of_ble_eq_true rfl) (Nat.le_of_ble_eq_true rfl) (Nat.le_of_ble_eq_true rfl) (spX4_take (d := d - 1) Gt Gh Vh Ah1 (by omega)) (fun v M1 hq => ?_)
    obtain ⟨rfl, i3, rfl, p1, p2⟩ := hq
    refine PW_iconst (v := 0) dX11_canNot_29 (by decide) ?_
    refine PW_istore_n (i := 2) dX11_canNot_30 rfl (Nat.le_of_ble_eq_true rfl) rfl ?_
    refine PW_iconst (v := 0) dX11_canNot_31 (by decide) ?_
    refine PW_istore_n (i := 3) dX11_canNot_32 rfl (Nat.le_of_ble_eq_true rfl) rfl ?_
    refine PW_mono (fun v M' hq => ?_) (lpX11_canNot (i := i) hd hP' hR' hV' hb hj 9 0 (by omega) (by omega) i3 p1 (fun q hq => p2 q (by omega)))
    obtain ⟨rfl, i4, rfl, w2⟩ := hq
    exact Op_i (by unfold oCanNot; rw [if_pos h5, ek]) hP' (hR'.kp hP' hV' (fun q h1 h2 h3 h4 => w2 q (by omega))) (fun q hq => w2 q (by omega))
  · have h5 := b1_0.mp h5
    refine PW_aload_n (i := 0) dX11_canNot_8 rfl rfl ?_
    refine PW_bipush (v := -2) dX11_canNot_9 (by decide) ?_
    refine PW_callV dX11_canNot_11 moX11_refuseBad cv11_95 (Gx) (by omega) rfl rfl (Nat.le_of_ble_eq_true rfl) (Nat.le_of_ble_eq_true rfl) (Nat.le_of_ble_eq_true rfl) (spX11_refuseBad (d := d - 1) hP' hR' hV' _) (fun v M1 hq => ?_)
    obtain ⟨rfl, i1, rfl, c1, c2⟩ := hq
    refine PW_ireturn rfl (rfl) dX11_canNot_14 (Nat.le_of_ble_eq_true rfl) (Nat.le_of_ble_eq_true rfl) ?_
    exact Op_i (by unfold oCanNot; rw [if_neg h5]) hP' c1 (fun q hq => c2 q (by omega))
def oEat (s : Ab) (k l : Int32) : Int32 × Ab := if isH s k ∧ isH s l ∧ ¬ k = l then (nI (bitsN (eatB (vh (aV s)) k.toNatClampNeg l.toNatClampNeg) 4), s) else (-2, bad s)
set_option maxRecDepth 100000 in
set_option maxHeartbeats 4000000 in
theorem lpX11_eat {G : GE} {d : Nat} {i : MI0} {S : MS} {X b : Nat} {g : Nat → Nat → Nat} {s : Ab} (hd : 20 ≤ d) (hP : CP S X g) (hR : CR i X g s) (hV : AV b s) (hb : b ≤ 100) {a l : Nat} (ha : a < hn (vh (aV s))) (hl : l < hn (vh (aV s))) : ∀ (n0 j : Nat), j ≤ 4 → 4 < j + n0 → PW G iX11_eat d (Rt (nI (bitsN (eatB (vh (aV s)) a l) 4)) (i, S)) 33 [.ref X, .int (nI a), .int (nI l), .int (nI (bitsN (eatB (vh (aV s)) a l) j)), .int (nI j)] [] (i, S) 0 0 := by
  have hP' := hP
  have hR' := hR
  have hV' := hV
  obtain ⟨⟨Gx, Gr, Gks, ⟨Gv, Gd, Gi0, Gi1⟩, Gi, Gk, Gt, Gc, Gp, Ge⟩, Pv0, Pv1, Pv2, Pv3⟩ := hP
  have Gh := Gv.2.2.2.2.2.2.2.2.2.2.1
  obtain ⟨Vr, Vi0, Vi1, Vk, Vx, Vt⟩ := hR
  have Vh := Vr.2.2.2.1
  obtain ⟨Av, Ai, At, Ab', Aa, Aw⟩ := hV
  have Ah := Av.1
  have Ah1 := Ah.1
  have Av1 := Av.2.1
  have Av2 := Av.2.2.1
  have Av3 := Av.2.2.2.1
  intro n0
  induction n0 with
  | zero => intro j h1 h2; exact absurd h2 (by omega)
  | succ n0 ih =>
    intro j hj1 hj2 
    refine PW_iload dX11_eat_33 rfl ?_
    refine PW_iconst (v := 4) dX11_eat_35 (by decide) ?_
    refine PW_icmp_ge 69 dX11_eat_36 (by decide) (fun h36 => ?_) (fun h36 => ?_)
    · have h36 := jle (a := 4) h36
      have ej : j = 4 := by omega
      subst ej
      refine PW_iload_n (i := 3) dX11_eat_69 rfl rfl ?_
      refine PW_ireturn rfl (rfl) dX11_eat_70 (Nat.le_of_ble_eq_true rfl) (Nat.le_of_ble_eq_true rfl) ?_
      exact rt_i rfl
    · have h36 := jnle (a := 4) h36
      refine PW_aload_n (i := 0) dX11_eat_39 rfl rfl ?_
      refine PW_getR dX11_eat_40 fg11_32 (Gx) (Gr.1) ?_
      refine PW_getR dX11_eat_43 fg11_82 (Gv.1) (Gv.2.2.2.2.2.1) ?_
      refine PW_iload_n (i := 1) dX11_eat_46 rfl rfl ?_
      refine PW_iload_n (i := 2) dX11_eat_47 rfl rfl ?_
      refine PW_iload dX11_eat_48 rfl ?_
      refine PW_callV dX11_eat_50 moX4_pairRests cv11_213 (Gh.1) (by omega) rfl rfl (Nat.le_of_ble_eq_true rfl) (Nat.le_of_ble_eq_true rfl) (Nat.le_of_ble_eq_true rfl) (spX4_pairRests (d := d - 1) (by omega) Gks Gh Vh Ah (by omega) ha hl (q := j) (by omega)) (fun v M1 hq => ?_)
      obtain ⟨rfl, rfl⟩ := hq
      refine PW_if_eq 63 dX11_eat_53 (by decide) (fun h53 => ?_) (fun h53 => ?_)
      · have h53 := b2i_0.mp h53
        refine PW_inc1 dX11_eat_63 rfl (Nat.le_of_ble_eq_true rfl) rfl ?_
        refine PW_goto 33 dX11_eat_66 (by decide) ?_
        have q := ih (j + 1) (by omega) (by omega)
        first | (rw [bitsN_t (n := j) h53] at q; exact q) | (rw [bitsN_f (n := j) (by rw [h53]; decide)] at q; exact q)
      · have h53 := b2i_n.mp h53
        refine PW_iload_n (i := 3) dX11_eat_56 rfl rfl ?_
        refine PW_iconst (v := 1) dX11_eat_57 (by decide) ?_
        refine PW_iload dX11_eat_58 rfl ?_
        refine PW_ishl dX11_eat_60 ?_
        refine PW_ior dX11_eat_61 ?_
        refine PW_eqi (or_bit (bitsN_lt _ _) (by omega)) ?_
        refine PW_istore_n (i := 3) dX11_eat_62 rfl (Nat.le_of_ble_eq_true rfl) rfl ?_
        refine PW_inc1 dX11_eat_63 rfl (Nat.le_of_ble_eq_true rfl) rfl ?_
        refine PW_goto 33 dX11_eat_66 (by decide) ?_
        have q := ih (j + 1) (by omega) (by omega)
        first | (rw [bitsN_t (n := j) h53] at q; exact q) | (rw [bitsN_f (n := j) (by rw [h53]; decide)] at q; exact q)
set_option maxRecDepth 100000 in
set_option maxHeartbeats 4000000 in
theorem spX11_eat {G : GE} {d : Nat} {i : MI0} {S : MS} {X b : Nat} {g : Nat → Nat → Nat} {s : Ab} (hd : 20 ≤ d) (hP : CP S X g) (hR : CR i X g s) (hV : AV b s) (hb : b ≤ 100) (k l : Int32) : Mt G iX11_eat d [.ref X, .int k, .int l] (i, S) (Op X (i, S) (.int (oEat s k l).1) (oEat s k l).2) := by
  have hP' := hP
  have hR' := hR
  have hV' := hV
  obtain ⟨⟨Gx, Gr, Gks, ⟨Gv, Gd, Gi0, Gi1⟩, Gi, Gk, Gt, Gc, Gp, Ge⟩, Pv0, Pv1, Pv2, Pv3⟩ := hP
  have Gh := Gv.2.2.2.2.2.2.2.2.2.2.1
  obtain ⟨Vr, Vi0, Vi1, Vk, Vx, Vt⟩ := hR
  have Vh := Vr.2.2.2.1
  obtain ⟨Av, Ai, At, Ab', Aa, Aw⟩ := hV
  have Ah := Av.1
  have Ah1 := Ah.1
  have Av1 := Av.2.1
  have Av2 := Av.2.2.1
  have Av3 := Av.2.2.2.1
  refine Mt_in 2 (ls := [.ref X, .int k, .int l, .null, .null]) moX11_eat (Nat.le_of_ble_eq_true rfl) rfl ?_
  refine PW_aload_n (i := 0) dX11_eat_0 rfl rfl ?_
  refine PW_iload_n (i := 1) dX11_eat_1 rfl rfl ?_
  refine PW_callV dX11_eat_2 moX11_isHand cv11_144 (Gx) (by omega) rfl rfl (Nat.le_of_ble_eq_true rfl) (Nat.le_of_ble_eq_true rfl) (Nat.le_of_ble_eq_true rfl) (spX11_isHand (d := d - 1) (by omega) hP' hR' hV' hb _) (fun v M1 hq => ?_)
  obtain ⟨rfl, rfl⟩ := hq
  refine PW_if_eq 21 dX11_eat_5 (by decide) (fun h5 => ?_) (fun h5 => ?_)
  · have h5 := b1_0.mp h5
    refine PW_aload_n (i := 0) dX11_eat_21 rfl rfl ?_
    refine PW_bipush (v := -2) dX11_eat_22 (by decide) ?_
    refine PW_callV dX11_eat_24 moX11_refuseBad cv11_95 (Gx) (by omega) rfl rfl (Nat.le_of_ble_eq_true rfl) (Nat.le_of_ble_eq_true rfl) (Nat.le_of_ble_eq_true rfl) (spX11_refuseBad (d := d - 1) hP' hR' hV' _) (fun v M1 hq => ?_)
    obtain ⟨rfl, i1, rfl, c1, c2⟩ := hq
    refine PW_ireturn rfl (rfl) dX11_eat_27 (Nat.le_of_ble_eq_true rfl) (Nat.le_of_ble_eq_true rfl) ?_
    exact Op_i (by unfold oEat; rw [if_neg (fun q => by first | exact h5 q.1 | exact h13 q.2.1 | exact q.2.2 h18)]) hP' c1 (fun q hq => c2 q (by omega))
  · have h5 := b1_1.mp h5
    refine PW_aload_n (i := 0) dX11_eat_8 rfl rfl ?_
    refine PW_iload_n (i := 2) dX11_eat_9 rfl rfl ?_
    refine PW_callV dX11_eat_10 moX11_isHand cv11_144 (Gx) (by omega) rfl rfl (Nat.le_of_ble_eq_true rfl) (Nat.le_of_ble_eq_true rfl) (Nat.le_of_ble_eq_true rfl) (spX11_isHand (d := d - 1) (by omega) hP' hR' hV' hb _) (fun v M1 hq => ?_)
    obtain ⟨rfl, rfl⟩ := hq
    refine PW_if_eq 21 dX11_eat_13 (by decide) (fun h13 => ?_) (fun h13 => ?_)
    · have h13 := b1_0.mp h13
      refine PW_aload_n (i := 0) dX11_eat_21 rfl rfl ?_
      refine PW_bipush (v := -2) dX11_eat_22 (by decide) ?_
      refine PW_callV dX11_eat_24 moX11_refuseBad cv11_95 (Gx) (by omega) rfl rfl (Nat.le_of_ble_eq_true rfl) (Nat.le_of_ble_eq_true rfl) (Nat.le_of_ble_eq_true rfl) (spX11_refuseBad (d := d - 1) hP' hR' hV' _) (fun v M1 hq => ?_)
      obtain ⟨rfl, i1, rfl, c1, c2⟩ := hq
      refine PW_ireturn rfl (rfl) dX11_eat_27 (Nat.le_of_ble_eq_true rfl) (Nat.le_of_ble_eq_true rfl) ?_
      exact Op_i (by unfold oEat; rw [if_neg (fun q => by first | exact h5 q.1 | exact h13 q.2.1 | exact q.2.2 h18)]) hP' c1 (fun q hq => c2 q (by omega))
    · have h13 := b1_1.mp h13
      refine PW_iload_n (i := 1) dX11_eat_16 rfl rfl ?_
      refine PW_iload_n (i := 2) dX11_eat_17 rfl rfl ?_
      refine PW_icmp_ne 28 dX11_eat_18 (by decide) (fun h18 => ?_) (fun h18 => ?_)
      · obtain ⟨j, hj, rfl⟩ := isH_of hV' h5
        have ek : (nI j).toNatClampNeg = j := cln (by omega)
        obtain ⟨l, hl, rfl⟩ := isH_of hV' h13
        have el : (nI l).toNatClampNeg = l := cln (by omega)
        refine PW_iconst (v := 0) dX11_eat_28 (by decide) ?_
        refine PW_istore_n (i := 3) dX11_eat_29 rfl (Nat.le_of_ble_eq_true rfl) rfl ?_
        refine PW_iconst (v := 0) dX11_eat_30 (by decide) ?_
        refine PW_istore dX11_eat_31 (Nat.le_of_ble_eq_true rfl) rfl ?_
        refine PW_mono (fun v M' hq => ?_) (lpX11_eat hd hP' hR' hV' hb hj hl 5 0 (by omega) (by omega))
        obtain ⟨rfl, rfl⟩ := hq
        exact Op_i (by unfold oEat; rw [if_pos ⟨h5, h13, h18⟩, ek, el]) hP' hR' (fun _ _ => rfl)
      · refine PW_aload_n (i := 0) dX11_eat_21 rfl rfl ?_
        refine PW_bipush (v := -2) dX11_eat_22 (by decide) ?_
        refine PW_callV dX11_eat_24 moX11_refuseBad cv11_95 (Gx) (by omega) rfl rfl (Nat.le_of_ble_eq_true rfl) (Nat.le_of_ble_eq_true rfl) (Nat.le_of_ble_eq_true rfl) (spX11_refuseBad (d := d - 1) hP' hR' hV' _) (fun v M1 hq => ?_)
        obtain ⟨rfl, i1, rfl, c1, c2⟩ := hq
        refine PW_ireturn rfl (rfl) dX11_eat_27 (Nat.le_of_ble_eq_true rfl) (Nat.le_of_ble_eq_true rfl) ?_
        exact Op_i (by unfold oEat; rw [if_neg (fun q => by first | exact h5 q.1 | exact h13 q.2.1 | exact q.2.2 h18)]) hP' c1 (fun q hq => c2 q (by omega))
def lcg (x : Nat) : Nat := (x * 1103515245 + 12345) % 2147483648
def lcgN (x : Nat) : Nat → Nat
  | 0 => x
  | j + 1 => lcg (lcgN x j)
theorem lcgN_lt {x : Nat} (hx : x < 2147483648) : ∀ j, lcgN x j < 2147483648
  | 0 => hx
  | j + 1 => Nat.mod_lt _ (by decide)
theorem lcg_ok {a : Nat} (ha : a < 2147483648) : lN a * 1103515245 + 12345 - (lN a * 1103515245 + 12345) / 2147483648 * 2147483648 = lN (lcg a) := by
  rw [show (1103515245 : Int64) = lN 1103515245 from rfl, show (12345 : Int64) = lN 12345 from rfl, show (2147483648 : Int64) = lN 2147483648 from rfl, lN_mul, lN_add, pk_lRem (by omega) (by decide) (by decide)]
  rfl
theorem lcg_w {a : Nat} (ha : a < 2147483648) : lN a / 65536 - lN a / 65536 / 7 * 7 = lN (a / 65536 % 7) := by
  rw [show (65536 : Int64) = lN 65536 from rfl, show (7 : Int64) = lN 7 from rfl, pk_lDiv (by omega) (by decide) (by decide), pk_lRem (by omega) (by decide) (by decide)]
def lcw (x j : Nat) : Nat := lcgN x (j + 1) / 65536 % 7
def vyg (h : Hm) (x : Nat) : Nat → Hm
  | 0 => h
  | j + 1 => goH (vyg h x j) (stw (vyg h x j) (2 ^ lcw x j))
theorem vyg_V {b : Nat} {h : Hm} (hv : HV b h) (x : Nat) : ∀ k, HV (b + k) (vyg h x k)
  | 0 => hv
  | k + 1 => goH_V (vyg_V hv x k) (stw_le _ _)
theorem one_shl {k : Nat} (hk : k < 31) : (1 : Int32) <<< (nI k &&& 31) = nI (2 ^ k) := by
  have h31 : 2 ^ k ≤ 2 ^ 30 := Nat.pow_le_pow_right (by decide) (by omega)
  have := shl_n (x := 1) (a := k) (by omega) (by omega)
  rw [Nat.one_mul] at this
  exact this
def oVoyages (s : Ab) (x n : Int32) : Int32 × Ab := if ((0 : Int32) ≤ x ∧ x ≤ 999999) ∧ ((0 : Int32) ≤ n ∧ n ≤ 60) then (iN (hp (vyg (vh (aV s)) x.toNatClampNeg n.toNatClampNeg)), s) else (-10000, bad s)
set_option maxRecDepth 100000 in
set_option maxHeartbeats 4000000 in
theorem lpX11_voyages {G : GE} {d : Nat} {i : MI0} {S : MS} {X b : Nat} {g : Nat → Nat → Nat} {s : Ab} (hd : 20 ≤ d) (hP : CP S X g) (hR : CR i X g s) (hV : AV b s) (hb : b ≤ 100) {x n : Nat} (hx : x < 2147483648) (hn9 : n ≤ 60) (z1 : Value) : ∀ (n0 j : Nat), j ≤ n → n < j + n0 → ∀ (i' : MI0) (z6 : Value), HR i' (X + 174) (vyg (vh (aV s)) x j) → (∀ q, (q < X + 174 ∨ X + 177 < q) → i' q = i q) → PW G iX11_voyages d (Wi (iN (hp (vyg (vh (aV s)) x n))) S (fun i' => ∀ q, (q < X + 174 ∨ X + 177 < q) → i' q = i q)) 48 [.ref X, z1, .int (nI n), .long (lN (lcgN x j)), .null, .int (nI j), z6] [] (i', S) 0 0 := by
  have hP' := hP
  have hR' := hR
  have hV' := hV
  obtain ⟨⟨Gx, Gr, Gks, ⟨Gv, Gd, Gi0, Gi1⟩, Gi, Gk, Gt, Gc, Gp, Ge⟩, Pv0, Pv1, Pv2, Pv3⟩ := hP
  have Gh := Gv.2.2.2.2.2.2.2.2.2.2.1
  obtain ⟨Vr, Vi0, Vi1, Vk, Vx, Vt⟩ := hR
  have Vh := Vr.2.2.2.1
  obtain ⟨Av, Ai, At, Ab', Aa, Aw⟩ := hV
  have Ah := Av.1
  have Ah1 := Ah.1
  have Av1 := Av.2.1
  have Av2 := Av.2.2.1
  have Av3 := Av.2.2.2.1
  intro n0
  induction n0 with
  | zero => intro j h1 h2; exact absurd h2 (by omega)
  | succ n0 ih =>
    intro j hj1 hj2 i' z6 r1 r2
    have Fv := vyg_V Ah x j
    have Fl := lcgN_lt hx j
    have Fl2 := lcgN_lt hx (j + 1)
    refine PW_iload dX11_voyages_48 rfl ?_
    refine PW_iload_n (i := 2) dX11_voyages_50 rfl rfl ?_
    refine PW_icmp_ge 104 dX11_voyages_51 (by decide) (fun h51 => ?_) (fun h51 => ?_)
    · have h51 := jle h51
      have ej : j = n := by omega
      subst ej
      refine PW_aload_n (i := 0) dX11_voyages_104 rfl rfl ?_
      refine PW_getR dX11_voyages_105 fg11_50 (Gx) (Gr.2.2.2.2.1) ?_
      refine PW_giv (v := iN (hp (vyg (vh (aV s)) x j))) dX11_voyages_108 fg11_184 (Gt.1) (r1.2.1) ?_
      refine PW_ireturn rfl (rfl) dX11_voyages_111 (Nat.le_of_ble_eq_true rfl) (Nat.le_of_ble_eq_true rfl) ?_
      exact Wi_mk rfl rfl r2
    · have h51 := jnle h51
      refine PW_lload_n (i := 3) dX11_voyages_54 rfl rfl ?_
      refine PW_ldc2 dX11_voyages_55 kc11_248 ?_
      refine PW_lmul dX11_voyages_58 ?_
      refine PW_ldc2 dX11_voyages_59 kc11_250 ?_
      refine PW_ladd dX11_voyages_62 ?_
      refine PW_ldc2 dX11_voyages_63 kc11_252 ?_
      refine PW_lrem dX11_voyages_66 (by decide) ?_
      refine PW_eql (show _ = lN (lcgN x (j + 1)) from lcg_ok Fl) ?_
      refine PW_lstore_n (i := 3) dX11_voyages_67 rfl (Nat.le_of_ble_eq_true rfl) rfl ?_
      refine PW_lload_n (i := 3) dX11_voyages_68 rfl rfl ?_
      refine PW_ldc2 dX11_voyages_69 kc11_254 ?_
      refine PW_ldiv dX11_voyages_72 (by decide) ?_
      refine PW_ldc2 dX11_voyages_73 kc11_256 ?_
      refine PW_lrem dX11_voyages_76 (by decide) ?_
      refine PW_eql (lcg_w Fl2) ?_
      refine PW_l2i dX11_voyages_77 ?_
      refine PW_eqi (lN_i (lcw x j)) ?_
      refine PW_istore dX11_voyages_78 (Nat.le_of_ble_eq_true rfl) rfl ?_
      refine PW_aload_n (i := 0) dX11_voyages_80 rfl rfl ?_
      refine PW_getR dX11_voyages_81 fg11_50 (Gx) (Gr.2.2.2.2.1) ?_
      refine PW_aload_n (i := 0) dX11_voyages_84 rfl rfl ?_
      refine PW_getR dX11_voyages_85 fg11_50 (Gx) (Gr.2.2.2.2.1) ?_
      refine PW_iconst (v := 1) dX11_voyages_88 (by decide) ?_
      refine PW_iload dX11_voyages_89 rfl ?_
      refine PW_ishl dX11_voyages_91 ?_
      have hw7 : lcw x j < 7 := Nat.mod_lt _ (by decide)
      have hp7 : 2 ^ lcw x j ≤ 2 ^ 6 := Nat.pow_le_pow_right (by decide) (by omega)
      refine PW_eqi (one_shl (k := lcw x j) (by omega)) ?_
      refine PW_callV dX11_voyages_92 moX4_steerer cv11_157 (Gt.1) (by omega) rfl rfl (Nat.le_of_ble_eq_true rfl) (Nat.le_of_ble_eq_true rfl) (Nat.le_of_ble_eq_true rfl) (spX4_steerer (d := d - 1) (by omega) Gks Gt r1 Fv (by omega) (by omega)) (fun v M1 hq => ?_)
      obtain ⟨rfl, rfl⟩ := hq
      refine PW_callV dX11_voyages_95 moX4_go cv11_160 (Gt.1) (by omega) rfl rfl (Nat.le_of_ble_eq_true rfl) (Nat.le_of_ble_eq_true rfl) (Nat.le_of_ble_eq_true rfl) (spX4_go (d := d - 1) (by omega) Gks Gt r1 Fv (by omega) (stw_le _ _)) (fun v M1 hq => ?_)
      obtain ⟨rfl, i3, rfl, p1, p2⟩ := hq
      refine PW_inc1 dX11_voyages_98 rfl (Nat.le_of_ble_eq_true rfl) rfl ?_
      refine PW_goto 48 dX11_voyages_101 (by decide) ?_
      exact ih (j + 1) (by omega) (by omega) i3 _ p1 (fun q hq => (p2 q (by omega) (by omega)).trans (r2 q hq))
set_option maxRecDepth 100000 in
set_option maxHeartbeats 4000000 in
theorem spX11_voyages {G : GE} {d : Nat} {i : MI0} {S : MS} {X b : Nat} {g : Nat → Nat → Nat} {s : Ab} (hd : 20 ≤ d) (hP : CP S X g) (hR : CR i X g s) (hV : AV b s) (hb : b ≤ 100) (k l : Int32) : Mt G iX11_voyages d [.ref X, .int k, .int l] (i, S) (Op X (i, S) (.int (oVoyages s k l).1) (oVoyages s k l).2) := by
  have hP' := hP
  have hR' := hR
  have hV' := hV
  obtain ⟨⟨Gx, Gr, Gks, ⟨Gv, Gd, Gi0, Gi1⟩, Gi, Gk, Gt, Gc, Gp, Ge⟩, Pv0, Pv1, Pv2, Pv3⟩ := hP
  have Gh := Gv.2.2.2.2.2.2.2.2.2.2.1
  obtain ⟨Vr, Vi0, Vi1, Vk, Vx, Vt⟩ := hR
  have Vh := Vr.2.2.2.1
  obtain ⟨Av, Ai, At, Ab', Aa, Aw⟩ := hV
  have Ah := Av.1
  have Ah1 := Ah.1
  have Av1 := Av.2.1
  have Av2 := Av.2.2.1
  have Av3 := Av.2.2.2.1
  refine Mt_in 4 (ls := [.ref X, .int k, .int l, .null, .null, .null, .null]) moX11_voyages (Nat.le_of_ble_eq_true rfl) rfl ?_
  refine PW_iload_n (i := 1) dX11_voyages_0 rfl rfl ?_
  refine PW_iconst (v := 0) dX11_voyages_1 (by decide) ?_
  refine PW_ldc dX11_voyages_2 kc11_247 ?_
  refine PW_callS dX11_voyages_4 moX11_isWithin cs11_116 (by omega) rfl rfl (Nat.le_of_ble_eq_true rfl) (Nat.le_of_ble_eq_true rfl) (Nat.le_of_ble_eq_true rfl) (spX11_isWithin (d := d - 1) _ _ _) (fun v M1 hq => ?_)
  obtain ⟨rfl, rfl⟩ := hq
  refine PW_if_eq 20 dX11_voyages_7 (by decide) (fun h7 => ?_) (fun h7 => ?_)
  · have h7 := b1_0.mp h7
    refine PW_aload_n (i := 0) dX11_voyages_20 rfl rfl ?_
    refine PW_sipush (v := -10000) dX11_voyages_21 (by decide) ?_
    refine PW_callV dX11_voyages_24 moX11_refuseBad cv11_95 (Gx) (by omega) rfl rfl (Nat.le_of_ble_eq_true rfl) (Nat.le_of_ble_eq_true rfl) (Nat.le_of_ble_eq_true rfl) (spX11_refuseBad (d := d - 1) hP' hR' hV' _) (fun v M1 hq => ?_)
    obtain ⟨rfl, i1, rfl, c1, c2⟩ := hq
    refine PW_ireturn rfl (rfl) dX11_voyages_27 (Nat.le_of_ble_eq_true rfl) (Nat.le_of_ble_eq_true rfl) ?_
    exact Op_i (by unfold oVoyages; rw [if_neg (fun q => by first | exact h7 q.1 | exact h17 q.2)]) hP' c1 (fun q hq => c2 q (by omega))
  · have h7 := b1_1.mp h7
    refine PW_iload_n (i := 2) dX11_voyages_10 rfl rfl ?_
    refine PW_iconst (v := 0) dX11_voyages_11 (by decide) ?_
    refine PW_bipush (v := 60) dX11_voyages_12 (by decide) ?_
    refine PW_callS dX11_voyages_14 moX11_isWithin cs11_116 (by omega) rfl rfl (Nat.le_of_ble_eq_true rfl) (Nat.le_of_ble_eq_true rfl) (Nat.le_of_ble_eq_true rfl) (spX11_isWithin (d := d - 1) _ _ _) (fun v M1 hq => ?_)
    obtain ⟨rfl, rfl⟩ := hq
    refine PW_if_ne 28 dX11_voyages_17 (by decide) (fun h17 => ?_) (fun h17 => ?_)
    · have h17 := b1_1.mp h17
      obtain ⟨x, hx, rfl⟩ := within_of (n := 999999) h7 rfl rfl (by decide)
      obtain ⟨n, hn9, rfl⟩ := within_of (n := 60) h17 rfl rfl (by decide)
      have ek : (nI x).toNatClampNeg = x := cln (by omega)
      have el : (nI n).toNatClampNeg = n := cln (by omega)
      refine PW_aload_n (i := 0) dX11_voyages_28 rfl rfl ?_
      refine PW_getR dX11_voyages_29 fg11_50 (Gx) (Gr.2.2.2.2.1) ?_
      refine PW_aload_n (i := 0) dX11_voyages_32 rfl rfl ?_
      refine PW_getR dX11_voyages_33 fg11_32 (Gx) (Gr.1) ?_
      refine PW_getR dX11_voyages_36 fg11_82 (Gv.1) (Gv.2.2.2.2.2.1) ?_
      refine PW_callV dX11_voyages_39 moX4_take cv11_207 (Gt.1) (by omega) rfl rfl (Nat.le_of_ble_eq_true rfl) (Nat.le_of_ble_eq_true rfl) (Nat.le_of_ble_eq_true rfl) (spX4_take (d := d - 1) Gt Gh Vh Ah1 (by omega)) (fun v M1 hq => ?_)
      obtain ⟨rfl, i3, rfl, p1, p2⟩ := hq
      refine PW_iload_n (i := 1) dX11_voyages_42 rfl rfl ?_
      refine PW_i2l dX11_voyages_43 ?_
      refine PW_eql (nI_l (by omega)) ?_
      refine PW_lstore_n (i := 3) dX11_voyages_44 rfl (Nat.le_of_ble_eq_true rfl) rfl ?_
      refine PW_iconst (v := 0) dX11_voyages_45 (by decide) ?_
      refine PW_istore dX11_voyages_46 (Nat.le_of_ble_eq_true rfl) rfl ?_
      refine PW_mono (fun v M' hq => ?_) (lpX11_voyages (i := i) hd hP' hR' hV' hb (x := x) (n := n) (by omega) hn9 _ (n + 1) 0 (by omega) (by omega) i3 _ p1 (fun q hq => p2 q (by omega)))
      obtain ⟨rfl, i4, rfl, w2⟩ := hq
      exact Op_i (by unfold oVoyages; rw [if_pos ⟨h7, h17⟩, ek, el]) hP' (hR'.kp hP' hV' (fun q h1 h2 h3 h4 => w2 q (by omega))) (fun q hq => w2 q (by omega))
    · have h17 := b1_0.mp h17
      refine PW_aload_n (i := 0) dX11_voyages_20 rfl rfl ?_
      refine PW_sipush (v := -10000) dX11_voyages_21 (by decide) ?_
      refine PW_callV dX11_voyages_24 moX11_refuseBad cv11_95 (Gx) (by omega) rfl rfl (Nat.le_of_ble_eq_true rfl) (Nat.le_of_ble_eq_true rfl) (Nat.le_of_ble_eq_true rfl) (spX11_refuseBad (d := d - 1) hP' hR' hV' _) (fun v M1 hq => ?_)
      obtain ⟨rfl, i1, rfl, c1, c2⟩ := hq
      refine PW_ireturn rfl (rfl) dX11_voyages_27 (Nat.le_of_ble_eq_true rfl) (Nat.le_of_ble_eq_true rfl) ?_
      exact Op_i (by unfold oVoyages; rw [if_neg (fun q => by first | exact h7 q.1 | exact h17 q.2)]) hP' c1 (fun q hq => c2 q (by omega))
theorem gcd_go {r e j : Nat} (h : j = 0 ∨ (r ≤ e ∧ r * e * 2 ^ (j - 1) < 2 ^ 62)) (hr : r < 2 ^ 31) (he : e < 2 ^ 31) (h0 : ¬ r = 0) : e % r ≤ r ∧ e % r * r * 2 ^ j < 2 ^ 62 := by
  have hlt : e % r < r := Nat.mod_lt _ (by omega)
  refine ⟨by omega, ?_⟩
  rcases h with rfl | ⟨h1, h2⟩
  · have : e % r * r < 2 ^ 31 * 2 ^ 31 := Nat.mul_lt_mul_of_lt_of_le (by omega) (by omega) (by decide)
    omega
  · by_cases hj : j = 0
    · subst hj
      have : e % r * r < 2 ^ 31 * 2 ^ 31 := Nat.mul_lt_mul_of_lt_of_le (by omega) (by omega) (by decide)
      omega
    · have h3 : e = r * (e / r) + e % r := (Nat.div_add_mod e r).symm
      have h4 : 1 ≤ e / r := Nat.div_pos h1 (by omega)
      have h5 : r * 1 ≤ r * (e / r) := Nat.mul_le_mul_left r h4
      have h6 : 2 * (e % r) ≤ e := by omega
      have e1 : 2 ^ j = 2 * 2 ^ (j - 1) := by rw [show j = (j - 1) + 1 by omega, Nat.pow_succ]; rw [Nat.mul_comm]; rfl
      have e2 : e % r * r * 2 ^ j = 2 * (e % r) * r * 2 ^ (j - 1) := by rw [e1]; simp only [Nat.mul_assoc, Nat.mul_comm, Nat.mul_left_comm]
      rw [e2]
      refine Nat.lt_of_le_of_lt ?_ h2
      rw [Nat.mul_comm r e]
      exact Nat.mul_le_mul_right _ (Nat.mul_le_mul_right _ h6)
theorem gcd_end {r e : Nat} (h : r ≤ e ∧ r * e * 2 ^ 99 < 2 ^ 62) : r = 0 := by
  by_cases h0 : r = 0
  · exact h0
  · have h1 : 1 ≤ r * e := Nat.mul_pos (by omega) (by omega)
    have h2 : 1 * 2 ^ 99 ≤ r * e * 2 ^ 99 := Nat.mul_le_mul_right _ h1
    omega
theorem chn_le {b : Nat} {h : Hm} {k c : Nat} (hv : HV b h) (hc : c ≤ 10) : chn h k c ≤ 10000000 := by
  have h6 : 10 ^ hn h ≤ 10 ^ 6 := Nat.pow_le_pow_right (by decide) hv.1
  have hx : ∀ s, coo h k s c ≤ 1000000 := by
    intro s
    unfold coo
    split
    · omega
    · have := prodN_le (f := cooF h k s c) (n := hn h) (fun j _ => cooF_le hc)
      omega
  have h1 := hx (slf h k true)
  have h2 := hx (slf h k false)
  unfold chn
  have h3 : c * coo h k (slf h k true) c ≤ c * 1000000 := Nat.mul_le_mul_left _ h1
  have h4 : (10 - c) * coo h k (slf h k false) c ≤ (10 - c) * 1000000 := Nat.mul_le_mul_left _ h2
  omega
def oOdds (s : Ab) (k c : Int32) : Int32 × Ab := if isH s k ∧ ((0 : Int32) ≤ c ∧ c ≤ 10) then (1, setF s (chn (vh (aV s)) k.toNatClampNeg c.toNatClampNeg / Nat.gcd (chn (vh (aV s)) k.toNatClampNeg c.toNatClampNeg) (10 ^ hn (vh (aV s)))) (10 ^ hn (vh (aV s)) / Nat.gcd (chn (vh (aV s)) k.toNatClampNeg c.toNatClampNeg) (10 ^ hn (vh (aV s))))) else (-2, bad s)
set_option maxRecDepth 100000 in
set_option maxHeartbeats 4000000 in
theorem lpX11_gcd {G : GE} {d : Nat} {M : Mm} (a b : Nat) : ∀ (n0 j : Nat), j ≤ 100 → 100 < j + n0 → ∀ (r e : Nat) (z5 : Value), Nat.gcd r e = Nat.gcd a b → r < 2 ^ 31 → e < 2 ^ 31 → (j = 0 ∨ (r ≤ e ∧ r * e * 2 ^ (j - 1) < 2 ^ 62)) → PW G iX11_greatestDivisor d (Rt (nI (Nat.gcd a b)) M) 7 [.int (nI a), .int (nI b), .int (nI r), .int (nI e), .int (nI j), z5] [] (M) 0 0 := by
  intro n0
  induction n0 with
  | zero => intro j h1 h2; exact absurd h2 (by omega)
  | succ n0 ih =>
    intro j hj1 hj2 r e z5 hg hr he hi
    refine PW_iload dX11_greatestDivisor_7 rfl ?_
    refine PW_bipush (v := 100) dX11_greatestDivisor_9 (by decide) ?_
    refine PW_icmp_ge 34 dX11_greatestDivisor_11 (by decide) (fun h11 => ?_) (fun h11 => ?_)
    · have h11 := jle (a := 100) h11
      have ej : j = 100 := by omega
      have hr0 : r = 0 := gcd_end (r := r) (e := e) (by rcases hi with hi | hi; (omega); (rw [ej] at hi; exact hi))
      refine PW_iload_n (i := 3) dX11_greatestDivisor_34 rfl rfl ?_
      refine PW_ireturn rfl (rfl) dX11_greatestDivisor_35 (Nat.le_of_ble_eq_true rfl) (Nat.le_of_ble_eq_true rfl) ?_
      refine rt_i ?_
      have hr0 : r = 0 := by first | exact hr0 | exact h15
      rw [← hg, hr0, Nat.gcd_zero_left]
    · have h11 := jnle (a := 100) h11
      refine PW_iload_n (i := 2) dX11_greatestDivisor_14 rfl rfl ?_
      refine PW_if_eq 34 dX11_greatestDivisor_15 (by decide) (fun h15 => ?_) (fun h15 => ?_)
      · have h15 := jeq (b := 0) h15
        refine PW_iload_n (i := 3) dX11_greatestDivisor_34 rfl rfl ?_
        refine PW_ireturn rfl (rfl) dX11_greatestDivisor_35 (Nat.le_of_ble_eq_true rfl) (Nat.le_of_ble_eq_true rfl) ?_
        refine rt_i ?_
        have hr0 : r = 0 := by first | exact hr0 | exact h15
        rw [← hg, hr0, Nat.gcd_zero_left]
      · have h15 := jne (b := 0) h15
        refine PW_iload_n (i := 3) dX11_greatestDivisor_18 rfl rfl ?_
        refine PW_iload_n (i := 2) dX11_greatestDivisor_19 rfl rfl ?_
        refine PW_irem dX11_greatestDivisor_20 (fun q => absurd (jeq (b := 0) q) h15) ?_
        refine PW_eqi (pk_rem he (by omega) hr) ?_
        refine PW_istore dX11_greatestDivisor_21 (Nat.le_of_ble_eq_true rfl) rfl ?_
        refine PW_iload_n (i := 2) dX11_greatestDivisor_23 rfl rfl ?_
        refine PW_istore_n (i := 3) dX11_greatestDivisor_24 rfl (Nat.le_of_ble_eq_true rfl) rfl ?_
        refine PW_iload dX11_greatestDivisor_25 rfl ?_
        refine PW_istore_n (i := 2) dX11_greatestDivisor_27 rfl (Nat.le_of_ble_eq_true rfl) rfl ?_
        refine PW_inc1 dX11_greatestDivisor_28 rfl (Nat.le_of_ble_eq_true rfl) rfl ?_
        refine PW_goto 7 dX11_greatestDivisor_31 (by decide) ?_
        have q := gcd_go hi hr he h15
        exact ih (j + 1) (by omega) (by omega) (e % r) r _ (by rw [← hg, ← Nat.gcd_rec]) (by have := Nat.mod_lt e (show 0 < r by omega); omega) hr (Or.inr q)
set_option maxRecDepth 100000 in
set_option maxHeartbeats 4000000 in
theorem spX11_gcd {G : GE} {d : Nat} {M : Mm} {a b : Nat} (ha : a < 2 ^ 31) (hb : b < 2 ^ 31) : Mt G iX11_greatestDivisor d [.int (nI a), .int (nI b)] M (Rt (nI (Nat.gcd a b)) M) := by
  refine Mt_in 4 (ls := [.int (nI a), .int (nI b), .null, .null, .null, .null]) moX11_greatestDivisor (Nat.le_of_ble_eq_true rfl) rfl ?_
  refine PW_iload_n (i := 0) dX11_greatestDivisor_0 rfl rfl ?_
  refine PW_istore_n (i := 2) dX11_greatestDivisor_1 rfl (Nat.le_of_ble_eq_true rfl) rfl ?_
  refine PW_iload_n (i := 1) dX11_greatestDivisor_2 rfl rfl ?_
  refine PW_istore_n (i := 3) dX11_greatestDivisor_3 rfl (Nat.le_of_ble_eq_true rfl) rfl ?_
  refine PW_iconst (v := 0) dX11_greatestDivisor_4 (by decide) ?_
  refine PW_istore dX11_greatestDivisor_5 (Nat.le_of_ble_eq_true rfl) rfl ?_
  exact lpX11_gcd a b 101 0 (by omega) (by omega) a b _ rfl ha hb (Or.inl rfl)
set_option maxRecDepth 100000 in
set_option maxHeartbeats 4000000 in
theorem spX11_setFraction {G : GE} {d : Nat} {i : MI0} {S : MS} {X b : Nat} {g : Nat → Nat → Nat} {s : Ab} (hd : 10 ≤ d) (hP : CP S X g) (hR : CR i X g s) (hV : AV b s) (hb : b ≤ 100) {u w : Nat} (hu : u < 2 ^ 31) (hw9 : w < 2 ^ 31) (hw0 : 0 < w) : Mt G iX11_setFraction d [.ref X, .int (nI u), .int (nI w)] (i, S) (Wr S (fun i' => CR i' X g (setF s (u / Nat.gcd u w) (w / Nat.gcd u w)) ∧ ∀ q, q ≠ X → i' q = i q)) := by
  have hP' := hP
  have hR' := hR
  have hV' := hV
  obtain ⟨⟨Gx, Gr, Gks, ⟨Gv, Gd, Gi0, Gi1⟩, Gi, Gk, Gt, Gc, Gp, Ge⟩, Pv0, Pv1, Pv2, Pv3⟩ := hP
  have Gh := Gv.2.2.2.2.2.2.2.2.2.2.1
  obtain ⟨Vr, Vi0, Vi1, Vk, Vx, Vt⟩ := hR
  have Vh := Vr.2.2.2.1
  obtain ⟨Av, Ai, At, Ab', Aa, Aw⟩ := hV
  have Ah := Av.1
  have Ah1 := Ah.1
  have Av1 := Av.2.1
  have Av2 := Av.2.2.1
  have Av3 := Av.2.2.2.1
  have hg : 0 < Nat.gcd u w := Nat.gcd_pos_of_pos_right _ hw0
  have hg2 : Nat.gcd u w < 2 ^ 31 := Nat.lt_of_le_of_lt (Nat.le_of_dvd hw0 (Nat.gcd_dvd_right _ _)) hw9
  refine Mt_in 1 (ls := [.ref X, .int (nI u), .int (nI w), .null]) moX11_setFraction (Nat.le_of_ble_eq_true rfl) rfl ?_
  refine PW_iload_n (i := 1) dX11_setFraction_0 rfl rfl ?_
  refine PW_iload_n (i := 2) dX11_setFraction_1 rfl rfl ?_
  refine PW_callS dX11_setFraction_2 moX11_greatestDivisor cs11_290 (by omega) rfl rfl (Nat.le_of_ble_eq_true rfl) (Nat.le_of_ble_eq_true rfl) (Nat.le_of_ble_eq_true rfl) (spX11_gcd (d := d - 1) hu hw9) (fun v M1 hq => ?_)
  obtain ⟨rfl, rfl⟩ := hq
  refine PW_istore_n (i := 3) dX11_setFraction_5 rfl (Nat.le_of_ble_eq_true rfl) rfl ?_
  refine PW_iload_n (i := 3) dX11_setFraction_6 rfl rfl ?_
  refine PW_if_le 24 dX11_setFraction_7 (by decide) (fun q => absurd (jle (b := 0) q hg2) (by omega)) (fun _ => ?_)
  refine PW_aload_n (i := 0) dX11_setFraction_10 rfl rfl ?_
  refine PW_iload_n (i := 1) dX11_setFraction_11 rfl rfl ?_
  refine PW_iload_n (i := 3) dX11_setFraction_12 rfl rfl ?_
  refine PW_idiv dX11_setFraction_13 (fun q => absurd (jeq (b := 0) q hg2) (by omega)) ?_
  refine PW_eqi (pk_div hu hg hg2) ?_
  refine PW_putI dX11_setFraction_14 fr11_75 (fun h => by cases h) (Gx) ?_
  refine PW_aload_n (i := 0) dX11_setFraction_17 rfl rfl ?_
  refine PW_iload_n (i := 2) dX11_setFraction_18 rfl rfl ?_
  refine PW_iload_n (i := 3) dX11_setFraction_19 rfl rfl ?_
  refine PW_idiv dX11_setFraction_20 (fun q => absurd (jeq (b := 0) q hg2) (by omega)) ?_
  refine PW_eqi (pk_div hw9 hg hg2) ?_
  refine PW_putI dX11_setFraction_21 fr11_79 (fun h => by cases h) (Gx) ?_
  refine PW_return rfl dX11_setFraction_24 (Nat.le_of_ble_eq_true rfl) (Nat.le_of_ble_eq_true rfl) ?_
  refine Wr_mk rfl ⟨hR'.sx (s' := setF s (u / Nat.gcd u w) (w / Nat.gcd u w)) hP' hV' rfl rfl rfl rfl rfl ⟨?_, ?_, ?_, ?_, ?_⟩ (fun q hq => by rw [rI_f _ _ hq, rI_f _ _ hq]; rfl), fun q hq => by rw [rI_f _ _ hq, rI_f _ _ hq]; rfl⟩
  · simp (disch := omega) only [rI_s, rI_k, rI_a, rI_f, rA_s, rA_n, rA_f, rP, rP_f]; exact rfl
  · simp (disch := omega) only [rI_s, rI_k, rI_a, rI_f, rA_s, rA_n, rA_f, rP, rP_f]; exact rfl
  · simp (disch := omega) only [rI_s, rI_k, rI_a, rI_f, rA_s, rA_n, rA_f, rP, rP_f]; exact Vx.2.2.1
  · simp (disch := omega) only [rI_s, rI_k, rI_a, rI_f, rA_s, rA_n, rA_f, rP, rP_f]; exact Vx.2.2.2.1
  · simp (disch := omega) only [rI_s, rI_k, rI_a, rI_f, rA_s, rA_n, rA_f, rP, rP_f]; exact Vx.2.2.2.2
set_option maxRecDepth 100000 in
set_option maxHeartbeats 4000000 in
theorem lpX11_odds {G : GE} {d : Nat} {i : MI0} {S : MS} {X b : Nat} {g : Nat → Nat → Nat} {s : Ab} (hd : 20 ≤ d) (hP : CP S X g) (hR : CR i X g s) (hV : AV b s) (hb : b ≤ 100) {a c : Nat} (ha : a < hn (vh (aV s))) (hc : c ≤ 10) : ∀ (n0 j : Nat), j ≤ hn (vh (aV s)) → hn (vh (aV s)) < j + n0 → PW G iX11_odds d (Wi 1 S (fun i' => CR i' X g (setF s (chn (vh (aV s)) a c / Nat.gcd (chn (vh (aV s)) a c) (10 ^ hn (vh (aV s)))) (10 ^ hn (vh (aV s)) / Nat.gcd (chn (vh (aV s)) a c) (10 ^ hn (vh (aV s))))) ∧ ∀ q, q ≠ X → i' q = i q)) 30 [.ref X, .int (nI a), .int (nI c), .int (nI (10 ^ j)), .int (nI j)] [] (i, S) 0 0 := by
  have hP' := hP
  have hR' := hR
  have hV' := hV
  obtain ⟨⟨Gx, Gr, Gks, ⟨Gv, Gd, Gi0, Gi1⟩, Gi, Gk, Gt, Gc, Gp, Ge⟩, Pv0, Pv1, Pv2, Pv3⟩ := hP
  have Gh := Gv.2.2.2.2.2.2.2.2.2.2.1
  obtain ⟨Vr, Vi0, Vi1, Vk, Vx, Vt⟩ := hR
  have Vh := Vr.2.2.2.1
  obtain ⟨Av, Ai, At, Ab', Aa, Aw⟩ := hV
  have Ah := Av.1
  have Ah1 := Ah.1
  have Av1 := Av.2.1
  have Av2 := Av.2.2.1
  have Av3 := Av.2.2.2.1
  intro n0
  induction n0 with
  | zero => intro j h1 h2; exact absurd h2 (by omega)
  | succ n0 ih =>
    intro j hj1 hj2 
    refine PW_iload dX11_odds_30 rfl ?_
    refine PW_aload_n (i := 0) dX11_odds_32 rfl rfl ?_
    refine PW_getR dX11_odds_33 fg11_32 (Gx) (Gr.1) ?_
    refine PW_getR dX11_odds_36 fg11_82 (Gv.1) (Gv.2.2.2.2.2.1) ?_
    refine PW_giv (v := nI (hn (vh (aV s)))) dX11_odds_39 fg11_85 (Gh.1) (Vh.1) ?_
    refine PW_icmp_ge 56 dX11_odds_42 (by decide) (fun h42 => ?_) (fun h42 => ?_)
    · have h42 := jle h42
      have ej : j = hn (vh (aV s)) := by omega
      subst ej
      refine PW_aload_n (i := 0) dX11_odds_56 rfl rfl ?_
      refine PW_aload_n (i := 0) dX11_odds_57 rfl rfl ?_
      refine PW_getR dX11_odds_58 fg11_32 (Gx) (Gr.1) ?_
      refine PW_getR dX11_odds_61 fg11_82 (Gv.1) (Gv.2.2.2.2.2.1) ?_
      refine PW_iload_n (i := 1) dX11_odds_64 rfl rfl ?_
      refine PW_iload_n (i := 2) dX11_odds_65 rfl rfl ?_
      refine PW_callV dX11_odds_66 moX4_chances cv11_241 (Gh.1) (by omega) rfl rfl (Nat.le_of_ble_eq_true rfl) (Nat.le_of_ble_eq_true rfl) (Nat.le_of_ble_eq_true rfl) (spX4_chances (d := d - 1) (by omega) Gks Gh Vh Ah (by omega) ha hc) (fun v M1 hq => ?_)
      obtain ⟨rfl, rfl⟩ := hq
      refine PW_iload_n (i := 3) dX11_odds_69 rfl rfl ?_
      have h6 : 10 ^ hn (vh (aV s)) ≤ 10 ^ 6 := Nat.pow_le_pow_right (by decide) Ah1
      have hq9 := chn_le (k := a) Ah hc
      refine PW_callV dX11_odds_70 moX11_setFraction cv11_244 (Gx) (by omega) rfl rfl (Nat.le_of_ble_eq_true rfl) (Nat.le_of_ble_eq_true rfl) (Nat.le_of_ble_eq_true rfl) (spX11_setFraction (d := d - 1) (by omega) hP' hR' hV' hb (by omega) (by omega) (Nat.pow_pos (by decide))) (fun v M1 hq => ?_)
      obtain ⟨rfl, i4, rfl, w1, w2⟩ := hq
      refine PW_iconst (v := 1) dX11_odds_73 (by decide) ?_
      refine PW_ireturn rfl (rfl) dX11_odds_74 (Nat.le_of_ble_eq_true rfl) (Nat.le_of_ble_eq_true rfl) ?_
      exact Wi_mk rfl rfl ⟨w1, w2⟩
    · have h42 := jnle h42
      refine PW_iload_n (i := 3) dX11_odds_45 rfl rfl ?_
      refine PW_bipush (v := 10) dX11_odds_46 (by decide) ?_
      refine PW_imul dX11_odds_48 ?_
      refine PW_eqi (show _ = nI (10 ^ (j + 1)) from pk_mul _ 10) ?_
      refine PW_istore_n (i := 3) dX11_odds_49 rfl (Nat.le_of_ble_eq_true rfl) rfl ?_
      refine PW_inc1 dX11_odds_50 rfl (Nat.le_of_ble_eq_true rfl) rfl ?_
      refine PW_goto 30 dX11_odds_53 (by decide) ?_
      exact ih (j + 1) (by omega) (by omega)
set_option maxRecDepth 100000 in
set_option maxHeartbeats 4000000 in
theorem spX11_odds {G : GE} {d : Nat} {i : MI0} {S : MS} {X b : Nat} {g : Nat → Nat → Nat} {s : Ab} (hd : 20 ≤ d) (hP : CP S X g) (hR : CR i X g s) (hV : AV b s) (hb : b ≤ 100) (k l : Int32) : Mt G iX11_odds d [.ref X, .int k, .int l] (i, S) (Op X (i, S) (.int (oOdds s k l).1) (oOdds s k l).2) := by
  have hP' := hP
  have hR' := hR
  have hV' := hV
  obtain ⟨⟨Gx, Gr, Gks, ⟨Gv, Gd, Gi0, Gi1⟩, Gi, Gk, Gt, Gc, Gp, Ge⟩, Pv0, Pv1, Pv2, Pv3⟩ := hP
  have Gh := Gv.2.2.2.2.2.2.2.2.2.2.1
  obtain ⟨Vr, Vi0, Vi1, Vk, Vx, Vt⟩ := hR
  have Vh := Vr.2.2.2.1
  obtain ⟨Av, Ai, At, Ab', Aa, Aw⟩ := hV
  have Ah := Av.1
  have Ah1 := Ah.1
  have Av1 := Av.2.1
  have Av2 := Av.2.2.1
  have Av3 := Av.2.2.2.1
  refine Mt_in 2 (ls := [.ref X, .int k, .int l, .null, .null]) moX11_odds (Nat.le_of_ble_eq_true rfl) rfl ?_
  refine PW_aload_n (i := 0) dX11_odds_0 rfl rfl ?_
  refine PW_iload_n (i := 1) dX11_odds_1 rfl rfl ?_
  refine PW_callV dX11_odds_2 moX11_isHand cv11_144 (Gx) (by omega) rfl rfl (Nat.le_of_ble_eq_true rfl) (Nat.le_of_ble_eq_true rfl) (Nat.le_of_ble_eq_true rfl) (spX11_isHand (d := d - 1) (by omega) hP' hR' hV' hb _) (fun v M1 hq => ?_)
  obtain ⟨rfl, rfl⟩ := hq
  refine PW_if_eq 18 dX11_odds_5 (by decide) (fun h5 => ?_) (fun h5 => ?_)
  · have h5 := b1_0.mp h5
    refine PW_aload_n (i := 0) dX11_odds_18 rfl rfl ?_
    refine PW_bipush (v := -2) dX11_odds_19 (by decide) ?_
    refine PW_callV dX11_odds_21 moX11_refuseBad cv11_95 (Gx) (by omega) rfl rfl (Nat.le_of_ble_eq_true rfl) (Nat.le_of_ble_eq_true rfl) (Nat.le_of_ble_eq_true rfl) (spX11_refuseBad (d := d - 1) hP' hR' hV' _) (fun v M1 hq => ?_)
    obtain ⟨rfl, i1, rfl, c1, c2⟩ := hq
    refine PW_ireturn rfl (rfl) dX11_odds_24 (Nat.le_of_ble_eq_true rfl) (Nat.le_of_ble_eq_true rfl) ?_
    exact Op_i (by unfold oOdds; rw [if_neg (fun q => by first | exact h5 q.1 | exact h15 q.2)]) hP' c1 (fun q hq => c2 q (by omega))
  · have h5 := b1_1.mp h5
    refine PW_iload_n (i := 2) dX11_odds_8 rfl rfl ?_
    refine PW_iconst (v := 0) dX11_odds_9 (by decide) ?_
    refine PW_bipush (v := 10) dX11_odds_10 (by decide) ?_
    refine PW_callS dX11_odds_12 moX11_isWithin cs11_116 (by omega) rfl rfl (Nat.le_of_ble_eq_true rfl) (Nat.le_of_ble_eq_true rfl) (Nat.le_of_ble_eq_true rfl) (spX11_isWithin (d := d - 1) _ _ _) (fun v M1 hq => ?_)
    obtain ⟨rfl, rfl⟩ := hq
    refine PW_if_ne 25 dX11_odds_15 (by decide) (fun h15 => ?_) (fun h15 => ?_)
    · have h15 := b1_1.mp h15
      obtain ⟨j, hj, rfl⟩ := isH_of hV' h5
      have ek : (nI j).toNatClampNeg = j := cln (by omega)
      obtain ⟨c, hc, rfl⟩ := within_of (n := 10) h15 rfl rfl (by decide)
      have el : (nI c).toNatClampNeg = c := cln (by omega)
      refine PW_iconst (v := 1) dX11_odds_25 (by decide) ?_
      refine PW_istore_n (i := 3) dX11_odds_26 rfl (Nat.le_of_ble_eq_true rfl) rfl ?_
      refine PW_iconst (v := 0) dX11_odds_27 (by decide) ?_
      refine PW_istore dX11_odds_28 (Nat.le_of_ble_eq_true rfl) rfl ?_
      refine PW_mono (fun v M' hq => ?_) (lpX11_odds hd hP' hR' hV' hb hj hc (hn (vh (aV s)) + 1) 0 (by omega) (by omega))
      obtain ⟨rfl, i4, rfl, w1, w2⟩ := hq
      exact Op_i (by unfold oOdds; rw [if_pos ⟨h5, h15⟩, ek, el]) hP' w1 (fun q hq => w2 q (by omega))
    · have h15 := b1_0.mp h15
      refine PW_aload_n (i := 0) dX11_odds_18 rfl rfl ?_
      refine PW_bipush (v := -2) dX11_odds_19 (by decide) ?_
      refine PW_callV dX11_odds_21 moX11_refuseBad cv11_95 (Gx) (by omega) rfl rfl (Nat.le_of_ble_eq_true rfl) (Nat.le_of_ble_eq_true rfl) (Nat.le_of_ble_eq_true rfl) (spX11_refuseBad (d := d - 1) hP' hR' hV' _) (fun v M1 hq => ?_)
      obtain ⟨rfl, i1, rfl, c1, c2⟩ := hq
      refine PW_ireturn rfl (rfl) dX11_odds_24 (Nat.le_of_ble_eq_true rfl) (Nat.le_of_ble_eq_true rfl) ?_
      exact Op_i (by unfold oOdds; rw [if_neg (fun q => by first | exact h5 q.1 | exact h15 q.2)]) hP' c1 (fun q hq => c2 q (by omega))

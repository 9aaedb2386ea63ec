/-! ===== SleepyHelm: is, meet ===== -/
theorem chK_V {b : Nat} {h : Hm} {a c : Nat} (hv : HV b h) (hc : c < 6) : HV b (chK h a c) := by
  obtain ⟨h1, h2, h3, h4, h5, h6⟩ := hv
  refine ⟨h1, h2, h3, h4, h5, fun j hj => ⟨?_, (h6 j hj).2⟩⟩
  show (if j = a then c else hK h j) < 6
  split
  · exact hc
  · exact (h6 j hj).1
theorem chK_R {i i4 : MI0} {S : MS} {p : Nat} {h : Hm} {a c : Nat} (hr : HR i p h) (e : i4 = mi (wI (i, S) (p + 1) a (nI c))) (_ : 0 < 1) : HR i4 p (chK h a c) := by
  obtain ⟨r4, r5, r6, r7, rj⟩ := hr
  subst e
  refine ⟨?_, ?_, ?_, ?_, fun j hj => ⟨?_, ?_, ?_⟩⟩
  · rw [rI_a _ _ _ (by omega)]; exact r4
  · rw [rI_a _ _ _ (by omega)]; exact r5
  · rw [rI_a _ _ _ (by omega)]; exact r6
  · rw [rI_a _ _ _ (by omega)]; exact r7
  · show _ = nI (if j = a then c else hK h j)
    by_cases e : j = a
    · rw [e, rI_s, if_pos rfl]
    · rw [rI_k _ _ _ e, if_neg e]; exact (rj j hj).1
  · rw [rI_a _ _ _ (by omega)]; exact (rj j hj).2.1
  · rw [rI_a _ _ _ (by omega)]; exact (rj j hj).2.2
set_option maxRecDepth 100000 in
set_option maxHeartbeats 4000000 in
theorem lpX11_is {G : GE} {d : Nat} {i : MI0} {S : MS} {X b : Nat} {g : Nat → Nat → Nat} {s : Ab} (hd : 20 ≤ d) (hP : CP S X g) (hR : CR i X g s) (hV : AV b s) (hb : b ≤ 100) {a : Nat} (ha : a < hn (vh (aV s))) : ∀ (n0 j : Nat), j ≤ 6 → 6 < j + n0 → ∀ (i' : MI0), (∀ q, (q < X + 174 ∨ X + 184 < q) → i' q = i q) → PW G iX11_is d (Wi (nI (bitsN (isF (aV s) a) 6)) S (fun i' => (∀ q, (q < X + 174 ∨ X + 184 < q) → i' q = i q))) 19 [.ref X, .int (nI a), .int (nI (bitsN (isF (aV s) a) j)), .int (nI j)] [] (i', S) 0 0 := by
  have hP' := hP
  have hR' := hR
  have hV' := hV
  obtain ⟨⟨Gx, Gr, Gks, ⟨Gv, Gd, Gi0, Gi1⟩, Gi, Gk, Gt, Gc, Gp, Ge⟩, Pv0, Pv1, Pv2, Pv3⟩ := hP
  have Gh := Gv.2.2.2.2.2.2.2.2.2.2.1
  obtain ⟨Vr, Vi0, Vi1, Vk, Vx, Vt⟩ := hR
  have Vh := Vr.2.2.2.1
  obtain ⟨Av, Ai, At, Ab', Aa, Aw⟩ := hV
  have Ah := Av.1
  have Ah1 := Ah.1
  have Av1 := Av.2.1
  have Av2 := Av.2.2.1
  have Av3 := Av.2.2.2.1
  intro n0
  induction n0 with
  | zero => intro j h1 h2; exact absurd h2 (by omega)
  | succ n0 ih =>
    intro j hj1 hj2 i' r2
    have hR1 := hR'.kp hP' hV' (fun q h1 h2 h3 h4 => r2 q (by omega))
    obtain ⟨Vr, Vi0, Vi1, Vk, Vx, Vt⟩ := hR1
    have Vh := Vr.2.2.2.1
    refine PW_iload_n (i := 3) dX11_is_19 rfl rfl ?_
    refine PW_bipush (v := 6) dX11_is_20 (by decide) ?_
    refine PW_icmp_ge 83 dX11_is_22 (by decide) (fun h22 => ?_) (fun h22 => ?_)
    · have h22 := jle (a := 6) h22
      have ej : j = 6 := by omega
      subst ej
      refine PW_iload_n (i := 2) dX11_is_83 rfl rfl ?_
      refine PW_ireturn rfl (rfl) dX11_is_84 (Nat.le_of_ble_eq_true rfl) (Nat.le_of_ble_eq_true rfl) ?_
      exact Wi_mk rfl rfl r2
    · have h22 := jnle (a := 6) h22
      refine PW_aload_n (i := 0) dX11_is_25 rfl rfl ?_
      refine PW_getR dX11_is_26 fg11_50 (Gx) (Gr.2.2.2.2.1) ?_
      refine PW_aload_n (i := 0) dX11_is_29 rfl rfl ?_
      refine PW_getR dX11_is_30 fg11_32 (Gx) (Gr.1) ?_
      refine PW_getR dX11_is_33 fg11_82 (Gv.1) (Gv.2.2.2.2.2.1) ?_
      refine PW_callV dX11_is_36 moX4_take cv11_207 (Gt.1) (by omega) rfl rfl (Nat.le_of_ble_eq_true rfl) (Nat.le_of_ble_eq_true rfl) (Nat.le_of_ble_eq_true rfl) (spX4_take (d := d - 1) Gt Gh Vh Ah1 (by omega)) (fun v M1 hq => ?_)
      obtain ⟨rfl, i3, rfl, p1, p2⟩ := hq
      refine PW_aload_n (i := 0) dX11_is_39 rfl rfl ?_
      refine PW_getR dX11_is_40 fg11_50 (Gx) (Gr.2.2.2.2.1) ?_
      refine PW_getR dX11_is_43 fg11_170 (Gt.1) (Gt.2.2.2.2.2.1) ?_
      refine PW_iload_n (i := 1) dX11_is_46 rfl rfl ?_
      refine PW_iload_n (i := 3) dX11_is_47 rfl rfl ?_
      refine PW_ias dX11_is_48 (Gt.2.1) (by decide) (by omega) ?_
      refine PW_nm rfl (fun i4 e4 => ?_)
      have t1 : HR i4 (X + 174) (chK (vh (aV s)) a j) := chK_R p1 e4 (by omega)
      have t2 : HV b (chK (vh (aV s)) a j) := chK_V Ah (by omega)
      refine PW_aload_n (i := 0) dX11_is_49 rfl rfl ?_
      refine PW_getR dX11_is_50 fg11_57 (Gx) (Gr.2.2.2.2.2.1) ?_
      refine PW_aload_n (i := 0) dX11_is_53 rfl rfl ?_
      refine PW_getR dX11_is_54 fg11_50 (Gx) (Gr.2.2.2.2.1) ?_
      refine PW_bipush (v := 20) dX11_is_57 (by decide) ?_
      refine PW_callV dX11_is_59 moX3_run cv11_187 (Gc.1) (by omega) rfl rfl (Nat.le_of_ble_eq_true rfl) (Nat.le_of_ble_eq_true rfl) (Nat.le_of_ble_eq_true rfl) (spX3_run (d := d - 1) (by omega) Gks Gc t2 (by omega) (m := 20) (by omega) Gt t1 (by omega)) (fun v M1 hq => ?_)
      obtain ⟨rfl, i5, rfl, w1, w2⟩ := hq
      have w3 : ∀ q, (q < X + 174 ∨ X + 184 < q) → i5 q = i q := fun q hq => by rw [w2 q (by omega), e4, rI_f _ _ (by omega), rP_f, p2 q (by omega)]; exact r2 q hq
      have hR5 := hR'.kp hP' hV' (fun q h1 h2 h3 h4 => w3 q (by omega))
      refine PW_aload_n (i := 0) dX11_is_62 rfl rfl ?_
      refine PW_iconst (v := 0) dX11_is_63 (by decide) ?_
      refine PW_iconst (v := 0) dX11_is_64 (by decide) ?_
      refine PW_callV dX11_is_65 moX11_fitsPulled cv11_226 (Gx) (by omega) rfl rfl (Nat.le_of_ble_eq_true rfl) (Nat.le_of_ble_eq_true rfl) (Nat.le_of_ble_eq_true rfl) (spX11_fitsPulled (d := d - 1) (by omega) hP' hR5 hV' hb w1 (k := 0) (by omega) 0) (fun v M1 hq => ?_)
      obtain ⟨rfl, rfl⟩ := hq
      refine PW_if_eq 77 dX11_is_68 (by decide) (fun h68 => ?_) (fun h68 => ?_)
      · have h68 := b2i_0.mp h68
        refine PW_inc1 dX11_is_77 rfl (Nat.le_of_ble_eq_true rfl) rfl ?_
        refine PW_goto 19 dX11_is_80 (by decide) ?_
        have q := ih (j + 1) (by omega) (by omega) i5 w3
        first | (rw [bitsN_t (n := j) h68] at q; exact q) | (rw [bitsN_f (n := j) (by unfold isF; rw [h68]; decide)] at q; exact q)
      · have h68 := b2i_n.mp h68
        refine PW_iload_n (i := 2) dX11_is_71 rfl rfl ?_
        refine PW_iconst (v := 1) dX11_is_72 (by decide) ?_
        refine PW_iload_n (i := 3) dX11_is_73 rfl rfl ?_
        refine PW_ishl dX11_is_74 ?_
        refine PW_ior dX11_is_75 ?_
        refine PW_eqi (or_bit (bitsN_lt _ _) (by omega)) ?_
        refine PW_istore_n (i := 2) dX11_is_76 rfl (Nat.le_of_ble_eq_true rfl) rfl ?_
        refine PW_inc1 dX11_is_77 rfl (Nat.le_of_ble_eq_true rfl) rfl ?_
        refine PW_goto 19 dX11_is_80 (by decide) ?_
        have q := ih (j + 1) (by omega) (by omega) i5 w3
        first | (rw [bitsN_t (n := j) h68] at q; exact q) | (rw [bitsN_f (n := j) (by unfold isF; rw [h68]; decide)] at q; exact q)
set_option maxRecDepth 100000 in
set_option maxHeartbeats 4000000 in
theorem spX11_is {G : GE} {d : Nat} {i : MI0} {S : MS} {X b : Nat} {g : Nat → Nat → Nat} {s : Ab} (hd : 20 ≤ d) (hP : CP S X g) (hR : CR i X g s) (hV : AV b s) (hb : b ≤ 100) (k : Int32) : Mt G iX11_is d [.ref X, .int k] (i, S) (Op X (i, S) (.int (oIs s k).1) (oIs s k).2) := by
  have hP' := hP
  have hR' := hR
  have hV' := hV
  obtain ⟨⟨Gx, Gr, Gks, ⟨Gv, Gd, Gi0, Gi1⟩, Gi, Gk, Gt, Gc, Gp, Ge⟩, Pv0, Pv1, Pv2, Pv3⟩ := hP
  have Gh := Gv.2.2.2.2.2.2.2.2.2.2.1
  obtain ⟨Vr, Vi0, Vi1, Vk, Vx, Vt⟩ := hR
  have Vh := Vr.2.2.2.1
  obtain ⟨Av, Ai, At, Ab', Aa, Aw⟩ := hV
  have Ah := Av.1
  have Ah1 := Ah.1
  have Av1 := Av.2.1
  have Av2 := Av.2.2.1
  have Av3 := Av.2.2.2.1
  refine Mt_in 2 (ls := [.ref X, .int k, .null, .null]) moX11_is (Nat.le_of_ble_eq_true rfl) rfl ?_
  refine PW_aload_n (i := 0) dX11_is_0 rfl rfl ?_
  refine PW_iload_n (i := 1) dX11_is_1 rfl rfl ?_
  refine PW_callV dX11_is_2 moX11_isHand cv11_144 (Gx) (by omega) rfl rfl (Nat.le_of_ble_eq_true rfl) (Nat.le_of_ble_eq_true rfl) (Nat.le_of_ble_eq_true rfl) (spX11_isHand (d := d - 1) (by omega) hP' hR' hV' hb _) (fun v M1 hq => ?_)
  obtain ⟨rfl, rfl⟩ := hq
  refine PW_if_ne 15 dX11_is_5 (by decide) (fun h5 => ?_) (fun h5 => ?_)
  · have h5 := b1_1.mp h5
    obtain ⟨j, hj, rfl⟩ := isH_of hV' h5
    have ek : (nI j).toNatClampNeg = j := cln (by omega)
    refine PW_iconst (v := 0) dX11_is_15 (by decide) ?_
    refine PW_istore_n (i := 2) dX11_is_16 rfl (Nat.le_of_ble_eq_true rfl) rfl ?_
    refine PW_iconst (v := 0) dX11_is_17 (by decide) ?_
    refine PW_istore_n (i := 3) dX11_is_18 rfl (Nat.le_of_ble_eq_true rfl) rfl ?_
    refine PW_mono (fun v M' hq => ?_) (lpX11_is (i := i) hd hP' hR' hV' hb hj 7 0 (by omega) (by omega) i (fun _ _ => rfl))
    obtain ⟨rfl, i4, rfl, w2⟩ := hq
    exact Op_i (by unfold oIs; rw [if_pos h5, ek]) hP' (hR'.kp hP' hV' (fun q h1 h2 h3 h4 => w2 q (by omega))) (fun q hq => w2 q (by omega))
  · have h5 := b1_0.mp h5
    refine PW_aload_n (i := 0) dX11_is_8 rfl rfl ?_
    refine PW_bipush (v := -2) dX11_is_9 (by decide) ?_
    refine PW_callV dX11_is_11 moX11_refuseBad cv11_95 (Gx) (by omega) rfl rfl (Nat.le_of_ble_eq_true rfl) (Nat.le_of_ble_eq_true rfl) (Nat.le_of_ble_eq_true rfl) (spX11_refuseBad (d := d - 1) hP' hR' hV' _) (fun v M1 hq => ?_)
    obtain ⟨rfl, i1, rfl, c1, c2⟩ := hq
    refine PW_ireturn rfl (rfl) dX11_is_14 (Nat.le_of_ble_eq_true rfl) (Nat.le_of_ble_eq_true rfl) ?_
    exact Op_i (by unfold oIs; rw [if_neg h5]) hP' c1 (fun q hq => c2 q (by omega))
set_option maxRecDepth 100000 in
set_option maxHeartbeats 4000000 in
theorem lpX11_meet {G : GE} {d : Nat} {i : MI0} {S : MS} {X b : Nat} {g : Nat → Nat → Nat} {s : Ab} (hd : 20 ≤ d) (hP : CP S X g) (hR : CR i X g s) (hV : AV b s) (hb : b ≤ 100) (hW : CW i (X + 178) (vh (aV s)) 61) (p c w : Int32) : ∀ (n0 j : Nat), j ≤ 61 → 61 < j + n0 → ∀ (z6 : Value), fstW (mtF (vh (aV s)) p c w) j = none → PW G iX11_meet d (Rt (oI (fstW (mtF (vh (aV s)) p c w) 61)) (i, S)) 64 [.ref X, .int p, .int c, .int w, .int (cmp3 (iN (hp (vh (aV s)))) p), .int (nI j), z6] [] (i, S) 0 0 := by
  have hP' := hP
  have hR' := hR
  have hV' := hV
  obtain ⟨⟨Gx, Gr, Gks, ⟨Gv, Gd, Gi0, Gi1⟩, Gi, Gk, Gt, Gc, Gp, Ge⟩, Pv0, Pv1, Pv2, Pv3⟩ := hP
  have Gh := Gv.2.2.2.2.2.2.2.2.2.2.1
  obtain ⟨Vr, Vi0, Vi1, Vk, Vx, Vt⟩ := hR
  have Vh := Vr.2.2.2.1
  obtain ⟨Av, Ai, At, Ab', Aa, Aw⟩ := hV
  have Ah := Av.1
  have Ah1 := Ah.1
  have Av1 := Av.2.1
  have Av2 := Av.2.2.1
  have Av3 := Av.2.2.2.1
  intro n0
  induction n0 with
  | zero => intro j h1 h2; exact absurd h2 (by omega)
  | succ n0 ih =>
    intro j hj1 hj2 z6 f0
    refine PW_iload dX11_meet_64 rfl ?_
    refine PW_bipush (v := 60) dX11_meet_66 (by decide) ?_
    refine PW_icmp_gt 118 dX11_meet_68 (by decide) (fun h68 => ?_) (fun h68 => ?_)
    · have h68 := jlt (a := 60) h68
      have ej : j = 61 := by omega
      subst ej
      refine PW_iconst (v := -1) dX11_meet_118 (by decide) ?_
      refine PW_ireturn rfl (rfl) dX11_meet_119 (Nat.le_of_ble_eq_true rfl) (Nat.le_of_ble_eq_true rfl) ?_
      refine rt_i ?_
      rw [f0]; rfl
    · have h68 := jnlt (a := 60) h68
      refine PW_aload_n (i := 0) dX11_meet_71 rfl rfl ?_
      refine PW_getR dX11_meet_72 fg11_57 (Gx) (Gr.2.2.2.2.2.1) ?_
      refine PW_getR dX11_meet_75 fg11_191 (Gc.1) (Gc.2.2.2.2.1) ?_
      refine PW_iload dX11_meet_78 rfl ?_
      refine PW_ial (v := iN (hp (pasN (vh (aV s)) j))) dX11_meet_80 (Gc.2.1) (by decide) (by omega) ((hW j (by omega)).1) ?_
      refine PW_iload_n (i := 1) dX11_meet_81 rfl rfl ?_
      refine PW_iload_n (i := 2) dX11_meet_82 rfl rfl ?_
      refine PW_iload dX11_meet_83 rfl ?_
      refine PW_imul dX11_meet_85 ?_
      refine PW_iadd dX11_meet_86 ?_
      refine PW_callS dX11_meet_87 moJ6_compare_7cf53 cs11_238 (by omega) rfl rfl (Nat.le_of_ble_eq_true rfl) (Nat.le_of_ble_eq_true rfl) (Nat.le_of_ble_eq_true rfl) (spJ6_compare (d := d - 1) _ _) (fun v M1 hq => ?_)
      obtain ⟨rfl, rfl⟩ := hq
      refine PW_eqi (show _ = cmp3 (iN (hp (pasN (vh (aV s)) j))) (p + c * nI j) from rfl) ?_
      refine PW_istore dX11_meet_90 (Nat.le_of_ble_eq_true rfl) rfl ?_
      refine PW_iload dX11_meet_92 rfl ?_
      refine PW_if_eq 109 dX11_meet_94 (by decide) (fun h94 => ?_) (fun h94 => ?_)
      · refine PW_iload dX11_meet_109 rfl ?_
        refine PW_ireturn rfl (rfl) dX11_meet_111 (Nat.le_of_ble_eq_true rfl) (Nat.le_of_ble_eq_true rfl) ?_
        refine rt_i ?_
        rw [fstW_some (j := j) f0 (by unfold mtF; first | (rw [decide_eq_true h94, Bool.true_or]) | (rw [decide_eq_false h94, decide_eq_true h99, decide_eq_false h106]; rfl)) (n := 61) (by omega)]; rfl
      · refine PW_iload_n (i := 3) dX11_meet_97 rfl rfl ?_
        refine PW_iconst (v := 1) dX11_meet_98 (by decide) ?_
        refine PW_icmp_ne 112 dX11_meet_99 (by decide) (fun h99 => ?_) (fun h99 => ?_)
        · refine PW_inc1 dX11_meet_112 rfl (Nat.le_of_ble_eq_true rfl) rfl ?_
          refine PW_goto 64 dX11_meet_115 (by decide) ?_
          refine ih (j + 1) (by omega) (by omega) _ (fstW_none f0 ?_)
          unfold mtF
          first | (rw [decide_eq_false h94, decide_eq_false h99]; simp) | (rw [decide_eq_false h94, decide_eq_true h106, Bool.not_true, Bool.and_false]; decide)
        · refine PW_iload dX11_meet_102 rfl ?_
          refine PW_iload dX11_meet_104 rfl ?_
          refine PW_icmp_eq 112 dX11_meet_106 (by decide) (fun h106 => ?_) (fun h106 => ?_)
          · refine PW_inc1 dX11_meet_112 rfl (Nat.le_of_ble_eq_true rfl) rfl ?_
            refine PW_goto 64 dX11_meet_115 (by decide) ?_
            refine ih (j + 1) (by omega) (by omega) _ (fstW_none f0 ?_)
            unfold mtF
            first | (rw [decide_eq_false h94, decide_eq_false h99]; simp) | (rw [decide_eq_false h94, decide_eq_true h106, Bool.not_true, Bool.and_false]; decide)
          · refine PW_iload dX11_meet_109 rfl ?_
            refine PW_ireturn rfl (rfl) dX11_meet_111 (Nat.le_of_ble_eq_true rfl) (Nat.le_of_ble_eq_true rfl) ?_
            refine rt_i ?_
            rw [fstW_some (j := j) f0 (by unfold mtF; first | (rw [decide_eq_true h94, Bool.true_or]) | (rw [decide_eq_false h94, decide_eq_true h99, decide_eq_false h106]; rfl)) (n := 61) (by omega)]; rfl
set_option maxRecDepth 100000 in
set_option maxHeartbeats 4000000 in
theorem spX11_meet {G : GE} {d : Nat} {i : MI0} {S : MS} {X b : Nat} {g : Nat → Nat → Nat} {s : Ab} (hd : 20 ≤ d) (hP : CP S X g) (hR : CR i X g s) (hV : AV b s) (hb : b ≤ 100) (p c w : Int32) : Mt G iX11_meet d [.ref X, .int p, .int c, .int w] (i, S) (Op X (i, S) (.int (oMeet s p c w).1) (oMeet s p c w).2) := by
  have hP' := hP
  have hR' := hR
  have hV' := hV
  obtain ⟨⟨Gx, Gr, Gks, ⟨Gv, Gd, Gi0, Gi1⟩, Gi, Gk, Gt, Gc, Gp, Ge⟩, Pv0, Pv1, Pv2, Pv3⟩ := hP
  have Gh := Gv.2.2.2.2.2.2.2.2.2.2.1
  obtain ⟨Vr, Vi0, Vi1, Vk, Vx, Vt⟩ := hR
  have Vh := Vr.2.2.2.1
  obtain ⟨Av, Ai, At, Ab', Aa, Aw⟩ := hV
  have Ah := Av.1
  have Ah1 := Ah.1
  have Av1 := Av.2.1
  have Av2 := Av.2.2.1
  have Av3 := Av.2.2.2.1
  refine Mt_in 3 (ls := [.ref X, .int p, .int c, .int w, .null, .null, .null]) moX11_meet (Nat.le_of_ble_eq_true rfl) rfl ?_
  refine PW_iload_n (i := 1) dX11_meet_0 rfl rfl ?_
  refine PW_callS dX11_meet_1 moX11_isPlace cs11_91 (by omega) rfl rfl (Nat.le_of_ble_eq_true rfl) (Nat.le_of_ble_eq_true rfl) (Nat.le_of_ble_eq_true rfl) (spX11_isPlace (d := d - 1) (by omega) _) (fun v M1 hq => ?_)
  obtain ⟨rfl, rfl⟩ := hq
  refine PW_if_eq 23 dX11_meet_4 (by decide) (fun h4 => ?_) (fun h4 => ?_)
  · have h4 := b1_0.mp h4
    refine PW_aload_n (i := 0) dX11_meet_23 rfl rfl ?_
    refine PW_bipush (v := -2) dX11_meet_24 (by decide) ?_
    refine PW_callV dX11_meet_26 moX11_refuseBad cv11_95 (Gx) (by omega) rfl rfl (Nat.le_of_ble_eq_true rfl) (Nat.le_of_ble_eq_true rfl) (Nat.le_of_ble_eq_true rfl) (spX11_refuseBad (d := d - 1) hP' hR' hV' _) (fun v M1 hq => ?_)
    obtain ⟨rfl, i1, rfl, c1, c2⟩ := hq
    refine PW_ireturn rfl (rfl) dX11_meet_29 (Nat.le_of_ble_eq_true rfl) (Nat.le_of_ble_eq_true rfl) ?_
    exact Op_i (by unfold oMeet; rw [if_neg (fun q => by first | exact h4 q.1 | exact h11 q.2.1 | exact h20 q.2.2)]) hP' c1 (fun q hq => c2 q (by omega))
  · have h4 := b1_1.mp h4
    refine PW_iload_n (i := 2) dX11_meet_7 rfl rfl ?_
    refine PW_callS dX11_meet_8 moX11_isNods cs11_120 (by omega) rfl rfl (Nat.le_of_ble_eq_true rfl) (Nat.le_of_ble_eq_true rfl) (Nat.le_of_ble_eq_true rfl) (spX11_isNods (d := d - 1) (by omega) _) (fun v M1 hq => ?_)
    obtain ⟨rfl, rfl⟩ := hq
    refine PW_if_eq 23 dX11_meet_11 (by decide) (fun h11 => ?_) (fun h11 => ?_)
    · have h11 := b1_0.mp h11
      refine PW_aload_n (i := 0) dX11_meet_23 rfl rfl ?_
      refine PW_bipush (v := -2) dX11_meet_24 (by decide) ?_
      refine PW_callV dX11_meet_26 moX11_refuseBad cv11_95 (Gx) (by omega) rfl rfl (Nat.le_of_ble_eq_true rfl) (Nat.le_of_ble_eq_true rfl) (Nat.le_of_ble_eq_true rfl) (spX11_refuseBad (d := d - 1) hP' hR' hV' _) (fun v M1 hq => ?_)
      obtain ⟨rfl, i1, rfl, c1, c2⟩ := hq
      refine PW_ireturn rfl (rfl) dX11_meet_29 (Nat.le_of_ble_eq_true rfl) (Nat.le_of_ble_eq_true rfl) ?_
      exact Op_i (by unfold oMeet; rw [if_neg (fun q => by first | exact h4 q.1 | exact h11 q.2.1 | exact h20 q.2.2)]) hP' c1 (fun q hq => c2 q (by omega))
    · have h11 := b1_1.mp h11
      refine PW_iload_n (i := 3) dX11_meet_14 rfl rfl ?_
      refine PW_iconst (v := 0) dX11_meet_15 (by decide) ?_
      refine PW_iconst (v := 1) dX11_meet_16 (by decide) ?_
      refine PW_callS dX11_meet_17 moX11_isWithin cs11_116 (by omega) rfl rfl (Nat.le_of_ble_eq_true rfl) (Nat.le_of_ble_eq_true rfl) (Nat.le_of_ble_eq_true rfl) (spX11_isWithin (d := d - 1) _ _ _) (fun v M1 hq => ?_)
      obtain ⟨rfl, rfl⟩ := hq
      refine PW_if_ne 30 dX11_meet_20 (by decide) (fun h20 => ?_) (fun h20 => ?_)
      · have h20 := b1_1.mp h20
        refine PW_aload_n (i := 0) dX11_meet_30 rfl rfl ?_
        refine PW_getR dX11_meet_31 fg11_57 (Gx) (Gr.2.2.2.2.2.1) ?_
        refine PW_aload_n (i := 0) dX11_meet_34 rfl rfl ?_
        refine PW_getR dX11_meet_35 fg11_32 (Gx) (Gr.1) ?_
        refine PW_getR dX11_meet_38 fg11_82 (Gv.1) (Gv.2.2.2.2.2.1) ?_
        refine PW_bipush (v := 60) dX11_meet_41 (by decide) ?_
        refine PW_callV dX11_meet_43 moX3_run cv11_187 (Gc.1) (by omega) rfl rfl (Nat.le_of_ble_eq_true rfl) (Nat.le_of_ble_eq_true rfl) (Nat.le_of_ble_eq_true rfl) (spX3_run (d := d - 1) (by omega) Gks Gc Ah (by omega) (m := 60) (by omega) Gh Vh (by omega)) (fun v M1 hq => ?_)
        obtain ⟨rfl, i1, rfl, w1, w2⟩ := hq
        have hR1 := hR'.kp hP' hV' (fun q h1 h2 h3 h4 => w2 q (by omega))
        obtain ⟨Vr, Vi0, Vi1, Vk, Vx, Vt⟩ := hR1
        have hR1 := hR'.kp hP' hV' (fun q h1 h2 h3 h4 => w2 q (by omega))
        have Vh := Vr.2.2.2.1
        refine PW_aload_n (i := 0) dX11_meet_46 rfl rfl ?_
        refine PW_getR dX11_meet_47 fg11_57 (Gx) (Gr.2.2.2.2.2.1) ?_
        refine PW_getR dX11_meet_50 fg11_191 (Gc.1) (Gc.2.2.2.2.1) ?_
        refine PW_iconst (v := 0) dX11_meet_53 (by decide) ?_
        refine PW_ial (j := 0) (v := iN (hp (vh (aV s)))) dX11_meet_54 (Gc.2.1) (by decide) (by decide) ((w1 0 (by decide)).1) ?_
        refine PW_iload_n (i := 1) dX11_meet_55 rfl rfl ?_
        refine PW_callS dX11_meet_56 moJ6_compare_7cf53 cs11_238 (by omega) rfl rfl (Nat.le_of_ble_eq_true rfl) (Nat.le_of_ble_eq_true rfl) (Nat.le_of_ble_eq_true rfl) (spJ6_compare (d := d - 1) _ _) (fun v M1 hq => ?_)
        obtain ⟨rfl, rfl⟩ := hq
        refine PW_eqi (show _ = cmp3 (iN (hp (vh (aV s)))) p from rfl) ?_
        refine PW_istore dX11_meet_59 (Nat.le_of_ble_eq_true rfl) rfl ?_
        refine PW_iconst (v := 0) dX11_meet_61 (by decide) ?_
        refine PW_istore dX11_meet_62 (Nat.le_of_ble_eq_true rfl) rfl ?_
        refine PW_mono (fun v M' hq => ?_) (lpX11_meet hd hP' hR1 hV' hb w1 p c w 62 0 (by omega) (by omega) _ rfl)
        obtain ⟨rfl, rfl⟩ := hq
        exact Op_i (by unfold oMeet; rw [if_pos ⟨h4, h11, h20⟩]) hP' hR1 (fun q hq => w2 q (by omega))
      · have h20 := b1_0.mp h20
        refine PW_aload_n (i := 0) dX11_meet_23 rfl rfl ?_
        refine PW_bipush (v := -2) dX11_meet_24 (by decide) ?_
        refine PW_callV dX11_meet_26 moX11_refuseBad cv11_95 (Gx) (by omega) rfl rfl (Nat.le_of_ble_eq_true rfl) (Nat.le_of_ble_eq_true rfl) (Nat.le_of_ble_eq_true rfl) (spX11_refuseBad (d := d - 1) hP' hR' hV' _) (fun v M1 hq => ?_)
        obtain ⟨rfl, i1, rfl, c1, c2⟩ := hq
        refine PW_ireturn rfl (rfl) dX11_meet_29 (Nat.le_of_ble_eq_true rfl) (Nat.le_of_ble_eq_true rfl) ?_
        exact Op_i (by unfold oMeet; rw [if_neg (fun q => by first | exact h4 q.1 | exact h11 q.2.1 | exact h20 q.2.2)]) hP' c1 (fun q hq => c2 q (by omega))

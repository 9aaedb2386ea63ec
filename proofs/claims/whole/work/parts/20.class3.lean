/-! ===== SleepyHelm: of, now, status, part ===== -/
def oOf (s : Ab) (k w : Int32) : Int32 × Ab := if isH s k ∧ ((0 : Int32) ≤ w ∧ w ≤ 4) then ((if w = 0 then nI (hK (vh (aV s)) k.toNatClampNeg) else if w = 1 then nI (hT (vh (aV s)) k.toNatClampNeg) else if w = 2 then iN (hN (vh (aV s)) k.toNatClampNeg) else if w = 3 then b2i ((hf (vh (aV s))).testBit k.toNatClampNeg) else nI (sly (vh (aV s)) (hf (vh (aV s))) k.toNatClampNeg)), s) else (-10, bad s)
def oNow (s : Ab) (w : Int32) : Int32 × Ab := if w = 0 then (iN (hp (vh (aV s))), s) else if w = 1 then (b2i (rkB (aV s) (iN (hp (vh (aV s))))), s) else if w = 2 then (pI (stw (vh (aV s)) (hf (vh (aV s)))), s) else (-10000, bad s)
set_option maxRecDepth 100000 in
set_option maxHeartbeats 4000000 in
theorem spX11_of {G : GE} {d : Nat} {i : MI0} {S : MS} {X b : Nat} {g : Nat → Nat → Nat} {s : Ab} (hd : 20 ≤ d) (hP : CP S X g) (hR : CR i X g s) (hV : AV b s) (hb : b ≤ 100) (k w : Int32) : Mt G iX11_of d [.ref X, .int k, .int w] (i, S) (Op X (i, S) (.int (oOf s k w).1) (oOf s k w).2) := by
  have hP' := hP
  have hR' := hR
  have hV' := hV
  obtain ⟨⟨Gx, Gr, Gks, ⟨Gv, Gd, Gi0, Gi1⟩, Gi, Gk, Gt, Gc, Gp, Ge⟩, Pv0, Pv1, Pv2, Pv3⟩ := hP
  have Gh := Gv.2.2.2.2.2.2.2.2.2.2.1
  obtain ⟨Vr, Vi0, Vi1, Vk, Vx, Vt⟩ := hR
  have Vh := Vr.2.2.2.1
  obtain ⟨Av, Ai, At, Ab', Aa, Aw⟩ := hV
  have Ah := Av.1
  have Ah1 := Ah.1
  have Av1 := Av.2.1
  have Av2 := Av.2.2.1
  have Av3 := Av.2.2.2.1
  refine Mt_in 1 (ls := [.ref X, .int k, .int w, .null]) moX11_of (Nat.le_of_ble_eq_true rfl) rfl ?_
  refine PW_aload_n (i := 0) dX11_of_0 rfl rfl ?_
  refine PW_iload_n (i := 1) dX11_of_1 rfl rfl ?_
  refine PW_callV dX11_of_2 moX11_isHand cv11_144 (Gx) (by omega) rfl rfl (Nat.le_of_ble_eq_true rfl) (Nat.le_of_ble_eq_true rfl) (Nat.le_of_ble_eq_true rfl) (spX11_isHand (d := d - 1) (by omega) hP' hR' hV' hb _) (fun v M1 hq => ?_)
  obtain ⟨rfl, rfl⟩ := hq
  refine PW_if_eq 17 dX11_of_5 (by decide) (fun h5 => ?_) (fun h5 => ?_)
  · have h5 := b1_0.mp h5
    refine PW_aload_n (i := 0) dX11_of_17 rfl rfl ?_
    refine PW_bipush (v := -10) dX11_of_18 (by decide) ?_
    refine PW_callV dX11_of_20 moX11_refuseBad cv11_95 (Gx) (by omega) rfl rfl (Nat.le_of_ble_eq_true rfl) (Nat.le_of_ble_eq_true rfl) (Nat.le_of_ble_eq_true rfl) (spX11_refuseBad (d := d - 1) hP' hR' hV' _) (fun v M1 hq => ?_)
    obtain ⟨rfl, i1, rfl, c1, c2⟩ := hq
    refine PW_ireturn rfl (rfl) dX11_of_23 (Nat.le_of_ble_eq_true rfl) (Nat.le_of_ble_eq_true rfl) ?_
    exact Op_i (by unfold oOf; rw [if_neg (fun q => by first | exact h5 q.1 | exact h14 q.2)]) hP' c1 (fun q hq => c2 q (by omega))
  · have h5 := b1_1.mp h5
    refine PW_iload_n (i := 2) dX11_of_8 rfl rfl ?_
    refine PW_iconst (v := 0) dX11_of_9 (by decide) ?_
    refine PW_iconst (v := 4) dX11_of_10 (by decide) ?_
    refine PW_callS dX11_of_11 moX11_isWithin cs11_116 (by omega) rfl rfl (Nat.le_of_ble_eq_true rfl) (Nat.le_of_ble_eq_true rfl) (Nat.le_of_ble_eq_true rfl) (spX11_isWithin (d := d - 1) _ _ _) (fun v M1 hq => ?_)
    obtain ⟨rfl, rfl⟩ := hq
    refine PW_if_ne 24 dX11_of_14 (by decide) (fun h14 => ?_) (fun h14 => ?_)
    · have h14 := b1_1.mp h14
      have Ff := hf64 Ah
      obtain ⟨j, hj, rfl⟩ := isH_of hV' h5
      have ek : (nI j).toNatClampNeg = j := cln (by omega)
      have Fj := Vh.2.2.2.2 j hj
      refine PW_aload_n (i := 0) dX11_of_24 rfl rfl ?_
      refine PW_getR dX11_of_25 fg11_32 (Gx) (Gr.1) ?_
      refine PW_getR dX11_of_28 fg11_82 (Gv.1) (Gv.2.2.2.2.2.1) ?_
      refine PW_astore_n (i := 3) dX11_of_31 rfl (Nat.le_of_ble_eq_true rfl) rfl ?_
      refine PW_iload_n (i := 2) dX11_of_32 rfl rfl ?_
      by_cases e0 : w = 0
      · subst e0
        refine PW_tableIn 64 dX11_of_33 (by decide) (by decide) rfl (by decide) ?_
        refine PW_aload_n (i := 3) dX11_of_64 rfl rfl ?_
        refine PW_getR dX11_of_65 fg11_170 (Gh.1) (Gh.2.2.2.2.2.1) ?_
        refine PW_iload_n (i := 1) dX11_of_68 rfl rfl ?_
        refine PW_ial (v := nI (hK (vh (aV s)) j)) dX11_of_69 (Gh.2.1) (by decide) (by omega) (Fj.1) ?_
        refine PW_ireturn rfl (rfl) dX11_of_70 (Nat.le_of_ble_eq_true rfl) (Nat.le_of_ble_eq_true rfl) ?_
        exact Op_i (by unfold oOf; rw [if_pos ⟨h5, h14⟩, ek, if_pos rfl]) hP' hR' (fun _ _ => rfl)
      by_cases e1 : w = 1
      · subst e1
        refine PW_tableIn 71 dX11_of_33 (by decide) (by decide) rfl (by decide) ?_
        refine PW_aload_n (i := 3) dX11_of_71 rfl rfl ?_
        refine PW_getR dX11_of_72 fg11_174 (Gh.1) (Gh.2.2.2.2.2.2.1) ?_
        refine PW_iload_n (i := 1) dX11_of_75 rfl rfl ?_
        refine PW_ial (v := nI (hT (vh (aV s)) j)) dX11_of_76 (Gh.2.2.1) (by decide) (by omega) (Fj.2.1) ?_
        refine PW_ireturn rfl (rfl) dX11_of_77 (Nat.le_of_ble_eq_true rfl) (Nat.le_of_ble_eq_true rfl) ?_
        exact Op_i (by unfold oOf; rw [if_pos ⟨h5, h14⟩, ek, if_neg (by decide), if_pos rfl]) hP' hR' (fun _ _ => rfl)
      by_cases e2 : w = 2
      · subst e2
        refine PW_tableIn 78 dX11_of_33 (by decide) (by decide) rfl (by decide) ?_
        refine PW_aload_n (i := 3) dX11_of_78 rfl rfl ?_
        refine PW_getR dX11_of_79 fg11_177 (Gh.1) (Gh.2.2.2.2.2.2.2) ?_
        refine PW_iload_n (i := 1) dX11_of_82 rfl rfl ?_
        refine PW_ial (v := iN (hN (vh (aV s)) j)) dX11_of_83 (Gh.2.2.2.1) (by decide) (by omega) (Fj.2.2) ?_
        refine PW_ireturn rfl (rfl) dX11_of_84 (Nat.le_of_ble_eq_true rfl) (Nat.le_of_ble_eq_true rfl) ?_
        exact Op_i (by unfold oOf; rw [if_pos ⟨h5, h14⟩, ek, if_neg (by decide), if_neg (by decide), if_pos rfl]) hP' hR' (fun _ _ => rfl)
      by_cases e3 : w = 3
      · subst e3
        refine PW_tableIn 85 dX11_of_33 (by decide) (by decide) rfl (by decide) ?_
        refine PW_aload_n (i := 3) dX11_of_85 rfl rfl ?_
        refine PW_giv (v := nI (hf (vh (aV s)))) dX11_of_86 fg11_147 (Gh.1) (Vh.2.2.2.1) ?_
        refine PW_iload_n (i := 1) dX11_of_89 rfl rfl ?_
        refine PW_callS dX11_of_90 moX11_holds cs11_150 (by omega) rfl rfl (Nat.le_of_ble_eq_true rfl) (Nat.le_of_ble_eq_true rfl) (Nat.le_of_ble_eq_true rfl) (spX11_holds (d := d - 1) _ _) (fun v M1 hq => ?_)
        obtain ⟨rfl, rfl⟩ := hq
        rw [hold_b (by omega) (by omega)]
        refine PW_if_eq 100 dX11_of_93 (by decide) (fun h93 => ?_) (fun h93 => ?_)
        · have h93 := b2i_0.mp h93
          refine PW_iconst (v := 0) dX11_of_100 (by decide) ?_
          refine PW_ireturn rfl (rfl) dX11_of_101 (Nat.le_of_ble_eq_true rfl) (Nat.le_of_ble_eq_true rfl) ?_
          exact Op_i (by unfold oOf; rw [if_pos ⟨h5, h14⟩, ek, if_neg (by decide), if_neg (by decide), if_neg (by decide), if_pos rfl, h93]; rfl) hP' hR' (fun _ _ => rfl)
        · have h93 := b2i_n.mp h93
          refine PW_iconst (v := 1) dX11_of_96 (by decide) ?_
          refine PW_goto 101 dX11_of_97 (by decide) ?_
          refine PW_ireturn rfl (rfl) dX11_of_101 (Nat.le_of_ble_eq_true rfl) (Nat.le_of_ble_eq_true rfl) ?_
          exact Op_i (by unfold oOf; rw [if_pos ⟨h5, h14⟩, ek, if_neg (by decide), if_neg (by decide), if_neg (by decide), if_pos rfl, h93]; rfl) hP' hR' (fun _ _ => rfl)
      refine PW_tableOut 102 dX11_of_33 (sw_out 3 (by decide) (fun j hj q => by rcases (by omega : j = 0 ∨ j = 1 ∨ j = 2 ∨ j = 3) with rfl | rfl | rfl | rfl; exact e0 q; exact e1 q; exact e2 q; exact e3 q)) (by decide) ?_
      refine PW_aload_n (i := 3) dX11_of_102 rfl rfl ?_
      refine PW_iload_n (i := 1) dX11_of_103 rfl rfl ?_
      refine PW_aload_n (i := 3) dX11_of_104 rfl rfl ?_
      refine PW_giv (v := nI (hf (vh (aV s)))) dX11_of_105 fg11_147 (Gh.1) (Vh.2.2.2.1) ?_
      refine PW_iload_n (i := 1) dX11_of_108 rfl rfl ?_
      refine PW_callS dX11_of_109 moX11_holds cs11_150 (by omega) rfl rfl (Nat.le_of_ble_eq_true rfl) (Nat.le_of_ble_eq_true rfl) (Nat.le_of_ble_eq_true rfl) (spX11_holds (d := d - 1) _ _) (fun v M1 hq => ?_)
      obtain ⟨rfl, rfl⟩ := hq
      rw [hold_b (by omega) (by omega)]
      refine PW_callV dX11_of_112 moX4_sleepiness cv11_180 (Gh.1) (by omega) rfl rfl (Nat.le_of_ble_eq_true rfl) (Nat.le_of_ble_eq_true rfl) (Nat.le_of_ble_eq_true rfl) (spX4_sleepiness (d := d - 1) (by omega) Gks Gh Vh Ah (by omega) hj _) (fun v M1 hq => ?_)
      obtain ⟨rfl, rfl⟩ := hq
      refine PW_ireturn rfl (rfl) dX11_of_115 (Nat.le_of_ble_eq_true rfl) (Nat.le_of_ble_eq_true rfl) ?_
      exact Op_i (by unfold oOf; rw [if_pos ⟨h5, h14⟩, ek, if_neg e0, if_neg e1, if_neg e2, if_neg e3]; rfl) hP' hR' (fun _ _ => rfl)
    · have h14 := b1_0.mp h14
      refine PW_aload_n (i := 0) dX11_of_17 rfl rfl ?_
      refine PW_bipush (v := -10) dX11_of_18 (by decide) ?_
      refine PW_callV dX11_of_20 moX11_refuseBad cv11_95 (Gx) (by omega) rfl rfl (Nat.le_of_ble_eq_true rfl) (Nat.le_of_ble_eq_true rfl) (Nat.le_of_ble_eq_true rfl) (spX11_refuseBad (d := d - 1) hP' hR' hV' _) (fun v M1 hq => ?_)
      obtain ⟨rfl, i1, rfl, c1, c2⟩ := hq
      refine PW_ireturn rfl (rfl) dX11_of_23 (Nat.le_of_ble_eq_true rfl) (Nat.le_of_ble_eq_true rfl) ?_
      exact Op_i (by unfold oOf; rw [if_neg (fun q => by first | exact h5 q.1 | exact h14 q.2)]) hP' c1 (fun q hq => c2 q (by omega))
set_option maxRecDepth 100000 in
set_option maxHeartbeats 4000000 in
theorem spX11_now {G : GE} {d : Nat} {i : MI0} {S : MS} {X b : Nat} {g : Nat → Nat → Nat} {s : Ab} (hd : 20 ≤ d) (hP : CP S X g) (hR : CR i X g s) (hV : AV b s) (hb : b ≤ 100) (w : Int32) : Mt G iX11_now d [.ref X, .int w] (i, S) (Op X (i, S) (.int (oNow s w).1) (oNow s w).2) := by
  have hP' := hP
  have hR' := hR
  have hV' := hV
  obtain ⟨⟨Gx, Gr, Gks, ⟨Gv, Gd, Gi0, Gi1⟩, Gi, Gk, Gt, Gc, Gp, Ge⟩, Pv0, Pv1, Pv2, Pv3⟩ := hP
  have Gh := Gv.2.2.2.2.2.2.2.2.2.2.1
  obtain ⟨Vr, Vi0, Vi1, Vk, Vx, Vt⟩ := hR
  have Vh := Vr.2.2.2.1
  obtain ⟨Av, Ai, At, Ab', Aa, Aw⟩ := hV
  have Ah := Av.1
  have Ah1 := Ah.1
  have Av1 := Av.2.1
  have Av2 := Av.2.2.1
  have Av3 := Av.2.2.2.1
  refine Mt_in 1 (ls := [.ref X, .int w, .null]) moX11_now (Nat.le_of_ble_eq_true rfl) rfl ?_
  refine PW_aload_n (i := 0) dX11_now_0 rfl rfl ?_
  refine PW_getR dX11_now_1 fg11_32 (Gx) (Gr.1) ?_
  refine PW_getR dX11_now_4 fg11_82 (Gv.1) (Gv.2.2.2.2.2.1) ?_
  refine PW_astore_n (i := 2) dX11_now_7 rfl (Nat.le_of_ble_eq_true rfl) rfl ?_
  refine PW_iload_n (i := 1) dX11_now_8 rfl rfl ?_
  by_cases e0 : w = 0
  · subst e0
    refine PW_tableIn 36 dX11_now_9 (by decide) (by decide) rfl (by decide) ?_
    refine PW_aload_n (i := 2) dX11_now_36 rfl rfl ?_
    refine PW_giv (v := iN (hp (vh (aV s)))) dX11_now_37 fg11_184 (Gh.1) (Vh.2.1) ?_
    refine PW_ireturn rfl (rfl) dX11_now_40 (Nat.le_of_ble_eq_true rfl) (Nat.le_of_ble_eq_true rfl) ?_
    exact Op_i (by unfold oNow; rw [if_pos rfl]) hP' hR' (fun _ _ => rfl)
  by_cases e1 : w = 1
  · subst e1
    refine PW_tableIn 41 dX11_now_9 (by decide) (by decide) rfl (by decide) ?_
    refine PW_aload_n (i := 0) dX11_now_41 rfl rfl ?_
    refine PW_getR dX11_now_42 fg11_32 (Gx) (Gr.1) ?_
    refine PW_aload_n (i := 2) dX11_now_45 rfl rfl ?_
    refine PW_giv (v := iN (hp (vh (aV s)))) dX11_now_46 fg11_184 (Gh.1) (Vh.2.1) ?_
    refine PW_callV dX11_now_49 moX10_isRock cv11_99 (Gv.1) (by omega) rfl rfl (Nat.le_of_ble_eq_true rfl) (Nat.le_of_ble_eq_true rfl) (Nat.le_of_ble_eq_true rfl) (spX10_isRock (d := d - 1) (by omega) Gv Pv0 Vr Av _) (fun v M1 hq => ?_)
    obtain ⟨rfl, rfl⟩ := hq
    refine PW_if_eq 59 dX11_now_52 (by decide) (fun h52 => ?_) (fun h52 => ?_)
    · have h52 := b2i_0.mp h52
      refine PW_iconst (v := 0) dX11_now_59 (by decide) ?_
      refine PW_ireturn rfl (rfl) dX11_now_60 (Nat.le_of_ble_eq_true rfl) (Nat.le_of_ble_eq_true rfl) ?_
      exact Op_i (by unfold oNow; rw [if_neg (by decide), if_pos rfl, h52]; rfl) hP' hR' (fun _ _ => rfl)
    · have h52 := b2i_n.mp h52
      refine PW_iconst (v := 1) dX11_now_55 (by decide) ?_
      refine PW_goto 60 dX11_now_56 (by decide) ?_
      refine PW_ireturn rfl (rfl) dX11_now_60 (Nat.le_of_ble_eq_true rfl) (Nat.le_of_ble_eq_true rfl) ?_
      exact Op_i (by unfold oNow; rw [if_neg (by decide), if_pos rfl, h52]; rfl) hP' hR' (fun _ _ => rfl)
  by_cases e2 : w = 2
  · subst e2
    refine PW_tableIn 61 dX11_now_9 (by decide) (by decide) rfl (by decide) ?_
    refine PW_aload_n (i := 2) dX11_now_61 rfl rfl ?_
    refine PW_aload_n (i := 2) dX11_now_62 rfl rfl ?_
    refine PW_giv (v := nI (hf (vh (aV s)))) dX11_now_63 fg11_147 (Gh.1) (Vh.2.2.2.1) ?_
    have Ff := hf64 Ah
    refine PW_callV dX11_now_66 moX4_steerer cv11_157 (Gh.1) (by omega) rfl rfl (Nat.le_of_ble_eq_true rfl) (Nat.le_of_ble_eq_true rfl) (Nat.le_of_ble_eq_true rfl) (spX4_steerer (d := d - 1) (by omega) Gks Gh Vh Ah (by omega) (by omega)) (fun v M1 hq => ?_)
    obtain ⟨rfl, rfl⟩ := hq
    refine PW_ireturn rfl (rfl) dX11_now_69 (Nat.le_of_ble_eq_true rfl) (Nat.le_of_ble_eq_true rfl) ?_
    exact Op_i (by unfold oNow; rw [if_neg (by decide), if_neg (by decide), if_pos rfl]) hP' hR' (fun _ _ => rfl)
  refine PW_tableOut 70 dX11_now_9 (sw_out 2 (by decide) (fun j hj q => by rcases (by omega : j = 0 ∨ j = 1 ∨ j = 2) with rfl | rfl | rfl; exact e0 q; exact e1 q; exact e2 q)) (by decide) ?_
  refine PW_aload_n (i := 0) dX11_now_70 rfl rfl ?_
  refine PW_sipush (v := -10000) dX11_now_71 (by decide) ?_
  refine PW_callV dX11_now_74 moX11_refuseBad cv11_95 (Gx) (by omega) rfl rfl (Nat.le_of_ble_eq_true rfl) (Nat.le_of_ble_eq_true rfl) (Nat.le_of_ble_eq_true rfl) (spX11_refuseBad (d := d - 1) hP' hR' hV' _) (fun v M1 hq => ?_)
  obtain ⟨rfl, i1, rfl, c1, c2⟩ := hq
  refine PW_ireturn rfl (rfl) dX11_now_77 (Nat.le_of_ble_eq_true rfl) (Nat.le_of_ble_eq_true rfl) ?_
  exact Op_i (by unfold oNow; rw [if_neg e0, if_neg e1, if_neg e2]) hP' c1 (fun q hq => c2 q (by omega))
def oStatus (s : Ab) (w : Int32) : Int32 × Ab := if w = 0 then (aX s, s) else if w = 1 then (aN s, s) else if w = 2 then (aF s, s) else (-1, bad s)
def oPart (s : Ab) (w : Int32) : Int64 × Ab := if w = 0 then ((nI (aA s)).toInt64, s) else if w = 1 then ((nI (aW s)).toInt64, s) else ((-2 : Int32).toInt64, bad s)
set_option maxRecDepth 100000 in
set_option maxHeartbeats 4000000 in
theorem spX11_status {G : GE} {d : Nat} {i : MI0} {S : MS} {X b : Nat} {g : Nat → Nat → Nat} {s : Ab} (hd : 20 ≤ d) (hP : CP S X g) (hR : CR i X g s) (hV : AV b s) (hb : b ≤ 100) (w : Int32) : Mt G iX11_status d [.ref X, .int w] (i, S) (Op X (i, S) (.int (oStatus s w).1) (oStatus s w).2) := by
  have hP' := hP
  have hR' := hR
  have hV' := hV
  obtain ⟨⟨Gx, Gr, Gks, ⟨Gv, Gd, Gi0, Gi1⟩, Gi, Gk, Gt, Gc, Gp, Ge⟩, Pv0, Pv1, Pv2, Pv3⟩ := hP
  have Gh := Gv.2.2.2.2.2.2.2.2.2.2.1
  obtain ⟨Vr, Vi0, Vi1, Vk, Vx, Vt⟩ := hR
  have Vh := Vr.2.2.2.1
  obtain ⟨Av, Ai, At, Ab', Aa, Aw⟩ := hV
  have Ah := Av.1
  have Ah1 := Ah.1
  have Av1 := Av.2.1
  have Av2 := Av.2.2.1
  have Av3 := Av.2.2.2.1
  refine Mt_in 0 (ls := [.ref X, .int w]) moX11_status (Nat.le_of_ble_eq_true rfl) rfl ?_
  refine PW_iload_n (i := 1) dX11_status_0 rfl rfl ?_
  by_cases e0 : w = 0
  · subst e0
    refine PW_tableIn 28 dX11_status_1 (by decide) (by decide) rfl (by decide) ?_
    refine PW_aload_n (i := 0) dX11_status_28 rfl rfl ?_
    refine PW_giv (v := aX s) dX11_status_29 fg11_258 (Gx) (Vx.2.2.1) ?_
    refine PW_ireturn rfl (rfl) dX11_status_32 (Nat.le_of_ble_eq_true rfl) (Nat.le_of_ble_eq_true rfl) ?_
    exact Op_i (by unfold oStatus; rw [if_pos rfl]) hP' hR' (fun _ _ => rfl)
  by_cases e1 : w = 1
  · subst e1
    refine PW_tableIn 33 dX11_status_1 (by decide) (by decide) rfl (by decide) ?_
    refine PW_aload_n (i := 0) dX11_status_33 rfl rfl ?_
    refine PW_giv (v := aN s) dX11_status_34 fg11_261 (Gx) (Vx.2.2.2.1) ?_
    refine PW_ireturn rfl (rfl) dX11_status_37 (Nat.le_of_ble_eq_true rfl) (Nat.le_of_ble_eq_true rfl) ?_
    exact Op_i (by unfold oStatus; rw [if_neg (by decide), if_pos rfl]) hP' hR' (fun _ _ => rfl)
  by_cases e2 : w = 2
  · subst e2
    refine PW_tableIn 38 dX11_status_1 (by decide) (by decide) rfl (by decide) ?_
    refine PW_aload_n (i := 0) dX11_status_38 rfl rfl ?_
    refine PW_giv (v := aF s) dX11_status_39 fg11_264 (Gx) (Vx.2.2.2.2) ?_
    refine PW_ireturn rfl (rfl) dX11_status_42 (Nat.le_of_ble_eq_true rfl) (Nat.le_of_ble_eq_true rfl) ?_
    exact Op_i (by unfold oStatus; rw [if_neg (by decide), if_neg (by decide), if_pos rfl]) hP' hR' (fun _ _ => rfl)
  refine PW_tableOut 43 dX11_status_1 (sw_out 2 (by decide) (fun j hj q => by rcases (by omega : j = 0 ∨ j = 1 ∨ j = 2) with rfl | rfl | rfl; exact e0 q; exact e1 q; exact e2 q)) (by decide) ?_
  refine PW_aload_n (i := 0) dX11_status_43 rfl rfl ?_
  refine PW_iconst (v := -1) dX11_status_44 (by decide) ?_
  refine PW_callV dX11_status_45 moX11_refuseBad cv11_95 (Gx) (by omega) rfl rfl (Nat.le_of_ble_eq_true rfl) (Nat.le_of_ble_eq_true rfl) (Nat.le_of_ble_eq_true rfl) (spX11_refuseBad (d := d - 1) hP' hR' hV' _) (fun v M1 hq => ?_)
  obtain ⟨rfl, i1, rfl, c1, c2⟩ := hq
  refine PW_ireturn rfl (rfl) dX11_status_48 (Nat.le_of_ble_eq_true rfl) (Nat.le_of_ble_eq_true rfl) ?_
  exact Op_i (by unfold oStatus; rw [if_neg e0, if_neg e1, if_neg e2]) hP' c1 (fun q hq => c2 q (by omega))
theorem lk_out (w : Int32) (e0 : ¬ w = 0) (e1 : ¬ w = 1) (a b c : Int) : Op.lookupswitch.offset [(0, a), (1, b)] c w.toInt = c := by
  have h0 : ¬ (0 : Int) = w.toInt := fun q => e0 (Int32.toInt_inj.mp q.symm)
  have h1 : ¬ (1 : Int) = w.toInt := fun q => e1 (Int32.toInt_inj.mp q.symm)
  rw [Op.lookupswitch.offset_cons, if_neg h0, Op.lookupswitch.offset_cons, if_neg h1]
  rfl
set_option maxRecDepth 100000 in
set_option maxHeartbeats 4000000 in
theorem spX11_part {G : GE} {d : Nat} {i : MI0} {S : MS} {X b : Nat} {g : Nat → Nat → Nat} {s : Ab} (hd : 20 ≤ d) (hP : CP S X g) (hR : CR i X g s) (hV : AV b s) (hb : b ≤ 100) (w : Int32) : Mt G iX11_part d [.ref X, .int w] (i, S) (Op X (i, S) (.long (oPart s w).1) (oPart s w).2) := by
  have hP' := hP
  have hR' := hR
  have hV' := hV
  obtain ⟨⟨Gx, Gr, Gks, ⟨Gv, Gd, Gi0, Gi1⟩, Gi, Gk, Gt, Gc, Gp, Ge⟩, Pv0, Pv1, Pv2, Pv3⟩ := hP
  have Gh := Gv.2.2.2.2.2.2.2.2.2.2.1
  obtain ⟨Vr, Vi0, Vi1, Vk, Vx, Vt⟩ := hR
  have Vh := Vr.2.2.2.1
  obtain ⟨Av, Ai, At, Ab', Aa, Aw⟩ := hV
  have Ah := Av.1
  have Ah1 := Ah.1
  have Av1 := Av.2.1
  have Av2 := Av.2.2.1
  have Av3 := Av.2.2.2.1
  refine Mt_in 0 (ls := [.ref X, .int w]) moX11_part (Nat.le_of_ble_eq_true rfl) rfl ?_
  refine PW_iload_n (i := 1) dX11_part_0 rfl rfl ?_
  by_cases e0 : w = 0
  · subst e0
    refine PW_lookup (off := 27) 28 dX11_part_1 (by decide) (by decide) (by decide) ?_
    refine PW_aload_n (i := 0) dX11_part_28 rfl rfl ?_
    refine PW_giv (v := nI (aA s)) dX11_part_29 fg11_75 (Gx) (Vx.1) ?_
    refine PW_i2l dX11_part_32 ?_
    refine PW_lreturn rfl dX11_part_33 (Nat.le_of_ble_eq_true rfl) (Nat.le_of_ble_eq_true rfl) ?_
    exact Op_l (by unfold oPart; rw [if_pos rfl]) hP' hR' (fun _ _ => rfl)
  by_cases e1 : w = 1
  · subst e1
    refine PW_lookup (off := 33) 34 dX11_part_1 (by decide) (by decide) (by decide) ?_
    refine PW_aload_n (i := 0) dX11_part_34 rfl rfl ?_
    refine PW_giv (v := nI (aW s)) dX11_part_35 fg11_79 (Gx) (Vx.2.1) ?_
    refine PW_i2l dX11_part_38 ?_
    refine PW_lreturn rfl dX11_part_39 (Nat.le_of_ble_eq_true rfl) (Nat.le_of_ble_eq_true rfl) ?_
    exact Op_l (by unfold oPart; rw [if_neg (by decide), if_pos rfl]) hP' hR' (fun _ _ => rfl)
  refine PW_lookup (off := 39) 40 dX11_part_1 (by decide) (lk_out w e0 e1 _ _ _) (by decide) ?_
  refine PW_aload_n (i := 0) dX11_part_40 rfl rfl ?_
  refine PW_bipush (v := -2) dX11_part_41 (by decide) ?_
  refine PW_callV dX11_part_43 moX11_refuseBad cv11_95 (Gx) (by omega) rfl rfl (Nat.le_of_ble_eq_true rfl) (Nat.le_of_ble_eq_true rfl) (Nat.le_of_ble_eq_true rfl) (spX11_refuseBad (d := d - 1) hP' hR' hV' _) (fun v M1 hq => ?_)
  obtain ⟨rfl, i1, rfl, c1, c2⟩ := hq
  refine PW_i2l dX11_part_46 ?_
  refine PW_lreturn rfl dX11_part_47 (Nat.le_of_ble_eq_true rfl) (Nat.le_of_ble_eq_true rfl) ?_
  exact Op_l (by unfold oPart; rw [if_neg e0, if_neg e1]) hP' c1 (fun q hq => c2 q (by omega))

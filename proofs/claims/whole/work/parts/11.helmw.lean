/-! ===== Helm: sleepiness, steerer ===== -/
set_option maxRecDepth 100000 in
set_option maxHeartbeats 4000000 in
theorem spX4_sleepiness {G : GE} {d : Nat} {i : MI0} {S : MS} {X a b : Nat} {h : Hm} (hd : 4 ≤ d) (hK0 : KS S X) (hS : HS S X a) (hR : HR i a h) (hV : HV b h) (hb : b ≤ 1000) {j : Nat} (hj : j < hn h) (fed : Bool) : Mt G iX4_sleepiness d [.ref a, .int (nI j), .int (b2i fed)] (i, S) (Rt (nI (slp (hK h j) (hT h j) (hw h) fed)) (i, S)) := by
  have hK0' := hK0
  have hS' := hS
  have hR' := hR
  have hV' := hV
  obtain ⟨Fk0, Fkr, Fkp⟩ := hK0
  obtain ⟨Ft0, Ft1, Ft2, Ft3, Fr0, Fr1, Fr2, Fr3⟩ := hS
  obtain ⟨Fg4, Fg5, Fg6, Fg7, Fgj⟩ := hR
  obtain ⟨Fv1, Fv2, Fv3, Fv4, Fv5, Fv6⟩ := hV
  refine Mt_in 0 (ls := [.ref a, .int (nI j), .int (b2i fed)]) moX4_sleepiness (Nat.le_of_ble_eq_true rfl) rfl ?_
  refine PW_aload_n (i := 0) dX4_sleepiness_0 rfl rfl ?_
  refine PW_getR dX4_sleepiness_1 fg4_21 (Ft0) (Fr0) ?_
  refine PW_aload_n (i := 0) dX4_sleepiness_4 rfl rfl ?_
  refine PW_getR dX4_sleepiness_5 fg4_9 (Ft0) (Fr1) ?_
  refine PW_iload_n (i := 1) dX4_sleepiness_8 rfl rfl ?_
  refine PW_ial (v := nI (hK h j)) dX4_sleepiness_9 (Ft1) (by decide) (by omega) ((Fgj j hj).1) ?_
  have h6 := Fv6 j hj
  have hw9 : hw h < 2 ^ 30 := by omega
  have ht9 : hT h j < 2 ^ 20 := by omega
  rcases (by omega : hK h j = 0 ∨ hK h j = 1 ∨ hK h j = 2 ∨ hK h j = 3 ∨ hK h j = 4 ∨ hK h j = 5) with hk | hk | hk | hk | hk | hk
  · rw [hk]
    refine PW_aal dX4_sleepiness_10 (Fk0) (by decide) (by decide) (by decide) (by decide) (Fkr.1) ?_
    refine PW_aload_n (i := 0) dX4_sleepiness_11 rfl rfl ?_
    refine PW_giv (v := nI (hw h)) dX4_sleepiness_12 fg4_32 (Ft0) (Fg6) ?_
    refine PW_iload_n (i := 2) dX4_sleepiness_15 rfl rfl ?_
    refine PW_aload_n (i := 0) dX4_sleepiness_16 rfl rfl ?_
    refine PW_getR dX4_sleepiness_17 fg4_15 (Ft0) (Fr2) ?_
    refine PW_iload_n (i := 1) dX4_sleepiness_20 rfl rfl ?_
    refine PW_ial (v := nI (hT h j)) dX4_sleepiness_21 (Ft2) (by decide) (by omega) ((Fgj j hj).2.1) ?_
    refine PW_callU dX4_sleepiness_22 moX7_sleepy cu4_44_7 (Fkp.1) (by omega) rfl rfl (Nat.le_of_ble_eq_true rfl) (Nat.le_of_ble_eq_true rfl) (Nat.le_of_ble_eq_true rfl) (spX7_sleepy (d := d - 1)) (fun v M1 hq => ?_)
    obtain ⟨rfl, rfl⟩ := hq
    refine PW_ireturn rfl (rfl) dX4_sleepiness_25 (Nat.le_of_ble_eq_true rfl) (Nat.le_of_ble_eq_true rfl) ?_
    exact rt_i rfl
  · rw [hk]
    refine PW_aal dX4_sleepiness_10 (Fk0) (by decide) (by decide) (by decide) (by decide) (Fkr.2.1) ?_
    refine PW_aload_n (i := 0) dX4_sleepiness_11 rfl rfl ?_
    refine PW_giv (v := nI (hw h)) dX4_sleepiness_12 fg4_32 (Ft0) (Fg6) ?_
    refine PW_iload_n (i := 2) dX4_sleepiness_15 rfl rfl ?_
    refine PW_aload_n (i := 0) dX4_sleepiness_16 rfl rfl ?_
    refine PW_getR dX4_sleepiness_17 fg4_15 (Ft0) (Fr2) ?_
    refine PW_iload_n (i := 1) dX4_sleepiness_20 rfl rfl ?_
    refine PW_ial (v := nI (hT h j)) dX4_sleepiness_21 (Ft2) (by decide) (by omega) ((Fgj j hj).2.1) ?_
    refine PW_callU dX4_sleepiness_22 moX1_sleepy cu4_44_1 (Fkp.2.1) (by omega) rfl rfl (Nat.le_of_ble_eq_true rfl) (Nat.le_of_ble_eq_true rfl) (Nat.le_of_ble_eq_true rfl) (spX1_sleepy (d := d - 1) (by omega) (ci := 1) ⟨_, rfl, by decide⟩ (Fkp.2.1) hw9 ht9) (fun v M1 hq => ?_)
    obtain ⟨rfl, rfl⟩ := hq
    refine PW_ireturn rfl (rfl) dX4_sleepiness_25 (Nat.le_of_ble_eq_true rfl) (Nat.le_of_ble_eq_true rfl) ?_
    exact rt_i rfl
  · rw [hk]
    refine PW_aal dX4_sleepiness_10 (Fk0) (by decide) (by decide) (by decide) (by decide) (Fkr.2.2.1) ?_
    refine PW_aload_n (i := 0) dX4_sleepiness_11 rfl rfl ?_
    refine PW_giv (v := nI (hw h)) dX4_sleepiness_12 fg4_32 (Ft0) (Fg6) ?_
    refine PW_iload_n (i := 2) dX4_sleepiness_15 rfl rfl ?_
    refine PW_aload_n (i := 0) dX4_sleepiness_16 rfl rfl ?_
    refine PW_getR dX4_sleepiness_17 fg4_15 (Ft0) (Fr2) ?_
    refine PW_iload_n (i := 1) dX4_sleepiness_20 rfl rfl ?_
    refine PW_ial (v := nI (hT h j)) dX4_sleepiness_21 (Ft2) (by decide) (by omega) ((Fgj j hj).2.1) ?_
    refine PW_callU dX4_sleepiness_22 moX8_sleepy cu4_44_8 (Fkp.2.2.1) (by omega) rfl rfl (Nat.le_of_ble_eq_true rfl) (Nat.le_of_ble_eq_true rfl) (Nat.le_of_ble_eq_true rfl) (spX8_sleepy (d := d - 1) (by omega) (ci := 8) ⟨_, rfl, by decide⟩ (Fkp.2.2.1) hw9 ht9) (fun v M1 hq => ?_)
    obtain ⟨rfl, rfl⟩ := hq
    refine PW_ireturn rfl (rfl) dX4_sleepiness_25 (Nat.le_of_ble_eq_true rfl) (Nat.le_of_ble_eq_true rfl) ?_
    exact rt_i rfl
  · rw [hk]
    refine PW_aal dX4_sleepiness_10 (Fk0) (by decide) (by decide) (by decide) (by decide) (Fkr.2.2.2.1) ?_
    refine PW_aload_n (i := 0) dX4_sleepiness_11 rfl rfl ?_
    refine PW_giv (v := nI (hw h)) dX4_sleepiness_12 fg4_32 (Ft0) (Fg6) ?_
    refine PW_iload_n (i := 2) dX4_sleepiness_15 rfl rfl ?_
    refine PW_aload_n (i := 0) dX4_sleepiness_16 rfl rfl ?_
    refine PW_getR dX4_sleepiness_17 fg4_15 (Ft0) (Fr2) ?_
    refine PW_iload_n (i := 1) dX4_sleepiness_20 rfl rfl ?_
    refine PW_ial (v := nI (hT h j)) dX4_sleepiness_21 (Ft2) (by decide) (by omega) ((Fgj j hj).2.1) ?_
    refine PW_callU dX4_sleepiness_22 moX2_sleepy cu4_44_2 (Fkp.2.2.2.1) (by omega) rfl rfl (Nat.le_of_ble_eq_true rfl) (Nat.le_of_ble_eq_true rfl) (Nat.le_of_ble_eq_true rfl) (spX2_sleepy (d := d - 1) (by omega) (ci := 2) ⟨_, rfl, by decide⟩ (Fkp.2.2.2.1) hw9 ht9) (fun v M1 hq => ?_)
    obtain ⟨rfl, rfl⟩ := hq
    refine PW_ireturn rfl (rfl) dX4_sleepiness_25 (Nat.le_of_ble_eq_true rfl) (Nat.le_of_ble_eq_true rfl) ?_
    exact rt_i rfl
  · rw [hk]
    refine PW_aal dX4_sleepiness_10 (Fk0) (by decide) (by decide) (by decide) (by decide) (Fkr.2.2.2.2.1) ?_
    refine PW_aload_n (i := 0) dX4_sleepiness_11 rfl rfl ?_
    refine PW_giv (v := nI (hw h)) dX4_sleepiness_12 fg4_32 (Ft0) (Fg6) ?_
    refine PW_iload_n (i := 2) dX4_sleepiness_15 rfl rfl ?_
    refine PW_aload_n (i := 0) dX4_sleepiness_16 rfl rfl ?_
    refine PW_getR dX4_sleepiness_17 fg4_15 (Ft0) (Fr2) ?_
    refine PW_iload_n (i := 1) dX4_sleepiness_20 rfl rfl ?_
    refine PW_ial (v := nI (hT h j)) dX4_sleepiness_21 (Ft2) (by decide) (by omega) ((Fgj j hj).2.1) ?_
    refine PW_callU dX4_sleepiness_22 moX5_sleepy cu4_44_5 (Fkp.2.2.2.2.1) (by omega) rfl rfl (Nat.le_of_ble_eq_true rfl) (Nat.le_of_ble_eq_true rfl) (Nat.le_of_ble_eq_true rfl) (spX5_sleepy (d := d - 1) (by omega) (ci := 5) ⟨_, rfl, by decide⟩ (Fkp.2.2.2.2.1) hw9 ht9) (fun v M1 hq => ?_)
    obtain ⟨rfl, rfl⟩ := hq
    refine PW_ireturn rfl (rfl) dX4_sleepiness_25 (Nat.le_of_ble_eq_true rfl) (Nat.le_of_ble_eq_true rfl) ?_
    exact rt_i rfl
  · rw [hk]
    refine PW_aal dX4_sleepiness_10 (Fk0) (by decide) (by decide) (by decide) (by decide) (Fkr.2.2.2.2.2) ?_
    refine PW_aload_n (i := 0) dX4_sleepiness_11 rfl rfl ?_
    refine PW_giv (v := nI (hw h)) dX4_sleepiness_12 fg4_32 (Ft0) (Fg6) ?_
    refine PW_iload_n (i := 2) dX4_sleepiness_15 rfl rfl ?_
    refine PW_aload_n (i := 0) dX4_sleepiness_16 rfl rfl ?_
    refine PW_getR dX4_sleepiness_17 fg4_15 (Ft0) (Fr2) ?_
    refine PW_iload_n (i := 1) dX4_sleepiness_20 rfl rfl ?_
    refine PW_ial (v := nI (hT h j)) dX4_sleepiness_21 (Ft2) (by decide) (by omega) ((Fgj j hj).2.1) ?_
    refine PW_callU dX4_sleepiness_22 moX0_sleepy cu4_44_0 (Fkp.2.2.2.2.2) (by omega) rfl rfl (Nat.le_of_ble_eq_true rfl) (Nat.le_of_ble_eq_true rfl) (Nat.le_of_ble_eq_true rfl) (spX0_sleepy (d := d - 1)) (fun v M1 hq => ?_)
    obtain ⟨rfl, rfl⟩ := hq
    refine PW_ireturn rfl (rfl) dX4_sleepiness_25 (Nat.le_of_ble_eq_true rfl) (Nat.le_of_ble_eq_true rfl) ?_
    exact rt_i rfl
set_option maxRecDepth 100000 in
set_option maxHeartbeats 4000000 in
theorem lpX4_steerer {G : GE} {d : Nat} {i : MI0} {S : MS} {X a b : Nat} {h : Hm} (hd : 5 ≤ d) (hK0 : KS S X) (hS : HS S X a) (hR : HR i a h) (hV : HV b h) (hb : b ≤ 1000) {g : Nat} (hg : g < 2 ^ 30) : ∀ (n0 j : Nat), j ≤ hn h → hn h < j + n0 → ∀ (z5 : Value), PW G iX4_steerer d (Rt (pI (stw h g)) (i, S)) 7 [.ref a, .int (nI g), .int (pI (bst (sly h g) j).1), .int (nI (bst (sly h g) j).2), .int (nI j), z5] [] (i, S) 0 0 := by
  have hK0' := hK0
  have hS' := hS
  have hR' := hR
  have hV' := hV
  obtain ⟨Fk0, Fkr, Fkp⟩ := hK0
  obtain ⟨Ft0, Ft1, Ft2, Ft3, Fr0, Fr1, Fr2, Fr3⟩ := hS
  obtain ⟨Fg4, Fg5, Fg6, Fg7, Fgj⟩ := hR
  obtain ⟨Fv1, Fv2, Fv3, Fv4, Fv5, Fv6⟩ := hV
  intro n0
  induction n0 with
  | zero => intro j h1 h2; exact absurd h2 (by omega)
  | succ n0 ih =>
    intro j hj1 hj2 z5
    refine PW_iload dX4_steerer_7 rfl ?_
    refine PW_aload_n (i := 0) dX4_steerer_9 rfl rfl ?_
    refine PW_giv (v := nI (hn h)) dX4_steerer_10 fg4_25 (Ft0) (Fg4) ?_
    refine PW_icmp_ge 48 dX4_steerer_13 (by decide) (fun h13 => ?_) (fun h13 => ?_)
    · have h13 := jle h13
      have ej : j = hn h := by omega
      subst ej
      refine PW_iload_n (i := 2) dX4_steerer_48 rfl rfl ?_
      refine PW_ireturn rfl (rfl) dX4_steerer_49 (Nat.le_of_ble_eq_true rfl) (Nat.le_of_ble_eq_true rfl) ?_
      exact rt_i rfl
    · have h13 := jnle h13
      refine PW_aload_n (i := 0) dX4_steerer_16 rfl rfl ?_
      refine PW_iload dX4_steerer_17 rfl ?_
      refine PW_iload_n (i := 1) dX4_steerer_19 rfl rfl ?_
      refine PW_iload dX4_steerer_20 rfl ?_
      refine PW_callSN dX4_steerer_22 moX11_holds cs4_50 (by omega) rfl rfl (Nat.le_of_ble_eq_true rfl) (Nat.le_of_ble_eq_true rfl) (Nat.le_of_ble_eq_true rfl) (spX11_holds (d := d - 1) _ _) (fun v M1 hq => ?_)
      obtain ⟨rfl, rfl⟩ := hq
      rw [hold_b (by omega) (by omega)]
      refine PW_callV dX4_steerer_25 moX4_sleepiness cv4_54 (Ft0) (by omega) rfl rfl (Nat.le_of_ble_eq_true rfl) (Nat.le_of_ble_eq_true rfl) (Nat.le_of_ble_eq_true rfl) (spX4_sleepiness (d := d - 1) (by omega) hK0' hS' hR' hV' hb h13 (g.testBit j)) (fun v M1 hq => ?_)
      obtain ⟨rfl, rfl⟩ := hq
      refine PW_istore dX4_steerer_28 (Nat.le_of_ble_eq_true rfl) rfl ?_
      refine PW_iload dX4_steerer_30 rfl ?_
      refine PW_iload_n (i := 3) dX4_steerer_32 rfl rfl ?_
      have Fs1 : sly h g j ≤ 203 := sly_le hV' g h13
      have Fs2 := bst_203 hV' g hj1
      refine PW_icmp_le 42 dX4_steerer_33 (by decide) (fun h33 => ?_) (fun h33 => ?_)
      · have h33 := Nat.not_lt.mpr (jle (a := sly h g j) h33)
        refine PW_inc1 dX4_steerer_42 rfl (Nat.le_of_ble_eq_true rfl) rfl ?_
        refine PW_goto 7 dX4_steerer_45 (by decide) ?_
        have q := ih (j + 1) (by omega) (by omega) (.int (nI (sly h g j)))
        first | (rw [bst_n h33] at q; exact q) | (rw [bst_s h33] at q; simp only [pI_s] at q; exact q)
      · have h33 := jnle (a := sly h g j) h33
        refine PW_iload dX4_steerer_36 rfl ?_
        refine PW_istore_n (i := 3) dX4_steerer_38 rfl (Nat.le_of_ble_eq_true rfl) rfl ?_
        refine PW_iload dX4_steerer_39 rfl ?_
        refine PW_istore_n (i := 2) dX4_steerer_41 rfl (Nat.le_of_ble_eq_true rfl) rfl ?_
        refine PW_inc1 dX4_steerer_42 rfl (Nat.le_of_ble_eq_true rfl) rfl ?_
        refine PW_goto 7 dX4_steerer_45 (by decide) ?_
        have q := ih (j + 1) (by omega) (by omega) (.int (nI (sly h g j)))
        first | (rw [bst_n h33] at q; exact q) | (rw [bst_s h33] at q; simp only [pI_s] at q; exact q)
set_option maxRecDepth 100000 in
set_option maxHeartbeats 4000000 in
theorem spX4_steerer {G : GE} {d : Nat} {i : MI0} {S : MS} {X a b : Nat} {h : Hm} (hd : 5 ≤ d) (hK0 : KS S X) (hS : HS S X a) (hR : HR i a h) (hV : HV b h) (hb : b ≤ 1000) {g : Nat} (hg : g < 2 ^ 30) : Mt G iX4_steerer d [.ref a, .int (nI g)] (i, S) (Rt (pI (stw h g)) (i, S)) := by
  refine Mt_in 4 (ls := [.ref a, .int (nI g), .null, .null, .null, .null]) moX4_steerer (Nat.le_of_ble_eq_true rfl) rfl ?_
  refine PW_iconst (v := -1) dX4_steerer_0 (by decide) ?_
  refine PW_istore_n (i := 2) dX4_steerer_1 rfl (Nat.le_of_ble_eq_true rfl) rfl ?_
  refine PW_iconst (v := 0) dX4_steerer_2 (by decide) ?_
  refine PW_istore_n (i := 3) dX4_steerer_3 rfl (Nat.le_of_ble_eq_true rfl) rfl ?_
  refine PW_iconst (v := 0) dX4_steerer_4 (by decide) ?_
  refine PW_istore dX4_steerer_5 (Nat.le_of_ble_eq_true rfl) rfl ?_
  exact lpX4_steerer hd hK0 hS hR hV hb hg (hn h + 1) 0 (by omega) (by omega) .null

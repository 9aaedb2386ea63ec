/-! ===== Helm: canSteer, chances, pairs ===== -/
theorem csP_0 (h : Hm) (k : Nat) : csP h k 0 = decide (0 < mxs h k) := by simp [csP, allB]
set_option maxRecDepth 100000 in
set_option maxHeartbeats 4000000 in
theorem spX4_staysBehind {G : GE} {d : Nat} {M : Mm} {o so k s : Nat} (h1 : o < 1000) (h2 : so < 1000) (h3 : k < 1000) (h4 : s < 1000) : Mt G iX4_staysBehind d [.int (nI o), .int (nI so), .int (nI k), .int (nI s)] M (Rt (b2i (stbB o so k s)) M) := by
  refine Mt_in 0 (ls := [.int (nI o), .int (nI so), .int (nI k), .int (nI s)]) moX4_staysBehind (Nat.le_of_ble_eq_true rfl) rfl ?_
  refine PW_iload_n (i := 0) dX4_staysBehind_0 rfl rfl ?_
  refine PW_iload_n (i := 2) dX4_staysBehind_1 rfl rfl ?_
  refine PW_icmp_ge 18 dX4_staysBehind_2 (by decide) (fun h2 => ?_) (fun h2 => ?_)
  · have h2 := jle h2
    refine PW_iload_n (i := 1) dX4_staysBehind_18 rfl rfl ?_
    refine PW_iload_n (i := 3) dX4_staysBehind_19 rfl rfl ?_
    refine PW_icmp_gt 27 dX4_staysBehind_20 (by decide) (fun h20 => ?_) (fun h20 => ?_)
    · have h20 := jlt h20
      refine PW_iconst (v := 0) dX4_staysBehind_27 (by decide) ?_
      refine PW_ireturn rfl (rfl) dX4_staysBehind_28 (Nat.le_of_ble_eq_true rfl) (Nat.le_of_ble_eq_true rfl) ?_
      refine rt_i ?_
      unfold stbB
      first | rw [if_neg (by omega)] | rw [if_pos (by omega)]
      first | (rw [decide_eq_true (by omega)]; rfl) | (rw [decide_eq_false (by omega)]; rfl)
    · have h20 := jnlt h20
      refine PW_iconst (v := 1) dX4_staysBehind_23 (by decide) ?_
      refine PW_goto 28 dX4_staysBehind_24 (by decide) ?_
      refine PW_ireturn rfl (rfl) dX4_staysBehind_28 (Nat.le_of_ble_eq_true rfl) (Nat.le_of_ble_eq_true rfl) ?_
      refine rt_i ?_
      unfold stbB
      first | rw [if_neg (by omega)] | rw [if_pos (by omega)]
      first | (rw [decide_eq_true (by omega)]; rfl) | (rw [decide_eq_false (by omega)]; rfl)
  · have h2 := jnle h2
    refine PW_iload_n (i := 1) dX4_staysBehind_5 rfl rfl ?_
    refine PW_iload_n (i := 3) dX4_staysBehind_6 rfl rfl ?_
    refine PW_icmp_ge 14 dX4_staysBehind_7 (by decide) (fun h7 => ?_) (fun h7 => ?_)
    · have h7 := jle h7
      refine PW_iconst (v := 0) dX4_staysBehind_14 (by decide) ?_
      refine PW_goto 28 dX4_staysBehind_15 (by decide) ?_
      refine PW_ireturn rfl (rfl) dX4_staysBehind_28 (Nat.le_of_ble_eq_true rfl) (Nat.le_of_ble_eq_true rfl) ?_
      refine rt_i ?_
      unfold stbB
      first | rw [if_neg (by omega)] | rw [if_pos (by omega)]
      first | (rw [decide_eq_true (by omega)]; rfl) | (rw [decide_eq_false (by omega)]; rfl)
    · have h7 := jnle h7
      refine PW_iconst (v := 1) dX4_staysBehind_10 (by decide) ?_
      refine PW_goto 28 dX4_staysBehind_11 (by decide) ?_
      refine PW_ireturn rfl (rfl) dX4_staysBehind_28 (Nat.le_of_ble_eq_true rfl) (Nat.le_of_ble_eq_true rfl) ?_
      refine rt_i ?_
      unfold stbB
      first | rw [if_neg (by omega)] | rw [if_pos (by omega)]
      first | (rw [decide_eq_true (by omega)]; rfl) | (rw [decide_eq_false (by omega)]; rfl)
set_option maxRecDepth 100000 in
set_option maxHeartbeats 4000000 in
theorem lpX4_canSteer {G : GE} {d : Nat} {i : MI0} {S : MS} {X a b : Nat} {h : Hm} (hd : 5 ≤ d) (hK0 : KS S X) (hS : HS S X a) (hR : HR i a h) (hV : HV b h) (hb : b ≤ 1000) {k : Nat} (hk : k < hn h) : ∀ (n0 j : Nat), j ≤ hn h → hn h < j + n0 → ∀ (z5 : Value), PW G iX4_canSteer d (Rt (b2i (csP h k (hn h))) (i, S)) 29 [.ref a, .int (nI k), .int (nI (mxs h k)), .int (b2i (csP h k j)), .int (nI j), z5] [] (i, S) 0 0 := by
  have hK0' := hK0
  have hS' := hS
  have hR' := hR
  have hV' := hV
  obtain ⟨Fk0, Fkr, Fkp⟩ := hK0
  obtain ⟨Ft0, Ft1, Ft2, Ft3, Fr0, Fr1, Fr2, Fr3⟩ := hS
  obtain ⟨Fg4, Fg5, Fg6, Fg7, Fgj⟩ := hR
  obtain ⟨Fv1, Fv2, Fv3, Fv4, Fv5, Fv6⟩ := hV
  intro n0
  induction n0 with
  | zero => intro j h1 h2; exact absurd h2 (by omega)
  | succ n0 ih =>
    intro j hj1 hj2 z5
    refine PW_iload dX4_canSteer_29 rfl ?_
    refine PW_aload_n (i := 0) dX4_canSteer_31 rfl rfl ?_
    refine PW_giv (v := nI (hn h)) dX4_canSteer_32 fg4_25 (Ft0) (Fg4) ?_
    refine PW_icmp_ge 91 dX4_canSteer_35 (by decide) (fun h35 => ?_) (fun h35 => ?_)
    · have h35 := jle h35
      have ej : j = hn h := by omega
      subst ej
      refine PW_iload_n (i := 3) dX4_canSteer_91 rfl rfl ?_
      refine PW_ireturn rfl (by cases csP h k (hn h) <;> rfl) dX4_canSteer_92 (Nat.le_of_ble_eq_true rfl) (Nat.le_of_ble_eq_true rfl) ?_
      exact rt_i rfl
    · have h35 := jnle h35
      have Fs1 := slf_le hV' h35 true
      have Fs2 := slf_le hV' h35 false
      have Fs3 := slf_le hV' hk true
      have s4 := slf_le hV' hk false
      have s5 : mns h j ≤ 203 := by unfold mns; omega
      have s6 : mxs h k ≤ 203 := by unfold mxs; omega
      refine PW_aload_n (i := 0) dX4_canSteer_38 rfl rfl ?_
      refine PW_iload dX4_canSteer_39 rfl ?_
      refine PW_iconst (v := 1) dX4_canSteer_41 (by decide) ?_
      refine PW_callV dX4_canSteer_42 moX4_sleepiness cv4_54 (Ft0) (by omega) rfl rfl (Nat.le_of_ble_eq_true rfl) (Nat.le_of_ble_eq_true rfl) (Nat.le_of_ble_eq_true rfl) (spX4_sleepiness (d := d - 1) (by omega) hK0' hS' hR' hV' hb h35 true) (fun v M1 hq => ?_)
      obtain ⟨rfl, rfl⟩ := hq
      refine PW_aload_n (i := 0) dX4_canSteer_45 rfl rfl ?_
      refine PW_iload dX4_canSteer_46 rfl ?_
      refine PW_iconst (v := 0) dX4_canSteer_48 (by decide) ?_
      refine PW_callV dX4_canSteer_49 moX4_sleepiness cv4_54 (Ft0) (by omega) rfl rfl (Nat.le_of_ble_eq_true rfl) (Nat.le_of_ble_eq_true rfl) (Nat.le_of_ble_eq_true rfl) (spX4_sleepiness (d := d - 1) (by omega) hK0' hS' hR' hV' hb h35 false) (fun v M1 hq => ?_)
      obtain ⟨rfl, rfl⟩ := hq
      refine PW_min dX4_canSteer_52 mm4_68 mw_min (Nat.le_of_ble_eq_true rfl) (Nat.le_of_ble_eq_true rfl) (Nat.le_of_ble_eq_true rfl) ?_
      refine PW_eqi (minN (x := slf h j true) (y := slf h j false) (by omega) (by omega)) ?_
      refine PW_istore dX4_canSteer_55 (Nat.le_of_ble_eq_true rfl) rfl ?_
      refine PW_iload_n (i := 3) dX4_canSteer_57 rfl rfl ?_
      refine PW_if_eq 83 dX4_canSteer_58 (by decide) (fun h58 => ?_) (fun h58 => ?_)
      · have h58 := b2i_0.mp h58
        refine PW_iconst (v := 0) dX4_canSteer_83 (by decide) ?_
        refine PW_istore_n (i := 3) dX4_canSteer_84 rfl (Nat.le_of_ble_eq_true rfl) rfl ?_
        refine PW_inc1 dX4_canSteer_85 rfl (Nat.le_of_ble_eq_true rfl) rfl ?_
        refine PW_goto 29 dX4_canSteer_88 (by decide) ?_
        have q := ih (j + 1) (by omega) (by omega) (.int (nI (mns h j)))
        rw [csP_s] at q
        first | (rw [h58, Bool.false_and] at q; exact q) | (rw [h58, Bool.true_and] at q; unfold csF at q; first | (rw [decide_eq_true h64, Bool.true_or] at q; exact q) | (rw [decide_eq_false h64, Bool.false_or, h76] at q; exact q))
      · have h58 := b2i_n.mp h58
        refine PW_iload dX4_canSteer_61 rfl ?_
        refine PW_iload_n (i := 1) dX4_canSteer_63 rfl rfl ?_
        refine PW_icmp_eq 79 dX4_canSteer_64 (by decide) (fun h64 => ?_) (fun h64 => ?_)
        · have h64 := jeq h64
          refine PW_iconst (v := 1) dX4_canSteer_79 (by decide) ?_
          refine PW_goto 84 dX4_canSteer_80 (by decide) ?_
          refine PW_istore_n (i := 3) dX4_canSteer_84 rfl (Nat.le_of_ble_eq_true rfl) rfl ?_
          refine PW_inc1 dX4_canSteer_85 rfl (Nat.le_of_ble_eq_true rfl) rfl ?_
          refine PW_goto 29 dX4_canSteer_88 (by decide) ?_
          have q := ih (j + 1) (by omega) (by omega) (.int (nI (mns h j)))
          rw [csP_s] at q
          first | (rw [h58, Bool.false_and] at q; exact q) | (rw [h58, Bool.true_and] at q; unfold csF at q; first | (rw [decide_eq_true h64, Bool.true_or] at q; exact q) | (rw [decide_eq_false h64, Bool.false_or, h76] at q; exact q))
        · have h64 := jne h64
          refine PW_iload dX4_canSteer_67 rfl ?_
          refine PW_iload dX4_canSteer_69 rfl ?_
          refine PW_iload_n (i := 1) dX4_canSteer_71 rfl rfl ?_
          refine PW_iload_n (i := 2) dX4_canSteer_72 rfl rfl ?_
          refine PW_callS dX4_canSteer_73 moX4_staysBehind cs4_71 (by omega) rfl rfl (Nat.le_of_ble_eq_true rfl) (Nat.le_of_ble_eq_true rfl) (Nat.le_of_ble_eq_true rfl) (spX4_staysBehind (d := d - 1) (o := j) (so := mns h j) (k := k) (s := mxs h k) (by omega) (by omega) (by omega) (by omega)) (fun v M1 hq => ?_)
          obtain ⟨rfl, rfl⟩ := hq
          refine PW_if_eq 83 dX4_canSteer_76 (by decide) (fun h76 => ?_) (fun h76 => ?_)
          · have h76 := b2i_0.mp h76
            refine PW_iconst (v := 0) dX4_canSteer_83 (by decide) ?_
            refine PW_istore_n (i := 3) dX4_canSteer_84 rfl (Nat.le_of_ble_eq_true rfl) rfl ?_
            refine PW_inc1 dX4_canSteer_85 rfl (Nat.le_of_ble_eq_true rfl) rfl ?_
            refine PW_goto 29 dX4_canSteer_88 (by decide) ?_
            have q := ih (j + 1) (by omega) (by omega) (.int (nI (mns h j)))
            rw [csP_s] at q
            first | (rw [h58, Bool.false_and] at q; exact q) | (rw [h58, Bool.true_and] at q; unfold csF at q; first | (rw [decide_eq_true h64, Bool.true_or] at q; exact q) | (rw [decide_eq_false h64, Bool.false_or, h76] at q; exact q))
          · have h76 := b2i_n.mp h76
            refine PW_iconst (v := 1) dX4_canSteer_79 (by decide) ?_
            refine PW_goto 84 dX4_canSteer_80 (by decide) ?_
            refine PW_istore_n (i := 3) dX4_canSteer_84 rfl (Nat.le_of_ble_eq_true rfl) rfl ?_
            refine PW_inc1 dX4_canSteer_85 rfl (Nat.le_of_ble_eq_true rfl) rfl ?_
            refine PW_goto 29 dX4_canSteer_88 (by decide) ?_
            have q := ih (j + 1) (by omega) (by omega) (.int (nI (mns h j)))
            rw [csP_s] at q
            first | (rw [h58, Bool.false_and] at q; exact q) | (rw [h58, Bool.true_and] at q; unfold csF at q; first | (rw [decide_eq_true h64, Bool.true_or] at q; exact q) | (rw [decide_eq_false h64, Bool.false_or, h76] at q; exact q))
set_option maxRecDepth 100000 in
set_option maxHeartbeats 4000000 in
theorem spX4_canSteer {G : GE} {d : Nat} {i : MI0} {S : MS} {X a b : Nat} {h : Hm} (hd : 5 ≤ d) (hK0 : KS S X) (hS : HS S X a) (hR : HR i a h) (hV : HV b h) (hb : b ≤ 1000) {k : Nat} (hk : k < hn h) : Mt G iX4_canSteer d [.ref a, .int (nI k)] (i, S) (Rt (b2i (csP h k (hn h))) (i, S)) := by
  have hK0' := hK0
  have hS' := hS
  have hR' := hR
  have hV' := hV
  obtain ⟨Fk0, Fkr, Fkp⟩ := hK0
  obtain ⟨Ft0, Ft1, Ft2, Ft3, Fr0, Fr1, Fr2, Fr3⟩ := hS
  obtain ⟨Fg4, Fg5, Fg6, Fg7, Fgj⟩ := hR
  obtain ⟨Fv1, Fv2, Fv3, Fv4, Fv5, Fv6⟩ := hV
  refine Mt_in 4 (ls := [.ref a, .int (nI k), .null, .null, .null, .null]) moX4_canSteer (Nat.le_of_ble_eq_true rfl) rfl ?_
  refine PW_aload_n (i := 0) dX4_canSteer_0 rfl rfl ?_
  refine PW_iload_n (i := 1) dX4_canSteer_1 rfl rfl ?_
  refine PW_iconst (v := 1) dX4_canSteer_2 (by decide) ?_
  refine PW_callV dX4_canSteer_3 moX4_sleepiness cv4_54 (Ft0) (by omega) rfl rfl (Nat.le_of_ble_eq_true rfl) (Nat.le_of_ble_eq_true rfl) (Nat.le_of_ble_eq_true rfl) (spX4_sleepiness (d := d - 1) (by omega) hK0' hS' hR' hV' hb hk true) (fun v M1 hq => ?_)
  obtain ⟨rfl, rfl⟩ := hq
  refine PW_aload_n (i := 0) dX4_canSteer_6 rfl rfl ?_
  refine PW_iload_n (i := 1) dX4_canSteer_7 rfl rfl ?_
  refine PW_iconst (v := 0) dX4_canSteer_8 (by decide) ?_
  refine PW_callV dX4_canSteer_9 moX4_sleepiness cv4_54 (Ft0) (by omega) rfl rfl (Nat.le_of_ble_eq_true rfl) (Nat.le_of_ble_eq_true rfl) (Nat.le_of_ble_eq_true rfl) (spX4_sleepiness (d := d - 1) (by omega) hK0' hS' hR' hV' hb hk false) (fun v M1 hq => ?_)
  obtain ⟨rfl, rfl⟩ := hq
  have Fs3 := slf_le hV' hk true
  have s4 := slf_le hV' hk false
  have s6 : mxs h k ≤ 203 := by unfold mxs; omega
  refine PW_max dX4_canSteer_12 mm4_58 mw_max (Nat.le_of_ble_eq_true rfl) (Nat.le_of_ble_eq_true rfl) (Nat.le_of_ble_eq_true rfl) ?_
  refine PW_eqi (maxN (x := slf h k true) (y := slf h k false) (by omega) (by omega)) ?_
  refine PW_istore_n (i := 2) dX4_canSteer_15 rfl (Nat.le_of_ble_eq_true rfl) rfl ?_
  refine PW_iload_n (i := 2) dX4_canSteer_16 rfl rfl ?_
  refine PW_if_le 24 dX4_canSteer_17 (by decide) (fun h17 => ?_) (fun h17 => ?_)
  · have h17 : ¬ 0 < mxs h k := by have := jle (b := 0) h17; unfold mxs; omega
    refine PW_iconst (v := 0) dX4_canSteer_24 (by decide) ?_
    refine PW_istore_n (i := 3) dX4_canSteer_25 rfl (Nat.le_of_ble_eq_true rfl) rfl ?_
    refine PW_iconst (v := 0) dX4_canSteer_26 (by decide) ?_
    refine PW_istore dX4_canSteer_27 (Nat.le_of_ble_eq_true rfl) rfl ?_
    first
      | (have q := lpX4_canSteer (G := G) hd hK0' hS' hR' hV' hb hk (hn h + 1) 0 (by omega) (by omega) .null; rw [csP_0, decide_eq_true h17] at q; exact q)
      | (have q := lpX4_canSteer (G := G) hd hK0' hS' hR' hV' hb hk (hn h + 1) 0 (by omega) (by omega) .null; rw [csP_0, decide_eq_false h17] at q; exact q)
  · have h17 : 0 < mxs h k := by have := jnle (b := 0) h17; unfold mxs; omega
    refine PW_iconst (v := 1) dX4_canSteer_20 (by decide) ?_
    refine PW_goto 25 dX4_canSteer_21 (by decide) ?_
    refine PW_istore_n (i := 3) dX4_canSteer_25 rfl (Nat.le_of_ble_eq_true rfl) rfl ?_
    refine PW_iconst (v := 0) dX4_canSteer_26 (by decide) ?_
    refine PW_istore dX4_canSteer_27 (Nat.le_of_ble_eq_true rfl) rfl ?_
    first
      | (have q := lpX4_canSteer (G := G) hd hK0' hS' hR' hV' hb hk (hn h + 1) 0 (by omega) (by omega) .null; rw [csP_0, decide_eq_true h17] at q; exact q)
      | (have q := lpX4_canSteer (G := G) hd hK0' hS' hR' hV' hb hk (hn h + 1) 0 (by omega) (by omega) .null; rw [csP_0, decide_eq_false h17] at q; exact q)
set_option maxRecDepth 100000 in
set_option maxHeartbeats 4000000 in
theorem lpX4_coo {G : GE} {d : Nat} {i : MI0} {S : MS} {X a b : Nat} {h : Hm} (hd : 5 ≤ d) (hK0 : KS S X) (hS : HS S X a) (hR : HR i a h) (hV : HV b h) (hb : b ≤ 1000) {k s c : Nat} (hk : k < hn h) (hs : s ≤ 300) (hc : c ≤ 10) (hs0 : ¬ s = 0) : ∀ (n0 j : Nat), j ≤ hn h → hn h < j + n0 → ∀ (z6 z7 : Value), PW G iX4_chancesOfOthers d (Rt (nI (coo h k s c)) (i, S)) 12 [.ref a, .int (nI k), .int (nI s), .int (nI c), .int (nI (prodN (cooF h k s c) j)), .int (nI j), z6, z7] [] (i, S) 0 0 := by
  have hK0' := hK0
  have hS' := hS
  have hR' := hR
  have hV' := hV
  obtain ⟨Fk0, Fkr, Fkp⟩ := hK0
  obtain ⟨Ft0, Ft1, Ft2, Ft3, Fr0, Fr1, Fr2, Fr3⟩ := hS
  obtain ⟨Fg4, Fg5, Fg6, Fg7, Fgj⟩ := hR
  obtain ⟨Fv1, Fv2, Fv3, Fv4, Fv5, Fv6⟩ := hV
  intro n0
  induction n0 with
  | zero => intro j h1 h2; exact absurd h2 (by omega)
  | succ n0 ih =>
    intro j hj1 hj2 z6 z7
    refine PW_iload dX4_chancesOfOthers_12 rfl ?_
    refine PW_aload_n (i := 0) dX4_chancesOfOthers_14 rfl rfl ?_
    refine PW_giv (v := nI (hn h)) dX4_chancesOfOthers_15 fg4_25 (Ft0) (Fg4) ?_
    refine PW_icmp_ge 94 dX4_chancesOfOthers_18 (by decide) (fun h18 => ?_) (fun h18 => ?_)
    · have h18 := jle h18
      have ej : j = hn h := by omega
      subst ej
      refine PW_iload dX4_chancesOfOthers_94 rfl ?_
      refine PW_ireturn rfl (rfl) dX4_chancesOfOthers_96 (Nat.le_of_ble_eq_true rfl) (Nat.le_of_ble_eq_true rfl) ?_
      refine rt_i ?_
      unfold coo
      rw [if_neg hs0]
    · have h18 := jnle h18
      have Fs1 := slf_le hV' h18 true
      have Fs2 := slf_le hV' h18 false
      refine PW_iload dX4_chancesOfOthers_21 rfl ?_
      refine PW_iload_n (i := 1) dX4_chancesOfOthers_23 rfl rfl ?_
      refine PW_icmp_eq 88 dX4_chancesOfOthers_24 (by decide) (fun h24 => ?_) (fun h24 => ?_)
      · have h24 := jeq h24
        refine PW_inc1 dX4_chancesOfOthers_88 rfl (Nat.le_of_ble_eq_true rfl) rfl ?_
        refine PW_goto 12 dX4_chancesOfOthers_91 (by decide) ?_
        have q := ih (j + 1) (by omega) (by omega)
        rw [show prodN (cooF h k s c) (j + 1) = prodN (cooF h k s c) j * cooF h k s c j from rfl] at q
        unfold cooF at q
        first | (rw [if_pos h24, Nat.mul_one] at q; exact q z6 z7) | (rw [if_neg h24, h41, h65] at q; exact q _ _)
      · have h24 := jne h24
        refine PW_iload dX4_chancesOfOthers_27 rfl ?_
        refine PW_aload_n (i := 0) dX4_chancesOfOthers_29 rfl rfl ?_
        refine PW_iload dX4_chancesOfOthers_30 rfl ?_
        refine PW_iconst (v := 1) dX4_chancesOfOthers_32 (by decide) ?_
        refine PW_callV dX4_chancesOfOthers_33 moX4_sleepiness cv4_54 (Ft0) (by omega) rfl rfl (Nat.le_of_ble_eq_true rfl) (Nat.le_of_ble_eq_true rfl) (Nat.le_of_ble_eq_true rfl) (spX4_sleepiness (d := d - 1) (by omega) hK0' hS' hR' hV' hb h18 true) (fun v M1 hq => ?_)
        obtain ⟨rfl, rfl⟩ := hq
        refine PW_iload_n (i := 1) dX4_chancesOfOthers_36 rfl rfl ?_
        refine PW_iload_n (i := 2) dX4_chancesOfOthers_37 rfl rfl ?_
        refine PW_callS dX4_chancesOfOthers_38 moX4_staysBehind cs4_71 (by omega) rfl rfl (Nat.le_of_ble_eq_true rfl) (Nat.le_of_ble_eq_true rfl) (Nat.le_of_ble_eq_true rfl) (spX4_staysBehind (d := d - 1) (o := j) (so := slf h j true) (k := k) (s := s) (by omega) (by omega) (by omega) (by omega)) (fun v M1 hq => ?_)
        obtain ⟨rfl, rfl⟩ := hq
        refine PW_if_eq 48 dX4_chancesOfOthers_41 (by decide) (fun h41 => ?_) (fun h41 => ?_)
        · have h41 := b2i_0.mp h41
          refine PW_iconst (v := 0) dX4_chancesOfOthers_48 (by decide) ?_
          refine PW_istore dX4_chancesOfOthers_49 (Nat.le_of_ble_eq_true rfl) rfl ?_
          refine PW_iload dX4_chancesOfOthers_51 rfl ?_
          refine PW_aload_n (i := 0) dX4_chancesOfOthers_53 rfl rfl ?_
          refine PW_iload dX4_chancesOfOthers_54 rfl ?_
          refine PW_iconst (v := 0) dX4_chancesOfOthers_56 (by decide) ?_
          refine PW_callV dX4_chancesOfOthers_57 moX4_sleepiness cv4_54 (Ft0) (by omega) rfl rfl (Nat.le_of_ble_eq_true rfl) (Nat.le_of_ble_eq_true rfl) (Nat.le_of_ble_eq_true rfl) (spX4_sleepiness (d := d - 1) (by omega) hK0' hS' hR' hV' hb h18 false) (fun v M1 hq => ?_)
          obtain ⟨rfl, rfl⟩ := hq
          refine PW_iload_n (i := 1) dX4_chancesOfOthers_60 rfl rfl ?_
          refine PW_iload_n (i := 2) dX4_chancesOfOthers_61 rfl rfl ?_
          refine PW_callS dX4_chancesOfOthers_62 moX4_staysBehind cs4_71 (by omega) rfl rfl (Nat.le_of_ble_eq_true rfl) (Nat.le_of_ble_eq_true rfl) (Nat.le_of_ble_eq_true rfl) (spX4_staysBehind (d := d - 1) (o := j) (so := slf h j false) (k := k) (s := s) (by omega) (by omega) (by omega) (by omega)) (fun v M1 hq => ?_)
          obtain ⟨rfl, rfl⟩ := hq
          refine PW_if_eq 75 dX4_chancesOfOthers_65 (by decide) (fun h65 => ?_) (fun h65 => ?_)
          · have h65 := b2i_0.mp h65
            refine PW_iconst (v := 0) dX4_chancesOfOthers_75 (by decide) ?_
            refine PW_istore dX4_chancesOfOthers_76 (Nat.le_of_ble_eq_true rfl) rfl ?_
            refine PW_iload dX4_chancesOfOthers_78 rfl ?_
            refine PW_iload dX4_chancesOfOthers_80 rfl ?_
            refine PW_iload dX4_chancesOfOthers_82 rfl ?_
            refine PW_iadd dX4_chancesOfOthers_84 ?_
            refine PW_eqi (nI_add _ _) ?_
            refine PW_imul dX4_chancesOfOthers_85 ?_
            refine PW_eqi (pk_mul _ _) ?_
            refine PW_istore dX4_chancesOfOthers_86 (Nat.le_of_ble_eq_true rfl) rfl ?_
            refine PW_inc1 dX4_chancesOfOthers_88 rfl (Nat.le_of_ble_eq_true rfl) rfl ?_
            refine PW_goto 12 dX4_chancesOfOthers_91 (by decide) ?_
            have q := ih (j + 1) (by omega) (by omega)
            rw [show prodN (cooF h k s c) (j + 1) = prodN (cooF h k s c) j * cooF h k s c j from rfl] at q
            unfold cooF at q
            first | (rw [if_pos h24, Nat.mul_one] at q; exact q z6 z7) | (rw [if_neg h24, h41, h65] at q; exact q _ _)
          · have h65 := b2i_n.mp h65
            refine PW_bipush (v := 10) dX4_chancesOfOthers_68 (by decide) ?_
            refine PW_iload_n (i := 3) dX4_chancesOfOthers_70 rfl rfl ?_
            refine PW_isub dX4_chancesOfOthers_71 ?_
            refine PW_eqi (pk_sub (a := 10) (b := c) hc) ?_
            refine PW_goto 76 dX4_chancesOfOthers_72 (by decide) ?_
            refine PW_istore dX4_chancesOfOthers_76 (Nat.le_of_ble_eq_true rfl) rfl ?_
            refine PW_iload dX4_chancesOfOthers_78 rfl ?_
            refine PW_iload dX4_chancesOfOthers_80 rfl ?_
            refine PW_iload dX4_chancesOfOthers_82 rfl ?_
            refine PW_iadd dX4_chancesOfOthers_84 ?_
            refine PW_eqi (nI_add _ _) ?_
            refine PW_imul dX4_chancesOfOthers_85 ?_
            refine PW_eqi (pk_mul _ _) ?_
            refine PW_istore dX4_chancesOfOthers_86 (Nat.le_of_ble_eq_true rfl) rfl ?_
            refine PW_inc1 dX4_chancesOfOthers_88 rfl (Nat.le_of_ble_eq_true rfl) rfl ?_
            refine PW_goto 12 dX4_chancesOfOthers_91 (by decide) ?_
            have q := ih (j + 1) (by omega) (by omega)
            rw [show prodN (cooF h k s c) (j + 1) = prodN (cooF h k s c) j * cooF h k s c j from rfl] at q
            unfold cooF at q
            first | (rw [if_pos h24, Nat.mul_one] at q; exact q z6 z7) | (rw [if_neg h24, h41, h65] at q; exact q _ _)
        · have h41 := b2i_n.mp h41
          refine PW_iload_n (i := 3) dX4_chancesOfOthers_44 rfl rfl ?_
          refine PW_goto 49 dX4_chancesOfOthers_45 (by decide) ?_
          refine PW_istore dX4_chancesOfOthers_49 (Nat.le_of_ble_eq_true rfl) rfl ?_
          refine PW_iload dX4_chancesOfOthers_51 rfl ?_
          refine PW_aload_n (i := 0) dX4_chancesOfOthers_53 rfl rfl ?_
          refine PW_iload dX4_chancesOfOthers_54 rfl ?_
          refine PW_iconst (v := 0) dX4_chancesOfOthers_56 (by decide) ?_
          refine PW_callV dX4_chancesOfOthers_57 moX4_sleepiness cv4_54 (Ft0) (by omega) rfl rfl (Nat.le_of_ble_eq_true rfl) (Nat.le_of_ble_eq_true rfl) (Nat.le_of_ble_eq_true rfl) (spX4_sleepiness (d := d - 1) (by omega) hK0' hS' hR' hV' hb h18 false) (fun v M1 hq => ?_)
          obtain ⟨rfl, rfl⟩ := hq
          refine PW_iload_n (i := 1) dX4_chancesOfOthers_60 rfl rfl ?_
          refine PW_iload_n (i := 2) dX4_chancesOfOthers_61 rfl rfl ?_
          refine PW_callS dX4_chancesOfOthers_62 moX4_staysBehind cs4_71 (by omega) rfl rfl (Nat.le_of_ble_eq_true rfl) (Nat.le_of_ble_eq_true rfl) (Nat.le_of_ble_eq_true rfl) (spX4_staysBehind (d := d - 1) (o := j) (so := slf h j false) (k := k) (s := s) (by omega) (by omega) (by omega) (by omega)) (fun v M1 hq => ?_)
          obtain ⟨rfl, rfl⟩ := hq
          refine PW_if_eq 75 dX4_chancesOfOthers_65 (by decide) (fun h65 => ?_) (fun h65 => ?_)
          · have h65 := b2i_0.mp h65
            refine PW_iconst (v := 0) dX4_chancesOfOthers_75 (by decide) ?_
            refine PW_istore dX4_chancesOfOthers_76 (Nat.le_of_ble_eq_true rfl) rfl ?_
            refine PW_iload dX4_chancesOfOthers_78 rfl ?_
            refine PW_iload dX4_chancesOfOthers_80 rfl ?_
            refine PW_iload dX4_chancesOfOthers_82 rfl ?_
            refine PW_iadd dX4_chancesOfOthers_84 ?_
            refine PW_eqi (nI_add _ _) ?_
            refine PW_imul dX4_chancesOfOthers_85 ?_
            refine PW_eqi (pk_mul _ _) ?_
            refine PW_istore dX4_chancesOfOthers_86 (Nat.le_of_ble_eq_true rfl) rfl ?_
            refine PW_inc1 dX4_chancesOfOthers_88 rfl (Nat.le_of_ble_eq_true rfl) rfl ?_
            refine PW_goto 12 dX4_chancesOfOthers_91 (by decide) ?_
            have q := ih (j + 1) (by omega) (by omega)
            rw [show prodN (cooF h k s c) (j + 1) = prodN (cooF h k s c) j * cooF h k s c j from rfl] at q
            unfold cooF at q
            first | (rw [if_pos h24, Nat.mul_one] at q; exact q z6 z7) | (rw [if_neg h24, h41, h65] at q; exact q _ _)
          · have h65 := b2i_n.mp h65
            refine PW_bipush (v := 10) dX4_chancesOfOthers_68 (by decide) ?_
            refine PW_iload_n (i := 3) dX4_chancesOfOthers_70 rfl rfl ?_
            refine PW_isub dX4_chancesOfOthers_71 ?_
            refine PW_eqi (pk_sub (a := 10) (b := c) hc) ?_
            refine PW_goto 76 dX4_chancesOfOthers_72 (by decide) ?_
            refine PW_istore dX4_chancesOfOthers_76 (Nat.le_of_ble_eq_true rfl) rfl ?_
            refine PW_iload dX4_chancesOfOthers_78 rfl ?_
            refine PW_iload dX4_chancesOfOthers_80 rfl ?_
            refine PW_iload dX4_chancesOfOthers_82 rfl ?_
            refine PW_iadd dX4_chancesOfOthers_84 ?_
            refine PW_eqi (nI_add _ _) ?_
            refine PW_imul dX4_chancesOfOthers_85 ?_
            refine PW_eqi (pk_mul _ _) ?_
            refine PW_istore dX4_chancesOfOthers_86 (Nat.le_of_ble_eq_true rfl) rfl ?_
            refine PW_inc1 dX4_chancesOfOthers_88 rfl (Nat.le_of_ble_eq_true rfl) rfl ?_
            refine PW_goto 12 dX4_chancesOfOthers_91 (by decide) ?_
            have q := ih (j + 1) (by omega) (by omega)
            rw [show prodN (cooF h k s c) (j + 1) = prodN (cooF h k s c) j * cooF h k s c j from rfl] at q
            unfold cooF at q
            first | (rw [if_pos h24, Nat.mul_one] at q; exact q z6 z7) | (rw [if_neg h24, h41, h65] at q; exact q _ _)
set_option maxRecDepth 100000 in
set_option maxHeartbeats 4000000 in
theorem spX4_coo {G : GE} {d : Nat} {i : MI0} {S : MS} {X a b : Nat} {h : Hm} (hd : 5 ≤ d) (hK0 : KS S X) (hS : HS S X a) (hR : HR i a h) (hV : HV b h) (hb : b ≤ 1000) {k s c : Nat} (hk : k < hn h) (hs : s ≤ 300) (hc : c ≤ 10) : Mt G iX4_chancesOfOthers d [.ref a, .int (nI k), .int (nI s), .int (nI c)] (i, S) (Rt (nI (coo h k s c)) (i, S)) := by
  refine Mt_in 4 (ls := [.ref a, .int (nI k), .int (nI s), .int (nI c), .null, .null, .null, .null]) moX4_chancesOfOthers (Nat.le_of_ble_eq_true rfl) rfl ?_
  refine PW_iload_n (i := 2) dX4_chancesOfOthers_0 rfl rfl ?_
  refine PW_if_gt 6 dX4_chancesOfOthers_1 (by decide) (fun h1 => ?_) (fun h1 => ?_)
  · have h1 : ¬ s = 0 := by have := jlt (a := 0) h1; omega
    refine PW_iconst (v := 1) dX4_chancesOfOthers_6 (by decide) ?_
    refine PW_istore dX4_chancesOfOthers_7 (Nat.le_of_ble_eq_true rfl) rfl ?_
    refine PW_iconst (v := 0) dX4_chancesOfOthers_9 (by decide) ?_
    refine PW_istore dX4_chancesOfOthers_10 (Nat.le_of_ble_eq_true rfl) rfl ?_
    exact lpX4_coo hd hK0 hS hR hV hb hk hs hc h1 (hn h + 1) 0 (by omega) (by omega) .null .null
  · have h1 : s = 0 := by have := jnlt (a := 0) h1; omega
    refine PW_iconst (v := 0) dX4_chancesOfOthers_4 (by decide) ?_
    refine PW_ireturn rfl (rfl) dX4_chancesOfOthers_5 (Nat.le_of_ble_eq_true rfl) (Nat.le_of_ble_eq_true rfl) ?_
    refine rt_i ?_
    unfold coo
    rw [if_pos h1]; rfl
set_option maxRecDepth 100000 in
set_option maxHeartbeats 4000000 in
theorem spX4_chances {G : GE} {d : Nat} {i : MI0} {S : MS} {X a b : Nat} {h : Hm} (hd : 6 ≤ d) (hK0 : KS S X) (hS : HS S X a) (hR : HR i a h) (hV : HV b h) (hb : b ≤ 1000) {k c : Nat} (hk : k < hn h) (hc : c ≤ 10) : Mt G iX4_chances d [.ref a, .int (nI k), .int (nI c)] (i, S) (Rt (nI (chn h k c)) (i, S)) := by
  have hK0' := hK0
  have hS' := hS
  have hR' := hR
  have hV' := hV
  obtain ⟨Fk0, Fkr, Fkp⟩ := hK0
  obtain ⟨Ft0, Ft1, Ft2, Ft3, Fr0, Fr1, Fr2, Fr3⟩ := hS
  obtain ⟨Fg4, Fg5, Fg6, Fg7, Fgj⟩ := hR
  obtain ⟨Fv1, Fv2, Fv3, Fv4, Fv5, Fv6⟩ := hV
  refine Mt_in 0 (ls := [.ref a, .int (nI k), .int (nI c)]) moX4_chances (Nat.le_of_ble_eq_true rfl) rfl ?_
  refine PW_iload_n (i := 2) dX4_chances_0 rfl rfl ?_
  refine PW_aload_n (i := 0) dX4_chances_1 rfl rfl ?_
  refine PW_iload_n (i := 1) dX4_chances_2 rfl rfl ?_
  refine PW_aload_n (i := 0) dX4_chances_3 rfl rfl ?_
  refine PW_iload_n (i := 1) dX4_chances_4 rfl rfl ?_
  refine PW_iconst (v := 1) dX4_chances_5 (by decide) ?_
  refine PW_callV dX4_chances_6 moX4_sleepiness cv4_54 (Ft0) (by omega) rfl rfl (Nat.le_of_ble_eq_true rfl) (Nat.le_of_ble_eq_true rfl) (Nat.le_of_ble_eq_true rfl) (spX4_sleepiness (d := d - 1) (by omega) hK0' hS' hR' hV' hb hk true) (fun v M1 hq => ?_)
  obtain ⟨rfl, rfl⟩ := hq
  refine PW_iload_n (i := 2) dX4_chances_9 rfl rfl ?_
  refine PW_callV dX4_chances_10 moX4_chancesOfOthers cv4_75 (Ft0) (by omega) rfl rfl (Nat.le_of_ble_eq_true rfl) (Nat.le_of_ble_eq_true rfl) (Nat.le_of_ble_eq_true rfl) (spX4_coo (d := d - 1) (s := slf h k true) (by omega) hK0' hS' hR' hV' hb hk (by have := slf_le hV' hk true; omega) hc) (fun v M1 hq => ?_)
  obtain ⟨rfl, rfl⟩ := hq
  refine PW_imul dX4_chances_13 ?_
  refine PW_eqi (pk_mul _ _) ?_
  refine PW_bipush (v := 10) dX4_chances_14 (by decide) ?_
  refine PW_iload_n (i := 2) dX4_chances_16 rfl rfl ?_
  refine PW_isub dX4_chances_17 ?_
  refine PW_eqi (pk_sub (a := 10) (b := c) hc) ?_
  refine PW_aload_n (i := 0) dX4_chances_18 rfl rfl ?_
  refine PW_iload_n (i := 1) dX4_chances_19 rfl rfl ?_
  refine PW_aload_n (i := 0) dX4_chances_20 rfl rfl ?_
  refine PW_iload_n (i := 1) dX4_chances_21 rfl rfl ?_
  refine PW_iconst (v := 0) dX4_chances_22 (by decide) ?_
  refine PW_callV dX4_chances_23 moX4_sleepiness cv4_54 (Ft0) (by omega) rfl rfl (Nat.le_of_ble_eq_true rfl) (Nat.le_of_ble_eq_true rfl) (Nat.le_of_ble_eq_true rfl) (spX4_sleepiness (d := d - 1) (by omega) hK0' hS' hR' hV' hb hk false) (fun v M1 hq => ?_)
  obtain ⟨rfl, rfl⟩ := hq
  refine PW_iload_n (i := 2) dX4_chances_26 rfl rfl ?_
  refine PW_callV dX4_chances_27 moX4_chancesOfOthers cv4_75 (Ft0) (by omega) rfl rfl (Nat.le_of_ble_eq_true rfl) (Nat.le_of_ble_eq_true rfl) (Nat.le_of_ble_eq_true rfl) (spX4_coo (d := d - 1) (s := slf h k false) (by omega) hK0' hS' hR' hV' hb hk (by have := slf_le hV' hk false; omega) hc) (fun v M1 hq => ?_)
  obtain ⟨rfl, rfl⟩ := hq
  refine PW_imul dX4_chances_30 ?_
  refine PW_eqi (pk_mul _ _) ?_
  refine PW_iadd dX4_chances_31 ?_
  refine PW_eqi (nI_add _ _) ?_
  refine PW_ireturn rfl (rfl) dX4_chances_32 (Nat.le_of_ble_eq_true rfl) (Nat.le_of_ble_eq_true rfl) ?_
  exact rt_i rfl
set_option maxRecDepth 100000 in
set_option maxHeartbeats 4000000 in
theorem spX4_steererByPair {G : GE} {d : Nat} {i : MI0} {S : MS} {X a b : Nat} {h : Hm} (hd : 6 ≤ d) (hK0 : KS S X) (hS : HS S X a) (hR : HR i a h) (hV : HV b h) (hb : b ≤ 1000) {k l q : Nat} (hk : k < hn h) (hl : l < hn h) (hq9 : q < 4) : Mt G iX4_steererByPair d [.ref a, .int (nI k), .int (nI l), .int (nI q)] (i, S) (Rt (pI (stw h (prS (hf h) k l q))) (i, S)) := by
  refine Mt_in 1 (ls := [.ref a, .int (nI k), .int (nI l), .int (nI q), .null]) moX4_steererByPair (Nat.le_of_ble_eq_true rfl) rfl ?_
  refine PW_aload_n (i := 0) dX4_steererByPair_0 rfl rfl ?_
  refine PW_giv (v := nI (hf h)) dX4_steererByPair_1 fg4_35 (hS.1) (hR.2.2.2.1) ?_
  refine PW_iconst (v := 1) dX4_steererByPair_4 (by decide) ?_
  refine PW_iload_n (i := 1) dX4_steererByPair_5 rfl rfl ?_
  refine PW_ishl dX4_steererByPair_6 ?_
  refine PW_iconst (v := -1) dX4_steererByPair_7 (by decide) ?_
  refine PW_ixor dX4_steererByPair_8 ?_
  refine PW_iand dX4_steererByPair_9 ?_
  refine PW_iconst (v := 1) dX4_steererByPair_10 (by decide) ?_
  refine PW_iload_n (i := 2) dX4_steererByPair_11 rfl rfl ?_
  refine PW_ishl dX4_steererByPair_12 ?_
  refine PW_iconst (v := -1) dX4_steererByPair_13 (by decide) ?_
  refine PW_ixor dX4_steererByPair_14 ?_
  refine PW_iand dX4_steererByPair_15 ?_
  refine PW_istore dX4_steererByPair_16 (Nat.le_of_ble_eq_true rfl) rfl ?_
  refine PW_aload_n (i := 0) dX4_steererByPair_18 rfl rfl ?_
  refine PW_iload dX4_steererByPair_19 rfl ?_
  refine PW_iload_n (i := 3) dX4_steererByPair_21 rfl rfl ?_
  refine PW_iconst (v := 1) dX4_steererByPair_22 (by decide) ?_
  refine PW_iand dX4_steererByPair_23 ?_
  refine PW_iload_n (i := 1) dX4_steererByPair_24 rfl rfl ?_
  refine PW_ishl dX4_steererByPair_25 ?_
  refine PW_ior dX4_steererByPair_26 ?_
  refine PW_iload_n (i := 3) dX4_steererByPair_27 rfl rfl ?_
  refine PW_iconst (v := 1) dX4_steererByPair_28 (by decide) ?_
  refine PW_ishr dX4_steererByPair_29 ?_
  refine PW_iconst (v := 1) dX4_steererByPair_30 (by decide) ?_
  refine PW_iand dX4_steererByPair_31 ?_
  refine PW_iload_n (i := 2) dX4_steererByPair_32 rfl rfl ?_
  refine PW_ishl dX4_steererByPair_33 ?_
  refine PW_ior dX4_steererByPair_34 ?_
  have pq := prS_ok (f := hf h) (a := k) (b := l) (by have := hV.1; omega) (by have := hV.1; omega) hq9 (by have h1 := hV.1; have h2 := hV.2.1; have h3 : 2 ^ hn h ≤ 2 ^ 6 := Nat.pow_le_pow_right (by decide) h1; omega)
  refine PW_eqi pq.1 ?_
  refine PW_callV dX4_steererByPair_35 moX4_steerer cv4_82 (hS.1) (by omega) rfl rfl (Nat.le_of_ble_eq_true rfl) (Nat.le_of_ble_eq_true rfl) (Nat.le_of_ble_eq_true rfl) (spX4_steerer (d := d - 1) (by omega) hK0 hS hR hV hb (by omega)) (fun v M1 hq => ?_)
  obtain ⟨rfl, rfl⟩ := hq
  refine PW_ireturn rfl (rfl) dX4_steererByPair_38 (Nat.le_of_ble_eq_true rfl) (Nat.le_of_ble_eq_true rfl) ?_
  exact rt_i rfl
set_option maxRecDepth 100000 in
set_option maxHeartbeats 4000000 in
theorem spX4_pairRests {G : GE} {d : Nat} {i : MI0} {S : MS} {X a b : Nat} {h : Hm} (hd : 7 ≤ d) (hK0 : KS S X) (hS : HS S X a) (hR : HR i a h) (hV : HV b h) (hb : b ≤ 1000) {k l q : Nat} (hk : k < hn h) (hl : l < hn h) (hq9 : q < 4) : Mt G iX4_pairRests d [.ref a, .int (nI k), .int (nI l), .int (nI q)] (i, S) (Rt (b2i (eatB h k l q)) (i, S)) := by
  refine Mt_in 3 (ls := [.ref a, .int (nI k), .int (nI l), .int (nI q), .null, .null, .null]) moX4_pairRests (Nat.le_of_ble_eq_true rfl) rfl ?_
  refine PW_aload_n (i := 0) dX4_pairRests_0 rfl rfl ?_
  refine PW_iload_n (i := 1) dX4_pairRests_1 rfl rfl ?_
  refine PW_iload_n (i := 2) dX4_pairRests_2 rfl rfl ?_
  refine PW_iload_n (i := 3) dX4_pairRests_3 rfl rfl ?_
  refine PW_callV dX4_pairRests_4 moX4_steererByPair cv4_79 (hS.1) (by omega) rfl rfl (Nat.le_of_ble_eq_true rfl) (Nat.le_of_ble_eq_true rfl) (Nat.le_of_ble_eq_true rfl) (spX4_steererByPair (d := d - 1) (by omega) hK0 hS hR hV hb hk hl hq9) (fun v M1 hq => ?_)
  obtain ⟨rfl, rfl⟩ := hq
  refine PW_istore dX4_pairRests_7 (Nat.le_of_ble_eq_true rfl) rfl ?_
  refine PW_iload dX4_pairRests_9 rfl ?_
  refine PW_iload_n (i := 1) dX4_pairRests_11 rfl rfl ?_
  refine PW_icmp_ne 32 dX4_pairRests_12 (by decide) (fun h12 => ?_) (fun h12 => ?_)
  · have h12 : ¬ stw h (prS (hf h) k l q) = k + 1 := fun z => h12 ((pI_eq (k := k) (by have := stw_le h (prS (hf h) k l q); have := hV.1; omega) (by have := hV.1; omega)).mpr z).symm
    refine PW_iconst (v := 0) dX4_pairRests_32 (by decide) ?_
    refine PW_istore dX4_pairRests_33 (Nat.le_of_ble_eq_true rfl) rfl ?_
    refine PW_iload dX4_pairRests_35 rfl ?_
    refine PW_iload_n (i := 2) dX4_pairRests_37 rfl rfl ?_
    refine PW_icmp_ne 58 dX4_pairRests_38 (by decide) (fun h38 => ?_) (fun h38 => ?_)
    · have h38 : ¬ stw h (prS (hf h) k l q) = l + 1 := fun z => h38 ((pI_eq (k := l) (by have := stw_le h (prS (hf h) k l q); have := hV.1; omega) (by have := hV.1; omega)).mpr z).symm
      refine PW_iconst (v := 0) dX4_pairRests_58 (by decide) ?_
      refine PW_istore dX4_pairRests_59 (Nat.le_of_ble_eq_true rfl) rfl ?_
      refine PW_iload dX4_pairRests_61 rfl ?_
      refine PW_if_ne 75 dX4_pairRests_63 (by decide) (fun h63 => ?_) (fun h63 => ?_)
      · refine PW_iconst (v := 0) dX4_pairRests_75 (by decide) ?_
        refine PW_ireturn rfl (rfl) dX4_pairRests_76 (Nat.le_of_ble_eq_true rfl) (Nat.le_of_ble_eq_true rfl) ?_
        refine rt_i ?_
        unfold eatB
        simp_all [b2i]
      · refine PW_iload dX4_pairRests_66 rfl ?_
        refine PW_if_ne 75 dX4_pairRests_68 (by decide) (fun h68 => ?_) (fun h68 => ?_)
        · refine PW_iconst (v := 0) dX4_pairRests_75 (by decide) ?_
          refine PW_ireturn rfl (rfl) dX4_pairRests_76 (Nat.le_of_ble_eq_true rfl) (Nat.le_of_ble_eq_true rfl) ?_
          refine rt_i ?_
          unfold eatB
          simp_all [b2i]
        · refine PW_iconst (v := 1) dX4_pairRests_71 (by decide) ?_
          refine PW_goto 76 dX4_pairRests_72 (by decide) ?_
          refine PW_ireturn rfl (rfl) dX4_pairRests_76 (Nat.le_of_ble_eq_true rfl) (Nat.le_of_ble_eq_true rfl) ?_
          refine rt_i ?_
          unfold eatB
          simp_all [b2i]
    · have h38 : stw h (prS (hf h) k l q) = l + 1 := (pI_eq (k := l) (by have := stw_le h (prS (hf h) k l q); have := hV.1; omega) (by have := hV.1; omega)).mp h38.symm
      refine PW_aload_n (i := 0) dX4_pairRests_41 rfl rfl ?_
      refine PW_iload_n (i := 1) dX4_pairRests_42 rfl rfl ?_
      refine PW_iload_n (i := 2) dX4_pairRests_43 rfl rfl ?_
      refine PW_iload_n (i := 3) dX4_pairRests_44 rfl rfl ?_
      refine PW_iconst (v := 2) dX4_pairRests_45 (by decide) ?_
      refine PW_ixor dX4_pairRests_46 ?_
      refine PW_eqi (x4 q hq9).2.1 ?_
      refine PW_callV dX4_pairRests_47 moX4_steererByPair cv4_79 (hS.1) (by omega) rfl rfl (Nat.le_of_ble_eq_true rfl) (Nat.le_of_ble_eq_true rfl) (Nat.le_of_ble_eq_true rfl) (spX4_steererByPair (d := d - 1) (by omega) hK0 hS hR hV hb hk hl (x4 q hq9).2.2.2) (fun v M1 hq => ?_)
      obtain ⟨rfl, rfl⟩ := hq
      refine PW_iload_n (i := 2) dX4_pairRests_50 rfl rfl ?_
      refine PW_icmp_eq 58 dX4_pairRests_51 (by decide) (fun h51 => ?_) (fun h51 => ?_)
      · have h51 : stw h (prS (hf h) k l (q ^^^ 2)) = l + 1 := (pI_eq (k := l) (by have := stw_le h (prS (hf h) k l (q ^^^ 2)); have := hV.1; omega) (by have := hV.1; omega)).mp h51.symm
        refine PW_iconst (v := 0) dX4_pairRests_58 (by decide) ?_
        refine PW_istore dX4_pairRests_59 (Nat.le_of_ble_eq_true rfl) rfl ?_
        refine PW_iload dX4_pairRests_61 rfl ?_
        refine PW_if_ne 75 dX4_pairRests_63 (by decide) (fun h63 => ?_) (fun h63 => ?_)
        · refine PW_iconst (v := 0) dX4_pairRests_75 (by decide) ?_
          refine PW_ireturn rfl (rfl) dX4_pairRests_76 (Nat.le_of_ble_eq_true rfl) (Nat.le_of_ble_eq_true rfl) ?_
          refine rt_i ?_
          unfold eatB
          simp_all [b2i]
        · refine PW_iload dX4_pairRests_66 rfl ?_
          refine PW_if_ne 75 dX4_pairRests_68 (by decide) (fun h68 => ?_) (fun h68 => ?_)
          · refine PW_iconst (v := 0) dX4_pairRests_75 (by decide) ?_
            refine PW_ireturn rfl (rfl) dX4_pairRests_76 (Nat.le_of_ble_eq_true rfl) (Nat.le_of_ble_eq_true rfl) ?_
            refine rt_i ?_
            unfold eatB
            simp_all [b2i]
          · refine PW_iconst (v := 1) dX4_pairRests_71 (by decide) ?_
            refine PW_goto 76 dX4_pairRests_72 (by decide) ?_
            refine PW_ireturn rfl (rfl) dX4_pairRests_76 (Nat.le_of_ble_eq_true rfl) (Nat.le_of_ble_eq_true rfl) ?_
            refine rt_i ?_
            unfold eatB
            simp_all [b2i]
      · have h51 : ¬ stw h (prS (hf h) k l (q ^^^ 2)) = l + 1 := fun z => h51 ((pI_eq (k := l) (by have := stw_le h (prS (hf h) k l (q ^^^ 2)); have := hV.1; omega) (by have := hV.1; omega)).mpr z).symm
        refine PW_iconst (v := 1) dX4_pairRests_54 (by decide) ?_
        refine PW_goto 59 dX4_pairRests_55 (by decide) ?_
        refine PW_istore dX4_pairRests_59 (Nat.le_of_ble_eq_true rfl) rfl ?_
        refine PW_iload dX4_pairRests_61 rfl ?_
        refine PW_if_ne 75 dX4_pairRests_63 (by decide) (fun h63 => ?_) (fun h63 => ?_)
        · refine PW_iconst (v := 0) dX4_pairRests_75 (by decide) ?_
          refine PW_ireturn rfl (rfl) dX4_pairRests_76 (Nat.le_of_ble_eq_true rfl) (Nat.le_of_ble_eq_true rfl) ?_
          refine rt_i ?_
          unfold eatB
          simp_all [b2i]
        · refine PW_iload dX4_pairRests_66 rfl ?_
          refine PW_if_ne 75 dX4_pairRests_68 (by decide) (fun h68 => ?_) (fun h68 => ?_)
          · refine PW_iconst (v := 0) dX4_pairRests_75 (by decide) ?_
            refine PW_ireturn rfl (rfl) dX4_pairRests_76 (Nat.le_of_ble_eq_true rfl) (Nat.le_of_ble_eq_true rfl) ?_
            refine rt_i ?_
            unfold eatB
            simp_all [b2i]
          · refine PW_iconst (v := 1) dX4_pairRests_71 (by decide) ?_
            refine PW_goto 76 dX4_pairRests_72 (by decide) ?_
            refine PW_ireturn rfl (rfl) dX4_pairRests_76 (Nat.le_of_ble_eq_true rfl) (Nat.le_of_ble_eq_true rfl) ?_
            refine rt_i ?_
            unfold eatB
            simp_all [b2i]
  · have h12 : stw h (prS (hf h) k l q) = k + 1 := (pI_eq (k := k) (by have := stw_le h (prS (hf h) k l q); have := hV.1; omega) (by have := hV.1; omega)).mp h12.symm
    refine PW_aload_n (i := 0) dX4_pairRests_15 rfl rfl ?_
    refine PW_iload_n (i := 1) dX4_pairRests_16 rfl rfl ?_
    refine PW_iload_n (i := 2) dX4_pairRests_17 rfl rfl ?_
    refine PW_iload_n (i := 3) dX4_pairRests_18 rfl rfl ?_
    refine PW_iconst (v := 1) dX4_pairRests_19 (by decide) ?_
    refine PW_ixor dX4_pairRests_20 ?_
    refine PW_eqi (x4 q hq9).1 ?_
    refine PW_callV dX4_pairRests_21 moX4_steererByPair cv4_79 (hS.1) (by omega) rfl rfl (Nat.le_of_ble_eq_true rfl) (Nat.le_of_ble_eq_true rfl) (Nat.le_of_ble_eq_true rfl) (spX4_steererByPair (d := d - 1) (by omega) hK0 hS hR hV hb hk hl (x4 q hq9).2.2.1) (fun v M1 hq => ?_)
    obtain ⟨rfl, rfl⟩ := hq
    refine PW_iload_n (i := 1) dX4_pairRests_24 rfl rfl ?_
    refine PW_icmp_eq 32 dX4_pairRests_25 (by decide) (fun h25 => ?_) (fun h25 => ?_)
    · have h25 : stw h (prS (hf h) k l (q ^^^ 1)) = k + 1 := (pI_eq (k := k) (by have := stw_le h (prS (hf h) k l (q ^^^ 1)); have := hV.1; omega) (by have := hV.1; omega)).mp h25.symm
      refine PW_iconst (v := 0) dX4_pairRests_32 (by decide) ?_
      refine PW_istore dX4_pairRests_33 (Nat.le_of_ble_eq_true rfl) rfl ?_
      refine PW_iload dX4_pairRests_35 rfl ?_
      refine PW_iload_n (i := 2) dX4_pairRests_37 rfl rfl ?_
      refine PW_icmp_ne 58 dX4_pairRests_38 (by decide) (fun h38 => ?_) (fun h38 => ?_)
      · have h38 : ¬ stw h (prS (hf h) k l q) = l + 1 := fun z => h38 ((pI_eq (k := l) (by have := stw_le h (prS (hf h) k l q); have := hV.1; omega) (by have := hV.1; omega)).mpr z).symm
        refine PW_iconst (v := 0) dX4_pairRests_58 (by decide) ?_
        refine PW_istore dX4_pairRests_59 (Nat.le_of_ble_eq_true rfl) rfl ?_
        refine PW_iload dX4_pairRests_61 rfl ?_
        refine PW_if_ne 75 dX4_pairRests_63 (by decide) (fun h63 => ?_) (fun h63 => ?_)
        · refine PW_iconst (v := 0) dX4_pairRests_75 (by decide) ?_
          refine PW_ireturn rfl (rfl) dX4_pairRests_76 (Nat.le_of_ble_eq_true rfl) (Nat.le_of_ble_eq_true rfl) ?_
          refine rt_i ?_
          unfold eatB
          simp_all [b2i]
        · refine PW_iload dX4_pairRests_66 rfl ?_
          refine PW_if_ne 75 dX4_pairRests_68 (by decide) (fun h68 => ?_) (fun h68 => ?_)
          · refine PW_iconst (v := 0) dX4_pairRests_75 (by decide) ?_
            refine PW_ireturn rfl (rfl) dX4_pairRests_76 (Nat.le_of_ble_eq_true rfl) (Nat.le_of_ble_eq_true rfl) ?_
            refine rt_i ?_
            unfold eatB
            simp_all [b2i]
          · refine PW_iconst (v := 1) dX4_pairRests_71 (by decide) ?_
            refine PW_goto 76 dX4_pairRests_72 (by decide) ?_
            refine PW_ireturn rfl (rfl) dX4_pairRests_76 (Nat.le_of_ble_eq_true rfl) (Nat.le_of_ble_eq_true rfl) ?_
            refine rt_i ?_
            unfold eatB
            simp_all [b2i]
      · have h38 : stw h (prS (hf h) k l q) = l + 1 := (pI_eq (k := l) (by have := stw_le h (prS (hf h) k l q); have := hV.1; omega) (by have := hV.1; omega)).mp h38.symm
        refine PW_aload_n (i := 0) dX4_pairRests_41 rfl rfl ?_
        refine PW_iload_n (i := 1) dX4_pairRests_42 rfl rfl ?_
        refine PW_iload_n (i := 2) dX4_pairRests_43 rfl rfl ?_
        refine PW_iload_n (i := 3) dX4_pairRests_44 rfl rfl ?_
        refine PW_iconst (v := 2) dX4_pairRests_45 (by decide) ?_
        refine PW_ixor dX4_pairRests_46 ?_
        refine PW_eqi (x4 q hq9).2.1 ?_
        refine PW_callV dX4_pairRests_47 moX4_steererByPair cv4_79 (hS.1) (by omega) rfl rfl (Nat.le_of_ble_eq_true rfl) (Nat.le_of_ble_eq_true rfl) (Nat.le_of_ble_eq_true rfl) (spX4_steererByPair (d := d - 1) (by omega) hK0 hS hR hV hb hk hl (x4 q hq9).2.2.2) (fun v M1 hq => ?_)
        obtain ⟨rfl, rfl⟩ := hq
        refine PW_iload_n (i := 2) dX4_pairRests_50 rfl rfl ?_
        refine PW_icmp_eq 58 dX4_pairRests_51 (by decide) (fun h51 => ?_) (fun h51 => ?_)
        · have h51 : stw h (prS (hf h) k l (q ^^^ 2)) = l + 1 := (pI_eq (k := l) (by have := stw_le h (prS (hf h) k l (q ^^^ 2)); have := hV.1; omega) (by have := hV.1; omega)).mp h51.symm
          refine PW_iconst (v := 0) dX4_pairRests_58 (by decide) ?_
          refine PW_istore dX4_pairRests_59 (Nat.le_of_ble_eq_true rfl) rfl ?_
          refine PW_iload dX4_pairRests_61 rfl ?_
          refine PW_if_ne 75 dX4_pairRests_63 (by decide) (fun h63 => ?_) (fun h63 => ?_)
          · refine PW_iconst (v := 0) dX4_pairRests_75 (by decide) ?_
            refine PW_ireturn rfl (rfl) dX4_pairRests_76 (Nat.le_of_ble_eq_true rfl) (Nat.le_of_ble_eq_true rfl) ?_
            refine rt_i ?_
            unfold eatB
            simp_all [b2i]
          · refine PW_iload dX4_pairRests_66 rfl ?_
            refine PW_if_ne 75 dX4_pairRests_68 (by decide) (fun h68 => ?_) (fun h68 => ?_)
            · refine PW_iconst (v := 0) dX4_pairRests_75 (by decide) ?_
              refine PW_ireturn rfl (rfl) dX4_pairRests_76 (Nat.le_of_ble_eq_true rfl) (Nat.le_of_ble_eq_true rfl) ?_
              refine rt_i ?_
              unfold eatB
              simp_all [b2i]
            · refine PW_iconst (v := 1) dX4_pairRests_71 (by decide) ?_
              refine PW_goto 76 dX4_pairRests_72 (by decide) ?_
              refine PW_ireturn rfl (rfl) dX4_pairRests_76 (Nat.le_of_ble_eq_true rfl) (Nat.le_of_ble_eq_true rfl) ?_
              refine rt_i ?_
              unfold eatB
              simp_all [b2i]
        · have h51 : ¬ stw h (prS (hf h) k l (q ^^^ 2)) = l + 1 := fun z => h51 ((pI_eq (k := l) (by have := stw_le h (prS (hf h) k l (q ^^^ 2)); have := hV.1; omega) (by have := hV.1; omega)).mpr z).symm
          refine PW_iconst (v := 1) dX4_pairRests_54 (by decide) ?_
          refine PW_goto 59 dX4_pairRests_55 (by decide) ?_
          refine PW_istore dX4_pairRests_59 (Nat.le_of_ble_eq_true rfl) rfl ?_
          refine PW_iload dX4_pairRests_61 rfl ?_
          refine PW_if_ne 75 dX4_pairRests_63 (by decide) (fun h63 => ?_) (fun h63 => ?_)
          · refine PW_iconst (v := 0) dX4_pairRests_75 (by decide) ?_
            refine PW_ireturn rfl (rfl) dX4_pairRests_76 (Nat.le_of_ble_eq_true rfl) (Nat.le_of_ble_eq_true rfl) ?_
            refine rt_i ?_
            unfold eatB
            simp_all [b2i]
          · refine PW_iload dX4_pairRests_66 rfl ?_
            refine PW_if_ne 75 dX4_pairRests_68 (by decide) (fun h68 => ?_) (fun h68 => ?_)
            · refine PW_iconst (v := 0) dX4_pairRests_75 (by decide) ?_
              refine PW_ireturn rfl (rfl) dX4_pairRests_76 (Nat.le_of_ble_eq_true rfl) (Nat.le_of_ble_eq_true rfl) ?_
              refine rt_i ?_
              unfold eatB
              simp_all [b2i]
            · refine PW_iconst (v := 1) dX4_pairRests_71 (by decide) ?_
              refine PW_goto 76 dX4_pairRests_72 (by decide) ?_
              refine PW_ireturn rfl (rfl) dX4_pairRests_76 (Nat.le_of_ble_eq_true rfl) (Nat.le_of_ble_eq_true rfl) ?_
              refine rt_i ?_
              unfold eatB
              simp_all [b2i]
    · have h25 : ¬ stw h (prS (hf h) k l (q ^^^ 1)) = k + 1 := fun z => h25 ((pI_eq (k := k) (by have := stw_le h (prS (hf h) k l (q ^^^ 1)); have := hV.1; omega) (by have := hV.1; omega)).mpr z).symm
      refine PW_iconst (v := 1) dX4_pairRests_28 (by decide) ?_
      refine PW_goto 33 dX4_pairRests_29 (by decide) ?_
      refine PW_istore dX4_pairRests_33 (Nat.le_of_ble_eq_true rfl) rfl ?_
      refine PW_iload dX4_pairRests_35 rfl ?_
      refine PW_iload_n (i := 2) dX4_pairRests_37 rfl rfl ?_
      refine PW_icmp_ne 58 dX4_pairRests_38 (by decide) (fun h38 => ?_) (fun h38 => ?_)
      · have h38 : ¬ stw h (prS (hf h) k l q) = l + 1 := fun z => h38 ((pI_eq (k := l) (by have := stw_le h (prS (hf h) k l q); have := hV.1; omega) (by have := hV.1; omega)).mpr z).symm
        refine PW_iconst (v := 0) dX4_pairRests_58 (by decide) ?_
        refine PW_istore dX4_pairRests_59 (Nat.le_of_ble_eq_true rfl) rfl ?_
        refine PW_iload dX4_pairRests_61 rfl ?_
        refine PW_if_ne 75 dX4_pairRests_63 (by decide) (fun h63 => ?_) (fun h63 => ?_)
        · refine PW_iconst (v := 0) dX4_pairRests_75 (by decide) ?_
          refine PW_ireturn rfl (rfl) dX4_pairRests_76 (Nat.le_of_ble_eq_true rfl) (Nat.le_of_ble_eq_true rfl) ?_
          refine rt_i ?_
          unfold eatB
          simp_all [b2i]
        · refine PW_iload dX4_pairRests_66 rfl ?_
          refine PW_if_ne 75 dX4_pairRests_68 (by decide) (fun h68 => ?_) (fun h68 => ?_)
          · refine PW_iconst (v := 0) dX4_pairRests_75 (by decide) ?_
            refine PW_ireturn rfl (rfl) dX4_pairRests_76 (Nat.le_of_ble_eq_true rfl) (Nat.le_of_ble_eq_true rfl) ?_
            refine rt_i ?_
            unfold eatB
            simp_all [b2i]
          · refine PW_iconst (v := 1) dX4_pairRests_71 (by decide) ?_
            refine PW_goto 76 dX4_pairRests_72 (by decide) ?_
            refine PW_ireturn rfl (rfl) dX4_pairRests_76 (Nat.le_of_ble_eq_true rfl) (Nat.le_of_ble_eq_true rfl) ?_
            refine rt_i ?_
            unfold eatB
            simp_all [b2i]
      · have h38 : stw h (prS (hf h) k l q) = l + 1 := (pI_eq (k := l) (by have := stw_le h (prS (hf h) k l q); have := hV.1; omega) (by have := hV.1; omega)).mp h38.symm
        refine PW_aload_n (i := 0) dX4_pairRests_41 rfl rfl ?_
        refine PW_iload_n (i := 1) dX4_pairRests_42 rfl rfl ?_
        refine PW_iload_n (i := 2) dX4_pairRests_43 rfl rfl ?_
        refine PW_iload_n (i := 3) dX4_pairRests_44 rfl rfl ?_
        refine PW_iconst (v := 2) dX4_pairRests_45 (by decide) ?_
        refine PW_ixor dX4_pairRests_46 ?_
        refine PW_eqi (x4 q hq9).2.1 ?_
        refine PW_callV dX4_pairRests_47 moX4_steererByPair cv4_79 (hS.1) (by omega) rfl rfl (Nat.le_of_ble_eq_true rfl) (Nat.le_of_ble_eq_true rfl) (Nat.le_of_ble_eq_true rfl) (spX4_steererByPair (d := d - 1) (by omega) hK0 hS hR hV hb hk hl (x4 q hq9).2.2.2) (fun v M1 hq => ?_)
        obtain ⟨rfl, rfl⟩ := hq
        refine PW_iload_n (i := 2) dX4_pairRests_50 rfl rfl ?_
        refine PW_icmp_eq 58 dX4_pairRests_51 (by decide) (fun h51 => ?_) (fun h51 => ?_)
        · have h51 : stw h (prS (hf h) k l (q ^^^ 2)) = l + 1 := (pI_eq (k := l) (by have := stw_le h (prS (hf h) k l (q ^^^ 2)); have := hV.1; omega) (by have := hV.1; omega)).mp h51.symm
          refine PW_iconst (v := 0) dX4_pairRests_58 (by decide) ?_
          refine PW_istore dX4_pairRests_59 (Nat.le_of_ble_eq_true rfl) rfl ?_
          refine PW_iload dX4_pairRests_61 rfl ?_
          refine PW_if_ne 75 dX4_pairRests_63 (by decide) (fun h63 => ?_) (fun h63 => ?_)
          · refine PW_iconst (v := 0) dX4_pairRests_75 (by decide) ?_
            refine PW_ireturn rfl (rfl) dX4_pairRests_76 (Nat.le_of_ble_eq_true rfl) (Nat.le_of_ble_eq_true rfl) ?_
            refine rt_i ?_
            unfold eatB
            simp_all [b2i]
          · refine PW_iload dX4_pairRests_66 rfl ?_
            refine PW_if_ne 75 dX4_pairRests_68 (by decide) (fun h68 => ?_) (fun h68 => ?_)
            · refine PW_iconst (v := 0) dX4_pairRests_75 (by decide) ?_
              refine PW_ireturn rfl (rfl) dX4_pairRests_76 (Nat.le_of_ble_eq_true rfl) (Nat.le_of_ble_eq_true rfl) ?_
              refine rt_i ?_
              unfold eatB
              simp_all [b2i]
            · refine PW_iconst (v := 1) dX4_pairRests_71 (by decide) ?_
              refine PW_goto 76 dX4_pairRests_72 (by decide) ?_
              refine PW_ireturn rfl (rfl) dX4_pairRests_76 (Nat.le_of_ble_eq_true rfl) (Nat.le_of_ble_eq_true rfl) ?_
              refine rt_i ?_
              unfold eatB
              simp_all [b2i]
        · have h51 : ¬ stw h (prS (hf h) k l (q ^^^ 2)) = l + 1 := fun z => h51 ((pI_eq (k := l) (by have := stw_le h (prS (hf h) k l (q ^^^ 2)); have := hV.1; omega) (by have := hV.1; omega)).mpr z).symm
          refine PW_iconst (v := 1) dX4_pairRests_54 (by decide) ?_
          refine PW_goto 59 dX4_pairRests_55 (by decide) ?_
          refine PW_istore dX4_pairRests_59 (Nat.le_of_ble_eq_true rfl) rfl ?_
          refine PW_iload dX4_pairRests_61 rfl ?_
          refine PW_if_ne 75 dX4_pairRests_63 (by decide) (fun h63 => ?_) (fun h63 => ?_)
          · refine PW_iconst (v := 0) dX4_pairRests_75 (by decide) ?_
            refine PW_ireturn rfl (rfl) dX4_pairRests_76 (Nat.le_of_ble_eq_true rfl) (Nat.le_of_ble_eq_true rfl) ?_
            refine rt_i ?_
            unfold eatB
            simp_all [b2i]
          · refine PW_iload dX4_pairRests_66 rfl ?_
            refine PW_if_ne 75 dX4_pairRests_68 (by decide) (fun h68 => ?_) (fun h68 => ?_)
            · refine PW_iconst (v := 0) dX4_pairRests_75 (by decide) ?_
              refine PW_ireturn rfl (rfl) dX4_pairRests_76 (Nat.le_of_ble_eq_true rfl) (Nat.le_of_ble_eq_true rfl) ?_
              refine rt_i ?_
              unfold eatB
              simp_all [b2i]
            · refine PW_iconst (v := 1) dX4_pairRests_71 (by decide) ?_
              refine PW_goto 76 dX4_pairRests_72 (by decide) ?_
              refine PW_ireturn rfl (rfl) dX4_pairRests_76 (Nat.le_of_ble_eq_true rfl) (Nat.le_of_ble_eq_true rfl) ?_
              refine rt_i ?_
              unfold eatB
              simp_all [b2i]

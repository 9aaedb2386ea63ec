/-! ===== PeaSearch: goOn, serve ===== -/
def SvC (G : GE) (S : MS) (P n b : Nat) (p : Int) (r : Nat) : Prop := ∀ (d : Nat) (i : MI0) (e c : Nat) (h : Hm) (w : Nat → Nat) (st : PSt), 2 * r + 8 ≤ d → e + r = n → c ≤ e → HR i (P + 4 + 4 * e) h → HV (b + e) h → PQ i P n p st → (∀ j, j < e → i (P + 2) j = nI (dig (w j))) → Mt G iX6_serve d [.ref P, .int (nI e), .int (nI c)] (i, S) (Wr S (SVq i P n p (srv p r e h c w st) e))
set_option maxRecDepth 100000 in
set_option maxHeartbeats 4000000 in
theorem spX6_goOn {G : GE} {S : MS} {X P n b : Nat} {p : Int} (Fk : KS S X) (Fp : PS S X P) (hn4 : n ≤ 4) (hp1 : -100 ≤ p) (hp2 : p ≤ 100) (hb : b + 5 ≤ 500) {d : Nat} {r e c u : Nat} {i : MI0} {h : Hm} {w : Nat → Nat} {st : PSt} (hs : SvC G S P n b p r) (hd : 2 * r + 9 ≤ d) (her : e + (r + 1) = n) (hc : c ≤ e + 1) (hR : HR i (P + 4 + 4 * e) h) (hV : HV (b + e) h) (hu : u ≤ hn h) (hq0 : PQ i P n p st) (hw : ∀ j, j < e + 1 → i (P + 2) j = nI (dig (w j))) : Mt G iX6_goOn d [.ref P, .int (nI e), .int (pI u), .int (nI c)] (i, S) (Wr S (SVq i P n p (srv p r (e + 1) (goH h u) c w st) e)) := by
  refine Mt_in 0 (ls := [.ref P, .int (nI e), .int (pI u), .int (nI c)]) moX6_goOn (Nat.le_of_ble_eq_true rfl) rfl ?_
  refine PW_aload_n (i := 0) dX6_goOn_0 rfl rfl ?_
  refine PW_getR dX6_goOn_1 fg6_11 (Fp.1) (Fp.2.2.2.2.1) ?_
  refine PW_iload_n (i := 1) dX6_goOn_4 rfl rfl ?_
  refine PW_iconst (v := 1) dX6_goOn_5 (by decide) ?_
  refine PW_iadd dX6_goOn_6 ?_
  refine PW_eqi (nI_1 _) ?_
  refine PW_aal dX6_goOn_7 (Fp.2.1) (by decide) (by decide) (by decide) (by omega) ((Fp.2.2.2.2.2.2.2 (e + 1) (by omega)).1) ?_
  refine PW_aload_n (i := 0) dX6_goOn_8 rfl rfl ?_
  refine PW_getR dX6_goOn_9 fg6_11 (Fp.1) (Fp.2.2.2.2.1) ?_
  refine PW_iload_n (i := 1) dX6_goOn_12 rfl rfl ?_
  refine PW_aal dX6_goOn_13 (Fp.2.1) (by decide) (by decide) (by decide) (by omega) ((Fp.2.2.2.2.2.2.2 e (by omega)).1) ?_
  refine PW_callV dX6_goOn_14 moX4_take cv6_43 ((Fp.2.2.2.2.2.2.2 (e + 1) (by omega)).2.1) (by omega) rfl rfl (Nat.le_of_ble_eq_true rfl) (Nat.le_of_ble_eq_true rfl) (Nat.le_of_ble_eq_true rfl) (spX4_take (d := d - 1) (Fp.2.2.2.2.2.2.2 (e + 1) (by omega)).2 (Fp.2.2.2.2.2.2.2 e (by omega)).2 hR hV.1 (by omega)) (fun v M1 hq => ?_)
  obtain ⟨rfl, i1, rfl, p1, p2⟩ := hq
  refine PW_aload_n (i := 0) dX6_goOn_17 rfl rfl ?_
  refine PW_getR dX6_goOn_18 fg6_11 (Fp.1) (Fp.2.2.2.2.1) ?_
  refine PW_iload_n (i := 1) dX6_goOn_21 rfl rfl ?_
  refine PW_iconst (v := 1) dX6_goOn_22 (by decide) ?_
  refine PW_iadd dX6_goOn_23 ?_
  refine PW_eqi (nI_1 _) ?_
  refine PW_aal dX6_goOn_24 (Fp.2.1) (by decide) (by decide) (by decide) (by omega) ((Fp.2.2.2.2.2.2.2 (e + 1) (by omega)).1) ?_
  refine PW_iload_n (i := 2) dX6_goOn_25 rfl rfl ?_
  refine PW_callV dX6_goOn_26 moX4_go cv6_77 ((Fp.2.2.2.2.2.2.2 (e + 1) (by omega)).2.1) (by omega) rfl rfl (Nat.le_of_ble_eq_true rfl) (Nat.le_of_ble_eq_true rfl) (Nat.le_of_ble_eq_true rfl) (spX4_go (d := d - 1) (w := u) (by omega) Fk (Fp.2.2.2.2.2.2.2 (e + 1) (by omega)).2 p1 hV (by omega) hu) (fun v M1 hq => ?_)
  obtain ⟨rfl, i2, rfl, p3, p4⟩ := hq
  refine PW_aload_n (i := 0) dX6_goOn_29 rfl rfl ?_
  refine PW_iload_n (i := 1) dX6_goOn_30 rfl rfl ?_
  refine PW_iconst (v := 1) dX6_goOn_31 (by decide) ?_
  refine PW_iadd dX6_goOn_32 ?_
  refine PW_eqi (nI_1 _) ?_
  refine PW_iload_n (i := 3) dX6_goOn_33 rfl rfl ?_
  have f1 : ∀ q, (q < P + 4 + 4 * (e + 1) ∨ P + 4 + 4 * (e + 1) + 3 < q) → i2 q = i q := fun q hq => (p4 q (by omega) (by omega)).trans (p2 q (by omega))
  have Pq : PQ i2 P n p st := by unfold PQ; rw [f1 P (by omega), f1 (P + 3) (by omega)]; exact hq0
  refine PW_callV dX6_goOn_34 moX6_serve cv6_47 (Fp.1) (by omega) rfl rfl (Nat.le_of_ble_eq_true rfl) (Nat.le_of_ble_eq_true rfl) (Nat.le_of_ble_eq_true rfl) ((hs (d - 1) i2 (e + 1) c (goH h u) w st (by omega) (by omega) (by omega) p3 (goH_V hV hu) Pq (fun j hj => by rw [f1 (P + 2) (by omega)]; exact hw j hj))) (fun v M1 hq => ?_)
  obtain ⟨rfl, i3, rfl, p5, p6, p7⟩ := hq
  refine PW_return rfl dX6_goOn_37 (Nat.le_of_ble_eq_true rfl) (Nat.le_of_ble_eq_true rfl) ?_
  refine Wr_mk rfl ⟨p5, fun j hj => ?_, fun q hq => ?_⟩
  · rw [rP, p6 j (by omega), f1 (P + 2) (by omega)]
  · rw [rP_f, p7 q (by omega), f1 q (by omega)]
set_option maxRecDepth 100000 in
set_option maxHeartbeats 4000000 in
theorem lpX6_serve {G : GE} {S : MS} {X P n b : Nat} {p : Int} (Fk : KS S X) (Fp : PS S X P) (hn4 : n ≤ 4) (hp1 : -100 ≤ p) (hp2 : p ≤ 100) (hb : b + 5 ≤ 500) {d : Nat} {r e c : Nat} {i : MI0} {h : Hm} {w : Nat → Nat} {st : PSt} (hs : SvC G S P n b p r) (hd : 2 * (r + 1) + 8 ≤ d) (her : e + (r + 1) = n) (hc : c ≤ e) (hR : HR i (P + 4 + 4 * e) h) (hV : HV (b + e) h) (hw : ∀ j, j < e → i (P + 2) j = nI (dig (w j))) : ∀ (n0 j : Nat), j ≤ hn h → hn h < j + n0 → ∀ (i' : MI0) (z6 : Value), SVq i P n p (srvL (fun k s => srv p r (e + 1) (stp h k) (c + pk1 k) (updW w e k) s) (j + 1) st) e i' → PW G iX6_serve d (Wr S (SVq i P n p (srv p (r + 1) e h c w st) e)) 96 [.ref P, .int (nI e), .int (nI c), .ref (P + 4 + 4 * e), .int (pI (stw h (hf h))), .int (nI j), z6] [] (i', S) 0 0 := by
  intro n0
  induction n0 with
  | zero => intro j h1 h2; exact absurd h2 (by omega)
  | succ n0 ih =>
    intro j hj1 hj2 i' z6 v0
    have r1 : HR i' (P + 4 + 4 * e) h := hR.kp (fun q h1 h2 => v0.2.2 q (by omega))
    have h61 := hV.1
    have h64 := hf64 hV
    refine PW_iload dX6_serve_96 rfl ?_
    refine PW_aload_n (i := 3) dX6_serve_98 rfl rfl ?_
    refine PW_giv (v := nI (hn h)) dX6_serve_99 fg6_74 ((Fp.2.2.2.2.2.2.2 e (by omega)).2.1) (r1.1) ?_
    refine PW_icmp_ge 151 dX6_serve_102 (by decide) (fun h102 => ?_) (fun h102 => ?_)
    · have h102 := jle h102
      have ej : j = hn h := by omega
      subst ej
      refine PW_return rfl dX6_serve_151 (Nat.le_of_ble_eq_true rfl) (Nat.le_of_ble_eq_true rfl) ?_
      exact Wr_mk rfl v0
    · have h102 := jnle h102
      refine PW_aload_n (i := 3) dX6_serve_105 rfl rfl ?_
      refine PW_aload_n (i := 3) dX6_serve_106 rfl rfl ?_
      refine PW_giv (v := nI (hf h)) dX6_serve_107 fg6_64 ((Fp.2.2.2.2.2.2.2 e (by omega)).2.1) (r1.2.2.2.1) ?_
      refine PW_iconst (v := 1) dX6_serve_110 (by decide) ?_
      refine PW_iload dX6_serve_111 rfl ?_
      refine PW_ishl dX6_serve_113 ?_
      refine PW_ior dX6_serve_114 ?_
      have h65 := pow_le6 (a := j) (by omega)
      have h66 : hf h ||| 2 ^ j < 2 ^ 6 := Nat.or_lt_two_pow (by omega) (by omega)
      refine PW_eqi (show _ = nI (hf h ||| 2 ^ j) by rw [one_shl (by omega), fa_or]) ?_
      refine PW_callV dX6_serve_115 moX4_steerer cv6_67 ((Fp.2.2.2.2.2.2.2 e (by omega)).2.1) (by omega) rfl rfl (Nat.le_of_ble_eq_true rfl) (Nat.le_of_ble_eq_true rfl) (Nat.le_of_ble_eq_true rfl) (spX4_steerer (d := d - 1) (by omega) Fk (Fp.2.2.2.2.2.2.2 e (by omega)).2 r1 hV (by omega) (by omega)) (fun v M1 hq => ?_)
      obtain ⟨rfl, rfl⟩ := hq
      refine PW_istore dX6_serve_118 (Nat.le_of_ble_eq_true rfl) rfl ?_
      refine PW_iload dX6_serve_120 rfl ?_
      refine PW_iload dX6_serve_122 rfl ?_
      have s1 := stw_le h (hf h ||| 2 ^ j)
      have s2 := stw_le h (hf h)
      refine PW_icmp_eq 145 dX6_serve_124 (by decide) (fun h124 => ?_) (fun h124 => ?_)
      · have h124 := (pI_inj (by omega) (by omega)).mp h124
        refine PW_inc1 dX6_serve_145 rfl (Nat.le_of_ble_eq_true rfl) rfl ?_
        refine PW_goto 96 dX6_serve_148 (by decide) ?_
        first
          | exact ih (j + 1) (by omega) (by omega) i5 _ (t4.trans v1 (Nat.le_refl _))
          | exact ih (j + 1) (by omega) (by omega) i' _ (by rw [srvL_same (by omega) (stp_s h124)]; exact v0)
      · have h124 : ¬ stw h (hf h ||| 2 ^ j) = stw h (hf h) := fun q => h124 (by rw [q])
        refine PW_aload_n (i := 0) dX6_serve_127 rfl rfl ?_
        refine PW_getR dX6_serve_128 fg6_17 (Fp.1) (Fp.2.2.2.2.2.1) ?_
        refine PW_iload_n (i := 1) dX6_serve_131 rfl rfl ?_
        refine PW_iload dX6_serve_132 rfl ?_
        refine PW_ias dX6_serve_134 (Fp.2.2.1) (by decide) (by omega) ?_
        refine PW_nm rfl (fun i4 e4 => ?_)
        have e5 : ∀ q, q ≠ P + 2 → i4 q = i' q := fun q hq => by rw [e4, rI_f _ _ hq]; rfl
        have t2 : PQ i4 P n p (srvL (fun k s => srv p r (e + 1) (stp h k) (c + pk1 k) (updW w e k) s) (j + 1) st) := by unfold PQ; rw [e5 P (by omega), e5 (P + 3) (by omega)]; exact v0.1
        have t3 : ∀ a, a < e + 1 → i4 (P + 2) a = nI (dig (updW w e (j + 1) a)) := by
          intro a ha
          unfold updW
          by_cases q : a = e
          · rw [if_pos q, q, e4, rI_s]; rfl
          · rw [if_neg q, e4, rI_k _ _ _ q]; exact (v0.2.1 a (by omega)).trans (hw a (by omega))
        have t1 : HR i4 (P + 4 + 4 * e) h := hR.kp (fun q h1 h2 => (e5 q (by omega)).trans (v0.2.2 q (by omega)))
        have t4 : SVq i P n p (srvL (fun k s => srv p r (e + 1) (stp h k) (c + pk1 k) (updW w e k) s) (j + 1) st) e i4 := ⟨t2, fun a ha => by rw [e4, rI_k _ _ _ (by omega)]; exact v0.2.1 a ha, fun q hq => (e5 q (by omega)).trans (v0.2.2 q hq)⟩
        refine PW_aload_n (i := 0) dX6_serve_135 rfl rfl ?_
        refine PW_iload_n (i := 1) dX6_serve_136 rfl rfl ?_
        refine PW_iload dX6_serve_137 rfl ?_
        refine PW_iload_n (i := 2) dX6_serve_139 rfl rfl ?_
        refine PW_iconst (v := 1) dX6_serve_140 (by decide) ?_
        refine PW_iadd dX6_serve_141 ?_
        refine PW_eqi (nI_1 _) ?_
        refine PW_callV dX6_serve_142 moX6_goOn cv6_70 (Fp.1) (by omega) rfl rfl (Nat.le_of_ble_eq_true rfl) (Nat.le_of_ble_eq_true rfl) (Nat.le_of_ble_eq_true rfl) (spX6_goOn (d := d - 1) (u := stw h (hf h ||| 2 ^ j)) (c := c + 1) (w := updW w e (j + 1)) Fk Fp hn4 hp1 hp2 hb hs (by omega) her (by omega) t1 hV (stw_le _ _) t2 t3) (fun v M1 hq => ?_)
        obtain ⟨rfl, i5, rfl, v1⟩ := hq
        refine PW_inc1 dX6_serve_145 rfl (Nat.le_of_ble_eq_true rfl) rfl ?_
        refine PW_goto 96 dX6_serve_148 (by decide) ?_
        first
          | exact ih (j + 1) (by omega) (by omega) i5 _ (t4.trans v1 (Nat.le_refl _))
          | exact ih (j + 1) (by omega) (by omega) i' _ (by rw [srvL_same (by omega) (stp_s h124)]; exact v0)
theorem c4 : (4 : Int32).toNatClampNeg = 4 := rfl
set_option maxRecDepth 100000 in
set_option maxHeartbeats 4000000 in
theorem svX6_0 {G : GE} {S : MS} {X P n b : Nat} {p : Int} (Fk : KS S X) (Fp : PS S X P) (hn4 : n ≤ 4) (hp1 : -100 ≤ p) (hp2 : p ≤ 100) (hb : b + 5 ≤ 500) : SvC G S P n b p 0 := by
  intro d i e c h w st hd her hc hR hV hq0 hw
  refine Mt_in 4 (ls := [.ref P, .int (nI e), .int (nI c), .null, .null, .null, .null]) moX6_serve (Nat.le_of_ble_eq_true rfl) rfl ?_
  refine PW_aload_n (i := 0) dX6_serve_0 rfl rfl ?_
  refine PW_getR dX6_serve_1 fg6_11 (Fp.1) (Fp.2.2.2.2.1) ?_
  refine PW_iload_n (i := 1) dX6_serve_4 rfl rfl ?_
  refine PW_aal dX6_serve_5 (Fp.2.1) (by decide) (by decide) (by decide) (by omega) ((Fp.2.2.2.2.2.2.2 e (by omega)).1) ?_
  refine PW_astore_n (i := 3) dX6_serve_6 rfl (Nat.le_of_ble_eq_true rfl) rfl ?_
  refine PW_iload_n (i := 2) dX6_serve_7 rfl rfl ?_
  refine PW_aload_n (i := 0) dX6_serve_8 rfl rfl ?_
  refine PW_giv (v := nI (fO n st)) dX6_serve_9 fg6_40 (Fp.1) (hq0.2.2.1) ?_
  have hfo := fO_le hq0
  have hcf := lsO_f (n := n) (st := st) (c := c) (by omega)
  refine PW_icmp_ge 38 dX6_serve_12 (by decide) (fun h12 => ?_) (fun h12 => ?_)
  · have h12 := jle h12
    refine PW_return rfl dX6_serve_38 (Nat.le_of_ble_eq_true rfl) (Nat.le_of_ble_eq_true rfl) ?_
    refine Wr_mk rfl ?_
    have q : srv p 0 e h c w st = st := by
      first
      | exact srv_big (lsO_no (n := n) (by omega) (by omega))
      | exact srv_far hV (fun q => h35 (by split <;> omega))
    rw [q]
    exact ⟨hq0, fun _ _ => rfl, fun _ _ => rfl⟩
  · have h12 := jnle h12
    refine PW_aload_n (i := 0) dX6_serve_15 rfl rfl ?_
    refine PW_giv (v := iN p) dX6_serve_16 fg6_27 (Fp.1) (hq0.1) ?_
    refine PW_aload_n (i := 3) dX6_serve_19 rfl rfl ?_
    refine PW_giv (v := iN (hp h)) dX6_serve_20 fg6_51 ((Fp.2.2.2.2.2.2.2 e (by omega)).2.1) (hR.2.1) ?_
    refine PW_isub dX6_serve_23 ?_
    have hv1 := hV.2.2.2.1
    have hv2 := hV.2.2.2.2.1
    refine PW_eqi (iN_sub _ _) ?_
    refine PW_abs dX6_serve_24 mm6_54 mw_abs (Nat.le_of_ble_eq_true rfl) (Nat.le_of_ble_eq_true rfl) (Nat.le_of_ble_eq_true rfl) ?_
    refine PW_eqi (abs_iN (by omega) (by omega)) ?_
    refine PW_iconst (v := 3) dX6_serve_27 (by decide) ?_
    refine PW_aload_n (i := 0) dX6_serve_28 rfl rfl ?_
    refine PW_giv (v := nI n) dX6_serve_29 fg6_37 (Fp.1) (hq0.2.1) ?_
    refine PW_iload_n (i := 1) dX6_serve_32 rfl rfl ?_
    refine PW_isub dX6_serve_33 ?_
    refine PW_eqi (pk_sub (a := n) (b := e) (by omega)) ?_
    refine PW_imul dX6_serve_34 ?_
    refine PW_eqi (show _ = iN (3 * ((n - e : Nat) : Int)) by rw [show (3 : Int32) = iN 3 from rfl, nI_iN, iN_mul]) ?_
    refine PW_icmp_le 39 dX6_serve_35 (by decide) (fun h35 => ?_) (fun h35 => ?_)
    · have h35 := (iN_le (by split <;> omega) (by split <;> omega) (by omega) (by omega)).mp h35
      refine PW_iload_n (i := 1) dX6_serve_39 rfl rfl ?_
      refine PW_aload_n (i := 0) dX6_serve_40 rfl rfl ?_
      refine PW_giv (v := nI n) dX6_serve_41 fg6_37 (Fp.1) (hq0.2.1) ?_
      refine PW_icmp_lt 67 dX6_serve_44 (by decide) (fun q => absurd (jlt q) (by omega)) (fun _ => ?_)
      refine PW_aload_n (i := 0) dX6_serve_47 rfl rfl ?_
      refine PW_iload_n (i := 2) dX6_serve_48 rfl rfl ?_
      refine PW_putI dX6_serve_49 fr6_40 (fun h => by cases h) (Fp.1) ?_
      refine PW_aload_n (i := 0) dX6_serve_52 rfl rfl ?_
      refine PW_getR dX6_serve_53 fg6_17 (Fp.1) (Fp.2.2.2.2.2.1) ?_
      refine PW_iconst (v := 0) dX6_serve_56 (by decide) ?_
      refine PW_aload_n (i := 0) dX6_serve_57 rfl rfl ?_
      refine PW_getR dX6_serve_58 fg6_21 (Fp.1) (Fp.2.2.2.2.2.2.1) ?_
      refine PW_iconst (v := 0) dX6_serve_61 (by decide) ?_
      refine PW_iconst (v := 4) dX6_serve_62 (by decide) ?_
      refine PW_copy dX6_serve_63 ac6_58 acw (Fp.2.2.1) (Fp.2.2.2.1) (by decide) (Nat.le_of_ble_eq_true rfl) (Nat.le_of_ble_eq_true rfl) (Nat.le_of_ble_eq_true rfl) ?_
      refine PW_return rfl dX6_serve_66 (Nat.le_of_ble_eq_true rfl) (Nat.le_of_ble_eq_true rfl) ?_
      have q : srv p 0 e h c w st = some (c, w) := by
        unfold srv
        rw [decide_eq_true (show hp h = p by split at h35 <;> omega), hcf.mpr (by omega)]; rfl
      rw [q]
      refine Wr_mk rfl ⟨⟨?_, ?_, ?_, fun c1 L hL => ?_⟩, fun a ha => ?_, fun q hq => ?_⟩
      · simp (disch := omega) only [rI_s, rI_k, rI_a, rI_f, rA_s, rA_n, rA_f, rP, rP_f]; exact hq0.1
      · simp (disch := omega) only [rI_s, rI_k, rI_a, rI_f, rA_s, rA_n, rA_f, rP, rP_f]; exact hq0.2.1
      · simp (disch := omega) only [rI_s, rI_k, rI_a, rI_f, rA_s, rA_n, rA_f, rP, rP_f]; rfl
      · cases hL; refine ⟨by omega, fun a ha => ?_⟩; simp (disch := omega) only [rI_s, rI_k, rI_a, rA_s, rA_n, c4, cpy0, rP]; exact hw a (by omega)
      · simp (disch := omega) only [rI_s, rI_k, rI_a, rI_f, rA_s, rA_n, rA_f, rP, rP_f]
      · simp (disch := omega) only [rI_s, rI_k, rI_a, rI_f, rA_s, rA_n, rA_f, rP, rP_f]
    · have h35 : ¬ (if 0 ≤ p - hp h then p - hp h else -(p - hp h)) ≤ 3 * ((n - e : Nat) : Int) := fun q => h35 ((iN_le (by split <;> omega) (by split <;> omega) (by omega) (by omega)).mpr q)
      refine PW_return rfl dX6_serve_38 (Nat.le_of_ble_eq_true rfl) (Nat.le_of_ble_eq_true rfl) ?_
      refine Wr_mk rfl ?_
      have q : srv p 0 e h c w st = st := by
        first
        | exact srv_big (lsO_no (n := n) (by omega) (by omega))
        | exact srv_far hV (fun q => h35 (by split <;> omega))
      rw [q]
      exact ⟨hq0, fun _ _ => rfl, fun _ _ => rfl⟩
set_option maxRecDepth 100000 in
set_option maxHeartbeats 4000000 in
theorem svX6_s {G : GE} {S : MS} {X P n b : Nat} {p : Int} (Fk : KS S X) (Fp : PS S X P) (hn4 : n ≤ 4) (hp1 : -100 ≤ p) (hp2 : p ≤ 100) (hb : b + 5 ≤ 500) {r : Nat} (hs : SvC G S P n b p r) : SvC G S P n b p (r + 1) := by
  intro d i e c h w st hd her hc hR hV hq0 hw
  refine Mt_in 4 (ls := [.ref P, .int (nI e), .int (nI c), .null, .null, .null, .null]) moX6_serve (Nat.le_of_ble_eq_true rfl) rfl ?_
  refine PW_aload_n (i := 0) dX6_serve_0 rfl rfl ?_
  refine PW_getR dX6_serve_1 fg6_11 (Fp.1) (Fp.2.2.2.2.1) ?_
  refine PW_iload_n (i := 1) dX6_serve_4 rfl rfl ?_
  refine PW_aal dX6_serve_5 (Fp.2.1) (by decide) (by decide) (by decide) (by omega) ((Fp.2.2.2.2.2.2.2 e (by omega)).1) ?_
  refine PW_astore_n (i := 3) dX6_serve_6 rfl (Nat.le_of_ble_eq_true rfl) rfl ?_
  refine PW_iload_n (i := 2) dX6_serve_7 rfl rfl ?_
  refine PW_aload_n (i := 0) dX6_serve_8 rfl rfl ?_
  refine PW_giv (v := nI (fO n st)) dX6_serve_9 fg6_40 (Fp.1) (hq0.2.2.1) ?_
  have hfo := fO_le hq0
  have hcf := lsO_f (n := n) (st := st) (c := c) (by omega)
  refine PW_icmp_ge 38 dX6_serve_12 (by decide) (fun h12 => ?_) (fun h12 => ?_)
  · have h12 := jle h12
    refine PW_return rfl dX6_serve_38 (Nat.le_of_ble_eq_true rfl) (Nat.le_of_ble_eq_true rfl) ?_
    refine Wr_mk rfl ?_
    have q : srv p (r + 1) e h c w st = st := by
      first
      | exact srv_big (lsO_no (n := n) (by omega) (by omega))
      | exact srv_far hV (fun q => h35 (by split <;> omega))
    rw [q]
    exact ⟨hq0, fun _ _ => rfl, fun _ _ => rfl⟩
  · have h12 := jnle h12
    refine PW_aload_n (i := 0) dX6_serve_15 rfl rfl ?_
    refine PW_giv (v := iN p) dX6_serve_16 fg6_27 (Fp.1) (hq0.1) ?_
    refine PW_aload_n (i := 3) dX6_serve_19 rfl rfl ?_
    refine PW_giv (v := iN (hp h)) dX6_serve_20 fg6_51 ((Fp.2.2.2.2.2.2.2 e (by omega)).2.1) (hR.2.1) ?_
    refine PW_isub dX6_serve_23 ?_
    have hv1 := hV.2.2.2.1
    have hv2 := hV.2.2.2.2.1
    refine PW_eqi (iN_sub _ _) ?_
    refine PW_abs dX6_serve_24 mm6_54 mw_abs (Nat.le_of_ble_eq_true rfl) (Nat.le_of_ble_eq_true rfl) (Nat.le_of_ble_eq_true rfl) ?_
    refine PW_eqi (abs_iN (by omega) (by omega)) ?_
    refine PW_iconst (v := 3) dX6_serve_27 (by decide) ?_
    refine PW_aload_n (i := 0) dX6_serve_28 rfl rfl ?_
    refine PW_giv (v := nI n) dX6_serve_29 fg6_37 (Fp.1) (hq0.2.1) ?_
    refine PW_iload_n (i := 1) dX6_serve_32 rfl rfl ?_
    refine PW_isub dX6_serve_33 ?_
    refine PW_eqi (pk_sub (a := n) (b := e) (by omega)) ?_
    refine PW_imul dX6_serve_34 ?_
    refine PW_eqi (show _ = iN (3 * ((n - e : Nat) : Int)) by rw [show (3 : Int32) = iN 3 from rfl, nI_iN, iN_mul]) ?_
    refine PW_icmp_le 39 dX6_serve_35 (by decide) (fun h35 => ?_) (fun h35 => ?_)
    · have h35 := (iN_le (by split <;> omega) (by split <;> omega) (by omega) (by omega)).mp h35
      refine PW_iload_n (i := 1) dX6_serve_39 rfl rfl ?_
      refine PW_aload_n (i := 0) dX6_serve_40 rfl rfl ?_
      refine PW_giv (v := nI n) dX6_serve_41 fg6_37 (Fp.1) (hq0.2.1) ?_
      refine PW_icmp_lt 67 dX6_serve_44 (by decide) (fun _ => ?_) (fun q => absurd (show nI e < nI n from nI_lt (by omega) (by omega)) q)
      refine PW_aload_n (i := 3) dX6_serve_67 rfl rfl ?_
      refine PW_aload_n (i := 3) dX6_serve_68 rfl rfl ?_
      refine PW_giv (v := nI (hf h)) dX6_serve_69 fg6_64 ((Fp.2.2.2.2.2.2.2 e (by omega)).2.1) (hR.2.2.2.1) ?_
      have h64 := hf64 hV
      refine PW_callV dX6_serve_72 moX4_steerer cv6_67 ((Fp.2.2.2.2.2.2.2 e (by omega)).2.1) (by omega) rfl rfl (Nat.le_of_ble_eq_true rfl) (Nat.le_of_ble_eq_true rfl) (Nat.le_of_ble_eq_true rfl) (spX4_steerer (d := d - 1) (by omega) Fk (Fp.2.2.2.2.2.2.2 e (by omega)).2 hR hV (by omega) (by omega)) (fun v M1 hq => ?_)
      obtain ⟨rfl, rfl⟩ := hq
      refine PW_istore dX6_serve_75 (Nat.le_of_ble_eq_true rfl) rfl ?_
      refine PW_aload_n (i := 0) dX6_serve_77 rfl rfl ?_
      refine PW_getR dX6_serve_78 fg6_17 (Fp.1) (Fp.2.2.2.2.2.1) ?_
      refine PW_iload_n (i := 1) dX6_serve_81 rfl rfl ?_
      refine PW_bipush (v := 6) dX6_serve_82 (by decide) ?_
      refine PW_ias dX6_serve_84 (Fp.2.2.1) (by decide) (by omega) ?_
      refine PW_nm rfl (fun i4 e4 => ?_)
      have e5 : ∀ q, q ≠ P + 2 → i4 q = i q := fun q hq => by rw [e4, rI_f _ _ hq]; rfl
      have t2 : PQ i4 P n p (st) := by unfold PQ; rw [e5 P (by omega), e5 (P + 3) (by omega)]; exact hq0
      have t3 : ∀ a, a < e + 1 → i4 (P + 2) a = nI (dig (updW w e 0 a)) := by
        intro a ha
        unfold updW
        by_cases q : a = e
        · rw [if_pos q, q, e4, rI_s]; rfl
        · rw [if_neg q, e4, rI_k _ _ _ q]; exact hw a (by omega)
      have t1 : HR i4 (P + 4 + 4 * e) h := hR.kp (fun q h1 h2 => (e5 q (by omega)).trans (rfl))
      have t4 : SVq i P n p (st) e i4 := ⟨t2, fun a ha => by rw [e4, rI_k _ _ _ (by omega)]; exact rfl, fun q hq => (e5 q (by omega)).trans (rfl)⟩
      refine PW_aload_n (i := 0) dX6_serve_85 rfl rfl ?_
      refine PW_iload_n (i := 1) dX6_serve_86 rfl rfl ?_
      refine PW_iload dX6_serve_87 rfl ?_
      refine PW_iload_n (i := 2) dX6_serve_89 rfl rfl ?_
      refine PW_callV dX6_serve_90 moX6_goOn cv6_70 (Fp.1) (by omega) rfl rfl (Nat.le_of_ble_eq_true rfl) (Nat.le_of_ble_eq_true rfl) (Nat.le_of_ble_eq_true rfl) (spX6_goOn (d := d - 1) (u := stw h (hf h)) (c := c) (w := updW w e 0) Fk Fp hn4 hp1 hp2 hb hs (by omega) her (by omega) t1 hV (stw_le _ _) t2 t3) (fun v M1 hq => ?_)
      obtain ⟨rfl, i5, rfl, v1⟩ := hq
      refine PW_iconst (v := 0) dX6_serve_93 (by decide) ?_
      refine PW_istore dX6_serve_94 (Nat.le_of_ble_eq_true rfl) rfl ?_
      exact lpX6_serve Fk Fp hn4 hp1 hp2 hb hs hd her hc hR hV hw (hn h + 1) 0 (by omega) (by omega) i5 _ (t4.trans v1 (Nat.le_refl _))
    · have h35 : ¬ (if 0 ≤ p - hp h then p - hp h else -(p - hp h)) ≤ 3 * ((n - e : Nat) : Int) := fun q => h35 ((iN_le (by split <;> omega) (by split <;> omega) (by omega) (by omega)).mpr q)
      refine PW_return rfl dX6_serve_38 (Nat.le_of_ble_eq_true rfl) (Nat.le_of_ble_eq_true rfl) ?_
      refine Wr_mk rfl ?_
      have q : srv p (r + 1) e h c w st = st := by
        first
        | exact srv_big (lsO_no (n := n) (by omega) (by omega))
        | exact srv_far hV (fun q => h35 (by split <;> omega))
      rw [q]
      exact ⟨hq0, fun _ _ => rfl, fun _ _ => rfl⟩
set_option maxRecDepth 100000 in
set_option maxHeartbeats 4000000 in
theorem svX6 {G : GE} {S : MS} {X P n b : Nat} {p : Int} (Fk : KS S X) (Fp : PS S X P) (hn4 : n ≤ 4) (hp1 : -100 ≤ p) (hp2 : p ≤ 100) (hb : b + 5 ≤ 500) : ∀ r, SvC G S P n b p r := by
  intro r
  induction r with
  | zero => exact svX6_0 Fk Fp hn4 hp1 hp2 hb
  | succ r ih => exact svX6_s Fk Fp hn4 hp1 hp2 hb ih

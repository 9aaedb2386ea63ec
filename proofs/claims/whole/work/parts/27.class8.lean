/-! ===== SleepyHelm: peas ===== -/
/-- the best way to be at p behind n watches -/
def bestP (h : Hm) (p : Int) (n : Nat) : PSt := srv p n 0 h 0 (fun _ => 0) none
def b2s (st : PSt) : Bool := st.isSome
theorem fO_some {n : Nat} {st : PSt} (h : ∀ c L, st = some (c, L) → c ≤ n) : b1 (fO n st ≤ n) = b2i (b2s st) := by
  match st, h with
  | none, _ => exact b1_f (by show ¬ n + 1 ≤ n; omega)
  | some (c, L), h => exact b1_t (h c L rfl)
theorem min4 {n : Nat} (h : n ≤ 4) : (if (4 : Int32) < nI n then 4 else nI n) = nI n := if_neg (fun q => absurd (jlt (a := 4) q) (by omega))
theorem pl_of {p : Int32} (h : (-60 : Int32) ≤ p ∧ p ≤ 60) : -60 ≤ p.toInt ∧ p.toInt ≤ 60 := by
  obtain ⟨h1, h2⟩ := h
  rw [Int32.le_iff_toInt_le] at h1 h2
  exact ⟨h1, h2⟩
theorem one_of {k hi : Int32} {n : Nat} (h : (1 : Int32) ≤ k ∧ k ≤ hi) (hhi : hi = nI n) (hn : n < 2 ^ 30) : ∃ j, 1 ≤ j ∧ j ≤ n ∧ k = nI j := by
  obtain ⟨j, h1, h2⟩ := within_of (k := k) (lo := 0) (hi := hi) (n := n) ⟨Int32.le_trans (by decide) h.1, h.2⟩ rfl hhi (by omega)
  refine ⟨j, ?_, h1, h2⟩
  have := h.1
  rw [h2] at this
  exact jle (a := 1) this
def peaA (st : PSt) (n i : Int32) : Int32 := match st with
  | none => -1
  | some q => if i = -1 then nI q.1 else if n ≤ i then -5 else nI (dig (q.2 i.toNatClampNeg))
def oPeas (s : Ab) (p n i : Int32) : Int32 × Ab := if ((-60 : Int32) ≤ p ∧ p ≤ 60) ∧ ((1 : Int32) ≤ n ∧ n ≤ 4) ∧ (-1 : Int32) ≤ i then (peaA (bestP (vh (aV s)) p.toInt n.toNatClampNeg) n i, s) else (-10, bad s)
set_option maxRecDepth 100000 in
set_option maxHeartbeats 4000000 in
theorem spX6_seek {G : GE} {S : MS} {X P n b : Nat} {p : Int} (Fk : KS S X) (Fp : PS S X P) (hn4 : n ≤ 4) (hp1 : -100 ≤ p) (hp2 : p ≤ 100) (hb : b + 5 ≤ 500) {d : Nat} (hd : 18 ≤ d) {i : MI0} {Y a : Nat} {h : Hm} (hSa : HS S Y a) (hR : HR i a h) (hV : HV b h) (hac : a + 4 ≤ P ∨ P + 24 ≤ a) : Mt G iX6_seek d [.ref P, .ref a, .int (iN p), .int (nI n)] (i, S) (Wi (b2i (b2s (bestP h p n))) S (fun i' => PQ i' P n p (bestP h p n) ∧ ∀ q, (q < P ∨ P + 23 < q) → i' q = i q)) := by
  refine Mt_in 0 (ls := [.ref P, .ref a, .int (iN p), .int (nI n)]) moX6_seek (Nat.le_of_ble_eq_true rfl) rfl ?_
  refine PW_aload_n (i := 0) dX6_seek_0 rfl rfl ?_
  refine PW_iload_n (i := 2) dX6_seek_1 rfl rfl ?_
  refine PW_putI dX6_seek_2 fr6_27 (fun h => by cases h) (Fp.1) ?_
  refine PW_aload_n (i := 0) dX6_seek_5 rfl rfl ?_
  refine PW_iload_n (i := 3) dX6_seek_6 rfl rfl ?_
  refine PW_iconst (v := 4) dX6_seek_7 (by decide) ?_
  refine PW_min dX6_seek_8 mm6_31 mw_min (Nat.le_of_ble_eq_true rfl) (Nat.le_of_ble_eq_true rfl) (Nat.le_of_ble_eq_true rfl) ?_
  refine PW_eqi (min4 hn4) ?_
  refine PW_putI dX6_seek_11 fr6_37 (fun h => by cases h) (Fp.1) ?_
  refine PW_aload_n (i := 0) dX6_seek_14 rfl rfl ?_
  refine PW_aload_n (i := 0) dX6_seek_15 rfl rfl ?_
  refine PW_giv (v := nI n) dX6_seek_16 fg6_37 (Fp.1) (rI_s _ _ _ _) ?_
  refine PW_iconst (v := 1) dX6_seek_19 (by decide) ?_
  refine PW_iadd dX6_seek_20 ?_
  refine PW_eqi (nI_1 _) ?_
  refine PW_putI dX6_seek_21 fr6_40 (fun h => by cases h) (Fp.1) ?_
  refine PW_nm rfl (fun i1 e1 => ?_)
  have e2 : ∀ q, q ≠ P → i1 q = i q := fun q hq => by rw [e1, rI_f _ _ hq, rI_f _ _ hq, rI_f _ _ hq]; rfl
  refine PW_aload_n (i := 0) dX6_seek_24 rfl rfl ?_
  refine PW_getR dX6_seek_25 fg6_11 (Fp.1) (Fp.2.2.2.2.1) ?_
  refine PW_iconst (v := 0) dX6_seek_28 (by decide) ?_
  refine PW_aal (j := 0) dX6_seek_29 (Fp.2.1) (by decide) (by decide) (by decide) (by decide) ((Fp.2.2.2.2.2.2.2 0 (by omega)).1) ?_
  refine PW_aload_n (i := 1) dX6_seek_30 rfl rfl ?_
  refine PW_callV dX6_seek_31 moX4_take cv6_43 ((Fp.2.2.2.2.2.2.2 0 (by omega)).2.1) (by omega) rfl rfl (Nat.le_of_ble_eq_true rfl) (Nat.le_of_ble_eq_true rfl) (Nat.le_of_ble_eq_true rfl) (spX4_take (d := d - 1) (Fp.2.2.2.2.2.2.2 0 (by omega)).2 hSa (hR.kp (fun q h1 h2 => e2 q (by omega))) hV.1 (by omega)) (fun v M1 hq => ?_)
  obtain ⟨rfl, i2, rfl, p1, p2⟩ := hq
  refine PW_aload_n (i := 0) dX6_seek_34 rfl rfl ?_
  refine PW_iconst (v := 0) dX6_seek_35 (by decide) ?_
  refine PW_iconst (v := 0) dX6_seek_36 (by decide) ?_
  have Pq : PQ i2 P n p none := by
    refine ⟨?_, ?_, ?_, fun c L q => by cases q⟩
    · rw [p2 P (by omega), e1]; simp (disch := omega) only [rI_s, rI_k, rI_a, rI_f, rA_s, rA_n, rA_f, rP, rP_f]
    · rw [p2 P (by omega), e1]; simp (disch := omega) only [rI_s, rI_k, rI_a, rI_f, rA_s, rA_n, rA_f, rP, rP_f]
    · rw [p2 P (by omega), e1]; simp (disch := omega) only [rI_s, rI_k, rI_a, rI_f, rA_s, rA_n, rA_f, rP, rP_f]; rfl
  refine PW_callV dX6_seek_37 moX6_serve cv6_47 (Fp.1) (by omega) rfl rfl (Nat.le_of_ble_eq_true rfl) (Nat.le_of_ble_eq_true rfl) (Nat.le_of_ble_eq_true rfl) ((svX6 Fk Fp hn4 hp1 hp2 hb n (d - 1) i2 0 0 h (fun _ => 0) none (by omega) (by omega) (by omega) p1 (by exact hV) Pq (fun j hj => absurd hj (Nat.not_lt_zero j)))) (fun v M1 hq => ?_)
  obtain ⟨rfl, i3, rfl, v1⟩ := hq
  have v1 : SVq i2 P n p (bestP h p n) 0 i3 := v1
  have w2 : ∀ q, (q < P ∨ P + 23 < q) → i3 q = i q := fun q hq => (v1.2.2 q (by omega)).trans ((p2 q (by omega)).trans (e2 q (by omega)))
  refine PW_aload_n (i := 0) dX6_seek_40 rfl rfl ?_
  refine PW_giv (v := nI (fO n (bestP h p n))) dX6_seek_41 fg6_40 (Fp.1) (v1.1.2.2.1) ?_
  refine PW_aload_n (i := 0) dX6_seek_44 rfl rfl ?_
  refine PW_giv (v := nI n) dX6_seek_45 fg6_37 (Fp.1) (v1.1.2.1) ?_
  have hfo := fO_le v1.1
  refine PW_icmp_gt 55 dX6_seek_48 (by decide) (fun h48 => ?_) (fun h48 => ?_)
  · have h48 := jlt h48
    refine PW_iconst (v := 0) dX6_seek_55 (by decide) ?_
    refine PW_ireturn rfl (rfl) dX6_seek_56 (Nat.le_of_ble_eq_true rfl) (Nat.le_of_ble_eq_true rfl) ?_
    have q := fO_some (n := n) (fun c L q => (v1.1.2.2.2 c L q).1)
    first | (rw [b1_t h48] at q; exact Wi_mk rfl q ⟨v1.1, w2⟩) | (rw [b1_f (by omega)] at q; exact Wi_mk rfl q ⟨v1.1, w2⟩)
  · have h48 := jnlt h48
    refine PW_iconst (v := 1) dX6_seek_51 (by decide) ?_
    refine PW_goto 56 dX6_seek_52 (by decide) ?_
    refine PW_ireturn rfl (rfl) dX6_seek_56 (Nat.le_of_ble_eq_true rfl) (Nat.le_of_ble_eq_true rfl) ?_
    have q := fO_some (n := n) (fun c L q => (v1.1.2.2.2 c L q).1)
    first | (rw [b1_t h48] at q; exact Wi_mk rfl q ⟨v1.1, w2⟩) | (rw [b1_f (by omega)] at q; exact Wi_mk rfl q ⟨v1.1, w2⟩)
theorem idx_of {i : Int32} {n : Nat} (h1 : (-1 : Int32) ≤ i) (h2 : ¬ i = -1) (h3 : ¬ nI n ≤ i) (hn : n < 1000) : ∃ j, j < n ∧ i = nI j := by
  rw [Int32.le_iff_toInt_le] at h1 h3
  rw [nI_toInt (by omega)] at h3
  have e1 : (-1 : Int32).toInt = -1 := rfl
  rw [e1] at h1
  have h4 : ¬ i.toInt = -1 := fun q => h2 (Int32.toInt_inj.mp q)
  refine ⟨i.toInt.toNat, by omega, ?_⟩
  rw [nI_iN, Int.toNat_of_nonneg (by omega)]
  exact iN_of i
set_option maxRecDepth 100000 in
set_option maxHeartbeats 4000000 in
theorem spX11_peas {G : GE} {d : Nat} {i : MI0} {S : MS} {X b : Nat} {g : Nat → Nat → Nat} {s : Ab} (hd : 20 ≤ d) (hP : CP S X g) (hR : CR i X g s) (hV : AV b s) (hb : b ≤ 100) (p n k : Int32) : Mt G iX11_peas d [.ref X, .int p, .int n, .int k] (i, S) (Op X (i, S) (.int (oPeas s p n k).1) (oPeas s p n k).2) := by
  have hP' := hP
  have hR' := hR
  have hV' := hV
  obtain ⟨⟨Gx, Gr, Gks, ⟨Gv, Gd, Gi0, Gi1⟩, Gi, Gk, Gt, Gc, Gp, Ge⟩, Pv0, Pv1, Pv2, Pv3⟩ := hP
  have Gh := Gv.2.2.2.2.2.2.2.2.2.2.1
  obtain ⟨Vr, Vi0, Vi1, Vk, Vx, Vt⟩ := hR
  have Vh := Vr.2.2.2.1
  obtain ⟨Av, Ai, At, Ab', Aa, Aw⟩ := hV
  have Ah := Av.1
  have Ah1 := Ah.1
  have Av1 := Av.2.1
  have Av2 := Av.2.2.1
  have Av3 := Av.2.2.2.1
  refine Mt_in 0 (ls := [.ref X, .int p, .int n, .int k]) moX11_peas (Nat.le_of_ble_eq_true rfl) rfl ?_
  refine PW_iload_n (i := 1) dX11_peas_0 rfl rfl ?_
  refine PW_callS dX11_peas_1 moX11_isPlace cs11_91 (by omega) rfl rfl (Nat.le_of_ble_eq_true rfl) (Nat.le_of_ble_eq_true rfl) (Nat.le_of_ble_eq_true rfl) (spX11_isPlace (d := d - 1) (by omega) _) (fun v M1 hq => ?_)
  obtain ⟨rfl, rfl⟩ := hq
  refine PW_if_eq 21 dX11_peas_4 (by decide) (fun h4 => ?_) (fun h4 => ?_)
  · have h4 := b1_0.mp h4
    refine PW_aload_n (i := 0) dX11_peas_21 rfl rfl ?_
    refine PW_bipush (v := -10) dX11_peas_22 (by decide) ?_
    refine PW_callV dX11_peas_24 moX11_refuseBad cv11_95 (Gx) (by omega) rfl rfl (Nat.le_of_ble_eq_true rfl) (Nat.le_of_ble_eq_true rfl) (Nat.le_of_ble_eq_true rfl) (spX11_refuseBad (d := d - 1) hP' hR' hV' _) (fun v M1 hq => ?_)
    obtain ⟨rfl, i1, rfl, c1, c2⟩ := hq
    refine PW_ireturn rfl (rfl) dX11_peas_27 (Nat.le_of_ble_eq_true rfl) (Nat.le_of_ble_eq_true rfl) ?_
    exact Op_i (by unfold oPeas; rw [if_neg (fun q => by first | exact h4 q.1 | exact h13 q.2.1 | exact h18 q.2.2)]) hP' c1 (fun q hq => c2 q (by omega))
  · have h4 := b1_1.mp h4
    refine PW_iload_n (i := 2) dX11_peas_7 rfl rfl ?_
    refine PW_iconst (v := 1) dX11_peas_8 (by decide) ?_
    refine PW_iconst (v := 4) dX11_peas_9 (by decide) ?_
    refine PW_callS dX11_peas_10 moX11_isWithin cs11_116 (by omega) rfl rfl (Nat.le_of_ble_eq_true rfl) (Nat.le_of_ble_eq_true rfl) (Nat.le_of_ble_eq_true rfl) (spX11_isWithin (d := d - 1) _ _ _) (fun v M1 hq => ?_)
    obtain ⟨rfl, rfl⟩ := hq
    refine PW_if_eq 21 dX11_peas_13 (by decide) (fun h13 => ?_) (fun h13 => ?_)
    · have h13 := b1_0.mp h13
      refine PW_aload_n (i := 0) dX11_peas_21 rfl rfl ?_
      refine PW_bipush (v := -10) dX11_peas_22 (by decide) ?_
      refine PW_callV dX11_peas_24 moX11_refuseBad cv11_95 (Gx) (by omega) rfl rfl (Nat.le_of_ble_eq_true rfl) (Nat.le_of_ble_eq_true rfl) (Nat.le_of_ble_eq_true rfl) (spX11_refuseBad (d := d - 1) hP' hR' hV' _) (fun v M1 hq => ?_)
      obtain ⟨rfl, i1, rfl, c1, c2⟩ := hq
      refine PW_ireturn rfl (rfl) dX11_peas_27 (Nat.le_of_ble_eq_true rfl) (Nat.le_of_ble_eq_true rfl) ?_
      exact Op_i (by unfold oPeas; rw [if_neg (fun q => by first | exact h4 q.1 | exact h13 q.2.1 | exact h18 q.2.2)]) hP' c1 (fun q hq => c2 q (by omega))
    · have h13 := b1_1.mp h13
      refine PW_iload_n (i := 3) dX11_peas_16 rfl rfl ?_
      refine PW_iconst (v := -1) dX11_peas_17 (by decide) ?_
      refine PW_icmp_ge 28 dX11_peas_18 (by decide) (fun h18 => ?_) (fun h18 => ?_)
      · refine PW_aload_n (i := 0) dX11_peas_28 rfl rfl ?_
        refine PW_getR dX11_peas_29 fg11_64 (Gx) (Gr.2.2.2.2.2.2.1) ?_
        refine PW_aload_n (i := 0) dX11_peas_32 rfl rfl ?_
        refine PW_getR dX11_peas_33 fg11_32 (Gx) (Gr.1) ?_
        refine PW_getR dX11_peas_36 fg11_82 (Gv.1) (Gv.2.2.2.2.2.1) ?_
        refine PW_iload_n (i := 1) dX11_peas_39 rfl rfl ?_
        refine PW_iload_n (i := 2) dX11_peas_40 rfl rfl ?_
        obtain ⟨n, hn1, hn4, rfl⟩ := one_of (n := 4) h13 rfl (by decide)
        have en : (nI n).toNatClampNeg = n := cln (by omega)
        have hpl := pl_of h4
        refine PW_eqS (show _ = [.int (nI n), .int (iN p.toInt), .ref (X + 8 + 5), .ref (X + 185)] by rw [← iN_of p]; rfl) ?_
        refine PW_callV dX11_peas_41 moX6_seek cv11_197 (Gp.1) (by omega) rfl rfl (Nat.le_of_ble_eq_true rfl) (Nat.le_of_ble_eq_true rfl) (Nat.le_of_ble_eq_true rfl) (spX6_seek (d := d - 1) (X := X) Gks Gp hn4 (by omega) (by omega) (by omega) (by omega) Gh Vh Ah (by omega)) (fun v M1 hq => ?_)
        obtain ⟨rfl, i1, rfl, v1, w2⟩ := hq
        have hR1 := hR'.kp hP' hV' (fun q h1 h2 h3 h4 => w2 q (by omega))
        refine PW_if_ne 49 dX11_peas_44 (by decide) (fun h44 => ?_) (fun h44 => ?_)
        · obtain ⟨⟨cc, L⟩, hst⟩ : ∃ q, bestP (vh (aV s)) p.toInt n = some q := Option.isSome_iff_exists.mp (b2i_n.mp h44)
          have v2 := v1.2.2.2 cc L hst
          refine PW_iload_n (i := 3) dX11_peas_49 rfl rfl ?_
          refine PW_iconst (v := -1) dX11_peas_50 (by decide) ?_
          refine PW_icmp_ne 62 dX11_peas_51 (by decide) (fun h51 => ?_) (fun h51 => ?_)
          · refine PW_iload_n (i := 3) dX11_peas_62 rfl rfl ?_
            refine PW_iload_n (i := 2) dX11_peas_63 rfl rfl ?_
            refine PW_icmp_ge 79 dX11_peas_64 (by decide) (fun h64 => ?_) (fun h64 => ?_)
            · refine PW_bipush (v := -5) dX11_peas_79 (by decide) ?_
              refine PW_ireturn rfl (rfl) dX11_peas_81 (Nat.le_of_ble_eq_true rfl) (Nat.le_of_ble_eq_true rfl) ?_
              first | exact Op_i (by unfold oPeas; rw [if_pos ⟨h4, h13, h18⟩, en, hst]; unfold peaA; dsimp only; rw [if_neg h51, if_pos h64]) hP' hR1 (fun q hq => w2 q (by omega)) | exact Op_i (by unfold oPeas; rw [if_pos ⟨h4, h13, h18⟩, en, hst]; unfold peaA; dsimp only; rw [if_neg h51, if_neg h64, ej]) hP' hR1 (fun q hq => w2 q (by omega))
            · refine PW_aload_n (i := 0) dX11_peas_67 rfl rfl ?_
              refine PW_getR dX11_peas_68 fg11_64 (Gx) (Gr.2.2.2.2.2.2.1) ?_
              refine PW_getR dX11_peas_71 fg11_204 (Gp.1) (Gp.2.2.2.2.2.2.1) ?_
              refine PW_iload_n (i := 3) dX11_peas_74 rfl rfl ?_
              obtain ⟨j, hj, rfl⟩ := idx_of h18 h51 h64 (by omega)
              have ej : (nI j).toNatClampNeg = j := cln (by omega)
              refine PW_ial (v := nI (dig (L j))) dX11_peas_75 (Gp.2.2.2.1) (by decide) (by omega) (v2.2 j hj) ?_
              refine PW_goto 81 dX11_peas_76 (by decide) ?_
              refine PW_ireturn rfl (rfl) dX11_peas_81 (Nat.le_of_ble_eq_true rfl) (Nat.le_of_ble_eq_true rfl) ?_
              first | exact Op_i (by unfold oPeas; rw [if_pos ⟨h4, h13, h18⟩, en, hst]; unfold peaA; dsimp only; rw [if_neg h51, if_pos h64]) hP' hR1 (fun q hq => w2 q (by omega)) | exact Op_i (by unfold oPeas; rw [if_pos ⟨h4, h13, h18⟩, en, hst]; unfold peaA; dsimp only; rw [if_neg h51, if_neg h64, ej]) hP' hR1 (fun q hq => w2 q (by omega))
          · refine PW_aload_n (i := 0) dX11_peas_54 rfl rfl ?_
            refine PW_getR dX11_peas_55 fg11_64 (Gx) (Gr.2.2.2.2.2.2.1) ?_
            refine PW_giv (v := nI (fO n (bestP (vh (aV s)) p.toInt n))) dX11_peas_58 fg11_201 (Gp.1) (v1.2.2.1) ?_
            refine PW_ireturn rfl (rfl) dX11_peas_61 (Nat.le_of_ble_eq_true rfl) (Nat.le_of_ble_eq_true rfl) ?_
            exact Op_i (by unfold oPeas; rw [if_pos ⟨h4, h13, h18⟩, en, hst]; unfold peaA; rw [h51]; rfl) hP' hR1 (fun q hq => w2 q (by omega))
        · have hst : bestP (vh (aV s)) p.toInt n = none := Option.not_isSome_iff_eq_none.mp (by have := b2i_0.mp h44; unfold b2s at this; rw [this]; decide)
          refine PW_iconst (v := -1) dX11_peas_47 (by decide) ?_
          refine PW_ireturn rfl (rfl) dX11_peas_48 (Nat.le_of_ble_eq_true rfl) (Nat.le_of_ble_eq_true rfl) ?_
          exact Op_i (by unfold oPeas; rw [if_pos ⟨h4, h13, h18⟩, en, hst]; rfl) hP' hR1 (fun q hq => w2 q (by omega))
      · refine PW_aload_n (i := 0) dX11_peas_21 rfl rfl ?_
        refine PW_bipush (v := -10) dX11_peas_22 (by decide) ?_
        refine PW_callV dX11_peas_24 moX11_refuseBad cv11_95 (Gx) (by omega) rfl rfl (Nat.le_of_ble_eq_true rfl) (Nat.le_of_ble_eq_true rfl) (Nat.le_of_ble_eq_true rfl) (spX11_refuseBad (d := d - 1) hP' hR' hV' _) (fun v M1 hq => ?_)
        obtain ⟨rfl, i1, rfl, c1, c2⟩ := hq
        refine PW_ireturn rfl (rfl) dX11_peas_27 (Nat.le_of_ble_eq_true rfl) (Nat.le_of_ble_eq_true rfl) ?_
        exact Op_i (by unfold oPeas; rw [if_neg (fun q => by first | exact h4 q.1 | exact h13 q.2.1 | exact h18 q.2.2)]) hP' c1 (fun q hq => c2 q (by omega))

/-! ===== Voyage: remember, goBack, digestOnto ===== -/
set_option maxRecDepth 100000 in
set_option maxHeartbeats 4000000 in
theorem tlX10_remember {G : GE} {d : Nat} {i : MI0} {S : MS} {X v : Nat} {σ : Nat → Nat} {h : Hm} (hd : 1 ≤ d) (hS : VS S X v) (hP : PV S v σ) {u : Nat} (hu : u < 8) (h7 : i v 7 = nI u) (hh : HR i (v + 5) h) (h6 : hn h ≤ 6) (z1 z2 : Value) : PW G iX10_remember d (Wr S (fun i' => HR i' (v + 9 + 4 * σ u) h ∧ i' v 7 = nI (u + 1) ∧ (∀ k, k ≠ 7 → i' v k = i v k) ∧ ∀ q, q ≠ v → (q < v + 9 + 4 * σ u ∨ v + 9 + 4 * σ u + 3 < q) → i' q = i q)) 62 [.ref v, z1, z2] [] (i, S) 0 0 := by
  have hS' := hS
  obtain ⟨Fv0, Fv1, Fv2, Fv3, Fv4, Fvr0, Fvr1, Fvr2, Fvr3, Fvr4, Fvh, Fvp⟩ := hS
  have Fsu := (hP.1 u hu).1
  refine PW_aload_n (i := 0) dX10_remember_62 rfl rfl ?_
  refine PW_getR dX10_remember_63 fg10_23 (Fv0) (Fvr4) ?_
  refine PW_aload_n (i := 0) dX10_remember_66 rfl rfl ?_
  refine PW_giv (v := nI u) dX10_remember_67 fg10_44 (Fv0) (h7) ?_
  refine PW_aal dX10_remember_70 (Fv4) (by decide) (by decide) (by decide) (by omega) ((hP.1 u hu).2) ?_
  refine PW_aload_n (i := 0) dX10_remember_71 rfl rfl ?_
  refine PW_getR dX10_remember_72 fg10_30 (Fv0) (Fvr0) ?_
  refine PW_callV dX10_remember_75 moX4_take cv10_47 ((Fvp (σ u) Fsu).1) (by omega) rfl rfl (Nat.le_of_ble_eq_true rfl) (Nat.le_of_ble_eq_true rfl) (Nat.le_of_ble_eq_true rfl) (spX4_take (d := d - 1) (Fvp (σ u) Fsu) Fvh hh h6 (by omega)) (fun v M1 hq => ?_)
  obtain ⟨rfl, i3, rfl, p1, p2⟩ := hq
  refine PW_aload_n (i := 0) dX10_remember_78 rfl rfl ?_
  refine PW_dup dX10_remember_79 rfl ?_
  refine PW_giv (v := nI u) dX10_remember_80 fg10_44 (Fv0) (((congrFun (p2 v (by omega)) 7).trans h7)) ?_
  refine PW_iconst (v := 1) dX10_remember_83 (by decide) ?_
  refine PW_iadd dX10_remember_84 ?_
  refine PW_eqi (nI_1 _) ?_
  refine PW_putI dX10_remember_85 fr10_44 (fun h => by cases h) (Fv0) ?_
  refine PW_return rfl dX10_remember_88 (Nat.le_of_ble_eq_true rfl) (Nat.le_of_ble_eq_true rfl) ?_
  refine Wr_mk rfl ⟨p1.kp (fun q h1 h2 => by simp (disch := omega) only [rI_s, rI_k, rI_a, rI_f, rA_s, rA_n, rA_f, rP, rP_f]), ?_, fun k hk => ?_, fun q h1 h2 => ?_⟩
  · simp (disch := omega) only [rI_s, rI_k, rI_a, rI_f, rA_s, rA_n, rA_f, rP, rP_f]
  · rw [rI_k _ _ _ hk, rP, p2 v (by omega)]
  · rw [rI_f _ _ h1, rP_f]; exact p2 q h2
/-- the row of helms goes round by one -/
def sg1 (σ : Nat → Nat) (u : Nat) : Nat := if u = 7 then σ 0 else σ (u + 1)
theorem PV_rot {S S' : MS} {v : Nat} {σ : Nat → Nat} (hP : PV S v σ) (h1 : ∀ u, u < 7 → sR S' (v + 4) u = sR S (v + 4) (u + 1)) (h2 : sR S' (v + 4) 7 = some (v + 9 + 4 * σ 0)) : PV S' v (sg1 σ) := by
  refine ⟨fun u hu => ?_, fun u w hu hw he => ?_⟩
  · unfold sg1
    by_cases e : u = 7
    · rw [if_pos e, e]
      exact ⟨(hP.1 0 (by decide)).1, h2⟩
    · rw [if_neg e, h1 u (by omega)]
      exact hP.1 (u + 1) (by omega)
  · unfold sg1 at he
    by_cases e : u = 7
    · by_cases e2 : w = 7
      · omega
      · rw [if_pos e, if_neg e2] at he
        have := hP.2 0 (w + 1) (by omega) (by omega) he
        omega
    · by_cases e2 : w = 7
      · rw [if_neg e, if_pos e2] at he
        have := hP.2 (u + 1) 0 (by omega) (by omega) he
        omega
      · rw [if_neg e, if_neg e2] at he
        have := hP.2 (u + 1) (w + 1) (by omega) (by omega) he
        omega
theorem remV_8 {y : Vy} (h : vu y = 8) : vu (remV y) = 8 ∧ vU (remV y) = fun u => if u = 7 then vh y else vU y (u + 1) := ⟨if_pos h, if_pos h⟩
theorem remV_n {y : Vy} (h : ¬ vu y = 8) : vu (remV y) = vu y + 1 ∧ vU (remV y) = fun u => if u = vu y then vh y else vU y u := ⟨if_neg h, if_neg h⟩
/-- what remember leaves -/
def RMq (i : MI0) (S : MS) (v : Nat) (y : Vy) : Option Value → Mm → Prop := fun r M' => r = none ∧ ∃ (i' : MI0) (S' : MS) (σ' : Nat → Nat), M' = (i', S') ∧ SE S S' (v + 4) ∧ PV S' v σ' ∧ VR i' v σ' (remV y) ∧ ∀ q, (q < v ∨ v + 40 < q) → i' q = i q
theorem RMq_mk {i i1 : MI0} {S S1 : MS} {v u : Nat} {σ τ : Nat → Nat} {y : Vy} {b : Nat} (hV : VV b y) (hR : VR i v σ y) (hse : SE S S1 (v + 4)) (hP : PV S1 v τ) (hu : u < 8) (hru : vu (remV y) = u + 1) (hlast : vU (remV y) u = vh y) (hold : ∀ k, k < u → ∃ k', k' < vu y ∧ τ k = σ k' ∧ vU (remV y) k = vU y k') (e5 : ∀ k, k ≠ 7 → i1 v k = i v k) (eq : ∀ q, q ≠ v → i1 q = i q) :
    ∀ r M', Wr S1 (fun i' => HR i' (v + 9 + 4 * τ u) (vh y) ∧ i' v 7 = nI (u + 1) ∧ (∀ k, k ≠ 7 → i' v k = i1 v k) ∧ ∀ q, q ≠ v → (q < v + 9 + 4 * τ u ∨ v + 9 + 4 * τ u + 3 < q) → i' q = i1 q) r M' → RMq i S v y r M' := by
  intro r M' hw
  obtain ⟨rfl, i', rfl, a1, a2, a3, a4⟩ := hw
  obtain ⟨Fq5, Fq6, Fq7, Fqh, Fqr, Fqs, Fqu⟩ := hR
  have Ftu := (hP.1 u hu).1
  refine ⟨rfl, i', S1, τ, rfl, hse, hP, ⟨?_, ?_, ?_, ?_, fun j hj => ?_, fun j hj => ?_, fun k hk => ?_⟩, fun q hq => ?_⟩
  · rw [a3 5 (by decide), e5 5 (by decide)]; exact Fq5
  · rw [a3 6 (by decide), e5 6 (by decide)]; exact Fq6
  · rw [a2]; exact congrArg nI hru.symm
  · exact Fqh.kp (fun q h1 h2 => by rw [a4 q (by omega) (by omega), eq q (by omega)])
  · rw [a4 _ (by omega) (by omega), eq _ (by omega)]; exact Fqr j hj
  · rw [a4 (v + 2) (by omega) (by omega), a4 (v + 3) (by omega) (by omega), eq (v + 2) (by omega), eq (v + 3) (by omega)]; exact Fqs j hj
  · have hk' : k < u + 1 := hru ▸ hk
    by_cases e : k = u
    · rw [e, hlast]; exact a1
    · obtain ⟨k', h1, h2, h3⟩ := hold k (by omega)
      have n1 : τ k ≠ τ u := fun z => e (hP.2 k u (by omega) hu z)
      have Ftk := (hP.1 k (by omega)).1
      rw [h3]
      refine HR.kp (i := i) ?_ (fun q h1 h2 => by rw [a4 q (by omega) (by omega), eq q (by omega)])
      rw [h2]
      exact Fqu k' h1
  · rw [a4 q (by omega) (by omega), eq q (by omega)]
set_option maxRecDepth 100000 in
set_option maxHeartbeats 4000000 in
theorem lpX10_remember {G : GE} {d : Nat} {i : MI0} {S : MS} {X v : Nat} {σ : Nat → Nat} {y : Vy} (hd : 1 ≤ d) (hS : VS S X v) (hP : PV S v σ) (hR : VR i v σ y) {b : Nat} (hV : VV b y) (h8 : vu y = 8) (h7 : i v 7 = nI 8) : ∀ (n0 j : Nat), j ≤ 8 → 8 < j + n0 → ∀ (S1 : MS), 1 ≤ j → SE S S1 (v + 4) → (∀ u, u < 7 → u + 1 < j → sR S1 (v + 4) u = sR S (v + 4) (u + 1)) → (∀ u, j ≤ u + 1 → sR S1 (v + 4) u = sR S (v + 4) u) → PW G iX10_remember d (RMq i S v y) 18 [.ref v, .ref (v + 9 + 4 * σ 0), .int (nI j)] [] (i, S1) 0 0 := by
  intro n0
  induction n0 with
  | zero => intro j h1 h2; exact absurd h2 (by omega)
  | succ n0 ih =>
    intro j hj1 hj2 S1 s0 s1 s2 s3
    have hS1 := hS.se s1 (by omega)
    obtain ⟨Fv0, Fv1, Fv2, Fv3, Fv4, Fvr0, Fvr1, Fvr2, Fvr3, Fvr4, Fvh, Fvp⟩ := hS1
    have Fs0 := (hP.1 0 (by decide)).1
    refine PW_iload_n (i := 2) dX10_remember_18 rfl rfl ?_
    refine PW_bipush (v := 8) dX10_remember_19 (by decide) ?_
    refine PW_icmp_ge 44 dX10_remember_21 (by decide) (fun h21 => ?_) (fun h21 => ?_)
    · have h21 := jle (a := 8) h21
      have ej : j = 8 := by omega
      subst ej
      refine PW_aload_n (i := 0) dX10_remember_44 rfl rfl ?_
      refine PW_getR dX10_remember_45 fg10_23 (Fv0) (Fvr4) ?_
      refine PW_bipush (v := 7) dX10_remember_48 (by decide) ?_
      refine PW_aload_n (i := 1) dX10_remember_50 rfl rfl ?_
      refine PW_aas (j := 7) dX10_remember_51 (Fv4) (by decide) (by decide) (by decide) (by decide) ((Fvp (σ 0) Fs0).1) (⟨_, rfl, by decide, Or.inl rfl⟩) ?_
      refine PW_nmS rfl (fun S2 e2 => ?_)
      have s4 : SE S S2 (v + 4) := by rw [e2]; exact SE_w s1 _ _ _
      have hP2 : PV S2 v (sg1 σ) := PV_rot hP (fun u hu => by rw [e2, rR, if_neg (fun z => by omega)]; exact s2 u hu (by omega)) (by rw [e2, rR, if_pos ⟨rfl, rfl⟩])
      have hS2 := hS.se s4 (by omega)
      obtain ⟨Fv0, Fv1, Fv2, Fv3, Fv4, Fvr0, Fvr1, Fvr2, Fvr3, Fvr4, Fvh, Fvp⟩ := hS2
      refine PW_aload_n (i := 0) dX10_remember_52 rfl rfl ?_
      refine PW_dup dX10_remember_53 rfl ?_
      refine PW_giv (v := nI 8) dX10_remember_54 fg10_44 (Fv0) (h7) ?_
      refine PW_iconst (v := 1) dX10_remember_57 (by decide) ?_
      refine PW_isub dX10_remember_58 ?_
      refine PW_eqi (show nI 8 - 1 = nI 7 from rfl) ?_
      refine PW_putI dX10_remember_59 fr10_44 (fun h => by cases h) (Fv0) ?_
      refine PW_nm rfl (fun i1 e1 => ?_)
      refine PW_mono (RMq_mk (u := 7) (τ := sg1 σ) hV hR s4 hP2 (by decide) (remV_8 h8).1 (by rw [(remV_8 h8).2]; rfl) (fun k hk => ⟨k + 1, by omega, by unfold sg1; rw [if_neg (by omega)], by rw [(remV_8 h8).2]; exact if_neg (by omega)⟩) ?_ ?_) (tlX10_remember hd (hS.se s4 (by omega)) hP2 (u := 7) (by decide) ?_ (h := vh y) ?_ hV.1.1 _ _)
      · intro k hk; rw [e1, rI_k _ _ _ hk]; rfl
      · intro q hq; rw [e1, rI_f _ _ hq]; rfl
      · rw [e1]; exact rI_s _ _ _ _
      · exact hR.2.2.2.1.kp (fun q h1 h2 => by rw [e1, rI_f _ _ (by omega)]; rfl)
    · have h21 := jnle (a := 8) h21
      have Fsj := (hP.1 j (by omega)).1
      refine PW_aload_n (i := 0) dX10_remember_24 rfl rfl ?_
      refine PW_getR dX10_remember_25 fg10_23 (Fv0) (Fvr4) ?_
      refine PW_iload_n (i := 2) dX10_remember_28 rfl rfl ?_
      refine PW_iconst (v := 1) dX10_remember_29 (by decide) ?_
      refine PW_isub dX10_remember_30 ?_
      refine PW_eqi (show nI j - 1 = nI (j - 1) by rw [show j = (j - 1) + 1 by omega]; exact nI_pred _) ?_
      refine PW_aload_n (i := 0) dX10_remember_31 rfl rfl ?_
      refine PW_getR dX10_remember_32 fg10_23 (Fv0) (Fvr4) ?_
      refine PW_iload_n (i := 2) dX10_remember_35 rfl rfl ?_
      refine PW_aal dX10_remember_36 (Fv4) (by decide) (by decide) (by decide) (by omega) ((s3 j (by omega)).trans (hP.1 j (by omega)).2) ?_
      refine PW_aas dX10_remember_37 (Fv4) (by decide) (by decide) (by decide) (by omega) ((Fvp (σ j) Fsj).1) (⟨_, rfl, by decide, Or.inl rfl⟩) ?_
      refine PW_inc1 dX10_remember_38 rfl (Nat.le_of_ble_eq_true rfl) rfl ?_
      refine PW_goto 18 dX10_remember_41 (by decide) ?_
      refine PW_nmS rfl (fun S2 e2 => ?_)
      refine ih (j + 1) (by omega) (by omega) S2 (by omega) (by rw [e2]; exact SE_w s1 _ _ _) (fun u h0 hu => ?_) (fun u hu => ?_)
      · rw [e2, rR]
        by_cases e : u = j - 1
        · rw [if_pos ⟨rfl, e⟩, e, show j - 1 + 1 = j by omega]; exact (hP.1 j (by omega)).2.symm
        · rw [if_neg (fun z => e z.2)]; exact s2 u h0 (by omega)
      · rw [e2, rR, if_neg (fun z => by omega)]; exact s3 u (by omega)
set_option maxRecDepth 100000 in
set_option maxHeartbeats 4000000 in
theorem spX10_remember {G : GE} {d : Nat} {i : MI0} {S : MS} {X v : Nat} {σ : Nat → Nat} {y : Vy} (hd : 8 ≤ d) (hS : VS S X v) (hP : PV S v σ) (hR : VR i v σ y) {b : Nat} (hV : VV b y) : Mt G iX10_remember d [.ref v] (i, S) (RMq i S v y) := by
  have hV' := hV
  have hS' := hS
  obtain ⟨Fv0, Fv1, Fv2, Fv3, Fv4, Fvr0, Fvr1, Fvr2, Fvr3, Fvr4, Fvh, Fvp⟩ := hS
  have hR' := hR
  obtain ⟨Fq5, Fq6, Fq7, Fqh, Fqr, Fqs, Fqu⟩ := hR
  obtain ⟨Fvv, Fvb1, Fvb2, Fvb3, Fvb4, Fvb5⟩ := hV
  refine Mt_in 2 (ls := [.ref v, .null, .null]) moX10_remember (Nat.le_of_ble_eq_true rfl) rfl ?_
  refine PW_aload_n (i := 0) dX10_remember_0 rfl rfl ?_
  refine PW_giv (v := nI (vu y)) dX10_remember_1 fg10_44 (Fv0) (Fq7) ?_
  refine PW_bipush (v := 8) dX10_remember_4 (by decide) ?_
  refine PW_icmp_ne 62 dX10_remember_6 (by decide) (fun h6 => ?_) (fun h6 => ?_)
  · have h6 : ¬ vu y = 8 := fun q => h6 (by rw [q]; rfl)
    refine PW_mono (RMq_mk (u := vu y) (τ := σ) hV' hR' (SE.rfl' _ _) hP (by omega) (remV_n h6).1 (by rw [(remV_n h6).2]; exact if_pos rfl) (fun k hk => ⟨k, hk, rfl, by rw [(remV_n h6).2]; exact if_neg (by omega)⟩) (fun _ _ => rfl) (fun _ _ => rfl)) (tlX10_remember (by omega) hS' hP (by omega) Fq7 Fqh Fvv.1 _ _)
  · have h6 : vu y = 8 := jeq (b := 8) h6
    refine PW_aload_n (i := 0) dX10_remember_9 rfl rfl ?_
    refine PW_getR dX10_remember_10 fg10_23 (Fv0) (Fvr4) ?_
    refine PW_iconst (v := 0) dX10_remember_13 (by decide) ?_
    refine PW_aal (j := 0) dX10_remember_14 (Fv4) (by decide) (by decide) (by decide) (by decide) ((hP.1 0 (by decide)).2) ?_
    refine PW_astore_n (i := 1) dX10_remember_15 rfl (Nat.le_of_ble_eq_true rfl) rfl ?_
    refine PW_iconst (v := 1) dX10_remember_16 (by decide) ?_
    refine PW_istore_n (i := 2) dX10_remember_17 rfl (Nat.le_of_ble_eq_true rfl) rfl ?_
    exact lpX10_remember (by omega) hS' hP hR' hV' h6 (by rw [Fq7, h6]) 9 1 (by omega) (by omega) S (by omega) (SE.rfl' _ _) (fun u h0 hu => absurd hu (by omega)) (fun u _ => rfl)
set_option maxRecDepth 100000 in
set_option maxHeartbeats 4000000 in
theorem spX10_goBack0 {G : GE} {d : Nat} {i : MI0} {S : MS} {X v : Nat} {σ : Nat → Nat} {y : Vy} (hd : 8 ≤ d) (hS : VS S X v) (hP : PV S v σ) (hR : VR i v σ y) {b : Nat} (hV : VV b y) (h0 : vu y = 0) : Mt G iX10_goBack d [.ref v] (i, S) (Rt 0 (i, S)) := by
  have hS' := hS
  obtain ⟨Fv0, Fv1, Fv2, Fv3, Fv4, Fvr0, Fvr1, Fvr2, Fvr3, Fvr4, Fvh, Fvp⟩ := hS
  have hR' := hR
  obtain ⟨Fq5, Fq6, Fq7, Fqh, Fqr, Fqs, Fqu⟩ := hR
  refine Mt_in 0 (ls := [.ref v]) moX10_goBack (Nat.le_of_ble_eq_true rfl) rfl ?_
  refine PW_aload_n (i := 0) dX10_goBack_0 rfl rfl ?_
  refine PW_giv (v := nI (vu y)) dX10_goBack_1 fg10_44 (Fv0) (Fq7) ?_
  refine PW_if_ne 9 dX10_goBack_4 (by decide) (fun q => absurd (show nI (vu y) = 0 by rw [h0]; rfl) q) (fun _ => ?_)
  refine PW_iconst (v := 0) dX10_goBack_7 (by decide) ?_
  refine PW_ireturn rfl (rfl) dX10_goBack_8 (Nat.le_of_ble_eq_true rfl) (Nat.le_of_ble_eq_true rfl) ?_
  exact rt_i rfl
set_option maxRecDepth 100000 in
set_option maxHeartbeats 4000000 in
theorem spX10_goBack1 {G : GE} {d : Nat} {i : MI0} {S : MS} {X v : Nat} {σ : Nat → Nat} {y : Vy} (hd : 8 ≤ d) (hS : VS S X v) (hP : PV S v σ) (hR : VR i v σ y) {b : Nat} (hV : VV b y) (h0 : 0 < vu y) : Mt G iX10_goBack d [.ref v] (i, S) (Wi 1 S (fun i' => VR i' v σ (gbV y) ∧ ∀ q, (q < v ∨ v + 40 < q) → i' q = i q)) := by
  have hS' := hS
  obtain ⟨Fv0, Fv1, Fv2, Fv3, Fv4, Fvr0, Fvr1, Fvr2, Fvr3, Fvr4, Fvh, Fvp⟩ := hS
  have hR' := hR
  obtain ⟨Fq5, Fq6, Fq7, Fqh, Fqr, Fqs, Fqu⟩ := hR
  obtain ⟨Fvv, Fvb1, Fvb2, Fvb3, Fvb4, Fvb5⟩ := hV
  refine Mt_in 0 (ls := [.ref v]) moX10_goBack (Nat.le_of_ble_eq_true rfl) rfl ?_
  refine PW_aload_n (i := 0) dX10_goBack_0 rfl rfl ?_
  refine PW_giv (v := nI (vu y)) dX10_goBack_1 fg10_44 (Fv0) (Fq7) ?_
  refine PW_if_ne 9 dX10_goBack_4 (by decide) (fun _ => ?_) (fun q => absurd (jeq (b := 0) q) (by omega))
  refine PW_aload_n (i := 0) dX10_goBack_9 rfl rfl ?_
  refine PW_dup dX10_goBack_10 rfl ?_
  refine PW_giv (v := nI (vu y)) dX10_goBack_11 fg10_44 (Fv0) (Fq7) ?_
  refine PW_iconst (v := 1) dX10_goBack_14 (by decide) ?_
  refine PW_isub dX10_goBack_15 ?_
  refine PW_eqi (show nI (vu y) - 1 = nI (vu y - 1) by rw [show vu y = (vu y - 1) + 1 by omega]; exact nI_pred _) ?_
  refine PW_putI dX10_goBack_16 fr10_44 (fun h => by cases h) (Fv0) ?_
  refine PW_nm rfl (fun i1 e1 => ?_)
  have Fsu := (hP.1 (vu y - 1) (by omega)).1
  refine PW_aload_n (i := 0) dX10_goBack_19 rfl rfl ?_
  refine PW_getR dX10_goBack_20 fg10_30 (Fv0) (Fvr0) ?_
  refine PW_aload_n (i := 0) dX10_goBack_23 rfl rfl ?_
  refine PW_getR dX10_goBack_24 fg10_23 (Fv0) (Fvr4) ?_
  refine PW_aload_n (i := 0) dX10_goBack_27 rfl rfl ?_
  refine PW_giv (v := nI (vu y - 1)) dX10_goBack_28 fg10_44 (Fv0) (e1 ▸ rI_s _ _ _ _) ?_
  refine PW_aal dX10_goBack_31 (Fv4) (by decide) (by decide) (by decide) (by omega) ((hP.1 (vu y - 1) (by omega)).2) ?_
  refine PW_callV dX10_goBack_32 moX4_take cv10_47 (Fvh.1) (by omega) rfl rfl (Nat.le_of_ble_eq_true rfl) (Nat.le_of_ble_eq_true rfl) (Nat.le_of_ble_eq_true rfl) (spX4_take (d := d - 1) Fvh (Fvp _ Fsu) ((Fqu (vu y - 1) (by omega)).kp (fun q h1 h2 => by rw [e1, rI_f _ _ (by omega)]; rfl)) (Fvb5 (vu y - 1) (by omega)).1.1 (by omega)) (fun v M1 hq => ?_)
  obtain ⟨rfl, i3, rfl, p1, p2⟩ := hq
  refine PW_iconst (v := 1) dX10_goBack_35 (by decide) ?_
  refine PW_ireturn rfl (rfl) dX10_goBack_36 (Nat.le_of_ble_eq_true rfl) (Nat.le_of_ble_eq_true rfl) ?_
  refine Wi_mk rfl rfl ⟨⟨?_, ?_, ?_, p1, fun j hj => ?_, fun j hj => ?_, fun u hu => ?_⟩, fun q hq => ?_⟩
  · rw [rP, p2 v (by omega), e1, rI_k _ _ _ (by decide)]; exact Fq5
  · rw [rP, p2 v (by omega), e1, rI_k _ _ _ (by decide)]; exact Fq6
  · rw [rP, p2 v (by omega), e1, rI_s]; rfl
  · rw [rP, p2 _ (by omega), e1, rI_f _ _ (by omega)]; exact Fqr j hj
  · rw [rP, rP, p2 (v + 2) (by omega), p2 (v + 3) (by omega), e1, rI_f _ _ (by omega), rI_f _ _ (by omega)]; exact Fqs j hj
  · have hu2 : u < vu y - 1 := hu
    exact (Fqu u (by omega)).kp (fun q h1 h2 => by rw [rP_f, p2 q (by omega), e1, rI_f _ _ (by omega)]; rfl)
  · rw [rP_f, p2 q (by omega), e1, rI_f _ _ (by omega)]; rfl
theorem dgc_s (h : Hm) (x : Int64) (j : Nat) : dgc h x (j + 1) = mx (mx (mx (mx (dgc h x j) (nI (hK h j))) (nI (hT h j))) (iN (hN h j))) (b2i ((hf h).testBit j)) := rfl
set_option maxRecDepth 100000 in
set_option maxHeartbeats 4000000 in
theorem lpX10_dg3 {G : GE} {d : Nat} {i : MI0} {S : MS} {X v : Nat} {σ : Nat → Nat} {y : Vy} (hd : 8 ≤ d) (hS : VS S X v) (hP : PV S v σ) (hR : VR i v σ y) {b : Nat} (hV : VV b y) (x0 x : Int64) : ∀ (n0 j : Nat), j ≤ vs y → vs y < j + n0 → PW G iX10_digestOnto d (Rl (dgs y x (vs y)) (i, S)) 154 [.ref v, .long x0, .null, .long (dgs y x j), .null, .int (nI j)] [] (i, S) 0 0 := by
  have hS' := hS
  obtain ⟨Fv0, Fv1, Fv2, Fv3, Fv4, Fvr0, Fvr1, Fvr2, Fvr3, Fvr4, Fvh, Fvp⟩ := hS
  have hR' := hR
  obtain ⟨Fq5, Fq6, Fq7, Fqh, Fqr, Fqs, Fqu⟩ := hR
  obtain ⟨Fvv, Fvb1, Fvb2, Fvb3, Fvb4, Fvb5⟩ := hV
  intro n0
  induction n0 with
  | zero => intro j h1 h2; exact absurd h2 (by omega)
  | succ n0 ih =>
    intro j hj1 hj2 
    refine PW_iload dX10_digestOnto_154 rfl ?_
    refine PW_aload_n (i := 0) dX10_digestOnto_156 rfl rfl ?_
    refine PW_giv (v := nI (vs y)) dX10_digestOnto_157 fg10_41 (Fv0) (Fq6) ?_
    refine PW_icmp_ge 199 dX10_digestOnto_160 (by decide) (fun h160 => ?_) (fun h160 => ?_)
    · have h160 := jle h160
      have ej : j = vs y := by omega
      subst ej
      refine PW_lload_n (i := 3) dX10_digestOnto_199 rfl rfl ?_
      refine PW_lreturn rfl dX10_digestOnto_200 (Nat.le_of_ble_eq_true rfl) (Nat.le_of_ble_eq_true rfl) ?_
      exact ⟨rfl, rfl⟩
    · have h160 := jnle h160
      refine PW_ldc2 dX10_digestOnto_163 kc10_69 ?_
      refine PW_lload_n (i := 3) dX10_digestOnto_166 rfl rfl ?_
      refine PW_lmul dX10_digestOnto_167 ?_
      refine PW_aload_n (i := 0) dX10_digestOnto_168 rfl rfl ?_
      refine PW_getR dX10_digestOnto_169 fg10_15 (Fv0) (Fvr2) ?_
      refine PW_iload dX10_digestOnto_172 rfl ?_
      refine PW_ial (v := nI (vW y j)) dX10_digestOnto_174 (Fv2) (by decide) (by omega) ((Fqs j h160).1) ?_
      refine PW_i2l dX10_digestOnto_175 ?_
      refine PW_ladd dX10_digestOnto_176 ?_
      refine PW_lstore_n (i := 3) dX10_digestOnto_177 rfl (Nat.le_of_ble_eq_true rfl) rfl ?_
      refine PW_ldc2 dX10_digestOnto_178 kc10_69 ?_
      refine PW_lload_n (i := 3) dX10_digestOnto_181 rfl rfl ?_
      refine PW_lmul dX10_digestOnto_182 ?_
      refine PW_aload_n (i := 0) dX10_digestOnto_183 rfl rfl ?_
      refine PW_getR dX10_digestOnto_184 fg10_18 (Fv0) (Fvr3) ?_
      refine PW_iload dX10_digestOnto_187 rfl ?_
      refine PW_ial (v := vP y j) dX10_digestOnto_189 (Fv3) (by decide) (by omega) ((Fqs j h160).2) ?_
      refine PW_i2l dX10_digestOnto_190 ?_
      refine PW_ladd dX10_digestOnto_191 ?_
      refine PW_lstore_n (i := 3) dX10_digestOnto_192 rfl (Nat.le_of_ble_eq_true rfl) rfl ?_
      refine PW_inc1 dX10_digestOnto_193 rfl (Nat.le_of_ble_eq_true rfl) rfl ?_
      refine PW_goto 154 dX10_digestOnto_196 (by decide) ?_
      exact ih (j + 1) (by omega) (by omega)
set_option maxRecDepth 100000 in
set_option maxHeartbeats 4000000 in
theorem lpX10_dg2 {G : GE} {d : Nat} {i : MI0} {S : MS} {X v : Nat} {σ : Nat → Nat} {y : Vy} (hd : 8 ≤ d) (hS : VS S X v) (hP : PV S v σ) (hR : VR i v σ y) {b : Nat} (hV : VV b y) (x0 x : Int64) : ∀ (n0 j : Nat), j ≤ vr y → vr y < j + n0 → PW G iX10_digestOnto d (Rl (dgs y (dgr y x (vr y)) (vs y)) (i, S)) 121 [.ref v, .long x0, .null, .long (dgr y x j), .null, .int (nI j)] [] (i, S) 0 0 := by
  have hV' := hV
  have hS' := hS
  obtain ⟨Fv0, Fv1, Fv2, Fv3, Fv4, Fvr0, Fvr1, Fvr2, Fvr3, Fvr4, Fvh, Fvp⟩ := hS
  have hR' := hR
  obtain ⟨Fq5, Fq6, Fq7, Fqh, Fqr, Fqs, Fqu⟩ := hR
  obtain ⟨Fvv, Fvb1, Fvb2, Fvb3, Fvb4, Fvb5⟩ := hV
  intro n0
  induction n0 with
  | zero => intro j h1 h2; exact absurd h2 (by omega)
  | succ n0 ih =>
    intro j hj1 hj2 
    refine PW_iload dX10_digestOnto_121 rfl ?_
    refine PW_aload_n (i := 0) dX10_digestOnto_123 rfl rfl ?_
    refine PW_giv (v := nI (vr y)) dX10_digestOnto_124 fg10_37 (Fv0) (Fq5) ?_
    refine PW_icmp_ge 151 dX10_digestOnto_127 (by decide) (fun h127 => ?_) (fun h127 => ?_)
    · have h127 := jle h127
      have ej : j = vr y := by omega
      subst ej
      refine PW_iconst (v := 0) dX10_digestOnto_151 (by decide) ?_
      refine PW_istore dX10_digestOnto_152 (Nat.le_of_ble_eq_true rfl) rfl ?_
      exact lpX10_dg3 hd hS' hP hR' hV' x0 (dgr y x (vr y)) (vs y + 1) 0 (by omega) (by omega)
    · have h127 := jnle h127
      refine PW_ldc2 dX10_digestOnto_130 kc10_69 ?_
      refine PW_lload_n (i := 3) dX10_digestOnto_133 rfl rfl ?_
      refine PW_lmul dX10_digestOnto_134 ?_
      refine PW_aload_n (i := 0) dX10_digestOnto_135 rfl rfl ?_
      refine PW_getR dX10_digestOnto_136 fg10_9 (Fv0) (Fvr1) ?_
      refine PW_iload dX10_digestOnto_139 rfl ?_
      refine PW_ial (v := vR y j) dX10_digestOnto_141 (Fv1) (by decide) (by omega) (Fqr j h127) ?_
      refine PW_i2l dX10_digestOnto_142 ?_
      refine PW_ladd dX10_digestOnto_143 ?_
      refine PW_lstore_n (i := 3) dX10_digestOnto_144 rfl (Nat.le_of_ble_eq_true rfl) rfl ?_
      refine PW_inc1 dX10_digestOnto_145 rfl (Nat.le_of_ble_eq_true rfl) rfl ?_
      refine PW_goto 121 dX10_digestOnto_148 (by decide) ?_
      exact ih (j + 1) (by omega) (by omega)
set_option maxRecDepth 100000 in
set_option maxHeartbeats 4000000 in
theorem lpX10_dg1 {G : GE} {d : Nat} {i : MI0} {S : MS} {X v : Nat} {σ : Nat → Nat} {y : Vy} (hd : 8 ≤ d) (hS : VS S X v) (hP : PV S v σ) (hR : VR i v σ y) {b : Nat} (hV : VV b y) (x0 x : Int64) : ∀ (n0 j : Nat), j ≤ hn (vh y) → hn (vh y) < j + n0 → PW G iX10_digestOnto d (Rl (dgs y (dgr y (dgc (vh y) x (hn (vh y))) (vr y)) (vs y)) (i, S)) 18 [.ref v, .long x0, .null, .long (dgc (vh y) x j), .null, .int (nI j)] [] (i, S) 0 0 := by
  have hV' := hV
  have hS' := hS
  obtain ⟨Fv0, Fv1, Fv2, Fv3, Fv4, Fvr0, Fvr1, Fvr2, Fvr3, Fvr4, Fvh, Fvp⟩ := hS
  have hR' := hR
  obtain ⟨Fq5, Fq6, Fq7, Fqh, Fqr, Fqs, Fqu⟩ := hR
  obtain ⟨Fvv, Fvb1, Fvb2, Fvb3, Fvb4, Fvb5⟩ := hV
  have Fv6 := Fvv.1
  intro n0
  induction n0 with
  | zero => intro j h1 h2; exact absurd h2 (by omega)
  | succ n0 ih =>
    intro j hj1 hj2 
    refine PW_iload dX10_digestOnto_18 rfl ?_
    refine PW_aload_n (i := 0) dX10_digestOnto_20 rfl rfl ?_
    refine PW_getR dX10_digestOnto_21 fg10_30 (Fv0) (Fvr0) ?_
    refine PW_giv (v := nI (hn (vh y))) dX10_digestOnto_24 fg10_57 (Fvh.1) (Fqh.1) ?_
    refine PW_icmp_ge 118 dX10_digestOnto_27 (by decide) (fun h27 => ?_) (fun h27 => ?_)
    · have h27 := jle h27
      have ej : j = hn (vh y) := by omega
      subst ej
      refine PW_iconst (v := 0) dX10_digestOnto_118 (by decide) ?_
      refine PW_istore dX10_digestOnto_119 (Nat.le_of_ble_eq_true rfl) rfl ?_
      exact lpX10_dg2 hd hS' hP hR' hV' x0 _ (vr y + 1) 0 (by omega) (by omega)
    · have h27 := jnle h27
      have Fj := Fqh.2.2.2.2 j h27
      have Ff := hf64 Fvv
      refine PW_ldc2 dX10_digestOnto_30 kc10_69 ?_
      refine PW_lload_n (i := 3) dX10_digestOnto_33 rfl rfl ?_
      refine PW_lmul dX10_digestOnto_34 ?_
      refine PW_aload_n (i := 0) dX10_digestOnto_35 rfl rfl ?_
      refine PW_getR dX10_digestOnto_36 fg10_30 (Fv0) (Fvr0) ?_
      refine PW_getR dX10_digestOnto_39 fg10_60 (Fvh.1) (Fvh.2.2.2.2.2.1) ?_
      refine PW_iload dX10_digestOnto_42 rfl ?_
      refine PW_ial (v := nI (hK (vh y) j)) dX10_digestOnto_44 (Fvh.2.1) (by decide) (by omega) (Fj.1) ?_
      refine PW_i2l dX10_digestOnto_45 ?_
      refine PW_ladd dX10_digestOnto_46 ?_
      refine PW_lstore_n (i := 3) dX10_digestOnto_47 rfl (Nat.le_of_ble_eq_true rfl) rfl ?_
      refine PW_ldc2 dX10_digestOnto_48 kc10_69 ?_
      refine PW_lload_n (i := 3) dX10_digestOnto_51 rfl rfl ?_
      refine PW_lmul dX10_digestOnto_52 ?_
      refine PW_aload_n (i := 0) dX10_digestOnto_53 rfl rfl ?_
      refine PW_getR dX10_digestOnto_54 fg10_30 (Fv0) (Fvr0) ?_
      refine PW_getR dX10_digestOnto_57 fg10_63 (Fvh.1) (Fvh.2.2.2.2.2.2.1) ?_
      refine PW_iload dX10_digestOnto_60 rfl ?_
      refine PW_ial (v := nI (hT (vh y) j)) dX10_digestOnto_62 (Fvh.2.2.1) (by decide) (by omega) (Fj.2.1) ?_
      refine PW_i2l dX10_digestOnto_63 ?_
      refine PW_ladd dX10_digestOnto_64 ?_
      refine PW_lstore_n (i := 3) dX10_digestOnto_65 rfl (Nat.le_of_ble_eq_true rfl) rfl ?_
      refine PW_ldc2 dX10_digestOnto_66 kc10_69 ?_
      refine PW_lload_n (i := 3) dX10_digestOnto_69 rfl rfl ?_
      refine PW_lmul dX10_digestOnto_70 ?_
      refine PW_aload_n (i := 0) dX10_digestOnto_71 rfl rfl ?_
      refine PW_getR dX10_digestOnto_72 fg10_30 (Fv0) (Fvr0) ?_
      refine PW_getR dX10_digestOnto_75 fg10_66 (Fvh.1) (Fvh.2.2.2.2.2.2.2) ?_
      refine PW_iload dX10_digestOnto_78 rfl ?_
      refine PW_ial (v := iN (hN (vh y) j)) dX10_digestOnto_80 (Fvh.2.2.2.1) (by decide) (by omega) (Fj.2.2) ?_
      refine PW_i2l dX10_digestOnto_81 ?_
      refine PW_ladd dX10_digestOnto_82 ?_
      refine PW_lstore_n (i := 3) dX10_digestOnto_83 rfl (Nat.le_of_ble_eq_true rfl) rfl ?_
      refine PW_ldc2 dX10_digestOnto_84 kc10_69 ?_
      refine PW_lload_n (i := 3) dX10_digestOnto_87 rfl rfl ?_
      refine PW_lmul dX10_digestOnto_88 ?_
      refine PW_aload_n (i := 0) dX10_digestOnto_89 rfl rfl ?_
      refine PW_getR dX10_digestOnto_90 fg10_30 (Fv0) (Fvr0) ?_
      refine PW_giv (v := nI (hf (vh y))) dX10_digestOnto_93 fg10_74 (Fvh.1) (Fqh.2.2.2.1) ?_
      refine PW_iload dX10_digestOnto_96 rfl ?_
      refine PW_callSN dX10_digestOnto_98 moX11_holds cs10_77 (by omega) rfl rfl (Nat.le_of_ble_eq_true rfl) (Nat.le_of_ble_eq_true rfl) (Nat.le_of_ble_eq_true rfl) (spX11_holds (d := d - 1) _ _) (fun v M1 hq => ?_)
      obtain ⟨rfl, rfl⟩ := hq
      rw [hold_b (by omega) (by omega)]
      refine PW_if_eq 108 dX10_digestOnto_101 (by decide) (fun h101 => ?_) (fun h101 => ?_)
      · have h101 := b2i_0.mp h101
        refine PW_iconst (v := 0) dX10_digestOnto_108 (by decide) ?_
        refine PW_i2l dX10_digestOnto_109 ?_
        refine PW_ladd dX10_digestOnto_110 ?_
        refine PW_lstore_n (i := 3) dX10_digestOnto_111 rfl (Nat.le_of_ble_eq_true rfl) rfl ?_
        refine PW_inc1 dX10_digestOnto_112 rfl (Nat.le_of_ble_eq_true rfl) rfl ?_
        refine PW_goto 18 dX10_digestOnto_115 (by decide) ?_
        have q := ih (j + 1) (by omega) (by omega)
        rw [dgc_s, h101] at q
        exact q
      · have h101 := b2i_n.mp h101
        refine PW_iconst (v := 1) dX10_digestOnto_104 (by decide) ?_
        refine PW_goto 109 dX10_digestOnto_105 (by decide) ?_
        refine PW_i2l dX10_digestOnto_109 ?_
        refine PW_ladd dX10_digestOnto_110 ?_
        refine PW_lstore_n (i := 3) dX10_digestOnto_111 rfl (Nat.le_of_ble_eq_true rfl) rfl ?_
        refine PW_inc1 dX10_digestOnto_112 rfl (Nat.le_of_ble_eq_true rfl) rfl ?_
        refine PW_goto 18 dX10_digestOnto_115 (by decide) ?_
        have q := ih (j + 1) (by omega) (by omega)
        rw [dgc_s, h101] at q
        exact q
set_option maxRecDepth 100000 in
set_option maxHeartbeats 4000000 in
theorem spX10_digestOnto {G : GE} {d : Nat} {i : MI0} {S : MS} {X v : Nat} {σ : Nat → Nat} {y : Vy} (hd : 8 ≤ d) (hS : VS S X v) (hP : PV S v σ) (hR : VR i v σ y) {b : Nat} (hV : VV b y) (x0 : Int64) : Mt G iX10_digestOnto d [.ref v, .long x0] (i, S) (Rl (dgV y x0) (i, S)) := by
  have hV' := hV
  have hS' := hS
  obtain ⟨Fv0, Fv1, Fv2, Fv3, Fv4, Fvr0, Fvr1, Fvr2, Fvr3, Fvr4, Fvh, Fvp⟩ := hS
  have hR' := hR
  obtain ⟨Fq5, Fq6, Fq7, Fqh, Fqr, Fqs, Fqu⟩ := hR
  refine Mt_in 3 (ls := [.ref v, .long x0, .null, .null, .null, .null]) moX10_digestOnto (Nat.le_of_ble_eq_true rfl) rfl ?_
  refine PW_ldc2 dX10_digestOnto_0 kc10_69 ?_
  refine PW_lload_n (i := 1) dX10_digestOnto_3 rfl rfl ?_
  refine PW_lmul dX10_digestOnto_4 ?_
  refine PW_aload_n (i := 0) dX10_digestOnto_5 rfl rfl ?_
  refine PW_getR dX10_digestOnto_6 fg10_30 (Fv0) (Fvr0) ?_
  refine PW_giv (v := iN (hp (vh y))) dX10_digestOnto_9 fg10_71 (Fvh.1) (Fqh.2.1) ?_
  refine PW_i2l dX10_digestOnto_12 ?_
  refine PW_ladd dX10_digestOnto_13 ?_
  refine PW_lstore_n (i := 3) dX10_digestOnto_14 rfl (Nat.le_of_ble_eq_true rfl) rfl ?_
  refine PW_iconst (v := 0) dX10_digestOnto_15 (by decide) ?_
  refine PW_istore dX10_digestOnto_16 (Nat.le_of_ble_eq_true rfl) rfl ?_
  exact lpX10_dg1 hd hS' hP hR' hV' x0 (mx x0 (iN (hp (vh y)))) (hn (vh y) + 1) 0 (by omega) (by omega)

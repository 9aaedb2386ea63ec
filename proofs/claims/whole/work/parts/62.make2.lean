/-! ===== making: helms in rows ===== -/
theorem PW_nn {G : GE} {I : MI} {d : Nat} {Post : Option Value → Mm → Prop} {pc : Nat} {ls st : List Value} {M : Mm} {nc ns nc' ns' : Nat} (e1 : nc = nc') (e2 : ns = ns') (k : PW G I d Post pc ls st M nc' ns') : PW G I d Post pc ls st M nc ns := by
  subst e1; subst e2; exact k
set_option maxRecDepth 100000 in
set_option maxHeartbeats 4000000 in
theorem lpX10_init {G : GE} {d : Nat} {X v : Nat} {M0 : Mm} (hto : mt M0 v = (10, 0)) (hta : mt M0 (v + 4) = (15, 8)) (hra : mr M0 v 4 = some (v + 4)) (hd : 1 ≤ d) {Post : Option Value → Mm → Prop} (hp : ∀ M1, LG M0 (v + 4) (v + 9) X 8 M1 → Post none M1) : ∀ (n0 j : Nat), j ≤ 8 → 8 < j + n0 → ∀ (M1 : Mm), LG M0 (v + 4) (v + 9) X j M1 → PW G iX10_init d (Post) 51 [.ref v, .ref (X + 1), .int (nI j)] [] (M1) (8 + 4 * j) (52 + 26 * j) := by
  intro n0
  induction n0 with
  | zero => intro j h1 h2; exact absurd h2 (by omega)
  | succ n0 ih =>
    intro j hj1 hj2 M1 hL
    refine PW_iload_n (i := 2) dX10_init_51 rfl rfl ?_
    refine PW_bipush (v := 8) dX10_init_52 (by decide) ?_
    refine PW_icmp_ge 77 dX10_init_54 (by decide) (fun h54 => ?_) (fun h54 => ?_)
    · have h54 := jle (a := 8) h54
      have ej : j = 8 := by omega
      subst ej
      refine PW_return rfl dX10_init_77 (Nat.le_of_ble_eq_true rfl) (Nat.le_of_ble_eq_true rfl) ?_
      exact hp _ hL
    · have h54 := jnle (a := 8) h54
      refine PW_aload_n (i := 0) dX10_init_57 rfl rfl ?_
      refine PW_getR dX10_init_58 fg10_23 ((hL.2.1 v (by omega)).1.trans hto) ((congrFun ((hL.2.1 v (by omega)).2.2.2 (by omega)) 4).trans hra) ?_
      refine PW_iload_n (i := 2) dX10_init_61 rfl rfl ?_
      refine PW_newA (a := v + 9 + 4 * j) dX10_init_62 nr10_21 (hL.1) (by first | (show 8 + 4 * j + 1 ≤ 40; omega) | (show 52 + 26 * j + 8 ≤ 260; omega)) (by first | (show 8 + 4 * j + 1 ≤ 40; omega) | (show 52 + 26 * j + 8 ≤ 260; omega)) ?_
      refine PW_dup dX10_init_65 rfl ?_
      refine PW_aload_n (i := 1) dX10_init_66 rfl rfl ?_
      refine PW_callI dX10_init_67 moX4_init ct10_27 (by omega) rfl rfl (Nat.le_of_ble_eq_true rfl) (by first | (show 8 + 4 * j + 1 + 3 ≤ 40; omega) | (show 52 + 26 * j + 8 + 18 ≤ 260; omega)) (by first | (show 8 + 4 * j + 1 + 3 ≤ 40; omega) | (show 52 + 26 * j + 8 + 18 ≤ 260; omega)) (spX4_init (d := d - 1) (X := X) (a := v + 9 + 4 * j) rfl (tNs _ _ _)) (fun v0 M3 hq => ?_)
      obtain ⟨rfl, hG, hH⟩ := hq
      refine PW_aas dX10_init_70 (((hG.2.1 (v + 4) (by show _ < v + 9 + 4 * j + 1; omega)).1.trans (tNn _ _ (by omega))).trans ((hL.2.1 (v + 4) (by omega)).1.trans hta)) (by decide) (by decide) (by decide) (by omega) (hH.1) eo15_4 ?_
      refine PW_inc1 dX10_init_71 rfl (Nat.le_of_ble_eq_true rfl) rfl ?_
      refine PW_goto 51 dX10_init_74 (by decide) ?_
      refine PW_nn (nc' := 8 + 4 * (j + 1)) (ns' := 52 + 26 * (j + 1)) (by show 8 + 4 * j + 1 + 3 = _; omega) (by show 52 + 26 * j + 8 + 18 = _; omega) ?_
      exact ih (j + 1) (by omega) (by omega) _ (LG_s hL rfl (by omega) hG hH)
set_option maxRecDepth 100000 in
set_option maxHeartbeats 4000000 in
theorem lpX6_init {G : GE} {d : Nat} {X p : Nat} {M0 : Mm} (hto : mt M0 p = (6, 0)) (hta : mt M0 (p + 1) = (15, 5)) (hra : mr M0 p 0 = some (p + 1)) (hd : 1 ≤ d) {Post : Option Value → Mm → Prop} (hp : ∀ M1, LG M0 (p + 1) (p + 4) X 5 M1 → Post none M1) : ∀ (n0 j : Nat), j ≤ 5 → 5 < j + n0 → ∀ (M1 : Mm), LG M0 (p + 1) (p + 4) X j M1 → PW G iX6_init d (Post) 28 [.ref p, .ref (X + 1), .int (nI j)] [] (M1) (3 + 4 * j) (13 + 26 * j) := by
  intro n0
  induction n0 with
  | zero => intro j h1 h2; exact absurd h2 (by omega)
  | succ n0 ih =>
    intro j hj1 hj2 M1 hL
    refine PW_iload_n (i := 2) dX6_init_28 rfl rfl ?_
    refine PW_iconst (v := 4) dX6_init_29 (by decide) ?_
    refine PW_icmp_gt 53 dX6_init_30 (by decide) (fun h30 => ?_) (fun h30 => ?_)
    · have h30 := jlt (a := 4) h30
      have ej : j = 5 := by omega
      subst ej
      refine PW_return rfl dX6_init_53 (Nat.le_of_ble_eq_true rfl) (Nat.le_of_ble_eq_true rfl) ?_
      exact hp _ hL
    · have h30 := jnlt (a := 4) h30
      refine PW_aload_n (i := 0) dX6_init_33 rfl rfl ?_
      refine PW_getR dX6_init_34 fg6_11 ((hL.2.1 p (by omega)).1.trans hto) ((congrFun ((hL.2.1 p (by omega)).2.2.2 (by omega)) 0).trans hra) ?_
      refine PW_iload_n (i := 2) dX6_init_37 rfl rfl ?_
      refine PW_newA (a := p + 4 + 4 * j) dX6_init_38 nr6_9 (hL.1) (by first | (show 3 + 4 * j + 1 ≤ 23; omega) | (show 13 + 26 * j + 8 ≤ 143; omega)) (by first | (show 3 + 4 * j + 1 ≤ 23; omega) | (show 13 + 26 * j + 8 ≤ 143; omega)) ?_
      refine PW_dup dX6_init_41 rfl ?_
      refine PW_aload_n (i := 1) dX6_init_42 rfl rfl ?_
      refine PW_callI dX6_init_43 moX4_init ct6_24 (by omega) rfl rfl (Nat.le_of_ble_eq_true rfl) (by first | (show 3 + 4 * j + 1 + 3 ≤ 23; omega) | (show 13 + 26 * j + 8 + 18 ≤ 143; omega)) (by first | (show 3 + 4 * j + 1 + 3 ≤ 23; omega) | (show 13 + 26 * j + 8 + 18 ≤ 143; omega)) (spX4_init (d := d - 1) (X := X) (a := p + 4 + 4 * j) rfl (tNs _ _ _)) (fun v0 M3 hq => ?_)
      obtain ⟨rfl, hG, hH⟩ := hq
      refine PW_aas dX6_init_46 (((hG.2.1 (p + 1) (by show _ < p + 4 + 4 * j + 1; omega)).1.trans (tNn _ _ (by omega))).trans ((hL.2.1 (p + 1) (by omega)).1.trans hta)) (by decide) (by decide) (by decide) (by omega) (hH.1) eo15_4 ?_
      refine PW_inc1 dX6_init_47 rfl (Nat.le_of_ble_eq_true rfl) rfl ?_
      refine PW_goto 28 dX6_init_50 (by decide) ?_
      refine PW_nn (nc' := 3 + 4 * (j + 1)) (ns' := 13 + 26 * (j + 1)) (by show 3 + 4 * j + 1 + 3 = _; omega) (by show 13 + 26 * j + 8 + 18 = _; omega) ?_
      exact ih (j + 1) (by omega) (by omega) _ (LG_s hL rfl (by omega) hG hH)

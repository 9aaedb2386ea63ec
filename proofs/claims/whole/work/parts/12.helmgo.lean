/-! ===== Helm: begin, take, go ===== -/
set_option maxRecDepth 100000 in
set_option maxHeartbeats 4000000 in
theorem spX4_begin {G : GE} {d : Nat} {i : MI0} {S : MS} {a : Nat} (Ft0 : sT S a = (4, 0)) : Mt G iX4_begin d [.ref a] (i, S) (Wr S (fun i' => i' a 4 = 0 ∧ i' a 5 = 0 ∧ i' a 6 = 0 ∧ i' a 7 = 0 ∧ ∀ q, q ≠ a → i' q = i q)) := by
  refine Mt_in 0 (ls := [.ref a]) moX4_begin (Nat.le_of_ble_eq_true rfl) rfl ?_
  refine PW_aload_n (i := 0) dX4_begin_0 rfl rfl ?_
  refine PW_iconst (v := 0) dX4_begin_1 (by decide) ?_
  refine PW_putI dX4_begin_2 fr4_25 (fun h => by cases h) (Ft0) ?_
  refine PW_aload_n (i := 0) dX4_begin_5 rfl rfl ?_
  refine PW_iconst (v := 0) dX4_begin_6 (by decide) ?_
  refine PW_putI dX4_begin_7 fr4_29 (fun h => by cases h) (Ft0) ?_
  refine PW_aload_n (i := 0) dX4_begin_10 rfl rfl ?_
  refine PW_iconst (v := 0) dX4_begin_11 (by decide) ?_
  refine PW_putI dX4_begin_12 fr4_32 (fun h => by cases h) (Ft0) ?_
  refine PW_aload_n (i := 0) dX4_begin_15 rfl rfl ?_
  refine PW_iconst (v := 0) dX4_begin_16 (by decide) ?_
  refine PW_putI dX4_begin_17 fr4_35 (fun h => by cases h) (Ft0) ?_
  refine PW_return rfl dX4_begin_20 (Nat.le_of_ble_eq_true rfl) (Nat.le_of_ble_eq_true rfl) ?_
  refine Wr_mk rfl ⟨?_, ?_, ?_, ?_, ?_⟩
  · simp only [rI_s, rI_k _ _ _ (show (4 : Nat) ≠ 5 by decide), rI_k _ _ _ (show (4 : Nat) ≠ 6 by decide), rI_k _ _ _ (show (4 : Nat) ≠ 7 by decide)]
  · simp only [rI_s, rI_k _ _ _ (show (5 : Nat) ≠ 6 by decide), rI_k _ _ _ (show (5 : Nat) ≠ 7 by decide)]
  · simp only [rI_s, rI_k _ _ _ (show (6 : Nat) ≠ 7 by decide)]
  · simp only [rI_s]
  · intro q hq; funext k; simp only [rI_a _ _ _ hq]; rfl
set_option maxRecDepth 100000 in
set_option maxHeartbeats 4000000 in
theorem spX4_take {G : GE} {d : Nat} {i : MI0} {S : MS} {X Y a c : Nat} {h : Hm} (hS : HS S X a) (hS2 : HS S Y c) (hR : HR i c h) (h6 : hn h ≤ 6) (hac : a + 4 ≤ c ∨ c + 4 ≤ a) : Mt G iX4_take d [.ref a, .ref c] (i, S) (Wr S (fun i' => HR i' a h ∧ ∀ q, (q < a ∨ a + 3 < q) → i' q = i q)) := by
  obtain ⟨Ft0, Ft1, Ft2, Ft3, Fr0, Fr1, Fr2, Fr3⟩ := hS
  obtain ⟨Fu0, Fu1, Fu2, Fu3, Fs0, Fs1, Fs2, Fs3⟩ := hS2
  obtain ⟨Fg4, Fg5, Fg6, Fg7, Fgj⟩ := hR
  refine Mt_in 0 (ls := [.ref a, .ref c]) moX4_take (Nat.le_of_ble_eq_true rfl) rfl ?_
  refine PW_aload_n (i := 1) dX4_take_0 rfl rfl ?_
  refine PW_getR dX4_take_1 fg4_9 (Fu0) (Fs1) ?_
  refine PW_iconst (v := 0) dX4_take_4 (by decide) ?_
  refine PW_aload_n (i := 0) dX4_take_5 rfl rfl ?_
  refine PW_getR dX4_take_6 fg4_9 (Ft0) (Fr1) ?_
  refine PW_iconst (v := 0) dX4_take_9 (by decide) ?_
  refine PW_bipush (v := 6) dX4_take_10 (by decide) ?_
  refine PW_copy dX4_take_12 ac4_38 acw (Fu1) (Ft1) (by decide) (Nat.le_of_ble_eq_true rfl) (Nat.le_of_ble_eq_true rfl) (Nat.le_of_ble_eq_true rfl) ?_
  refine PW_aload_n (i := 1) dX4_take_15 rfl rfl ?_
  refine PW_getR dX4_take_16 fg4_15 (Fu0) (Fs2) ?_
  refine PW_iconst (v := 0) dX4_take_19 (by decide) ?_
  refine PW_aload_n (i := 0) dX4_take_20 rfl rfl ?_
  refine PW_getR dX4_take_21 fg4_15 (Ft0) (Fr2) ?_
  refine PW_iconst (v := 0) dX4_take_24 (by decide) ?_
  refine PW_bipush (v := 6) dX4_take_25 (by decide) ?_
  refine PW_copy dX4_take_27 ac4_38 acw (Fu2) (Ft2) (by decide) (Nat.le_of_ble_eq_true rfl) (Nat.le_of_ble_eq_true rfl) (Nat.le_of_ble_eq_true rfl) ?_
  refine PW_aload_n (i := 1) dX4_take_30 rfl rfl ?_
  refine PW_getR dX4_take_31 fg4_18 (Fu0) (Fs3) ?_
  refine PW_iconst (v := 0) dX4_take_34 (by decide) ?_
  refine PW_aload_n (i := 0) dX4_take_35 rfl rfl ?_
  refine PW_getR dX4_take_36 fg4_18 (Ft0) (Fr3) ?_
  refine PW_iconst (v := 0) dX4_take_39 (by decide) ?_
  refine PW_bipush (v := 6) dX4_take_40 (by decide) ?_
  refine PW_copy dX4_take_42 ac4_38 acw (Fu3) (Ft3) (by decide) (Nat.le_of_ble_eq_true rfl) (Nat.le_of_ble_eq_true rfl) (Nat.le_of_ble_eq_true rfl) ?_
  refine PW_aload_n (i := 0) dX4_take_45 rfl rfl ?_
  refine PW_aload_n (i := 1) dX4_take_46 rfl rfl ?_
  refine PW_getI dX4_take_47 fg4_25 (Fu0) ?_
  refine PW_putI dX4_take_50 fr4_25 (fun h => by cases h) (Ft0) ?_
  refine PW_aload_n (i := 0) dX4_take_53 rfl rfl ?_
  refine PW_aload_n (i := 1) dX4_take_54 rfl rfl ?_
  refine PW_getI dX4_take_55 fg4_29 (Fu0) ?_
  refine PW_putI dX4_take_58 fr4_29 (fun h => by cases h) (Ft0) ?_
  refine PW_aload_n (i := 0) dX4_take_61 rfl rfl ?_
  refine PW_aload_n (i := 1) dX4_take_62 rfl rfl ?_
  refine PW_getI dX4_take_63 fg4_32 (Fu0) ?_
  refine PW_putI dX4_take_66 fr4_32 (fun h => by cases h) (Ft0) ?_
  refine PW_aload_n (i := 0) dX4_take_69 rfl rfl ?_
  refine PW_aload_n (i := 1) dX4_take_70 rfl rfl ?_
  refine PW_getI dX4_take_71 fg4_35 (Fu0) ?_
  refine PW_putI dX4_take_74 fr4_35 (fun h => by cases h) (Ft0) ?_
  refine PW_return rfl dX4_take_77 (Nat.le_of_ble_eq_true rfl) (Nat.le_of_ble_eq_true rfl) ?_
  refine Wr_mk rfl ⟨⟨?_, ?_, ?_, ?_, fun j hj => ⟨?_, ?_, ?_⟩⟩, fun q hq => ?_⟩
  · simp (disch := omega) only [rI_s, rI_k, rI_a, rA_s, rA_n, c6, cpy0, rP]; exact Fg4
  · simp (disch := omega) only [rI_s, rI_k, rI_a, rA_s, rA_n, c6, cpy0, rP]; exact Fg5
  · simp (disch := omega) only [rI_s, rI_k, rI_a, rA_s, rA_n, c6, cpy0, rP]; exact Fg6
  · simp (disch := omega) only [rI_s, rI_k, rI_a, rA_s, rA_n, c6, cpy0, rP]; exact Fg7
  · simp (disch := omega) only [rI_s, rI_k, rI_a, rA_s, rA_n, c6, cpy0, rP]; exact (Fgj j hj).1
  · simp (disch := omega) only [rI_s, rI_k, rI_a, rA_s, rA_n, c6, cpy0, rP]; exact (Fgj j hj).2.1
  · simp (disch := omega) only [rI_s, rI_k, rI_a, rA_s, rA_n, c6, cpy0, rP]; exact (Fgj j hj).2.2
  · funext k; simp (disch := omega) only [rI_a, rA_n, rP]
set_option maxRecDepth 100000 in
set_option maxHeartbeats 4000000 in
theorem lpX4_go {G : GE} {d : Nat} {i : MI0} {S : MS} {X a b : Nat} {h : Hm} (hd : 4 ≤ d) (hK0 : KS S X) (hS : HS S X a) (hR : HR i a h) (hV : HV b h) (hb : b ≤ 1000) {w : Nat} (hw9 : w ≤ hn h) : ∀ (n0 j : Nat), j ≤ hn h → hn h < j + n0 → ∀ (i' : MI0), GI i i' a h w j → PW G iX4_go d (Wr S (fun i' => HR i' a (goH h w) ∧ ∀ q, q ≠ a → q ≠ a + 2 → i' q = i q)) 2 [.ref a, .int (pI w), .int (nI j)] [] (i', S) 0 0 := by
  have hK0' := hK0
  have hS' := hS
  have hR' := hR
  have hV' := hV
  obtain ⟨Fk0, Fkr, Fkp⟩ := hK0
  obtain ⟨Ft0, Ft1, Ft2, Ft3, Fr0, Fr1, Fr2, Fr3⟩ := hS
  obtain ⟨Fg4, Fg5, Fg6, Fg7, Fgj⟩ := hR
  obtain ⟨Fv1, Fv2, Fv3, Fv4, Fv5, Fv6⟩ := hV
  intro n0
  induction n0 with
  | zero => intro j h1 h2; exact absurd h2 (by omega)
  | succ n0 ih =>
    intro j hj1 hj2 i' gi
    refine PW_iload_n (i := 2) dX4_go_2 rfl rfl ?_
    refine PW_aload_n (i := 0) dX4_go_3 rfl rfl ?_
    refine PW_giv (v := nI (hn h)) dX4_go_4 fg4_25 (Ft0) ((gi.2.1 4 (by decide)).trans Fg4) ?_
    refine PW_icmp_ge 89 dX4_go_7 (by decide) (fun h7 => ?_) (fun h7 => ?_)
    · have h7 := jle h7
      have ej : j = hn h := by omega
      subst ej
      refine PW_aload_n (i := 0) dX4_go_89 rfl rfl ?_
      refine PW_iconst (v := 0) dX4_go_90 (by decide) ?_
      refine PW_putI dX4_go_91 fr4_35 (fun h => by cases h) (Ft0) ?_
      refine PW_aload_n (i := 0) dX4_go_94 rfl rfl ?_
      refine PW_dup dX4_go_95 rfl ?_
      refine PW_giv (v := nI (hw h)) dX4_go_96 fg4_32 (Ft0) ((rI_k _ _ _ (by decide)).trans ((gi.2.1 6 (by decide)).trans Fg6)) ?_
      refine PW_iconst (v := 1) dX4_go_99 (by decide) ?_
      refine PW_iadd dX4_go_100 ?_
      refine PW_eqi (nI_1 _) ?_
      refine PW_putI dX4_go_101 fr4_32 (fun h => by cases h) (Ft0) ?_
      refine PW_return rfl dX4_go_104 (Nat.le_of_ble_eq_true rfl) (Nat.le_of_ble_eq_true rfl) ?_
      have q := GI_end (S := S) (z := 0) hR' hw9 gi rfl rfl
      exact Wr_mk rfl q
    · have h7 := jnle h7
      refine PW_iload_n (i := 2) dX4_go_10 rfl rfl ?_
      refine PW_iload_n (i := 1) dX4_go_11 rfl rfl ?_
      refine PW_icmp_ne 51 dX4_go_12 (by decide) (fun h12 => ?_) (fun h12 => ?_)
      · refine PW_aload_n (i := 0) dX4_go_51 rfl rfl ?_
        refine PW_getR dX4_go_52 fg4_15 (Ft0) (Fr2) ?_
        refine PW_iload_n (i := 2) dX4_go_55 rfl rfl ?_
        refine PW_bipush (v := 99) dX4_go_56 (by decide) ?_
        refine PW_aload_n (i := 0) dX4_go_58 rfl rfl ?_
        refine PW_getR dX4_go_59 fg4_15 (Ft0) (Fr2) ?_
        refine PW_iload_n (i := 2) dX4_go_62 rfl rfl ?_
        refine PW_ial (v := nI (hT h j)) dX4_go_63 (Ft2) (by decide) (by omega) ((gi.2.2.2.2 j (by omega)).trans (Fgj j h7).2.1) ?_
        refine PW_aload_n (i := 0) dX4_go_64 rfl rfl ?_
        refine PW_getR dX4_go_65 fg4_21 (Ft0) (Fr0) ?_
        refine PW_aload_n (i := 0) dX4_go_68 rfl rfl ?_
        refine PW_getR dX4_go_69 fg4_9 (Ft0) (Fr1) ?_
        refine PW_iload_n (i := 2) dX4_go_72 rfl rfl ?_
        refine PW_ial (v := nI (hK h j)) dX4_go_73 (Ft1) (by decide) (by omega) ((congrFun (gi.1 (a + 1) (by omega) (by omega)) j).trans (Fgj j h7).1) ?_
        have h6 := Fv6 j h7
        rcases (by omega : hK h j = 0 ∨ hK h j = 1 ∨ hK h j = 2 ∨ hK h j = 3 ∨ hK h j = 4 ∨ hK h j = 5) with hk | hk | hk | hk | hk | hk
        · rw [hk]
          refine PW_aal dX4_go_74 (Fk0) (by decide) (by decide) (by decide) (by decide) (Fkr.1) ?_
          refine PW_callU dX4_go_75 moX7_tires cu4_64_7 (Fkp.1) (by omega) rfl rfl (Nat.le_of_ble_eq_true rfl) (Nat.le_of_ble_eq_true rfl) (Nat.le_of_ble_eq_true rfl) (spX7_tires (d := d - 1)) (fun v M1 hq => ?_)
          obtain ⟨rfl, rfl⟩ := hq
          refine PW_iadd dX4_go_78 ?_
          refine PW_eqi (nI_add _ 1) ?_
          refine PW_min dX4_go_79 mm4_68 mw_min (Nat.le_of_ble_eq_true rfl) (Nat.le_of_ble_eq_true rfl) (Nat.le_of_ble_eq_true rfl) ?_
          refine PW_eqi (min99 (by omega)) ?_
          refine PW_ias dX4_go_82 (Ft2) (by decide) (by omega) ?_
          refine PW_inc1 dX4_go_83 rfl (Nat.le_of_ble_eq_true rfl) rfl ?_
          refine PW_goto 2 dX4_go_86 (by decide) ?_
          exact ih (j + 1) (by omega) (by omega) _ (GI_ne gi (by have := fun q => h12 ((pI_eq (by omega) (by omega)).mpr q); exact this) (by rw [hk]; rfl))
        · rw [hk]
          refine PW_aal dX4_go_74 (Fk0) (by decide) (by decide) (by decide) (by decide) (Fkr.2.1) ?_
          refine PW_callU dX4_go_75 moX7_tires cu4_64_1 (Fkp.2.1) (by omega) rfl rfl (Nat.le_of_ble_eq_true rfl) (Nat.le_of_ble_eq_true rfl) (Nat.le_of_ble_eq_true rfl) (spX7_tires (d := d - 1)) (fun v M1 hq => ?_)
          obtain ⟨rfl, rfl⟩ := hq
          refine PW_iadd dX4_go_78 ?_
          refine PW_eqi (nI_add _ 1) ?_
          refine PW_min dX4_go_79 mm4_68 mw_min (Nat.le_of_ble_eq_true rfl) (Nat.le_of_ble_eq_true rfl) (Nat.le_of_ble_eq_true rfl) ?_
          refine PW_eqi (min99 (by omega)) ?_
          refine PW_ias dX4_go_82 (Ft2) (by decide) (by omega) ?_
          refine PW_inc1 dX4_go_83 rfl (Nat.le_of_ble_eq_true rfl) rfl ?_
          refine PW_goto 2 dX4_go_86 (by decide) ?_
          exact ih (j + 1) (by omega) (by omega) _ (GI_ne gi (by have := fun q => h12 ((pI_eq (by omega) (by omega)).mpr q); exact this) (by rw [hk]; rfl))
        · rw [hk]
          refine PW_aal dX4_go_74 (Fk0) (by decide) (by decide) (by decide) (by decide) (Fkr.2.2.1) ?_
          refine PW_callU dX4_go_75 moX8_tires cu4_64_8 (Fkp.2.2.1) (by omega) rfl rfl (Nat.le_of_ble_eq_true rfl) (Nat.le_of_ble_eq_true rfl) (Nat.le_of_ble_eq_true rfl) (spX8_tires (d := d - 1) (by omega) (ci := 8) ⟨_, rfl, by decide⟩ (Fkp.2.2.1)) (fun v M1 hq => ?_)
          obtain ⟨rfl, rfl⟩ := hq
          refine PW_iadd dX4_go_78 ?_
          refine PW_eqi (nI_add _ 2) ?_
          refine PW_min dX4_go_79 mm4_68 mw_min (Nat.le_of_ble_eq_true rfl) (Nat.le_of_ble_eq_true rfl) (Nat.le_of_ble_eq_true rfl) ?_
          refine PW_eqi (min99 (by omega)) ?_
          refine PW_ias dX4_go_82 (Ft2) (by decide) (by omega) ?_
          refine PW_inc1 dX4_go_83 rfl (Nat.le_of_ble_eq_true rfl) rfl ?_
          refine PW_goto 2 dX4_go_86 (by decide) ?_
          exact ih (j + 1) (by omega) (by omega) _ (GI_ne gi (by have := fun q => h12 ((pI_eq (by omega) (by omega)).mpr q); exact this) (by rw [hk]; rfl))
        · rw [hk]
          refine PW_aal dX4_go_74 (Fk0) (by decide) (by decide) (by decide) (by decide) (Fkr.2.2.2.1) ?_
          refine PW_callU dX4_go_75 moX7_tires cu4_64_2 (Fkp.2.2.2.1) (by omega) rfl rfl (Nat.le_of_ble_eq_true rfl) (Nat.le_of_ble_eq_true rfl) (Nat.le_of_ble_eq_true rfl) (spX7_tires (d := d - 1)) (fun v M1 hq => ?_)
          obtain ⟨rfl, rfl⟩ := hq
          refine PW_iadd dX4_go_78 ?_
          refine PW_eqi (nI_add _ 1) ?_
          refine PW_min dX4_go_79 mm4_68 mw_min (Nat.le_of_ble_eq_true rfl) (Nat.le_of_ble_eq_true rfl) (Nat.le_of_ble_eq_true rfl) ?_
          refine PW_eqi (min99 (by omega)) ?_
          refine PW_ias dX4_go_82 (Ft2) (by decide) (by omega) ?_
          refine PW_inc1 dX4_go_83 rfl (Nat.le_of_ble_eq_true rfl) rfl ?_
          refine PW_goto 2 dX4_go_86 (by decide) ?_
          exact ih (j + 1) (by omega) (by omega) _ (GI_ne gi (by have := fun q => h12 ((pI_eq (by omega) (by omega)).mpr q); exact this) (by rw [hk]; rfl))
        · rw [hk]
          refine PW_aal dX4_go_74 (Fk0) (by decide) (by decide) (by decide) (by decide) (Fkr.2.2.2.2.1) ?_
          refine PW_callU dX4_go_75 moX7_tires cu4_64_5 (Fkp.2.2.2.2.1) (by omega) rfl rfl (Nat.le_of_ble_eq_true rfl) (Nat.le_of_ble_eq_true rfl) (Nat.le_of_ble_eq_true rfl) (spX7_tires (d := d - 1)) (fun v M1 hq => ?_)
          obtain ⟨rfl, rfl⟩ := hq
          refine PW_iadd dX4_go_78 ?_
          refine PW_eqi (nI_add _ 1) ?_
          refine PW_min dX4_go_79 mm4_68 mw_min (Nat.le_of_ble_eq_true rfl) (Nat.le_of_ble_eq_true rfl) (Nat.le_of_ble_eq_true rfl) ?_
          refine PW_eqi (min99 (by omega)) ?_
          refine PW_ias dX4_go_82 (Ft2) (by decide) (by omega) ?_
          refine PW_inc1 dX4_go_83 rfl (Nat.le_of_ble_eq_true rfl) rfl ?_
          refine PW_goto 2 dX4_go_86 (by decide) ?_
          exact ih (j + 1) (by omega) (by omega) _ (GI_ne gi (by have := fun q => h12 ((pI_eq (by omega) (by omega)).mpr q); exact this) (by rw [hk]; rfl))
        · rw [hk]
          refine PW_aal dX4_go_74 (Fk0) (by decide) (by decide) (by decide) (by decide) (Fkr.2.2.2.2.2) ?_
          refine PW_callU dX4_go_75 moX0_tires cu4_64_0 (Fkp.2.2.2.2.2) (by omega) rfl rfl (Nat.le_of_ble_eq_true rfl) (Nat.le_of_ble_eq_true rfl) (Nat.le_of_ble_eq_true rfl) (spX0_tires (d := d - 1) (by omega) (ci := 0) ⟨_, rfl, by decide⟩ (Fkp.2.2.2.2.2)) (fun v M1 hq => ?_)
          obtain ⟨rfl, rfl⟩ := hq
          refine PW_iadd dX4_go_78 ?_
          refine PW_eqi (nI_add _ 0) ?_
          refine PW_min dX4_go_79 mm4_68 mw_min (Nat.le_of_ble_eq_true rfl) (Nat.le_of_ble_eq_true rfl) (Nat.le_of_ble_eq_true rfl) ?_
          refine PW_eqi (min99 (by omega)) ?_
          refine PW_ias dX4_go_82 (Ft2) (by decide) (by omega) ?_
          refine PW_inc1 dX4_go_83 rfl (Nat.le_of_ble_eq_true rfl) rfl ?_
          refine PW_goto 2 dX4_go_86 (by decide) ?_
          exact ih (j + 1) (by omega) (by omega) _ (GI_ne gi (by have := fun q => h12 ((pI_eq (by omega) (by omega)).mpr q); exact this) (by rw [hk]; rfl))
      · have h12 := (pI_eq (by omega) (by omega)).mp h12
        have e5 : (if w = 0 ∨ j < w then hp h else hp h + hN h (w - 1)) = hp h := if_pos (by omega)
        refine PW_aload_n (i := 0) dX4_go_15 rfl rfl ?_
        refine PW_dup dX4_go_16 rfl ?_
        refine PW_giv (v := iN (if w = 0 ∨ j < w then hp h else hp h + hN h (w - 1))) dX4_go_17 fg4_29 (Ft0) (gi.2.2.1) ?_
        refine PW_aload_n (i := 0) dX4_go_20 rfl rfl ?_
        refine PW_getR dX4_go_21 fg4_18 (Ft0) (Fr3) ?_
        refine PW_iload_n (i := 2) dX4_go_24 rfl rfl ?_
        refine PW_ial (v := iN (hN h j)) dX4_go_25 (Ft3) (by decide) (by omega) ((congrFun (gi.1 (a + 3) (by omega) (by omega)) j).trans (Fgj j h7).2.2) ?_
        refine PW_iadd dX4_go_26 ?_
        rw [e5]
        refine PW_eqi (iN_add _ _) ?_
        refine PW_putI dX4_go_27 fr4_29 (fun h => by cases h) (Ft0) ?_
        refine PW_aload_n (i := 0) dX4_go_30 rfl rfl ?_
        refine PW_getR dX4_go_31 fg4_15 (Ft0) (Fr2) ?_
        refine PW_iload_n (i := 2) dX4_go_34 rfl rfl ?_
        refine PW_iconst (v := 0) dX4_go_35 (by decide) ?_
        refine PW_aload_n (i := 0) dX4_go_36 rfl rfl ?_
        refine PW_getR dX4_go_37 fg4_15 (Ft0) (Fr2) ?_
        refine PW_iload_n (i := 2) dX4_go_40 rfl rfl ?_
        refine PW_ial (v := nI (hT h j)) dX4_go_41 (Ft2) (by decide) (by omega) ((rI_a _ _ _ (by omega)).trans ((gi.2.2.2.2 j (by omega)).trans (Fgj j h7).2.1)) ?_
        refine PW_iconst (v := 4) dX4_go_42 (by decide) ?_
        refine PW_isub dX4_go_43 ?_
        refine PW_max dX4_go_44 mm4_58 mw_max (Nat.le_of_ble_eq_true rfl) (Nat.le_of_ble_eq_true rfl) (Nat.le_of_ble_eq_true rfl) ?_
        refine PW_eqi (max0 (c := 4) (by have := (Fv6 j h7).2.1; omega) (by decide)) ?_
        refine PW_ias dX4_go_47 (Ft2) (by decide) (by omega) ?_
        refine PW_goto 83 dX4_go_48 (by decide) ?_
        refine PW_inc1 dX4_go_83 rfl (Nat.le_of_ble_eq_true rfl) rfl ?_
        refine PW_goto 2 dX4_go_86 (by decide) ?_
        exact ih (j + 1) (by omega) (by omega) _ (GI_eq gi h12 rfl rfl)
set_option maxRecDepth 100000 in
set_option maxHeartbeats 4000000 in
theorem spX4_go {G : GE} {d : Nat} {i : MI0} {S : MS} {X a b : Nat} {h : Hm} (hd : 4 ≤ d) (hK0 : KS S X) (hS : HS S X a) (hR : HR i a h) (hV : HV b h) (hb : b ≤ 1000) {w : Nat} (hw9 : w ≤ hn h) : Mt G iX4_go d [.ref a, .int (pI w)] (i, S) (Wr S (fun i' => HR i' a (goH h w) ∧ ∀ q, q ≠ a → q ≠ a + 2 → i' q = i q)) := by
  refine Mt_in 1 (ls := [.ref a, .int (pI w), .null]) moX4_go (Nat.le_of_ble_eq_true rfl) rfl ?_
  refine PW_iconst (v := 0) dX4_go_0 (by decide) ?_
  refine PW_istore_n (i := 2) dX4_go_1 rfl (Nat.le_of_ble_eq_true rfl) rfl ?_
  exact lpX4_go hd hK0 hS hR hV hb hw9 (hn h + 1) 0 (by omega) (by omega) i (GI_0 hR.2.1)

/-! ===== the reference: look ===== -/
def akF (S0 : Nat) (wv : Nat → Nat → Int32) (m a j : Nat) : Bool := S0.testBit a && (S0.testBit j && decide (wv a m = wv j m))
def akC (S0 : Nat) (wv : Nat → Nat → Int32) (m a : Nat) : Nat → Nat
  | 0 => 0
  | j + 1 => akC S0 wv m a j + if akF S0 wv m a j then 1 else 0
def akM (S0 : Nat) (wv : Nat → Nat → Int32) (m : Nat) : Nat → Nat
  | 0 => 0
  | a + 1 => if akM S0 wv m a < akC S0 wv m a 7 then akC S0 wv m a 7 else akM S0 wv m a
theorem akC_le (S0 : Nat) (wv : Nat → Nat → Int32) (m a : Nat) : ∀ j, akC S0 wv m a j ≤ j
  | 0 => Nat.le_refl _
  | j + 1 => by
    have := akC_le S0 wv m a j
    unfold akC
    split <;> omega
theorem akM_le (S0 : Nat) (wv : Nat → Nat → Int32) (m : Nat) : ∀ a, akM S0 wv m a ≤ 7
  | 0 => Nat.zero_le _
  | a + 1 => by
    have := akM_le S0 wv m a
    have := akC_le S0 wv m a 7
    unfold akM
    split <;> omega
theorem akC_s (S0 : Nat) (wv : Nat → Nat → Int32) (m a j : Nat) : akC S0 wv m a (j + 1) = akC S0 wv m a j + if akF S0 wv m a j then 1 else 0 := rfl
theorem akM_t {S0 : Nat} {wv : Nat → Nat → Int32} {m a : Nat} (h : akM S0 wv m a < akC S0 wv m a 7) : akM S0 wv m (a + 1) = akC S0 wv m a 7 := by rw [akM, if_pos h]
theorem akM_f {S0 : Nat} {wv : Nat → Nat → Int32} {m a : Nat} (h : ¬ akM S0 wv m a < akC S0 wv m a 7) : akM S0 wv m (a + 1) = akM S0 wv m a := by rw [akM, if_neg h]
def wvW (y : Vy) (k a m : Nat) : Int32 := iN (hp (pasN (chN (vh y) k ((a : Int) - 3)) m))
def lkR (S0 : Nat) (wv : Nat → Nat → Int32) : Nat → Nat
  | 0 => 0
  | m + 1 => if akM S0 wv (m + 1) 7 < akM S0 wv (lkR S0 wv m) 7 then m + 1 else lkR S0 wv m
theorem lkR_le (S0 : Nat) (wv : Nat → Nat → Int32) : ∀ m, lkR S0 wv m ≤ m
  | 0 => Nat.le_refl _
  | m + 1 => by
    have := lkR_le S0 wv m
    unfold lkR
    split <;> omega
theorem lkR_t {S0 : Nat} {wv : Nat → Nat → Int32} {m : Nat} (h : akM S0 wv (m + 1) 7 < akM S0 wv (lkR S0 wv m) 7) : lkR S0 wv (m + 1) = m + 1 := by rw [lkR, if_pos h]
theorem lkR_f {S0 : Nat} {wv : Nat → Nat → Int32} {m : Nat} (h : ¬ akM S0 wv (m + 1) 7 < akM S0 wv (lkR S0 wv m) 7) : lkR S0 wv (m + 1) = lkR S0 wv m := by rw [lkR, if_neg h]
def rLook (s : Ab) (k : Int32) : Int32 × Ab := if isH s k then ((if ndS (aV s) k.toNatClampNeg = 0 then -1 else nI (lkR (ndS (aV s) k.toNatClampNeg) (wvW (aV s) k.toNatClampNeg) 20)), s) else (-2, bad s)
set_option maxRecDepth 100000 in
set_option maxHeartbeats 4000000 in
theorem lpX12_alike2 {G : GE} {d : Nat} {i : MI0} {S : MS} {Y : Nat} (hY : YS S Y) {S0 : Nat} (hS0 : S0 < 128) {wv : Nat → Nat → Int32} (hW : ∀ a m, a < 7 → m < 21 → i (Y + 17) (21 * a + m) = wv a m) {m : Nat} (hm : m < 21) {a : Nat} (ha : a < 7) (hd : 1 ≤ d) (ko : ∀ z5 z6, PW G iX12_alike d (Rt (nI (akM S0 wv m 7)) (i, S)) 5 [.ref Y, .int (nI S0), .int (nI m), .int (nI (akM S0 wv m (a + 1))), .int (nI (a + 1)), z5, z6] [] (i, S) 0 0) : ∀ (n0 j : Nat), j ≤ 7 → 7 < j + n0 → PW G iX12_alike d (Rt (nI (akM S0 wv m 7)) (i, S)) 18 [.ref Y, .int (nI S0), .int (nI m), .int (nI (akM S0 wv m a)), .int (nI a), .int (nI (akC S0 wv m a j)), .int (nI j)] [] (i, S) 0 0 := by
  have hY' := hY
  obtain ⟨Yt, ⟨Yt1, Yr1⟩, ⟨Yt2, Yr2⟩, ⟨Yt3, Yr3⟩, ⟨Yt4, Yr4⟩, ⟨Yt5, Yr5⟩, ⟨Yt6, Yr6⟩, ⟨Yt7, Yr7⟩, ⟨Yt8, Yr8⟩, ⟨Yt9, Yr9⟩, ⟨Yt10, Yr10⟩, ⟨Yt11, Yr11⟩, ⟨Yt12, Yr12⟩, ⟨Yt13, Yr13⟩, ⟨Yt14, Yr14⟩, ⟨Yt15, Yr15⟩, ⟨Yt16, Yr16⟩, ⟨Yt17, Yr17⟩, ⟨Yt18, Yr18⟩, ⟨Yt19, Yr19⟩⟩ := hY
  intro n0
  induction n0 with
  | zero => intro j h1 h2; exact absurd h2 (by omega)
  | succ n0 ih =>
    intro j hj1 hj2 
    refine PW_iload dX12_alike_18 rfl ?_
    refine PW_bipush (v := 7) dX12_alike_20 (by decide) ?_
    refine PW_icmp_ge 86 dX12_alike_22 (by decide) (fun h22 => ?_) (fun h22 => ?_)
    · have h22 := jle (a := 7) h22
      have ej : j = 7 := by omega
      subst ej
      have c7 := akC_le S0 wv m a 7
      have m7 := akM_le S0 wv m a
      refine PW_iload dX12_alike_86 rfl ?_
      refine PW_iload_n (i := 3) dX12_alike_88 rfl rfl ?_
      refine PW_icmp_le 97 dX12_alike_89 (by decide) (fun h89 => ?_) (fun h89 => ?_)
      · have h89 := jle h89
        refine PW_iload_n (i := 3) dX12_alike_97 rfl rfl ?_
        refine PW_istore_n (i := 3) dX12_alike_98 rfl (Nat.le_of_ble_eq_true rfl) rfl ?_
        refine PW_inc1 dX12_alike_99 rfl (Nat.le_of_ble_eq_true rfl) rfl ?_
        refine PW_goto 5 dX12_alike_102 (by decide) ?_
        first | (rw [akM_t (a := a) (by omega)] at ko; exact ko _ _) | (rw [akM_f (a := a) (by omega)] at ko; exact ko _ _)
      · have h89 := jnle h89
        refine PW_iload dX12_alike_92 rfl ?_
        refine PW_goto 98 dX12_alike_94 (by decide) ?_
        refine PW_istore_n (i := 3) dX12_alike_98 rfl (Nat.le_of_ble_eq_true rfl) rfl ?_
        refine PW_inc1 dX12_alike_99 rfl (Nat.le_of_ble_eq_true rfl) rfl ?_
        refine PW_goto 5 dX12_alike_102 (by decide) ?_
        first | (rw [akM_t (a := a) (by omega)] at ko; exact ko _ _) | (rw [akM_f (a := a) (by omega)] at ko; exact ko _ _)
    · have h22 := jnle (a := 7) h22
      refine PW_iload dX12_alike_25 rfl ?_
      refine PW_iload_n (i := 1) dX12_alike_27 rfl rfl ?_
      refine PW_iload dX12_alike_28 rfl ?_
      refine PW_callS dX12_alike_30 moX12_has cs12_243 (by omega) rfl rfl (Nat.le_of_ble_eq_true rfl) (Nat.le_of_ble_eq_true rfl) (Nat.le_of_ble_eq_true rfl) (spX12_has (d := d - 1) _ _) (fun v M1 hq => ?_)
      obtain ⟨rfl, rfl⟩ := hq
      rw [hold_b (by omega) (by omega)]
      refine PW_if_eq 76 dX12_alike_33 (by decide) (fun h33 => ?_) (fun h33 => ?_)
      · have h33 := b2i_0.mp h33
        have hf : akF S0 wv m a j = false := by unfold akF; rw [h33]; rfl
        refine PW_iconst (v := 0) dX12_alike_76 (by decide) ?_
        refine PW_iadd dX12_alike_77 ?_
        refine PW_eqi (show _ = nI (akC S0 wv m a (j + 1)) from by rw [akC_s, hf]; first | exact nI_add _ 1 | exact nI_add _ 0) ?_
        refine PW_istore dX12_alike_78 (Nat.le_of_ble_eq_true rfl) rfl ?_
        refine PW_inc1 dX12_alike_80 rfl (Nat.le_of_ble_eq_true rfl) rfl ?_
        refine PW_goto 18 dX12_alike_83 (by decide) ?_
        exact ih (j + 1) (by omega) (by omega)
      · have h33 := b2i_n.mp h33
        refine PW_iload_n (i := 1) dX12_alike_36 rfl rfl ?_
        refine PW_iload dX12_alike_37 rfl ?_
        refine PW_callS dX12_alike_39 moX12_has cs12_243 (by omega) rfl rfl (Nat.le_of_ble_eq_true rfl) (Nat.le_of_ble_eq_true rfl) (Nat.le_of_ble_eq_true rfl) (spX12_has (d := d - 1) _ _) (fun v M1 hq => ?_)
        obtain ⟨rfl, rfl⟩ := hq
        rw [hold_b (by omega) (by omega)]
        refine PW_if_eq 76 dX12_alike_42 (by decide) (fun h42 => ?_) (fun h42 => ?_)
        · have h42 := b2i_0.mp h42
          have hf : akF S0 wv m a j = false := by unfold akF; rw [h33, h42]; rfl
          refine PW_iconst (v := 0) dX12_alike_76 (by decide) ?_
          refine PW_iadd dX12_alike_77 ?_
          refine PW_eqi (show _ = nI (akC S0 wv m a (j + 1)) from by rw [akC_s, hf]; first | exact nI_add _ 1 | exact nI_add _ 0) ?_
          refine PW_istore dX12_alike_78 (Nat.le_of_ble_eq_true rfl) rfl ?_
          refine PW_inc1 dX12_alike_80 rfl (Nat.le_of_ble_eq_true rfl) rfl ?_
          refine PW_goto 18 dX12_alike_83 (by decide) ?_
          exact ih (j + 1) (by omega) (by omega)
        · have h42 := b2i_n.mp h42
          refine PW_aload_n (i := 0) dX12_alike_45 rfl rfl ?_
          refine PW_getR dX12_alike_46 fg12_58 (Yt) (Yr17) ?_
          refine PW_bipush (v := 21) dX12_alike_49 (by decide) ?_
          refine PW_iload dX12_alike_51 rfl ?_
          refine PW_imul dX12_alike_53 ?_
          refine PW_eqi (pk_mul 21 _) ?_
          refine PW_iload_n (i := 2) dX12_alike_54 rfl rfl ?_
          refine PW_iadd dX12_alike_55 ?_
          refine PW_eqi (nI_add _ _) ?_
          refine PW_ial (v := wv a m) dX12_alike_56 (Yt17) (by omega) (by omega) (hW a m ha hm) ?_
          refine PW_aload_n (i := 0) dX12_alike_57 rfl rfl ?_
          refine PW_getR dX12_alike_58 fg12_58 (Yt) (Yr17) ?_
          refine PW_bipush (v := 21) dX12_alike_61 (by decide) ?_
          refine PW_iload dX12_alike_63 rfl ?_
          refine PW_imul dX12_alike_65 ?_
          refine PW_eqi (pk_mul 21 _) ?_
          refine PW_iload_n (i := 2) dX12_alike_66 rfl rfl ?_
          refine PW_iadd dX12_alike_67 ?_
          refine PW_eqi (nI_add _ _) ?_
          refine PW_ial (v := wv j m) dX12_alike_68 (Yt17) (by omega) (by omega) (hW j m (by omega) hm) ?_
          refine PW_icmp_ne 76 dX12_alike_69 (by decide) (fun h69 => ?_) (fun h69 => ?_)
          · have hf : akF S0 wv m a j = false := by unfold akF; rw [h33, h42, decide_eq_false h69]; rfl
            refine PW_iconst (v := 0) dX12_alike_76 (by decide) ?_
            refine PW_iadd dX12_alike_77 ?_
            refine PW_eqi (show _ = nI (akC S0 wv m a (j + 1)) from by rw [akC_s, hf]; first | exact nI_add _ 1 | exact nI_add _ 0) ?_
            refine PW_istore dX12_alike_78 (Nat.le_of_ble_eq_true rfl) rfl ?_
            refine PW_inc1 dX12_alike_80 rfl (Nat.le_of_ble_eq_true rfl) rfl ?_
            refine PW_goto 18 dX12_alike_83 (by decide) ?_
            exact ih (j + 1) (by omega) (by omega)
          · have hf : akF S0 wv m a j = true := by unfold akF; rw [h33, h42, decide_eq_true h69]; rfl
            refine PW_iconst (v := 1) dX12_alike_72 (by decide) ?_
            refine PW_goto 77 dX12_alike_73 (by decide) ?_
            refine PW_iadd dX12_alike_77 ?_
            refine PW_eqi (show _ = nI (akC S0 wv m a (j + 1)) from by rw [akC_s, hf]; first | exact nI_add _ 1 | exact nI_add _ 0) ?_
            refine PW_istore dX12_alike_78 (Nat.le_of_ble_eq_true rfl) rfl ?_
            refine PW_inc1 dX12_alike_80 rfl (Nat.le_of_ble_eq_true rfl) rfl ?_
            refine PW_goto 18 dX12_alike_83 (by decide) ?_
            exact ih (j + 1) (by omega) (by omega)
set_option maxRecDepth 100000 in
set_option maxHeartbeats 4000000 in
theorem lpX12_alike {G : GE} {d : Nat} {i : MI0} {S : MS} {Y : Nat} (hY : YS S Y) {S0 : Nat} (hS0 : S0 < 128) {wv : Nat → Nat → Int32} (hW : ∀ a m, a < 7 → m < 21 → i (Y + 17) (21 * a + m) = wv a m) {m : Nat} (hm : m < 21) (hd : 1 ≤ d) : ∀ (n0 j : Nat), j ≤ 7 → 7 < j + n0 → ∀ (z5 z6 : Value), PW G iX12_alike d (Rt (nI (akM S0 wv m 7)) (i, S)) 5 [.ref Y, .int (nI S0), .int (nI m), .int (nI (akM S0 wv m j)), .int (nI j), z5, z6] [] (i, S) 0 0 := by
  have hY' := hY
  obtain ⟨Yt, ⟨Yt1, Yr1⟩, ⟨Yt2, Yr2⟩, ⟨Yt3, Yr3⟩, ⟨Yt4, Yr4⟩, ⟨Yt5, Yr5⟩, ⟨Yt6, Yr6⟩, ⟨Yt7, Yr7⟩, ⟨Yt8, Yr8⟩, ⟨Yt9, Yr9⟩, ⟨Yt10, Yr10⟩, ⟨Yt11, Yr11⟩, ⟨Yt12, Yr12⟩, ⟨Yt13, Yr13⟩, ⟨Yt14, Yr14⟩, ⟨Yt15, Yr15⟩, ⟨Yt16, Yr16⟩, ⟨Yt17, Yr17⟩, ⟨Yt18, Yr18⟩, ⟨Yt19, Yr19⟩⟩ := hY
  intro n0
  induction n0 with
  | zero => intro j h1 h2; exact absurd h2 (by omega)
  | succ n0 ih =>
    intro j hj1 hj2 z5 z6
    refine PW_iload dX12_alike_5 rfl ?_
    refine PW_bipush (v := 7) dX12_alike_7 (by decide) ?_
    refine PW_icmp_ge 105 dX12_alike_9 (by decide) (fun h9 => ?_) (fun h9 => ?_)
    · have h9 := jle (a := 7) h9
      have ej : j = 7 := by omega
      subst ej
      refine PW_iload_n (i := 3) dX12_alike_105 rfl rfl ?_
      refine PW_ireturn rfl (rfl) dX12_alike_106 (Nat.le_of_ble_eq_true rfl) (Nat.le_of_ble_eq_true rfl) ?_
      exact rt_i rfl
    · have h9 := jnle (a := 7) h9
      refine PW_iconst (v := 0) dX12_alike_12 (by decide) ?_
      refine PW_istore dX12_alike_13 (Nat.le_of_ble_eq_true rfl) rfl ?_
      refine PW_iconst (v := 0) dX12_alike_15 (by decide) ?_
      refine PW_istore dX12_alike_16 (Nat.le_of_ble_eq_true rfl) rfl ?_
      exact lpX12_alike2 hY' hS0 hW hm h9 hd (fun z5 z6 => ih (j + 1) (by omega) (by omega) z5 z6) 8 0 (by omega) (by omega)
set_option maxRecDepth 100000 in
set_option maxHeartbeats 4000000 in
theorem spX12_alike {G : GE} {d : Nat} {i : MI0} {S : MS} {Y : Nat} (hY : YS S Y) {S0 : Nat} (hS0 : S0 < 128) {wv : Nat → Nat → Int32} (hW : ∀ a m, a < 7 → m < 21 → i (Y + 17) (21 * a + m) = wv a m) {m : Nat} (hm : m < 21) (hd : 1 ≤ d) : Mt G iX12_alike d [.ref Y, .int (nI S0), .int (nI m)] (i, S) (Rt (nI (akM S0 wv m 7)) (i, S)) := by
  have hY' := hY
  obtain ⟨Yt, ⟨Yt1, Yr1⟩, ⟨Yt2, Yr2⟩, ⟨Yt3, Yr3⟩, ⟨Yt4, Yr4⟩, ⟨Yt5, Yr5⟩, ⟨Yt6, Yr6⟩, ⟨Yt7, Yr7⟩, ⟨Yt8, Yr8⟩, ⟨Yt9, Yr9⟩, ⟨Yt10, Yr10⟩, ⟨Yt11, Yr11⟩, ⟨Yt12, Yr12⟩, ⟨Yt13, Yr13⟩, ⟨Yt14, Yr14⟩, ⟨Yt15, Yr15⟩, ⟨Yt16, Yr16⟩, ⟨Yt17, Yr17⟩, ⟨Yt18, Yr18⟩, ⟨Yt19, Yr19⟩⟩ := hY
  refine Mt_in 4 (ls := [.ref Y, .int (nI S0), .int (nI m), .null, .null, .null, .null]) moX12_alike (Nat.le_of_ble_eq_true rfl) rfl ?_
  refine PW_iconst (v := 0) dX12_alike_0 (by decide) ?_
  refine PW_istore_n (i := 3) dX12_alike_1 rfl (Nat.le_of_ble_eq_true rfl) rfl ?_
  refine PW_iconst (v := 0) dX12_alike_2 (by decide) ?_
  refine PW_istore dX12_alike_3 (Nat.le_of_ble_eq_true rfl) rfl ?_
  exact lpX12_alike hY' hS0 hW hm hd 8 0 (by omega) (by omega) _ _
set_option maxRecDepth 100000 in
set_option maxHeartbeats 4000000 in
theorem lpX12_look3 {G : GE} {d : Nat} {i : MI0} {S : MS} {Y : Nat} (hY : YS S Y) {s : Ab} {b : Nat} (hR : MR i S Y s) (hV : AV b s) (hb : b ≤ 100) (hd : 12 ≤ d) {a : Nat} (ha : a < hn (vh (aV s))) (h0 : ¬ ndS (aV s) a = 0) {i5 : MI0} (eq : EQ2 i i5 Y) (hW : ∀ b m, b < 7 → m < 21 → i5 (Y + 17) (21 * b + m) = (wvW (aV s) a) b m) : ∀ (n0 j : Nat), j ≤ 20 → 20 < j + n0 → PW G iX12_look d (Wi (nI (lkR (ndS (aV s) a) (wvW (aV s) a) 20)) S (fun i' => EQ2 i i' Y)) 111 [.ref Y, .int (nI a), .int (nI (ndS (aV s) a)), .int (i (Y + 4) a), .int (nI (lkR (ndS (aV s) a) (wvW (aV s) a) j)), .int (nI (j + 1))] [] (i5, S) 0 0 := by
  have hY' := hY
  obtain ⟨Yt, ⟨Yt1, Yr1⟩, ⟨Yt2, Yr2⟩, ⟨Yt3, Yr3⟩, ⟨Yt4, Yr4⟩, ⟨Yt5, Yr5⟩, ⟨Yt6, Yr6⟩, ⟨Yt7, Yr7⟩, ⟨Yt8, Yr8⟩, ⟨Yt9, Yr9⟩, ⟨Yt10, Yr10⟩, ⟨Yt11, Yr11⟩, ⟨Yt12, Yr12⟩, ⟨Yt13, Yr13⟩, ⟨Yt14, Yr14⟩, ⟨Yt15, Yr15⟩, ⟨Yt16, Yr16⟩, ⟨Yt17, Yr17⟩, ⟨Yt18, Yr18⟩, ⟨Yt19, Yr19⟩⟩ := hY
  have hR' := hR
  have hV' := hV
  obtain ⟨Rm, Ri0, Ri1, Rk, Rx, Rt, Rl⟩ := hR
  have Rh := Rm.1
  obtain ⟨Av, Ai, At, Ab', Aa, Aw⟩ := hV
  have Ah := Av.1
  have Ah1 := Ah.1
  have Av1 := Av.2.1
  have Av2 := Av.2.2.1
  have Av3 := Av.2.2.2.1
  intro n0
  induction n0 with
  | zero => intro j h1 h2; exact absurd h2 (by omega)
  | succ n0 ih =>
    intro j hj1 hj2 
    refine PW_iload dX12_look_111 rfl ?_
    refine PW_bipush (v := 20) dX12_look_113 (by decide) ?_
    have hl := lkR_le (ndS (aV s) a) (wvW (aV s) a) j
    have k1 := akM_le (ndS (aV s) a) (wvW (aV s) a) (j + 1) 7
    have k2 := akM_le (ndS (aV s) a) (wvW (aV s) a) (lkR (ndS (aV s) a) (wvW (aV s) a) j) 7
    refine PW_icmp_gt 150 dX12_look_115 (by decide) (fun h115 => ?_) (fun h115 => ?_)
    · have h115 := jlt (a := 20) h115
      have ej : j = 20 := by omega
      subst ej
      refine PW_iload dX12_look_150 rfl ?_
      refine PW_ireturn rfl (rfl) dX12_look_152 (Nat.le_of_ble_eq_true rfl) (Nat.le_of_ble_eq_true rfl) ?_
      exact Wi_mk rfl rfl eq
    · have h115 := jnlt (a := 20) h115
      refine PW_aload_n (i := 0) dX12_look_118 rfl rfl ?_
      refine PW_iload_n (i := 2) dX12_look_119 rfl rfl ?_
      refine PW_iload dX12_look_120 rfl ?_
      refine PW_callV dX12_look_122 moX12_alike cv12_246 (Yt) (by omega) rfl rfl (Nat.le_of_ble_eq_true rfl) (Nat.le_of_ble_eq_true rfl) (Nat.le_of_ble_eq_true rfl) (spX12_alike (d := d - 1) (S0 := ndS (aV s) a) hY' (bitsN_lt _ 7) (wv := (wvW (aV s) a)) hW (m := j + 1) (by omega) (by omega)) (fun v M1 hq => ?_)
      obtain ⟨rfl, rfl⟩ := hq
      refine PW_aload_n (i := 0) dX12_look_125 rfl rfl ?_
      refine PW_iload_n (i := 2) dX12_look_126 rfl rfl ?_
      refine PW_iload dX12_look_127 rfl ?_
      refine PW_callV dX12_look_129 moX12_alike cv12_246 (Yt) (by omega) rfl rfl (Nat.le_of_ble_eq_true rfl) (Nat.le_of_ble_eq_true rfl) (Nat.le_of_ble_eq_true rfl) (spX12_alike (d := d - 1) (S0 := ndS (aV s) a) hY' (bitsN_lt _ 7) (wv := (wvW (aV s) a)) hW (m := lkR (ndS (aV s) a) (wvW (aV s) a) j) (by omega) (by omega)) (fun v M1 hq => ?_)
      obtain ⟨rfl, rfl⟩ := hq
      refine PW_icmp_ge 140 dX12_look_132 (by decide) (fun h132 => ?_) (fun h132 => ?_)
      · have h132 := jle h132
        refine PW_iload dX12_look_140 rfl ?_
        refine PW_istore dX12_look_142 (Nat.le_of_ble_eq_true rfl) rfl ?_
        refine PW_inc1 dX12_look_144 rfl (Nat.le_of_ble_eq_true rfl) rfl ?_
        refine PW_goto 111 dX12_look_147 (by decide) ?_
        have q := ih (j + 1) (by omega) (by omega)
        first | (rw [lkR_t (m := j) h132] at q; exact q) | (rw [lkR_f (m := j) (by omega)] at q; exact q)
      · have h132 := jnle h132
        refine PW_iload dX12_look_135 rfl ?_
        refine PW_goto 142 dX12_look_137 (by decide) ?_
        refine PW_istore dX12_look_142 (Nat.le_of_ble_eq_true rfl) rfl ?_
        refine PW_inc1 dX12_look_144 rfl (Nat.le_of_ble_eq_true rfl) rfl ?_
        refine PW_goto 111 dX12_look_147 (by decide) ?_
        have q := ih (j + 1) (by omega) (by omega)
        first | (rw [lkR_t (m := j) h132] at q; exact q) | (rw [lkR_f (m := j) (by omega)] at q; exact q)
set_option maxRecDepth 100000 in
set_option maxHeartbeats 4000000 in
theorem lpX12_look2 {G : GE} {d : Nat} {i : MI0} {S : MS} {Y : Nat} (hY : YS S Y) {s : Ab} {b : Nat} (hR : MR i S Y s) (hV : AV b s) (hb : b ≤ 100) (hd : 12 ≤ d) {a : Nat} (ha : a < hn (vh (aV s))) (h0 : ¬ ndS (aV s) a = 0) {g : Nat} (hg : g < 7) (ko : ∀ i6, EQ3 i i6 Y (Y + 4) a → (∀ b m, b < g + 1 → m < 21 → i6 (Y + 17) (21 * b + m) = (wvW (aV s) a) b m) → ∀ z5, PW G iX12_look d (Wi (nI (lkR (ndS (aV s) a) (wvW (aV s) a) 20)) S (fun i' => EQ2 i i' Y)) 35 [.ref Y, .int (nI a), .int (nI (ndS (aV s) a)), .int (i (Y + 4) a), .int (nI (g + 1)), z5] [] (i6, S) 0 0) : ∀ (n0 j : Nat), j ≤ 21 → 21 < j + n0 → ∀ (i' : MI0), EQ3 i i' Y (Y + 4) a → (∀ m, m < 21 → i' (Y + 16) m = (wvW (aV s) a) g m) → (∀ b m, b < g → m < 21 → i' (Y + 17) (21 * b + m) = (wvW (aV s) a) b m) → (∀ m, m < j → i' (Y + 17) (21 * g + m) = (wvW (aV s) a) g m) → PW G iX12_look d (Wi (nI (lkR (ndS (aV s) a) (wvW (aV s) a) 20)) S (fun i' => EQ2 i i' Y)) 59 [.ref Y, .int (nI a), .int (nI (ndS (aV s) a)), .int (i (Y + 4) a), .int (nI g), .int (nI j)] [] (i', S) 0 0 := by
  have hY' := hY
  obtain ⟨Yt, ⟨Yt1, Yr1⟩, ⟨Yt2, Yr2⟩, ⟨Yt3, Yr3⟩, ⟨Yt4, Yr4⟩, ⟨Yt5, Yr5⟩, ⟨Yt6, Yr6⟩, ⟨Yt7, Yr7⟩, ⟨Yt8, Yr8⟩, ⟨Yt9, Yr9⟩, ⟨Yt10, Yr10⟩, ⟨Yt11, Yr11⟩, ⟨Yt12, Yr12⟩, ⟨Yt13, Yr13⟩, ⟨Yt14, Yr14⟩, ⟨Yt15, Yr15⟩, ⟨Yt16, Yr16⟩, ⟨Yt17, Yr17⟩, ⟨Yt18, Yr18⟩, ⟨Yt19, Yr19⟩⟩ := hY
  have hR' := hR
  have hV' := hV
  obtain ⟨Rm, Ri0, Ri1, Rk, Rx, Rt, Rl⟩ := hR
  have Rh := Rm.1
  obtain ⟨Av, Ai, At, Ab', Aa, Aw⟩ := hV
  have Ah := Av.1
  have Ah1 := Ah.1
  have Av1 := Av.2.1
  have Av2 := Av.2.2.1
  have Av3 := Av.2.2.2.1
  intro n0
  induction n0 with
  | zero => intro j h1 h2; exact absurd h2 (by omega)
  | succ n0 ih =>
    intro j hj1 hj2 i' v1 v2 v3 v4
    refine PW_iload dX12_look_59 rfl ?_
    refine PW_bipush (v := 20) dX12_look_61 (by decide) ?_
    refine PW_icmp_gt 92 dX12_look_63 (by decide) (fun h63 => ?_) (fun h63 => ?_)
    · have h63 := jlt (a := 20) h63
      have ej : j = 21 := by omega
      subst ej
      refine PW_inc1 dX12_look_92 rfl (Nat.le_of_ble_eq_true rfl) rfl ?_
      refine PW_goto 35 dX12_look_95 (by decide) ?_
      refine ko i' v1 (fun b m hb hm => ?_) _
      by_cases e : b = g
      · rw [e]; exact v4 m hm
      · exact v3 b m (by omega) hm
    · have h63 := jnlt (a := 20) h63
      refine PW_aload_n (i := 0) dX12_look_66 rfl rfl ?_
      refine PW_getR dX12_look_67 fg12_58 (Yt) (Yr17) ?_
      refine PW_bipush (v := 21) dX12_look_70 (by decide) ?_
      refine PW_iload dX12_look_72 rfl ?_
      refine PW_imul dX12_look_74 ?_
      refine PW_eqi (pk_mul 21 _) ?_
      refine PW_iload dX12_look_75 rfl ?_
      refine PW_iadd dX12_look_77 ?_
      refine PW_eqi (nI_add _ _) ?_
      refine PW_aload_n (i := 0) dX12_look_78 rfl rfl ?_
      refine PW_getR dX12_look_79 fg12_55 (Yt) (Yr16) ?_
      refine PW_iload dX12_look_82 rfl ?_
      refine PW_ial (v := (wvW (aV s) a) g j) dX12_look_84 (Yt16) (by omega) (by omega) (v2 j (by omega)) ?_
      refine PW_ias dX12_look_85 (Yt17) (by omega) (by omega) ?_
      refine PW_inc1 dX12_look_86 rfl (Nat.le_of_ble_eq_true rfl) rfl ?_
      refine PW_goto 59 dX12_look_89 (by decide) ?_
      refine PW_nm rfl (fun i2 e2 => ?_)
      have g1 : ∀ q, q ≠ Y + 17 → i2 q = i' q := fun q hq => by rw [e2, rI_f _ _ hq]; rfl
      refine ih (j + 1) (by omega) (by omega) i2 ⟨by rw [g1 Y (by omega)]; exact v1.1, by rw [g1 (Y + 3) (by omega), g1 (Y + 5) (by omega)]; exact v1.2.1, by rw [g1 (Y + 4) (by omega)]; exact v1.2.2.1, fun q q1 q2 q3 q4 q5 q6 q7 => (g1 q (by omega)).trans (v1.2.2.2 q q1 q2 q3 q4 q5 q6 q7)⟩ (by rw [g1 (Y + 16) (by omega)]; exact v2) (fun b m hb hm => by rw [e2, rI_k _ _ _ (by omega)]; exact v3 b m hb hm) (fun m hm => ?_)
      by_cases e : m = j
      · rw [e, e2, rI_s]
      · rw [e2, rI_k _ _ _ (by omega)]; exact v4 m (by omega)
set_option maxRecDepth 100000 in
set_option maxHeartbeats 4000000 in
theorem lpX12_look1 {G : GE} {d : Nat} {i : MI0} {S : MS} {Y : Nat} (hY : YS S Y) {s : Ab} {b : Nat} (hR : MR i S Y s) (hV : AV b s) (hb : b ≤ 100) (hd : 12 ≤ d) {a : Nat} (ha : a < hn (vh (aV s))) (h0 : ¬ ndS (aV s) a = 0) : ∀ (n0 j : Nat), j ≤ 7 → 7 < j + n0 → ∀ (i' : MI0) (z5 : Value), EQ3 i i' Y (Y + 4) a → (∀ b m, b < j → m < 21 → i' (Y + 17) (21 * b + m) = (wvW (aV s) a) b m) → PW G iX12_look d (Wi (nI (lkR (ndS (aV s) a) (wvW (aV s) a) 20)) S (fun i' => EQ2 i i' Y)) 35 [.ref Y, .int (nI a), .int (nI (ndS (aV s) a)), .int (i (Y + 4) a), .int (nI j), z5] [] (i', S) 0 0 := by
  have hY' := hY
  obtain ⟨Yt, ⟨Yt1, Yr1⟩, ⟨Yt2, Yr2⟩, ⟨Yt3, Yr3⟩, ⟨Yt4, Yr4⟩, ⟨Yt5, Yr5⟩, ⟨Yt6, Yr6⟩, ⟨Yt7, Yr7⟩, ⟨Yt8, Yr8⟩, ⟨Yt9, Yr9⟩, ⟨Yt10, Yr10⟩, ⟨Yt11, Yr11⟩, ⟨Yt12, Yr12⟩, ⟨Yt13, Yr13⟩, ⟨Yt14, Yr14⟩, ⟨Yt15, Yr15⟩, ⟨Yt16, Yr16⟩, ⟨Yt17, Yr17⟩, ⟨Yt18, Yr18⟩, ⟨Yt19, Yr19⟩⟩ := hY
  have hR' := hR
  have hV' := hV
  obtain ⟨Rm, Ri0, Ri1, Rk, Rx, Rt, Rl⟩ := hR
  have Rh := Rm.1
  obtain ⟨Av, Ai, At, Ab', Aa, Aw⟩ := hV
  have Ah := Av.1
  have Ah1 := Ah.1
  have Av1 := Av.2.1
  have Av2 := Av.2.2.1
  have Av3 := Av.2.2.2.1
  intro n0
  induction n0 with
  | zero => intro j h1 h2; exact absurd h2 (by omega)
  | succ n0 ih =>
    intro j hj1 hj2 i' z5 v1 v2
    refine PW_iload dX12_look_35 rfl ?_
    refine PW_bipush (v := 7) dX12_look_37 (by decide) ?_
    refine PW_icmp_ge 98 dX12_look_39 (by decide) (fun h39 => ?_) (fun h39 => ?_)
    · have h39 := jle (a := 7) h39
      have ej : j = 7 := by omega
      subst ej
      refine PW_aload_n (i := 0) dX12_look_98 rfl rfl ?_
      refine PW_getR dX12_look_99 fg12_19 (Yt) (Yr4) ?_
      refine PW_iload_n (i := 1) dX12_look_102 rfl rfl ?_
      refine PW_iload_n (i := 3) dX12_look_103 rfl rfl ?_
      refine PW_ias dX12_look_104 (Yt4) (by omega) (by omega) ?_
      refine PW_nm rfl (fun i5 e5 => ?_)
      have eq := v1.e (Or.inr rfl) e5
      have hW : ∀ b m, b < 7 → m < 21 → i5 (Y + 17) (21 * b + m) = (wvW (aV s) a) b m := fun b m hb hm => by rw [e5, rI_f _ _ (by omega)]; exact v2 b m hb hm
      refine PW_iconst (v := 0) dX12_look_105 (by decide) ?_
      refine PW_istore dX12_look_106 (Nat.le_of_ble_eq_true rfl) rfl ?_
      refine PW_iconst (v := 1) dX12_look_108 (by decide) ?_
      refine PW_istore dX12_look_109 (Nat.le_of_ble_eq_true rfl) rfl ?_
      exact lpX12_look3 hY' hR' hV' hb hd ha h0 eq hW 21 0 (by omega) (by omega)
    · have h39 := jnle (a := 7) h39
      refine PW_aload_n (i := 0) dX12_look_42 rfl rfl ?_
      refine PW_getR dX12_look_43 fg12_19 (Yt) (Yr4) ?_
      refine PW_iload_n (i := 1) dX12_look_46 rfl rfl ?_
      refine PW_iload dX12_look_47 rfl ?_
      refine PW_iconst (v := 3) dX12_look_49 (by decide) ?_
      refine PW_isub dX12_look_50 ?_
      refine PW_eqi (show nI j - 3 = iN ((j : Int) - 3) by rw [nI_iN, show (3 : Int32) = iN 3 from rfl, iN_sub]) ?_
      refine PW_ias dX12_look_51 (Yt4) (by omega) (by omega) ?_
      refine PW_nm rfl (fun i2 e2 => ?_)
      have t1 : MH i2 Y (chN (vh (aV s)) a ((j : Int) - 3)) := Rh.n Ah1 (v1.w (Or.inr rfl) e2) (by rw [e2, rI_s])
      have t2 : HV b (chN (vh (aV s)) a ((j : Int) - 3)) := chN_V Ah (by omega) (by omega)
      refine PW_aload_n (i := 0) dX12_look_52 rfl rfl ?_
      refine PW_callV dX12_look_53 moX12_setWay cv12_234 (Yt) (by omega) rfl rfl (Nat.le_of_ble_eq_true rfl) (Nat.le_of_ble_eq_true rfl) (Nat.le_of_ble_eq_true rfl) (spX12_setWay (d := d - 1) hY' t1 t2 (by omega) (by omega)) (fun v M1 hq => ?_)
      obtain ⟨rfl, i3, rfl, sq, sw, sx⟩ := hq
      refine PW_iconst (v := 0) dX12_look_56 (by decide) ?_
      refine PW_istore dX12_look_57 (Nat.le_of_ble_eq_true rfl) rfl ?_
      have e3 := (v1.w (Or.inr rfl) e2).q2 sq (Or.inr rfl)
      exact lpX12_look2 hY' hR' hV' hb hd ha h0 (g := j) h39 (fun i6 b1 b2 z5 => ih (j + 1) (by omega) (by omega) i6 z5 b1 b2) 22 0 (by omega) (by omega) i3 e3 sw (fun b m hb hm => by rw [sx (Y + 17) (by omega) (by omega) (by omega) (by omega) (by omega), e2, rI_f _ _ (by omega)]; exact v2 b m hb hm) (fun m hm => absurd hm (Nat.not_lt_zero m))
set_option maxRecDepth 100000 in
set_option maxHeartbeats 4000000 in
theorem spX12_look {G : GE} {d : Nat} {i : MI0} {S : MS} {Y : Nat} (hY : YS S Y) {s : Ab} {b : Nat} (hR : MR i S Y s) (hV : AV b s) (hb : b ≤ 100) (hd : 14 ≤ d) (k : Int32) : Mt G iX12_look d [.ref Y, .int k] (i, S) (OpM Y (i, S) (.int (rLook s k).1) (rLook s k).2) := by
  have hY' := hY
  obtain ⟨Yt, ⟨Yt1, Yr1⟩, ⟨Yt2, Yr2⟩, ⟨Yt3, Yr3⟩, ⟨Yt4, Yr4⟩, ⟨Yt5, Yr5⟩, ⟨Yt6, Yr6⟩, ⟨Yt7, Yr7⟩, ⟨Yt8, Yr8⟩, ⟨Yt9, Yr9⟩, ⟨Yt10, Yr10⟩, ⟨Yt11, Yr11⟩, ⟨Yt12, Yr12⟩, ⟨Yt13, Yr13⟩, ⟨Yt14, Yr14⟩, ⟨Yt15, Yr15⟩, ⟨Yt16, Yr16⟩, ⟨Yt17, Yr17⟩, ⟨Yt18, Yr18⟩, ⟨Yt19, Yr19⟩⟩ := hY
  have hR' := hR
  have hV' := hV
  obtain ⟨Rm, Ri0, Ri1, Rk, Rx, Rt, Rl⟩ := hR
  have Rh := Rm.1
  obtain ⟨Av, Ai, At, Ab', Aa, Aw⟩ := hV
  have Ah := Av.1
  have Ah1 := Ah.1
  have Av1 := Av.2.1
  have Av2 := Av.2.2.1
  have Av3 := Av.2.2.2.1
  refine Mt_in 4 (ls := [.ref Y, .int k, .null, .null, .null, .null]) moX12_look (Nat.le_of_ble_eq_true rfl) rfl ?_
  refine PW_aload_n (i := 0) dX12_look_0 rfl rfl ?_
  refine PW_iload_n (i := 1) dX12_look_1 rfl rfl ?_
  refine PW_callV dX12_look_2 moX12_isHand cv12_199 (Yt) (by omega) rfl rfl (Nat.le_of_ble_eq_true rfl) (Nat.le_of_ble_eq_true rfl) (Nat.le_of_ble_eq_true rfl) (spX12_isHand (d := d - 1) hY' Rh (by omega) _) (fun v M1 hq => ?_)
  obtain ⟨rfl, rfl⟩ := hq
  refine PW_if_ne 13 dX12_look_5 (by decide) (fun h5 => ?_) (fun h5 => ?_)
  · have h5 := b1_1.mp h5
    obtain ⟨j, hj, rfl⟩ := isH_of hV' h5
    have ek : (nI j).toNatClampNeg = j := cln (by omega)
    refine PW_aload_n (i := 0) dX12_look_13 rfl rfl ?_
    refine PW_iload_n (i := 1) dX12_look_14 rfl rfl ?_
    refine PW_callV dX12_look_15 moX12_nodSet cv12_240 (Yt) (by omega) rfl rfl (Nat.le_of_ble_eq_true rfl) (Nat.le_of_ble_eq_true rfl) (Nat.le_of_ble_eq_true rfl) (spX12_nodSet (d := d - 1) hY' hR' hV' hb (by omega) hj) (fun v M1 hq => ?_)
    obtain ⟨rfl, i1, rfl, eq⟩ := hq
    have hR1 := eq.mr hR' hV'
    have hnd : ndS (aV s) j < 128 := bitsN_lt _ 7
    refine PW_istore_n (i := 2) dX12_look_18 rfl (Nat.le_of_ble_eq_true rfl) rfl ?_
    refine PW_iload_n (i := 2) dX12_look_19 rfl rfl ?_
    refine PW_if_ne 25 dX12_look_20 (by decide) (fun h20 => ?_) (fun h20 => ?_)
    · have h20 : ¬ ndS (aV s) j = 0 := fun q => h20 (by rw [q]; rfl)
      refine PW_aload_n (i := 0) dX12_look_25 rfl rfl ?_
      refine PW_getR dX12_look_26 fg12_19 (Yt) (Yr4) ?_
      refine PW_iload_n (i := 1) dX12_look_29 rfl rfl ?_
      refine PW_ial (v := i1 (Y + 4) j) dX12_look_30 (Yt4) (by omega) (by omega) (rfl) ?_
      refine PW_istore_n (i := 3) dX12_look_31 rfl (Nat.le_of_ble_eq_true rfl) rfl ?_
      refine PW_iconst (v := 0) dX12_look_32 (by decide) ?_
      refine PW_istore dX12_look_33 (Nat.le_of_ble_eq_true rfl) rfl ?_
      refine PW_mono (fun v M' hq => ?_) (lpX12_look1 hY' hR1 hV' hb (by omega) hj h20 8 0 (by omega) (by omega) i1 _ (EQ3.rfl' i1 Y _ j) (fun b m hb => absurd hb (Nat.not_lt_zero b)))
      obtain ⟨rfl, i4, rfl, eq2⟩ := hq
      have eq := eq.trans eq2
      exact OpM_i (by unfold rLook; rw [if_pos h5, ek, if_neg h20]) hY' (eq.mr hR' hV') eq.fr
    · have h20 := jeq (b := 0) h20
      refine PW_iconst (v := -1) dX12_look_23 (by decide) ?_
      refine PW_ireturn rfl (rfl) dX12_look_24 (Nat.le_of_ble_eq_true rfl) (Nat.le_of_ble_eq_true rfl) ?_
      exact OpM_i (by unfold rLook; rw [if_pos h5, ek, if_pos h20]) hY' hR1 eq.fr
  · have h5 := b1_0.mp h5
    refine PW_aload_n (i := 0) dX12_look_8 rfl rfl ?_
    refine PW_callV dX12_look_9 moX12_bad cv12_97 (Yt) (by omega) rfl rfl (Nat.le_of_ble_eq_true rfl) (Nat.le_of_ble_eq_true rfl) (Nat.le_of_ble_eq_true rfl) (spX12_bad (d := d - 1) hY' hR') (fun v M1 hq => ?_)
    obtain ⟨rfl, i1, rfl, c1, c2⟩ := hq
    refine PW_ireturn rfl (rfl) dX12_look_12 (Nat.le_of_ble_eq_true rfl) (Nat.le_of_ble_eq_true rfl) ?_
    exact OpM_i (by unfold rLook; rw [if_neg h5]) hY' c1 (fun q hq => c2 q (by omega))

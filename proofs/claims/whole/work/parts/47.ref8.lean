/-! ===== the reference: eat ===== -/
def othF (h : Hm) (a b q : Nat) : Bool := (decide (q ≠ a) && decide (q ≠ b)) && (hf h).testBit q
def oth (h : Hm) (a b : Nat) : Nat := bitsN (othF h a b) (hn h)
def sxy (h : Hm) (a b x y : Nat) : Nat := oth h a b ||| x * 2 ^ a ||| y * 2 ^ b
theorem sxy_ok {h : Hm} {a b x y : Nat} (h6 : hn h ≤ 6) (ha : a < 6) (hb : b < 6) (hx : x ≤ 1) (hy : y ≤ 1) : nI (oth h a b) ||| nI x <<< (nI a &&& 31) ||| nI y <<< (nI b &&& 31) = nI (sxy h a b x y) ∧ sxy h a b x y < 64 := by
  have pa := pow_le6 ha
  have pb := pow_le6 hb
  have m0 : x * 2 ^ a ≤ 32 := Nat.le_trans (Nat.mul_le_mul_right _ hx) (by omega)
  have m1 : y * 2 ^ b ≤ 32 := Nat.le_trans (Nat.mul_le_mul_right _ hy) (by omega)
  have ho : oth h a b < 2 ^ 6 := Nat.lt_of_lt_of_le (bitsN_lt _ _) (Nat.pow_le_pow_right (by decide) h6)
  constructor
  · rw [shl_n (by omega) (by omega), shl_n (by omega) (by omega), fa_or, fa_or]; rfl
  · exact Nat.or_lt_two_pow (n := 6) (Nat.or_lt_two_pow (n := 6) ho (by omega)) (by omega)
theorem sh0 {j : Nat} (hj : j < 32) : b2i false <<< (nI j &&& 31) = 0 := by
  have := shl_n (x := 0) (a := j) hj (by omega)
  rw [Nat.zero_mul] at this
  exact this
def etF (h : Hm) (a b q : Nat) : Bool := (!decide (stw h (sxy h a b (q % 2) (q / 2)) = a + 1) || decide (stw h (sxy h a b (1 - q % 2) (q / 2)) = a + 1)) && (!decide (stw h (sxy h a b (q % 2) (q / 2)) = b + 1) || decide (stw h (sxy h a b (q % 2) (1 - q / 2)) = b + 1))
def rEat (s : Ab) (k l : Int32) : Int32 × Ab := if isH s k ∧ isH s l ∧ ¬ k = l then (nI (bitsN (etF (vh (aV s)) k.toNatClampNeg l.toNatClampNeg) 4), s) else (-2, bad s)
set_option maxRecDepth 100000 in
set_option maxHeartbeats 4000000 in
theorem lpX12_eat2 {G : GE} {d : Nat} {i : MI0} {S : MS} {Y : Nat} (hY : YS S Y) {s : Ab} {b : Nat} (hR : MR i S Y s) (hV : AV b s) (hb : b ≤ 100) (hd : 12 ≤ d) {a l : Nat} (ha : a < hn (vh (aV s))) (hl : l < hn (vh (aV s))) (hk : isH s (nI a) ∧ isH s (nI l) ∧ ¬ nI a = nI l) : ∀ (n0 j : Nat), j ≤ 4 → 4 < j + n0 → ∀ (z6 z7 z8 z9 : Value), PW G iX12_eat d (OpM Y (i, S) (.int (rEat s (nI a) (nI l)).1) (rEat s (nI a) (nI l)).2) 81 [.ref Y, .int (nI a), .int (nI l), .int (nI (oth (vh (aV s)) a l)), .int (nI (bitsN (etF (vh (aV s)) a l) j)), .int (nI j), z6, z7, z8, z9] [] (i, S) 0 0 := by
  have hY' := hY
  obtain ⟨Yt, ⟨Yt1, Yr1⟩, ⟨Yt2, Yr2⟩, ⟨Yt3, Yr3⟩, ⟨Yt4, Yr4⟩, ⟨Yt5, Yr5⟩, ⟨Yt6, Yr6⟩, ⟨Yt7, Yr7⟩, ⟨Yt8, Yr8⟩, ⟨Yt9, Yr9⟩, ⟨Yt10, Yr10⟩, ⟨Yt11, Yr11⟩, ⟨Yt12, Yr12⟩, ⟨Yt13, Yr13⟩, ⟨Yt14, Yr14⟩, ⟨Yt15, Yr15⟩, ⟨Yt16, Yr16⟩, ⟨Yt17, Yr17⟩, ⟨Yt18, Yr18⟩, ⟨Yt19, Yr19⟩⟩ := hY
  have hR' := hR
  have hV' := hV
  obtain ⟨Rm, Ri0, Ri1, Rk, Rx, Rt, Rl⟩ := hR
  have Rh := Rm.1
  obtain ⟨Av, Ai, At, Ab', Aa, Aw⟩ := hV
  have Ah := Av.1
  have Ah1 := Ah.1
  have Av1 := Av.2.1
  have Av2 := Av.2.2.1
  have Av3 := Av.2.2.2.1
  intro n0
  induction n0 with
  | zero => intro j h1 h2; exact absurd h2 (by omega)
  | succ n0 ih =>
    intro j hj1 hj2 z6 z7 z8 z9
    refine PW_iload dX12_eat_81 rfl ?_
    refine PW_iconst (v := 4) dX12_eat_83 (by decide) ?_
    refine PW_icmp_ge 209 dX12_eat_84 (by decide) (fun h84 => ?_) (fun h84 => ?_)
    · have h84 := jle (a := 4) h84
      have ej : j = 4 := by omega
      subst ej
      refine PW_iload dX12_eat_209 rfl ?_
      refine PW_ireturn rfl (rfl) dX12_eat_211 (Nat.le_of_ble_eq_true rfl) (Nat.le_of_ble_eq_true rfl) ?_
      exact OpM_i (by unfold rEat; rw [if_pos hk, cln (by omega), cln (by omega)]) hY' hR' (fun _ _ => rfl)
    · have h84 := jnle (a := 4) h84
      refine PW_aload_n (i := 0) dX12_eat_87 rfl rfl ?_
      refine PW_iload_n (i := 3) dX12_eat_88 rfl rfl ?_
      refine PW_iload dX12_eat_89 rfl ?_
      refine PW_iconst (v := 2) dX12_eat_91 (by decide) ?_
      refine PW_irem dX12_eat_92 (by decide) ?_
      refine PW_eqi (rem_c (w := j) (by omega) 2 (by decide) (by decide) rfl) ?_
      refine PW_iload_n (i := 1) dX12_eat_93 rfl rfl ?_
      refine PW_ishl dX12_eat_94 ?_
      refine PW_ior dX12_eat_95 ?_
      refine PW_iload dX12_eat_96 rfl ?_
      refine PW_iconst (v := 2) dX12_eat_98 (by decide) ?_
      refine PW_idiv dX12_eat_99 (by decide) ?_
      refine PW_eqi (pk_div (a := j) (d := 2) (by omega) (by decide) (by decide)) ?_
      refine PW_iload_n (i := 2) dX12_eat_100 rfl rfl ?_
      refine PW_ishl dX12_eat_101 ?_
      refine PW_ior dX12_eat_102 ?_
      have sx := sxy_ok (h := (vh (aV s))) (a := a) (b := l) (x := (j % 2)) (y := (j / 2)) Ah1 (by omega) (by omega) (by omega) (by omega)
      refine PW_eqi sx.1 ?_
      refine PW_callV dX12_eat_103 moX12_steersBy cv12_231 (Yt) (by omega) rfl rfl (Nat.le_of_ble_eq_true rfl) (Nat.le_of_ble_eq_true rfl) (Nat.le_of_ble_eq_true rfl) (spX12_steersBy (d := d - 1) hY' Rh Ah (by omega) (by omega) (by omega)) (fun v M1 hq => ?_)
      obtain ⟨rfl, rfl⟩ := hq
      refine PW_istore dX12_eat_106 (Nat.le_of_ble_eq_true rfl) rfl ?_
      refine PW_aload_n (i := 0) dX12_eat_108 rfl rfl ?_
      refine PW_iload_n (i := 3) dX12_eat_109 rfl rfl ?_
      refine PW_iconst (v := 1) dX12_eat_110 (by decide) ?_
      refine PW_iload dX12_eat_111 rfl ?_
      refine PW_iconst (v := 2) dX12_eat_113 (by decide) ?_
      refine PW_irem dX12_eat_114 (by decide) ?_
      refine PW_eqi (rem_c (w := j) (by omega) 2 (by decide) (by decide) rfl) ?_
      refine PW_isub dX12_eat_115 ?_
      refine PW_eqi (pk_sub (a := 1) (b := (j % 2)) (by omega)) ?_
      refine PW_iload_n (i := 1) dX12_eat_116 rfl rfl ?_
      refine PW_ishl dX12_eat_117 ?_
      refine PW_ior dX12_eat_118 ?_
      refine PW_iload dX12_eat_119 rfl ?_
      refine PW_iconst (v := 2) dX12_eat_121 (by decide) ?_
      refine PW_idiv dX12_eat_122 (by decide) ?_
      refine PW_eqi (pk_div (a := j) (d := 2) (by omega) (by decide) (by decide)) ?_
      refine PW_iload_n (i := 2) dX12_eat_123 rfl rfl ?_
      refine PW_ishl dX12_eat_124 ?_
      refine PW_ior dX12_eat_125 ?_
      have sx := sxy_ok (h := (vh (aV s))) (a := a) (b := l) (x := (1 - j % 2)) (y := (j / 2)) Ah1 (by omega) (by omega) (by omega) (by omega)
      refine PW_eqi sx.1 ?_
      refine PW_callV dX12_eat_126 moX12_steersBy cv12_231 (Yt) (by omega) rfl rfl (Nat.le_of_ble_eq_true rfl) (Nat.le_of_ble_eq_true rfl) (Nat.le_of_ble_eq_true rfl) (spX12_steersBy (d := d - 1) hY' Rh Ah (by omega) (by omega) (by omega)) (fun v M1 hq => ?_)
      obtain ⟨rfl, rfl⟩ := hq
      refine PW_istore dX12_eat_129 (Nat.le_of_ble_eq_true rfl) rfl ?_
      refine PW_aload_n (i := 0) dX12_eat_131 rfl rfl ?_
      refine PW_iload_n (i := 3) dX12_eat_132 rfl rfl ?_
      refine PW_iload dX12_eat_133 rfl ?_
      refine PW_iconst (v := 2) dX12_eat_135 (by decide) ?_
      refine PW_irem dX12_eat_136 (by decide) ?_
      refine PW_eqi (rem_c (w := j) (by omega) 2 (by decide) (by decide) rfl) ?_
      refine PW_iload_n (i := 1) dX12_eat_137 rfl rfl ?_
      refine PW_ishl dX12_eat_138 ?_
      refine PW_ior dX12_eat_139 ?_
      refine PW_iconst (v := 1) dX12_eat_140 (by decide) ?_
      refine PW_iload dX12_eat_141 rfl ?_
      refine PW_iconst (v := 2) dX12_eat_143 (by decide) ?_
      refine PW_idiv dX12_eat_144 (by decide) ?_
      refine PW_eqi (pk_div (a := j) (d := 2) (by omega) (by decide) (by decide)) ?_
      refine PW_isub dX12_eat_145 ?_
      refine PW_eqi (pk_sub (a := 1) (b := (j / 2)) (by omega)) ?_
      refine PW_iload_n (i := 2) dX12_eat_146 rfl rfl ?_
      refine PW_ishl dX12_eat_147 ?_
      refine PW_ior dX12_eat_148 ?_
      have sx := sxy_ok (h := (vh (aV s))) (a := a) (b := l) (x := (j % 2)) (y := (1 - j / 2)) Ah1 (by omega) (by omega) (by omega) (by omega)
      refine PW_eqi sx.1 ?_
      refine PW_callV dX12_eat_149 moX12_steersBy cv12_231 (Yt) (by omega) rfl rfl (Nat.le_of_ble_eq_true rfl) (Nat.le_of_ble_eq_true rfl) (Nat.le_of_ble_eq_true rfl) (spX12_steersBy (d := d - 1) hY' Rh Ah (by omega) (by omega) (by omega)) (fun v M1 hq => ?_)
      obtain ⟨rfl, rfl⟩ := hq
      refine PW_istore dX12_eat_152 (Nat.le_of_ble_eq_true rfl) rfl ?_
      have w0 := stw_le (vh (aV s)) (sxy (vh (aV s)) a l (j % 2) (j / 2))
      have w1 := stw_le (vh (aV s)) (sxy (vh (aV s)) a l (1 - j % 2) (j / 2))
      have w2 := stw_le (vh (aV s)) (sxy (vh (aV s)) a l (j % 2) (1 - j / 2))
      refine PW_iload dX12_eat_154 rfl ?_
      refine PW_iload_n (i := 1) dX12_eat_156 rfl rfl ?_
      refine PW_icmp_ne 166 dX12_eat_157 (by decide) (fun h157 => ?_) (fun h157 => ?_)
      · have h157 : decide ((stw (vh (aV s)) (sxy (vh (aV s)) a l (j % 2) (j / 2))) = a + 1) = false := decide_eq_false (fun q => h157 ((pI_eq (by omega) (by omega)).mpr q).symm)
        refine PW_iload dX12_eat_166 rfl ?_
        refine PW_iload_n (i := 2) dX12_eat_168 rfl rfl ?_
        refine PW_icmp_ne 178 dX12_eat_169 (by decide) (fun h169 => ?_) (fun h169 => ?_)
        · have h169 : decide ((stw (vh (aV s)) (sxy (vh (aV s)) a l (j % 2) (j / 2))) = l + 1) = false := decide_eq_false (fun q => h169 ((pI_eq (by omega) (by omega)).mpr q).symm)
          refine PW_iconst (v := 1) dX12_eat_178 (by decide) ?_
          refine PW_goto 183 dX12_eat_179 (by decide) ?_
          refine PW_istore dX12_eat_183 (Nat.le_of_ble_eq_true rfl) rfl ?_
          refine PW_iload dX12_eat_185 rfl ?_
          refine PW_iload dX12_eat_187 rfl ?_
          refine PW_if_eq 199 dX12_eat_189 (by decide) (fun q => absurd q (by decide)) (fun _ => ?_)
          refine PW_iconst (v := 1) dX12_eat_192 (by decide) ?_
          refine PW_iload dX12_eat_193 rfl ?_
          refine PW_ishl dX12_eat_195 ?_
          refine PW_goto 200 dX12_eat_196 (by decide) ?_
          refine PW_ior dX12_eat_200 ?_
          first | refine PW_eqi (or_bit (bitsN_lt _ _) (by omega)) ?_ | refine PW_eqi (or_0 _) ?_
          refine PW_istore dX12_eat_201 (Nat.le_of_ble_eq_true rfl) rfl ?_
          refine PW_inc1 dX12_eat_203 rfl (Nat.le_of_ble_eq_true rfl) rfl ?_
          refine PW_goto 81 dX12_eat_206 (by decide) ?_
          have q := ih (j + 1) (by omega) (by omega) (.int (pI (stw (vh (aV s)) (sxy (vh (aV s)) a l (j % 2) (j / 2))))) (.int (pI (stw (vh (aV s)) (sxy (vh (aV s)) a l (1 - j % 2) (j / 2))))) (.int (pI (stw (vh (aV s)) (sxy (vh (aV s)) a l (j % 2) (1 - j / 2))))) (.int 1)
          have et : etF (vh (aV s)) a l j = true := by unfold etF; simp only [*]; rfl
          rw [bitsN_t (n := j) et] at q
          exact q
        · have h169 : decide ((stw (vh (aV s)) (sxy (vh (aV s)) a l (j % 2) (j / 2))) = l + 1) = true := decide_eq_true ((pI_eq (by omega) (by omega)).mp h169.symm)
          refine PW_iload dX12_eat_172 rfl ?_
          refine PW_iload_n (i := 2) dX12_eat_174 rfl rfl ?_
          refine PW_icmp_ne 182 dX12_eat_175 (by decide) (fun h175 => ?_) (fun h175 => ?_)
          · have h175 : decide ((stw (vh (aV s)) (sxy (vh (aV s)) a l (j % 2) (1 - j / 2))) = l + 1) = false := decide_eq_false (fun q => h175 ((pI_eq (by omega) (by omega)).mpr q).symm)
            refine PW_iconst (v := 0) dX12_eat_182 (by decide) ?_
            refine PW_istore dX12_eat_183 (Nat.le_of_ble_eq_true rfl) rfl ?_
            refine PW_iload dX12_eat_185 rfl ?_
            refine PW_iload dX12_eat_187 rfl ?_
            refine PW_if_eq 199 dX12_eat_189 (by decide) (fun _ => ?_) (fun q => absurd (by decide) q)
            refine PW_iconst (v := 0) dX12_eat_199 (by decide) ?_
            refine PW_ior dX12_eat_200 ?_
            first | refine PW_eqi (or_bit (bitsN_lt _ _) (by omega)) ?_ | refine PW_eqi (or_0 _) ?_
            refine PW_istore dX12_eat_201 (Nat.le_of_ble_eq_true rfl) rfl ?_
            refine PW_inc1 dX12_eat_203 rfl (Nat.le_of_ble_eq_true rfl) rfl ?_
            refine PW_goto 81 dX12_eat_206 (by decide) ?_
            have q := ih (j + 1) (by omega) (by omega) (.int (pI (stw (vh (aV s)) (sxy (vh (aV s)) a l (j % 2) (j / 2))))) (.int (pI (stw (vh (aV s)) (sxy (vh (aV s)) a l (1 - j % 2) (j / 2))))) (.int (pI (stw (vh (aV s)) (sxy (vh (aV s)) a l (j % 2) (1 - j / 2))))) (.int 0)
            have et : etF (vh (aV s)) a l j = false := by unfold etF; simp only [*]; first | rfl | simp
            rw [bitsN_f (n := j) (by rw [et]; decide)] at q
            exact q
          · have h175 : decide ((stw (vh (aV s)) (sxy (vh (aV s)) a l (j % 2) (1 - j / 2))) = l + 1) = true := decide_eq_true ((pI_eq (by omega) (by omega)).mp h175.symm)
            refine PW_iconst (v := 1) dX12_eat_178 (by decide) ?_
            refine PW_goto 183 dX12_eat_179 (by decide) ?_
            refine PW_istore dX12_eat_183 (Nat.le_of_ble_eq_true rfl) rfl ?_
            refine PW_iload dX12_eat_185 rfl ?_
            refine PW_iload dX12_eat_187 rfl ?_
            refine PW_if_eq 199 dX12_eat_189 (by decide) (fun q => absurd q (by decide)) (fun _ => ?_)
            refine PW_iconst (v := 1) dX12_eat_192 (by decide) ?_
            refine PW_iload dX12_eat_193 rfl ?_
            refine PW_ishl dX12_eat_195 ?_
            refine PW_goto 200 dX12_eat_196 (by decide) ?_
            refine PW_ior dX12_eat_200 ?_
            first | refine PW_eqi (or_bit (bitsN_lt _ _) (by omega)) ?_ | refine PW_eqi (or_0 _) ?_
            refine PW_istore dX12_eat_201 (Nat.le_of_ble_eq_true rfl) rfl ?_
            refine PW_inc1 dX12_eat_203 rfl (Nat.le_of_ble_eq_true rfl) rfl ?_
            refine PW_goto 81 dX12_eat_206 (by decide) ?_
            have q := ih (j + 1) (by omega) (by omega) (.int (pI (stw (vh (aV s)) (sxy (vh (aV s)) a l (j % 2) (j / 2))))) (.int (pI (stw (vh (aV s)) (sxy (vh (aV s)) a l (1 - j % 2) (j / 2))))) (.int (pI (stw (vh (aV s)) (sxy (vh (aV s)) a l (j % 2) (1 - j / 2))))) (.int 1)
            have et : etF (vh (aV s)) a l j = true := by unfold etF; simp only [*]; rfl
            rw [bitsN_t (n := j) et] at q
            exact q
      · have h157 : decide ((stw (vh (aV s)) (sxy (vh (aV s)) a l (j % 2) (j / 2))) = a + 1) = true := decide_eq_true ((pI_eq (by omega) (by omega)).mp h157.symm)
        refine PW_iload dX12_eat_160 rfl ?_
        refine PW_iload_n (i := 1) dX12_eat_162 rfl rfl ?_
        refine PW_icmp_ne 182 dX12_eat_163 (by decide) (fun h163 => ?_) (fun h163 => ?_)
        · have h163 : decide ((stw (vh (aV s)) (sxy (vh (aV s)) a l (1 - j % 2) (j / 2))) = a + 1) = false := decide_eq_false (fun q => h163 ((pI_eq (by omega) (by omega)).mpr q).symm)
          refine PW_iconst (v := 0) dX12_eat_182 (by decide) ?_
          refine PW_istore dX12_eat_183 (Nat.le_of_ble_eq_true rfl) rfl ?_
          refine PW_iload dX12_eat_185 rfl ?_
          refine PW_iload dX12_eat_187 rfl ?_
          refine PW_if_eq 199 dX12_eat_189 (by decide) (fun _ => ?_) (fun q => absurd (by decide) q)
          refine PW_iconst (v := 0) dX12_eat_199 (by decide) ?_
          refine PW_ior dX12_eat_200 ?_
          first | refine PW_eqi (or_bit (bitsN_lt _ _) (by omega)) ?_ | refine PW_eqi (or_0 _) ?_
          refine PW_istore dX12_eat_201 (Nat.le_of_ble_eq_true rfl) rfl ?_
          refine PW_inc1 dX12_eat_203 rfl (Nat.le_of_ble_eq_true rfl) rfl ?_
          refine PW_goto 81 dX12_eat_206 (by decide) ?_
          have q := ih (j + 1) (by omega) (by omega) (.int (pI (stw (vh (aV s)) (sxy (vh (aV s)) a l (j % 2) (j / 2))))) (.int (pI (stw (vh (aV s)) (sxy (vh (aV s)) a l (1 - j % 2) (j / 2))))) (.int (pI (stw (vh (aV s)) (sxy (vh (aV s)) a l (j % 2) (1 - j / 2))))) (.int 0)
          have et : etF (vh (aV s)) a l j = false := by unfold etF; simp only [*]; first | rfl | simp
          rw [bitsN_f (n := j) (by rw [et]; decide)] at q
          exact q
        · have h163 : decide ((stw (vh (aV s)) (sxy (vh (aV s)) a l (1 - j % 2) (j / 2))) = a + 1) = true := decide_eq_true ((pI_eq (by omega) (by omega)).mp h163.symm)
          refine PW_iload dX12_eat_166 rfl ?_
          refine PW_iload_n (i := 2) dX12_eat_168 rfl rfl ?_
          refine PW_icmp_ne 178 dX12_eat_169 (by decide) (fun h169 => ?_) (fun h169 => ?_)
          · have h169 : decide ((stw (vh (aV s)) (sxy (vh (aV s)) a l (j % 2) (j / 2))) = l + 1) = false := decide_eq_false (fun q => h169 ((pI_eq (by omega) (by omega)).mpr q).symm)
            refine PW_iconst (v := 1) dX12_eat_178 (by decide) ?_
            refine PW_goto 183 dX12_eat_179 (by decide) ?_
            refine PW_istore dX12_eat_183 (Nat.le_of_ble_eq_true rfl) rfl ?_
            refine PW_iload dX12_eat_185 rfl ?_
            refine PW_iload dX12_eat_187 rfl ?_
            refine PW_if_eq 199 dX12_eat_189 (by decide) (fun q => absurd q (by decide)) (fun _ => ?_)
            refine PW_iconst (v := 1) dX12_eat_192 (by decide) ?_
            refine PW_iload dX12_eat_193 rfl ?_
            refine PW_ishl dX12_eat_195 ?_
            refine PW_goto 200 dX12_eat_196 (by decide) ?_
            refine PW_ior dX12_eat_200 ?_
            first | refine PW_eqi (or_bit (bitsN_lt _ _) (by omega)) ?_ | refine PW_eqi (or_0 _) ?_
            refine PW_istore dX12_eat_201 (Nat.le_of_ble_eq_true rfl) rfl ?_
            refine PW_inc1 dX12_eat_203 rfl (Nat.le_of_ble_eq_true rfl) rfl ?_
            refine PW_goto 81 dX12_eat_206 (by decide) ?_
            have q := ih (j + 1) (by omega) (by omega) (.int (pI (stw (vh (aV s)) (sxy (vh (aV s)) a l (j % 2) (j / 2))))) (.int (pI (stw (vh (aV s)) (sxy (vh (aV s)) a l (1 - j % 2) (j / 2))))) (.int (pI (stw (vh (aV s)) (sxy (vh (aV s)) a l (j % 2) (1 - j / 2))))) (.int 1)
            have et : etF (vh (aV s)) a l j = true := by unfold etF; simp only [*]; rfl
            rw [bitsN_t (n := j) et] at q
            exact q
          · have h169 : decide ((stw (vh (aV s)) (sxy (vh (aV s)) a l (j % 2) (j / 2))) = l + 1) = true := decide_eq_true ((pI_eq (by omega) (by omega)).mp h169.symm)
            refine PW_iload dX12_eat_172 rfl ?_
            refine PW_iload_n (i := 2) dX12_eat_174 rfl rfl ?_
            refine PW_icmp_ne 182 dX12_eat_175 (by decide) (fun h175 => ?_) (fun h175 => ?_)
            · have h175 : decide ((stw (vh (aV s)) (sxy (vh (aV s)) a l (j % 2) (1 - j / 2))) = l + 1) = false := decide_eq_false (fun q => h175 ((pI_eq (by omega) (by omega)).mpr q).symm)
              refine PW_iconst (v := 0) dX12_eat_182 (by decide) ?_
              refine PW_istore dX12_eat_183 (Nat.le_of_ble_eq_true rfl) rfl ?_
              refine PW_iload dX12_eat_185 rfl ?_
              refine PW_iload dX12_eat_187 rfl ?_
              refine PW_if_eq 199 dX12_eat_189 (by decide) (fun _ => ?_) (fun q => absurd (by decide) q)
              refine PW_iconst (v := 0) dX12_eat_199 (by decide) ?_
              refine PW_ior dX12_eat_200 ?_
              first | refine PW_eqi (or_bit (bitsN_lt _ _) (by omega)) ?_ | refine PW_eqi (or_0 _) ?_
              refine PW_istore dX12_eat_201 (Nat.le_of_ble_eq_true rfl) rfl ?_
              refine PW_inc1 dX12_eat_203 rfl (Nat.le_of_ble_eq_true rfl) rfl ?_
              refine PW_goto 81 dX12_eat_206 (by decide) ?_
              have q := ih (j + 1) (by omega) (by omega) (.int (pI (stw (vh (aV s)) (sxy (vh (aV s)) a l (j % 2) (j / 2))))) (.int (pI (stw (vh (aV s)) (sxy (vh (aV s)) a l (1 - j % 2) (j / 2))))) (.int (pI (stw (vh (aV s)) (sxy (vh (aV s)) a l (j % 2) (1 - j / 2))))) (.int 0)
              have et : etF (vh (aV s)) a l j = false := by unfold etF; simp only [*]; first | rfl | simp
              rw [bitsN_f (n := j) (by rw [et]; decide)] at q
              exact q
            · have h175 : decide ((stw (vh (aV s)) (sxy (vh (aV s)) a l (j % 2) (1 - j / 2))) = l + 1) = true := decide_eq_true ((pI_eq (by omega) (by omega)).mp h175.symm)
              refine PW_iconst (v := 1) dX12_eat_178 (by decide) ?_
              refine PW_goto 183 dX12_eat_179 (by decide) ?_
              refine PW_istore dX12_eat_183 (Nat.le_of_ble_eq_true rfl) rfl ?_
              refine PW_iload dX12_eat_185 rfl ?_
              refine PW_iload dX12_eat_187 rfl ?_
              refine PW_if_eq 199 dX12_eat_189 (by decide) (fun q => absurd q (by decide)) (fun _ => ?_)
              refine PW_iconst (v := 1) dX12_eat_192 (by decide) ?_
              refine PW_iload dX12_eat_193 rfl ?_
              refine PW_ishl dX12_eat_195 ?_
              refine PW_goto 200 dX12_eat_196 (by decide) ?_
              refine PW_ior dX12_eat_200 ?_
              first | refine PW_eqi (or_bit (bitsN_lt _ _) (by omega)) ?_ | refine PW_eqi (or_0 _) ?_
              refine PW_istore dX12_eat_201 (Nat.le_of_ble_eq_true rfl) rfl ?_
              refine PW_inc1 dX12_eat_203 rfl (Nat.le_of_ble_eq_true rfl) rfl ?_
              refine PW_goto 81 dX12_eat_206 (by decide) ?_
              have q := ih (j + 1) (by omega) (by omega) (.int (pI (stw (vh (aV s)) (sxy (vh (aV s)) a l (j % 2) (j / 2))))) (.int (pI (stw (vh (aV s)) (sxy (vh (aV s)) a l (1 - j % 2) (j / 2))))) (.int (pI (stw (vh (aV s)) (sxy (vh (aV s)) a l (j % 2) (1 - j / 2))))) (.int 1)
              have et : etF (vh (aV s)) a l j = true := by unfold etF; simp only [*]; rfl
              rw [bitsN_t (n := j) et] at q
              exact q
set_option maxRecDepth 100000 in
set_option maxHeartbeats 4000000 in
theorem lpX12_eat1 {G : GE} {d : Nat} {i : MI0} {S : MS} {Y : Nat} (hY : YS S Y) {s : Ab} {b : Nat} (hR : MR i S Y s) (hV : AV b s) (hb : b ≤ 100) (hd : 12 ≤ d) {a l : Nat} (ha : a < hn (vh (aV s))) (hl : l < hn (vh (aV s))) (hk : isH s (nI a) ∧ isH s (nI l) ∧ ¬ nI a = nI l) : ∀ (n0 j : Nat), j ≤ hn (vh (aV s)) → hn (vh (aV s)) < j + n0 → PW G iX12_eat d (OpM Y (i, S) (.int (rEat s (nI a) (nI l)).1) (rEat s (nI a) (nI l)).2) 31 [.ref Y, .int (nI a), .int (nI l), .int (nI (bitsN (othF (vh (aV s)) a l) j)), .int (nI j), .null, .null, .null, .null, .null] [] (i, S) 0 0 := by
  have hY' := hY
  obtain ⟨Yt, ⟨Yt1, Yr1⟩, ⟨Yt2, Yr2⟩, ⟨Yt3, Yr3⟩, ⟨Yt4, Yr4⟩, ⟨Yt5, Yr5⟩, ⟨Yt6, Yr6⟩, ⟨Yt7, Yr7⟩, ⟨Yt8, Yr8⟩, ⟨Yt9, Yr9⟩, ⟨Yt10, Yr10⟩, ⟨Yt11, Yr11⟩, ⟨Yt12, Yr12⟩, ⟨Yt13, Yr13⟩, ⟨Yt14, Yr14⟩, ⟨Yt15, Yr15⟩, ⟨Yt16, Yr16⟩, ⟨Yt17, Yr17⟩, ⟨Yt18, Yr18⟩, ⟨Yt19, Yr19⟩⟩ := hY
  have hR' := hR
  have hV' := hV
  obtain ⟨Rm, Ri0, Ri1, Rk, Rx, Rt, Rl⟩ := hR
  have Rh := Rm.1
  obtain ⟨Av, Ai, At, Ab', Aa, Aw⟩ := hV
  have Ah := Av.1
  have Ah1 := Ah.1
  have Av1 := Av.2.1
  have Av2 := Av.2.2.1
  have Av3 := Av.2.2.2.1
  intro n0
  induction n0 with
  | zero => intro j h1 h2; exact absurd h2 (by omega)
  | succ n0 ih =>
    intro j hj1 hj2 
    refine PW_iload dX12_eat_31 rfl ?_
    refine PW_aload_n (i := 0) dX12_eat_33 rfl rfl ?_
    refine PW_giv (v := nI (hn (vh (aV s)))) dX12_eat_34 fg12_74 (Yt) (Rh.1) ?_
    refine PW_icmp_ge 75 dX12_eat_37 (by decide) (fun h37 => ?_) (fun h37 => ?_)
    · have h37 := jle h37
      have ej : j = hn (vh (aV s)) := by omega
      subst ej
      refine PW_iconst (v := 0) dX12_eat_75 (by decide) ?_
      refine PW_istore dX12_eat_76 (Nat.le_of_ble_eq_true rfl) rfl ?_
      refine PW_iconst (v := 0) dX12_eat_78 (by decide) ?_
      refine PW_istore dX12_eat_79 (Nat.le_of_ble_eq_true rfl) rfl ?_
      exact lpX12_eat2 hY' hR' hV' hb hd ha hl hk 5 0 (by omega) (by omega) _ _ _ _
    · have h37 := jnle h37
      refine PW_iload_n (i := 3) dX12_eat_40 rfl rfl ?_
      refine PW_iload dX12_eat_41 rfl ?_
      refine PW_iload_n (i := 1) dX12_eat_43 rfl rfl ?_
      refine PW_icmp_eq 66 dX12_eat_44 (by decide) (fun h44 => ?_) (fun h44 => ?_)
      · have h44 := jeq h44
        have hO : othF (vh (aV s)) a l j = false := by unfold othF; rw [decide_eq_false (fun z => z h44)]; rfl
        refine PW_iconst (v := 0) dX12_eat_66 (by decide) ?_
        refine PW_ior dX12_eat_67 ?_
        refine PW_istore_n (i := 3) dX12_eat_68 rfl (Nat.le_of_ble_eq_true rfl) rfl ?_
        refine PW_inc1 dX12_eat_69 rfl (Nat.le_of_ble_eq_true rfl) rfl ?_
        refine PW_goto 31 dX12_eat_72 (by decide) ?_
        have q := ih (j + 1) (by omega) (by omega)
        rw [← or_bit2 (by omega), hO] at q
        first | exact q | (rw [sh0 (by omega)] at q; exact q)
      · have h44 := jne h44
        refine PW_iload dX12_eat_47 rfl ?_
        refine PW_iload_n (i := 2) dX12_eat_49 rfl rfl ?_
        refine PW_icmp_eq 66 dX12_eat_50 (by decide) (fun h50 => ?_) (fun h50 => ?_)
        · have h50 := jeq h50
          have hO : othF (vh (aV s)) a l j = false := by unfold othF; rw [decide_eq_true h44, decide_eq_false (fun z => z h50)]; rfl
          refine PW_iconst (v := 0) dX12_eat_66 (by decide) ?_
          refine PW_ior dX12_eat_67 ?_
          refine PW_istore_n (i := 3) dX12_eat_68 rfl (Nat.le_of_ble_eq_true rfl) rfl ?_
          refine PW_inc1 dX12_eat_69 rfl (Nat.le_of_ble_eq_true rfl) rfl ?_
          refine PW_goto 31 dX12_eat_72 (by decide) ?_
          have q := ih (j + 1) (by omega) (by omega)
          rw [← or_bit2 (by omega), hO] at q
          first | exact q | (rw [sh0 (by omega)] at q; exact q)
        · have h50 := jne h50
          have hO : othF (vh (aV s)) a l j = (hf (vh (aV s))).testBit j := by unfold othF; rw [decide_eq_true h44, decide_eq_true h50]; rfl
          refine PW_aload_n (i := 0) dX12_eat_53 rfl rfl ?_
          refine PW_getR dX12_eat_54 fg12_22 (Yt) (Yr5) ?_
          refine PW_iload dX12_eat_57 rfl ?_
          refine PW_ial (v := b2i ((hf (vh (aV s))).testBit j)) dX12_eat_59 (Yt5) (by omega) (by omega) ((Rh.2.2.2 j h37).2.2.2) ?_
          refine PW_iload dX12_eat_60 rfl ?_
          refine PW_ishl dX12_eat_62 ?_
          refine PW_goto 67 dX12_eat_63 (by decide) ?_
          refine PW_ior dX12_eat_67 ?_
          refine PW_istore_n (i := 3) dX12_eat_68 rfl (Nat.le_of_ble_eq_true rfl) rfl ?_
          refine PW_inc1 dX12_eat_69 rfl (Nat.le_of_ble_eq_true rfl) rfl ?_
          refine PW_goto 31 dX12_eat_72 (by decide) ?_
          have q := ih (j + 1) (by omega) (by omega)
          rw [← or_bit2 (by omega), hO] at q
          first | exact q | (rw [sh0 (by omega)] at q; exact q)
set_option maxRecDepth 100000 in
set_option maxHeartbeats 4000000 in
theorem spX12_eat {G : GE} {d : Nat} {i : MI0} {S : MS} {Y : Nat} (hY : YS S Y) {s : Ab} {b : Nat} (hR : MR i S Y s) (hV : AV b s) (hb : b ≤ 100) (hd : 12 ≤ d) (k l : Int32) : Mt G iX12_eat d [.ref Y, .int k, .int l] (i, S) (OpM Y (i, S) (.int (rEat s k l).1) (rEat s k l).2) := by
  have hY' := hY
  obtain ⟨Yt, ⟨Yt1, Yr1⟩, ⟨Yt2, Yr2⟩, ⟨Yt3, Yr3⟩, ⟨Yt4, Yr4⟩, ⟨Yt5, Yr5⟩, ⟨Yt6, Yr6⟩, ⟨Yt7, Yr7⟩, ⟨Yt8, Yr8⟩, ⟨Yt9, Yr9⟩, ⟨Yt10, Yr10⟩, ⟨Yt11, Yr11⟩, ⟨Yt12, Yr12⟩, ⟨Yt13, Yr13⟩, ⟨Yt14, Yr14⟩, ⟨Yt15, Yr15⟩, ⟨Yt16, Yr16⟩, ⟨Yt17, Yr17⟩, ⟨Yt18, Yr18⟩, ⟨Yt19, Yr19⟩⟩ := hY
  have hR' := hR
  have hV' := hV
  obtain ⟨Rm, Ri0, Ri1, Rk, Rx, Rt, Rl⟩ := hR
  have Rh := Rm.1
  obtain ⟨Av, Ai, At, Ab', Aa, Aw⟩ := hV
  have Ah := Av.1
  have Ah1 := Ah.1
  have Av1 := Av.2.1
  have Av2 := Av.2.2.1
  have Av3 := Av.2.2.2.1
  refine Mt_in 7 (ls := [.ref Y, .int k, .int l, .null, .null, .null, .null, .null, .null, .null]) moX12_eat (Nat.le_of_ble_eq_true rfl) rfl ?_
  refine PW_aload_n (i := 0) dX12_eat_0 rfl rfl ?_
  refine PW_iload_n (i := 1) dX12_eat_1 rfl rfl ?_
  refine PW_callV dX12_eat_2 moX12_isHand cv12_199 (Yt) (by omega) rfl rfl (Nat.le_of_ble_eq_true rfl) (Nat.le_of_ble_eq_true rfl) (Nat.le_of_ble_eq_true rfl) (spX12_isHand (d := d - 1) hY' Rh (by omega) _) (fun v M1 hq => ?_)
  obtain ⟨rfl, rfl⟩ := hq
  refine PW_if_eq 21 dX12_eat_5 (by decide) (fun h5 => ?_) (fun h5 => ?_)
  · have h5 := b1_0.mp h5
    refine PW_aload_n (i := 0) dX12_eat_21 rfl rfl ?_
    refine PW_callV dX12_eat_22 moX12_bad cv12_97 (Yt) (by omega) rfl rfl (Nat.le_of_ble_eq_true rfl) (Nat.le_of_ble_eq_true rfl) (Nat.le_of_ble_eq_true rfl) (spX12_bad (d := d - 1) hY' hR') (fun v M1 hq => ?_)
    obtain ⟨rfl, i1, rfl, c1, c2⟩ := hq
    refine PW_ireturn rfl (rfl) dX12_eat_25 (Nat.le_of_ble_eq_true rfl) (Nat.le_of_ble_eq_true rfl) ?_
    exact OpM_i (by unfold rEat; rw [if_neg (fun q => by first | exact h5 q.1 | exact h13 q.2.1 | exact q.2.2 h18)]) hY' c1 (fun q hq => c2 q (by omega))
  · have h5 := b1_1.mp h5
    refine PW_aload_n (i := 0) dX12_eat_8 rfl rfl ?_
    refine PW_iload_n (i := 2) dX12_eat_9 rfl rfl ?_
    refine PW_callV dX12_eat_10 moX12_isHand cv12_199 (Yt) (by omega) rfl rfl (Nat.le_of_ble_eq_true rfl) (Nat.le_of_ble_eq_true rfl) (Nat.le_of_ble_eq_true rfl) (spX12_isHand (d := d - 1) hY' Rh (by omega) _) (fun v M1 hq => ?_)
    obtain ⟨rfl, rfl⟩ := hq
    refine PW_if_eq 21 dX12_eat_13 (by decide) (fun h13 => ?_) (fun h13 => ?_)
    · have h13 := b1_0.mp h13
      refine PW_aload_n (i := 0) dX12_eat_21 rfl rfl ?_
      refine PW_callV dX12_eat_22 moX12_bad cv12_97 (Yt) (by omega) rfl rfl (Nat.le_of_ble_eq_true rfl) (Nat.le_of_ble_eq_true rfl) (Nat.le_of_ble_eq_true rfl) (spX12_bad (d := d - 1) hY' hR') (fun v M1 hq => ?_)
      obtain ⟨rfl, i1, rfl, c1, c2⟩ := hq
      refine PW_ireturn rfl (rfl) dX12_eat_25 (Nat.le_of_ble_eq_true rfl) (Nat.le_of_ble_eq_true rfl) ?_
      exact OpM_i (by unfold rEat; rw [if_neg (fun q => by first | exact h5 q.1 | exact h13 q.2.1 | exact q.2.2 h18)]) hY' c1 (fun q hq => c2 q (by omega))
    · have h13 := b1_1.mp h13
      refine PW_iload_n (i := 1) dX12_eat_16 rfl rfl ?_
      refine PW_iload_n (i := 2) dX12_eat_17 rfl rfl ?_
      refine PW_icmp_ne 26 dX12_eat_18 (by decide) (fun h18 => ?_) (fun h18 => ?_)
      · obtain ⟨j, hj, rfl⟩ := isH_of hV' h5
        have ek : (nI j).toNatClampNeg = j := cln (by omega)
        obtain ⟨l, hl, rfl⟩ := isH_of hV' h13
        have el : (nI l).toNatClampNeg = l := cln (by omega)
        refine PW_iconst (v := 0) dX12_eat_26 (by decide) ?_
        refine PW_istore_n (i := 3) dX12_eat_27 rfl (Nat.le_of_ble_eq_true rfl) rfl ?_
        refine PW_iconst (v := 0) dX12_eat_28 (by decide) ?_
        refine PW_istore dX12_eat_29 (Nat.le_of_ble_eq_true rfl) rfl ?_
        exact lpX12_eat1 hY' hR' hV' hb hd hj hl ⟨h5, h13, h18⟩ (hn (vh (aV s)) + 1) 0 (by omega) (by omega)
      · refine PW_aload_n (i := 0) dX12_eat_21 rfl rfl ?_
        refine PW_callV dX12_eat_22 moX12_bad cv12_97 (Yt) (by omega) rfl rfl (Nat.le_of_ble_eq_true rfl) (Nat.le_of_ble_eq_true rfl) (Nat.le_of_ble_eq_true rfl) (spX12_bad (d := d - 1) hY' hR') (fun v M1 hq => ?_)
        obtain ⟨rfl, i1, rfl, c1, c2⟩ := hq
        refine PW_ireturn rfl (rfl) dX12_eat_25 (Nat.le_of_ble_eq_true rfl) (Nat.le_of_ble_eq_true rfl) ?_
        exact OpM_i (by unfold rEat; rw [if_neg (fun q => by first | exact h5 q.1 | exact h13 q.2.1 | exact q.2.2 h18)]) hY' c1 (fun q hq => c2 q (by omega))

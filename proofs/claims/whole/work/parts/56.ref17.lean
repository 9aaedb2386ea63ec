/-! ===== the reference: words and numbers of a text ===== -/
/-- one field of Y alone has changed -/
def F15 (i i' : MI0) (Y : Nat) : Prop := (∀ k, k ≠ 15 → i' Y k = i Y k) ∧ ∀ q, q ≠ Y → i' q = i q
theorem F15.rfl' (i : MI0) (Y : Nat) : F15 i i Y := ⟨fun _ _ => rfl, fun _ _ => rfl⟩
theorem F15.trans {i i1 i2 : MI0} {Y : Nat} (h1 : F15 i i1 Y) (h2 : F15 i1 i2 Y) : F15 i i2 Y := ⟨fun k hk => (h2.1 k hk).trans (h1.1 k hk), fun q hq => (h2.2 q hq).trans (h1.2 q hq)⟩
theorem F15.w {i i2 : MI0} {S : MS} {Y : Nat} {v : Int32} (e : i2 = mi (wI (i, S) Y 15 v)) : F15 i i2 Y := by
  subst e
  exact ⟨fun k hk => rI_k _ _ _ hk, fun q hq => rI_f _ _ hq⟩
theorem b1_L {c : Nat} (hc : c < 128) : b1 ((97 : Int32) ≤ nI c ∧ nI c ≤ 122) = b2i (pL c) := by
  unfold pL
  rw [show (97 : Int32) = nI 97 from rfl, show (122 : Int32) = nI 122 from rfl]
  by_cases h1 : 97 ≤ c
  · by_cases h2 : c ≤ 122
    · rw [decide_eq_true h1, decide_eq_true h2, b1_t ⟨nI_le h1 (by omega), nI_le h2 (by omega)⟩]; rfl
    · rw [decide_eq_true h1, decide_eq_false h2, b1_f (fun q => h2 (jle q.2))]; rfl
  · rw [decide_eq_false h1, b1_f (fun q => h1 (jle q.1))]; rfl
theorem b1_F {c : Nat} (hc : c < 128) : b1 ((48 : Int32) ≤ nI c ∧ nI c ≤ 57) = b2i (pF c) := by
  unfold pF
  rw [show (48 : Int32) = nI 48 from rfl, show (57 : Int32) = nI 57 from rfl]
  by_cases h1 : 48 ≤ c
  · by_cases h2 : c ≤ 57
    · rw [decide_eq_true h1, decide_eq_true h2, b1_t ⟨nI_le h1 (by omega), nI_le h2 (by omega)⟩]; rfl
    · rw [decide_eq_true h1, decide_eq_false h2, b1_f (fun q => h2 (jle q.2))]; rfl
  · rw [decide_eq_false h1, b1_f (fun q => h1 (jle q.1))]; rfl
theorem pL_F {c : Nat} (h : pF c = true) : ¬ pL c = true := fun q => by
  have h1 := fig h
  have h2 := let' q
  omega
/-- the word w begins at r -/
def spB (L : Nat) (B : Nat → Nat) (r w : Nat) : Bool := decide (rn pL L B r - r = 4) && (wdF B r w 0 && (wdF B r w 1 && (wdF B r w 2 && wdF B r w 3)))
theorem rn4 {p : Nat → Bool} {L : Nat} {B : Nat → Nat} {r : Nat} (h : rn p L B r - r = 4) : r < L ∧ p (B r) = true := by
  by_cases q : r < L ∧ p (B r) = true
  · exact q
  · have e : rn p L B r = r := rn_n (by
      by_cases h1 : r < L
      · exact Or.inr (fun z => q ⟨h1, z⟩)
      · exact Or.inl (by omega))
    omega
theorem spB_isW (L : Nat) (B : Nat → Nat) (r w : Nat) : spB L B r w = isW L B r w := by
  unfold spB isW
  have ha : allB (wdF B r w) 4 = (wdF B r w 0 && (wdF B r w 1 && (wdF B r w 2 && wdF B r w 3))) := by
    simp only [allB, Bool.true_and, Bool.and_assoc]
  rw [ha]
  by_cases h : rn pL L B r - r = 4
  · have q := rn4 h
    rw [show tT L B r = 1 from by unfold tT; rw [if_neg (by omega), if_pos q.2], show tE L B r = rn pL L B r from by unfold tE; rw [if_neg (by omega), if_pos q.2], decide_eq_true h]
    rfl
  · rw [decide_eq_false h, Bool.false_and]
    by_cases h1 : tT L B r = 1
    · have q := tT1 h1
      rw [show tE L B r = rn pL L B r from by unfold tE; rw [if_neg (by omega), if_pos q.2], decide_eq_false h, Bool.false_and, Bool.and_false]
    · rw [decide_eq_false h1, Bool.false_and]
theorem isW_4 {L : Nat} {B : Nat → Nat} {s w : Nat} (h : isW L B s w = true) : s < L ∧ tE L B s = s + 4 ∧ s + 4 ≤ L := by
  rw [← spB_isW] at h
  unfold spB at h
  rw [Bool.and_eq_true] at h
  have h4 := of_decide_eq_true h.1
  have q := rn4 h4
  have hl := rn_le (p := pL) (B := B) (show s ≤ L by omega)
  refine ⟨q.1, ?_, by omega⟩
  unfold tE
  rw [if_neg (by omega), if_pos q.2]
  omega
set_option maxRecDepth 100000 in
set_option maxHeartbeats 4000000 in
theorem spX12_isLetter {G : GE} {d : Nat} {M : Mm} {c : Nat} (hc : c < 128) (hd : 1 ≤ d) : Mt G iX12_isLetter d [.int (nI c)] M (Rt (b2i (pL c)) M) := by
  refine Mt_in 0 (ls := [.int (nI c)]) moX12_isLetter (Nat.le_of_ble_eq_true rfl) rfl ?_
  refine PW_iload_n (i := 0) dX12_isLetter_0 rfl rfl ?_
  refine PW_bipush (v := 97) dX12_isLetter_1 (by decide) ?_
  refine PW_bipush (v := 122) dX12_isLetter_3 (by decide) ?_
  refine PW_callS dX12_isLetter_5 moX12_in cs12_93 (by omega) rfl rfl (Nat.le_of_ble_eq_true rfl) (Nat.le_of_ble_eq_true rfl) (Nat.le_of_ble_eq_true rfl) (spX12_in (d := d - 1) _ _ _) (fun v M1 hq => ?_)
  obtain ⟨rfl, rfl⟩ := hq
  refine PW_ireturn rfl (b1_n _) dX12_isLetter_8 (Nat.le_of_ble_eq_true rfl) (Nat.le_of_ble_eq_true rfl) ?_
  exact rt_i (b1_L hc)
set_option maxRecDepth 100000 in
set_option maxHeartbeats 4000000 in
theorem spX12_isFigure {G : GE} {d : Nat} {M : Mm} {c : Nat} (hc : c < 128) (hd : 1 ≤ d) : Mt G iX12_isFigure d [.int (nI c)] M (Rt (b2i (pF c)) M) := by
  refine Mt_in 0 (ls := [.int (nI c)]) moX12_isFigure (Nat.le_of_ble_eq_true rfl) rfl ?_
  refine PW_iload_n (i := 0) dX12_isFigure_0 rfl rfl ?_
  refine PW_bipush (v := 48) dX12_isFigure_1 (by decide) ?_
  refine PW_bipush (v := 57) dX12_isFigure_3 (by decide) ?_
  refine PW_callS dX12_isFigure_5 moX12_in cs12_93 (by omega) rfl rfl (Nat.le_of_ble_eq_true rfl) (Nat.le_of_ble_eq_true rfl) (Nat.le_of_ble_eq_true rfl) (spX12_in (d := d - 1) _ _ _) (fun v M1 hq => ?_)
  obtain ⟨rfl, rfl⟩ := hq
  refine PW_ireturn rfl (b1_n _) dX12_isFigure_8 (Nat.le_of_ble_eq_true rfl) (Nat.le_of_ble_eq_true rfl) ?_
  exact rt_i (b1_F hc)
set_option maxRecDepth 100000 in
set_option maxHeartbeats 4000000 in
theorem spX12_here {G : GE} {d : Nat} {i : MI0} {S : MS} {Y : Nat} (hY : YS S Y) {L : Nat} {B : Nat → Nat} (hT : i Y 14 = nI L ∧ ∀ j, j < L → i (Y + 9) j = nI (B j)) (hL : L ≤ 150) (hB : ∀ j, j < L → B j < 128) {r : Nat} (hr : r ≤ L) (h15 : i Y 15 = nI r) : Mt G iX12_here d [.ref Y] (i, S) (Rt (if r < L then nI (B r) else -1) (i, S)) := by
  have hY' := hY
  obtain ⟨Yt, ⟨Yt1, Yr1⟩, ⟨Yt2, Yr2⟩, ⟨Yt3, Yr3⟩, ⟨Yt4, Yr4⟩, ⟨Yt5, Yr5⟩, ⟨Yt6, Yr6⟩, ⟨Yt7, Yr7⟩, ⟨Yt8, Yr8⟩, ⟨Yt9, Yr9⟩, ⟨Yt10, Yr10⟩, ⟨Yt11, Yr11⟩, ⟨Yt12, Yr12⟩, ⟨Yt13, Yr13⟩, ⟨Yt14, Yr14⟩, ⟨Yt15, Yr15⟩, ⟨Yt16, Yr16⟩, ⟨Yt17, Yr17⟩, ⟨Yt18, Yr18⟩, ⟨Yt19, Yr19⟩⟩ := hY
  refine Mt_in 0 (ls := [.ref Y]) moX12_here (Nat.le_of_ble_eq_true rfl) rfl ?_
  refine PW_aload_n (i := 0) dX12_here_0 rfl rfl ?_
  refine PW_giv (v := nI r) dX12_here_1 fg12_122 (Yt) (h15) ?_
  refine PW_aload_n (i := 0) dX12_here_4 rfl rfl ?_
  refine PW_giv (v := nI L) dX12_here_5 fg12_119 (Yt) (hT.1) ?_
  refine PW_icmp_ge 23 dX12_here_8 (by decide) (fun h8 => ?_) (fun h8 => ?_)
  · have h8 := jle h8
    refine PW_iconst (v := -1) dX12_here_23 (by decide) ?_
    refine PW_ireturn rfl (rfl) dX12_here_24 (Nat.le_of_ble_eq_true rfl) (Nat.le_of_ble_eq_true rfl) ?_
    refine rt_i ?_
    first | (rw [if_pos (show r < L by omega)]) | (rw [if_neg (show ¬ r < L by omega)])
  · have h8 := jnle h8
    refine PW_aload_n (i := 0) dX12_here_11 rfl rfl ?_
    refine PW_getR dX12_here_12 fg12_34 (Yt) (Yr9) ?_
    refine PW_aload_n (i := 0) dX12_here_15 rfl rfl ?_
    refine PW_giv (v := nI r) dX12_here_16 fg12_122 (Yt) (h15) ?_
    refine PW_ial (v := nI (B r)) dX12_here_19 (Yt9) (by omega) (by omega) (hT.2 r h8) ?_
    refine PW_goto 24 dX12_here_20 (by decide) ?_
    refine PW_ireturn rfl (rfl) dX12_here_24 (Nat.le_of_ble_eq_true rfl) (Nat.le_of_ble_eq_true rfl) ?_
    refine rt_i ?_
    first | (rw [if_pos (show r < L by omega)]) | (rw [if_neg (show ¬ r < L by omega)])
set_option maxRecDepth 100000 in
set_option maxHeartbeats 4000000 in
theorem lpX12_skip {G : GE} {d : Nat} {i : MI0} {S : MS} {Y : Nat} (hY : YS S Y) {L : Nat} {B : Nat → Nat} (hT : i Y 14 = nI L ∧ ∀ j, j < L → i (Y + 9) j = nI (B j)) (hL : L ≤ 150) (hB : ∀ j, j < L → B j < 128) (hd : 1 ≤ d) {r : Nat} : ∀ (n0 j : Nat), j ≤ L → L < j + n0 → ∀ (i' : MI0), i' Y 15 = nI j → F15 i i' Y → rn pS L B r = rn pS L B j → PW G iX12_skip d (Wr S (fun i' => i' Y 15 = nI (rn pS L B r) ∧ F15 i i' Y)) 0 [.ref Y] [] (i', S) 0 0 := by
  have hY' := hY
  obtain ⟨Yt, ⟨Yt1, Yr1⟩, ⟨Yt2, Yr2⟩, ⟨Yt3, Yr3⟩, ⟨Yt4, Yr4⟩, ⟨Yt5, Yr5⟩, ⟨Yt6, Yr6⟩, ⟨Yt7, Yr7⟩, ⟨Yt8, Yr8⟩, ⟨Yt9, Yr9⟩, ⟨Yt10, Yr10⟩, ⟨Yt11, Yr11⟩, ⟨Yt12, Yr12⟩, ⟨Yt13, Yr13⟩, ⟨Yt14, Yr14⟩, ⟨Yt15, Yr15⟩, ⟨Yt16, Yr16⟩, ⟨Yt17, Yr17⟩, ⟨Yt18, Yr18⟩, ⟨Yt19, Yr19⟩⟩ := hY
  intro n0
  induction n0 with
  | zero => intro j h1 h2; exact absurd h2 (by omega)
  | succ n0 ih =>
    intro j hj1 hj2 i' v1 v2 v3
    refine PW_aload_n (i := 0) dX12_skip_0 rfl rfl ?_
    refine PW_callV dX12_skip_1 moX12_here cv12_125 (Yt) (by omega) rfl rfl (Nat.le_of_ble_eq_true rfl) (Nat.le_of_ble_eq_true rfl) (Nat.le_of_ble_eq_true rfl) (spX12_here (d := d - 1) hY' (L := L) (B := B) ⟨(v2.1 14 (by decide)).trans hT.1, fun q hq => by rw [v2.2 (Y + 9) (by omega)]; exact hT.2 q hq⟩ hL hB (r := j) (by omega) v1) (fun v M1 hq => ?_)
    obtain ⟨rfl, rfl⟩ := hq
    refine PW_bipush (v := 32) dX12_skip_4 (by decide) ?_
    refine PW_icmp_ne 22 dX12_skip_6 (by decide) (fun h6 => ?_) (fun h6 => ?_)
    · have h6 : L ≤ j ∨ ¬ pS (B j) = true := by
        by_cases q : j < L
        · rw [if_pos q] at h6; exact Or.inr (fun z => h6 (by rw [of_decide_eq_true z]; rfl))
        · exact Or.inl (by omega)
      refine PW_return rfl dX12_skip_22 (Nat.le_of_ble_eq_true rfl) (Nat.le_of_ble_eq_true rfl) ?_
      have q : rn pS L B r = j := v3.trans (rn_n h6)
      rw [q]
      exact Wr_mk rfl ⟨v1, v2⟩
    · have h6b : j < L ∧ pS (B j) = true := by
        by_cases q : j < L
        · rw [if_pos q] at h6; exact ⟨q, decide_eq_true (jeq (b := 32) h6 (by have := hB j q; omega))⟩
        · rw [if_neg q] at h6; exact absurd h6 (by decide)
      refine PW_aload_n (i := 0) dX12_skip_9 rfl rfl ?_
      refine PW_dup dX12_skip_10 rfl ?_
      refine PW_giv (v := nI j) dX12_skip_11 fg12_122 (Yt) (v1) ?_
      refine PW_iconst (v := 1) dX12_skip_14 (by decide) ?_
      refine PW_iadd dX12_skip_15 ?_
      refine PW_eqi (nI_1 _) ?_
      refine PW_putI dX12_skip_16 fr12_122 (fun h => by cases h) (Yt) ?_
      refine PW_goto 0 dX12_skip_19 (by decide) ?_
      refine PW_nm rfl (fun i2 e2 => ?_)
      exact ih (j + 1) (by omega) (by omega) i2 (by rw [e2]; exact rI_s _ _ _ _) (v2.trans (F15.w e2)) (v3.trans (rn_y h6b.1 h6b.2))
set_option maxRecDepth 100000 in
set_option maxHeartbeats 4000000 in
theorem spX12_skip {G : GE} {d : Nat} {i : MI0} {S : MS} {Y : Nat} (hY : YS S Y) {L : Nat} {B : Nat → Nat} (hT : i Y 14 = nI L ∧ ∀ j, j < L → i (Y + 9) j = nI (B j)) (hL : L ≤ 150) (hB : ∀ j, j < L → B j < 128) {r : Nat} (hr : r ≤ L) (h15 : i Y 15 = nI r) (hd : 1 ≤ d) : Mt G iX12_skip d [.ref Y] (i, S) (Wr S (fun i' => i' Y 15 = nI (rn pS L B r) ∧ F15 i i' Y)) := by
  refine Mt_in 0 (ls := [.ref Y]) moX12_skip (Nat.le_of_ble_eq_true rfl) rfl ?_
  exact lpX12_skip hY hT hL hB hd (L + 1) r hr (by omega) i h15 (F15.rfl' i Y) rfl
set_option maxRecDepth 100000 in
set_option maxHeartbeats 4000000 in
theorem lpX12_wordSize {G : GE} {d : Nat} {i : MI0} {S : MS} {Y : Nat} (hY : YS S Y) {L : Nat} {B : Nat → Nat} (hT : i Y 14 = nI L ∧ ∀ j, j < L → i (Y + 9) j = nI (B j)) (hL : L ≤ 150) (hB : ∀ j, j < L → B j < 128) {r : Nat} (hr : r ≤ L) (h15 : i Y 15 = nI r) (hd : 2 ≤ d) : ∀ (n0 j : Nat), j ≤ L - r → L - r < j + n0 → rn pL L B r = rn pL L B (r + j) → PW G iX12_wordSize d (Rt (nI (rn pL L B r - r)) (i, S)) 2 [.ref Y, .int (nI j)] [] (i, S) 0 0 := by
  have hY' := hY
  obtain ⟨Yt, ⟨Yt1, Yr1⟩, ⟨Yt2, Yr2⟩, ⟨Yt3, Yr3⟩, ⟨Yt4, Yr4⟩, ⟨Yt5, Yr5⟩, ⟨Yt6, Yr6⟩, ⟨Yt7, Yr7⟩, ⟨Yt8, Yr8⟩, ⟨Yt9, Yr9⟩, ⟨Yt10, Yr10⟩, ⟨Yt11, Yr11⟩, ⟨Yt12, Yr12⟩, ⟨Yt13, Yr13⟩, ⟨Yt14, Yr14⟩, ⟨Yt15, Yr15⟩, ⟨Yt16, Yr16⟩, ⟨Yt17, Yr17⟩, ⟨Yt18, Yr18⟩, ⟨Yt19, Yr19⟩⟩ := hY
  intro n0
  induction n0 with
  | zero => intro j h1 h2; exact absurd h2 (by omega)
  | succ n0 ih =>
    intro j hj1 hj2 v1
    refine PW_aload_n (i := 0) dX12_wordSize_2 rfl rfl ?_
    refine PW_giv (v := nI r) dX12_wordSize_3 fg12_122 (Yt) (h15) ?_
    refine PW_iload_n (i := 1) dX12_wordSize_6 rfl rfl ?_
    refine PW_iadd dX12_wordSize_7 ?_
    refine PW_eqi (nI_add _ _) ?_
    refine PW_aload_n (i := 0) dX12_wordSize_8 rfl rfl ?_
    refine PW_giv (v := nI L) dX12_wordSize_9 fg12_119 (Yt) (hT.1) ?_
    refine PW_icmp_ge 38 dX12_wordSize_12 (by decide) (fun h12 => ?_) (fun h12 => ?_)
    · have h12 := jle h12
      refine PW_iload_n (i := 1) dX12_wordSize_38 rfl rfl ?_
      refine PW_ireturn rfl (rfl) dX12_wordSize_39 (Nat.le_of_ble_eq_true rfl) (Nat.le_of_ble_eq_true rfl) ?_
      have q : rn pL L B r = r + j := v1.trans (rn_n (by first | exact Or.inl h12 | exact Or.inr (by rw [h29]; decide)))
      exact rt_i (by rw [q]; congr 1; omega)
    · have h12 := jnle h12
      refine PW_aload_n (i := 0) dX12_wordSize_15 rfl rfl ?_
      refine PW_getR dX12_wordSize_16 fg12_34 (Yt) (Yr9) ?_
      refine PW_aload_n (i := 0) dX12_wordSize_19 rfl rfl ?_
      refine PW_giv (v := nI r) dX12_wordSize_20 fg12_122 (Yt) (h15) ?_
      refine PW_iload_n (i := 1) dX12_wordSize_23 rfl rfl ?_
      refine PW_iadd dX12_wordSize_24 ?_
      refine PW_eqi (nI_add _ _) ?_
      refine PW_ial (v := nI (B (r + j))) dX12_wordSize_25 (Yt9) (by omega) (by omega) (hT.2 (r + j) (by omega)) ?_
      refine PW_callS dX12_wordSize_26 moX12_isLetter cs12_128 (by omega) rfl rfl (Nat.le_of_ble_eq_true rfl) (Nat.le_of_ble_eq_true rfl) (Nat.le_of_ble_eq_true rfl) (spX12_isLetter (d := d - 1) (hB _ (by omega)) (by omega)) (fun v M1 hq => ?_)
      obtain ⟨rfl, rfl⟩ := hq
      refine PW_if_eq 38 dX12_wordSize_29 (by decide) (fun h29 => ?_) (fun h29 => ?_)
      · have h29 := b2i_0.mp h29
        refine PW_iload_n (i := 1) dX12_wordSize_38 rfl rfl ?_
        refine PW_ireturn rfl (rfl) dX12_wordSize_39 (Nat.le_of_ble_eq_true rfl) (Nat.le_of_ble_eq_true rfl) ?_
        have q : rn pL L B r = r + j := v1.trans (rn_n (by first | exact Or.inl h12 | exact Or.inr (by rw [h29]; decide)))
        exact rt_i (by rw [q]; congr 1; omega)
      · have h29 := b2i_n.mp h29
        refine PW_inc1 dX12_wordSize_32 rfl (Nat.le_of_ble_eq_true rfl) rfl ?_
        refine PW_goto 2 dX12_wordSize_35 (by decide) ?_
        exact ih (j + 1) (by omega) (by omega) (v1.trans (rn_y (by omega) h29))
set_option maxRecDepth 100000 in
set_option maxHeartbeats 4000000 in
theorem spX12_wordSize {G : GE} {d : Nat} {i : MI0} {S : MS} {Y : Nat} (hY : YS S Y) {L : Nat} {B : Nat → Nat} (hT : i Y 14 = nI L ∧ ∀ j, j < L → i (Y + 9) j = nI (B j)) (hL : L ≤ 150) (hB : ∀ j, j < L → B j < 128) {r : Nat} (hr : r ≤ L) (h15 : i Y 15 = nI r) (hd : 2 ≤ d) : Mt G iX12_wordSize d [.ref Y] (i, S) (Rt (nI (rn pL L B r - r)) (i, S)) := by
  have hY' := hY
  obtain ⟨Yt, ⟨Yt1, Yr1⟩, ⟨Yt2, Yr2⟩, ⟨Yt3, Yr3⟩, ⟨Yt4, Yr4⟩, ⟨Yt5, Yr5⟩, ⟨Yt6, Yr6⟩, ⟨Yt7, Yr7⟩, ⟨Yt8, Yr8⟩, ⟨Yt9, Yr9⟩, ⟨Yt10, Yr10⟩, ⟨Yt11, Yr11⟩, ⟨Yt12, Yr12⟩, ⟨Yt13, Yr13⟩, ⟨Yt14, Yr14⟩, ⟨Yt15, Yr15⟩, ⟨Yt16, Yr16⟩, ⟨Yt17, Yr17⟩, ⟨Yt18, Yr18⟩, ⟨Yt19, Yr19⟩⟩ := hY
  refine Mt_in 1 (ls := [.ref Y, .null]) moX12_wordSize (Nat.le_of_ble_eq_true rfl) rfl ?_
  refine PW_iconst (v := 0) dX12_wordSize_0 (by decide) ?_
  refine PW_istore_n (i := 1) dX12_wordSize_1 rfl (Nat.le_of_ble_eq_true rfl) rfl ?_
  exact lpX12_wordSize hY' hT hL hB hr h15 hd (L - r + 1) 0 (by omega) (by omega) rfl
set_option maxRecDepth 100000 in
set_option maxHeartbeats 4000000 in
theorem spX12_letter {G : GE} {d : Nat} {i : MI0} {S : MS} {Y : Nat} (hY : YS S Y) {L : Nat} {B : Nat → Nat} (hT : i Y 14 = nI L ∧ ∀ j, j < L → i (Y + 9) j = nI (B j)) (hL : L ≤ 150) (hB : ∀ j, j < L → B j < 128) {r : Nat} (hr : r ≤ L) (h15 : i Y 15 = nI r) {k : Nat} (hk : r + k < L) : Mt G iX12_letter d [.ref Y, .int (nI k)] (i, S) (Rt (nI (B (r + k))) (i, S)) := by
  have hY' := hY
  obtain ⟨Yt, ⟨Yt1, Yr1⟩, ⟨Yt2, Yr2⟩, ⟨Yt3, Yr3⟩, ⟨Yt4, Yr4⟩, ⟨Yt5, Yr5⟩, ⟨Yt6, Yr6⟩, ⟨Yt7, Yr7⟩, ⟨Yt8, Yr8⟩, ⟨Yt9, Yr9⟩, ⟨Yt10, Yr10⟩, ⟨Yt11, Yr11⟩, ⟨Yt12, Yr12⟩, ⟨Yt13, Yr13⟩, ⟨Yt14, Yr14⟩, ⟨Yt15, Yr15⟩, ⟨Yt16, Yr16⟩, ⟨Yt17, Yr17⟩, ⟨Yt18, Yr18⟩, ⟨Yt19, Yr19⟩⟩ := hY
  refine Mt_in 0 (ls := [.ref Y, .int (nI k)]) moX12_letter (Nat.le_of_ble_eq_true rfl) rfl ?_
  refine PW_aload_n (i := 0) dX12_letter_0 rfl rfl ?_
  refine PW_getR dX12_letter_1 fg12_34 (Yt) (Yr9) ?_
  refine PW_aload_n (i := 0) dX12_letter_4 rfl rfl ?_
  refine PW_giv (v := nI r) dX12_letter_5 fg12_122 (Yt) (h15) ?_
  refine PW_iload_n (i := 1) dX12_letter_8 rfl rfl ?_
  refine PW_iadd dX12_letter_9 ?_
  refine PW_eqi (nI_add _ _) ?_
  refine PW_ial (v := nI (B (r + k))) dX12_letter_10 (Yt9) (by omega) (by omega) (hT.2 (r + k) hk) ?_
  refine PW_ireturn rfl (rfl) dX12_letter_11 (Nat.le_of_ble_eq_true rfl) (Nat.le_of_ble_eq_true rfl) ?_
  exact rt_i rfl
set_option maxRecDepth 100000 in
set_option maxHeartbeats 4000000 in
theorem spX12_spells {G : GE} {d : Nat} {i : MI0} {S : MS} {Y : Nat} (hY : YS S Y) {L : Nat} {B : Nat → Nat} (hT : i Y 14 = nI L ∧ ∀ j, j < L → i (Y + 9) j = nI (B j)) (hL : L ≤ 150) (hB : ∀ j, j < L → B j < 128) {r : Nat} (hr : r ≤ L) (h15 : i Y 15 = nI r) (hd : 3 ≤ d) (w : Nat) : Mt G iX12_spells d [.ref Y, .int (chr w 0), .int (chr w 1), .int (chr w 2), .int (chr w 3)] (i, S) (Rt (b2i (spB L B r w)) (i, S)) := by
  have hY' := hY
  obtain ⟨Yt, ⟨Yt1, Yr1⟩, ⟨Yt2, Yr2⟩, ⟨Yt3, Yr3⟩, ⟨Yt4, Yr4⟩, ⟨Yt5, Yr5⟩, ⟨Yt6, Yr6⟩, ⟨Yt7, Yr7⟩, ⟨Yt8, Yr8⟩, ⟨Yt9, Yr9⟩, ⟨Yt10, Yr10⟩, ⟨Yt11, Yr11⟩, ⟨Yt12, Yr12⟩, ⟨Yt13, Yr13⟩, ⟨Yt14, Yr14⟩, ⟨Yt15, Yr15⟩, ⟨Yt16, Yr16⟩, ⟨Yt17, Yr17⟩, ⟨Yt18, Yr18⟩, ⟨Yt19, Yr19⟩⟩ := hY
  refine Mt_in 0 (ls := [.ref Y, .int (chr w 0), .int (chr w 1), .int (chr w 2), .int (chr w 3)]) moX12_spells (Nat.le_of_ble_eq_true rfl) rfl ?_
  refine PW_aload_n (i := 0) dX12_spells_0 rfl rfl ?_
  refine PW_callV dX12_spells_1 moX12_wordSize cv12_131 (Yt) (by omega) rfl rfl (Nat.le_of_ble_eq_true rfl) (Nat.le_of_ble_eq_true rfl) (Nat.le_of_ble_eq_true rfl) (spX12_wordSize (d := d - 1) hY' hT hL hB hr h15 (by omega)) (fun v M1 hq => ?_)
  obtain ⟨rfl, rfl⟩ := hq
  refine PW_iconst (v := 4) dX12_spells_4 (by decide) ?_
  have hl := rn_le (p := pL) (B := B) hr
  refine PW_icmp_ne 49 dX12_spells_5 (by decide) (fun h5 => ?_) (fun h5 => ?_)
  · have h5 := jne (b := 4) h5
    refine PW_iconst (v := 0) dX12_spells_49 (by decide) ?_
    refine PW_ireturn rfl (rfl) dX12_spells_50 (Nat.le_of_ble_eq_true rfl) (Nat.le_of_ble_eq_true rfl) ?_
    refine rt_i ?_
    unfold spB
    first | (rw [decide_eq_true h5, h14, h23, h32, h42]; rfl) | (rw [decide_eq_false h5]; rfl) | (rw [decide_eq_true h5, h14]; rfl) | (rw [decide_eq_true h5, h14, h23]; rfl) | (rw [decide_eq_true h5, h14, h23, h32]; rfl)
  · have h5 := jeq (b := 4) h5
    refine PW_aload_n (i := 0) dX12_spells_8 rfl rfl ?_
    refine PW_iconst (v := 0) dX12_spells_9 (by decide) ?_
    refine PW_callV dX12_spells_10 moX12_letter cv12_134 (Yt) (by omega) rfl rfl (Nat.le_of_ble_eq_true rfl) (Nat.le_of_ble_eq_true rfl) (Nat.le_of_ble_eq_true rfl) (spX12_letter (d := d - 1) (k := 0) hY' hT hL hB hr h15 (by omega)) (fun v M1 hq => ?_)
    obtain ⟨rfl, rfl⟩ := hq
    refine PW_iload_n (i := 1) dX12_spells_13 rfl rfl ?_
    refine PW_icmp_ne 49 dX12_spells_14 (by decide) (fun h14 => ?_) (fun h14 => ?_)
    · have h14 : wdF B r w 0 = false := decide_eq_false h14
      refine PW_iconst (v := 0) dX12_spells_49 (by decide) ?_
      refine PW_ireturn rfl (rfl) dX12_spells_50 (Nat.le_of_ble_eq_true rfl) (Nat.le_of_ble_eq_true rfl) ?_
      refine rt_i ?_
      unfold spB
      first | (rw [decide_eq_true h5, h14, h23, h32, h42]; rfl) | (rw [decide_eq_false h5]; rfl) | (rw [decide_eq_true h5, h14]; rfl) | (rw [decide_eq_true h5, h14, h23]; rfl) | (rw [decide_eq_true h5, h14, h23, h32]; rfl)
    · have h14 : wdF B r w 0 = true := decide_eq_true h14
      refine PW_aload_n (i := 0) dX12_spells_17 rfl rfl ?_
      refine PW_iconst (v := 1) dX12_spells_18 (by decide) ?_
      refine PW_callV dX12_spells_19 moX12_letter cv12_134 (Yt) (by omega) rfl rfl (Nat.le_of_ble_eq_true rfl) (Nat.le_of_ble_eq_true rfl) (Nat.le_of_ble_eq_true rfl) (spX12_letter (d := d - 1) (k := 1) hY' hT hL hB hr h15 (by omega)) (fun v M1 hq => ?_)
      obtain ⟨rfl, rfl⟩ := hq
      refine PW_iload_n (i := 2) dX12_spells_22 rfl rfl ?_
      refine PW_icmp_ne 49 dX12_spells_23 (by decide) (fun h23 => ?_) (fun h23 => ?_)
      · have h23 : wdF B r w 1 = false := decide_eq_false h23
        refine PW_iconst (v := 0) dX12_spells_49 (by decide) ?_
        refine PW_ireturn rfl (rfl) dX12_spells_50 (Nat.le_of_ble_eq_true rfl) (Nat.le_of_ble_eq_true rfl) ?_
        refine rt_i ?_
        unfold spB
        first | (rw [decide_eq_true h5, h14, h23, h32, h42]; rfl) | (rw [decide_eq_false h5]; rfl) | (rw [decide_eq_true h5, h14]; rfl) | (rw [decide_eq_true h5, h14, h23]; rfl) | (rw [decide_eq_true h5, h14, h23, h32]; rfl)
      · have h23 : wdF B r w 1 = true := decide_eq_true h23
        refine PW_aload_n (i := 0) dX12_spells_26 rfl rfl ?_
        refine PW_iconst (v := 2) dX12_spells_27 (by decide) ?_
        refine PW_callV dX12_spells_28 moX12_letter cv12_134 (Yt) (by omega) rfl rfl (Nat.le_of_ble_eq_true rfl) (Nat.le_of_ble_eq_true rfl) (Nat.le_of_ble_eq_true rfl) (spX12_letter (d := d - 1) (k := 2) hY' hT hL hB hr h15 (by omega)) (fun v M1 hq => ?_)
        obtain ⟨rfl, rfl⟩ := hq
        refine PW_iload_n (i := 3) dX12_spells_31 rfl rfl ?_
        refine PW_icmp_ne 49 dX12_spells_32 (by decide) (fun h32 => ?_) (fun h32 => ?_)
        · have h32 : wdF B r w 2 = false := decide_eq_false h32
          refine PW_iconst (v := 0) dX12_spells_49 (by decide) ?_
          refine PW_ireturn rfl (rfl) dX12_spells_50 (Nat.le_of_ble_eq_true rfl) (Nat.le_of_ble_eq_true rfl) ?_
          refine rt_i ?_
          unfold spB
          first | (rw [decide_eq_true h5, h14, h23, h32, h42]; rfl) | (rw [decide_eq_false h5]; rfl) | (rw [decide_eq_true h5, h14]; rfl) | (rw [decide_eq_true h5, h14, h23]; rfl) | (rw [decide_eq_true h5, h14, h23, h32]; rfl)
        · have h32 : wdF B r w 2 = true := decide_eq_true h32
          refine PW_aload_n (i := 0) dX12_spells_35 rfl rfl ?_
          refine PW_iconst (v := 3) dX12_spells_36 (by decide) ?_
          refine PW_callV dX12_spells_37 moX12_letter cv12_134 (Yt) (by omega) rfl rfl (Nat.le_of_ble_eq_true rfl) (Nat.le_of_ble_eq_true rfl) (Nat.le_of_ble_eq_true rfl) (spX12_letter (d := d - 1) (k := 3) hY' hT hL hB hr h15 (by omega)) (fun v M1 hq => ?_)
          obtain ⟨rfl, rfl⟩ := hq
          refine PW_iload dX12_spells_40 rfl ?_
          refine PW_icmp_ne 49 dX12_spells_42 (by decide) (fun h42 => ?_) (fun h42 => ?_)
          · have h42 : wdF B r w 3 = false := decide_eq_false h42
            refine PW_iconst (v := 0) dX12_spells_49 (by decide) ?_
            refine PW_ireturn rfl (rfl) dX12_spells_50 (Nat.le_of_ble_eq_true rfl) (Nat.le_of_ble_eq_true rfl) ?_
            refine rt_i ?_
            unfold spB
            first | (rw [decide_eq_true h5, h14, h23, h32, h42]; rfl) | (rw [decide_eq_false h5]; rfl) | (rw [decide_eq_true h5, h14]; rfl) | (rw [decide_eq_true h5, h14, h23]; rfl) | (rw [decide_eq_true h5, h14, h23, h32]; rfl)
          · have h42 : wdF B r w 3 = true := decide_eq_true h42
            refine PW_iconst (v := 1) dX12_spells_45 (by decide) ?_
            refine PW_goto 50 dX12_spells_46 (by decide) ?_
            refine PW_ireturn rfl (rfl) dX12_spells_50 (Nat.le_of_ble_eq_true rfl) (Nat.le_of_ble_eq_true rfl) ?_
            refine rt_i ?_
            unfold spB
            first | (rw [decide_eq_true h5, h14, h23, h32, h42]; rfl) | (rw [decide_eq_false h5]; rfl) | (rw [decide_eq_true h5, h14]; rfl) | (rw [decide_eq_true h5, h14, h23]; rfl) | (rw [decide_eq_true h5, h14, h23, h32]; rfl)
def whI (L : Nat) (B : Nat → Nat) (r : Nat) : Int32 := if isW L B r 0 then 0 else if isW L B r 1 then 1 else if isW L B r 2 then 2 else if isW L B r 3 then 3 else if isW L B r 4 then 4 else -1
set_option maxRecDepth 100000 in
set_option maxHeartbeats 4000000 in
theorem spX12_wordHere {G : GE} {d : Nat} {i : MI0} {S : MS} {Y : Nat} (hY : YS S Y) {L : Nat} {B : Nat → Nat} (hT : i Y 14 = nI L ∧ ∀ j, j < L → i (Y + 9) j = nI (B j)) (hL : L ≤ 150) (hB : ∀ j, j < L → B j < 128) {r : Nat} (hr : r ≤ L) (h15 : i Y 15 = nI r) (hd : 4 ≤ d) : Mt G iX12_wordHere d [.ref Y] (i, S) (Rt (whI L B r) (i, S)) := by
  have hY' := hY
  obtain ⟨Yt, ⟨Yt1, Yr1⟩, ⟨Yt2, Yr2⟩, ⟨Yt3, Yr3⟩, ⟨Yt4, Yr4⟩, ⟨Yt5, Yr5⟩, ⟨Yt6, Yr6⟩, ⟨Yt7, Yr7⟩, ⟨Yt8, Yr8⟩, ⟨Yt9, Yr9⟩, ⟨Yt10, Yr10⟩, ⟨Yt11, Yr11⟩, ⟨Yt12, Yr12⟩, ⟨Yt13, Yr13⟩, ⟨Yt14, Yr14⟩, ⟨Yt15, Yr15⟩, ⟨Yt16, Yr16⟩, ⟨Yt17, Yr17⟩, ⟨Yt18, Yr18⟩, ⟨Yt19, Yr19⟩⟩ := hY
  refine Mt_in 0 (ls := [.ref Y]) moX12_wordHere (Nat.le_of_ble_eq_true rfl) rfl ?_
  refine PW_aload_n (i := 0) dX12_wordHere_0 rfl rfl ?_
  refine PW_bipush (v := 115) dX12_wordHere_1 (by decide) ?_
  refine PW_bipush (v := 104) dX12_wordHere_3 (by decide) ?_
  refine PW_bipush (v := 105) dX12_wordHere_5 (by decide) ?_
  refine PW_bipush (v := 112) dX12_wordHere_7 (by decide) ?_
  refine PW_callV dX12_wordHere_9 moX12_spells cv12_137 (Yt) (by omega) rfl rfl (Nat.le_of_ble_eq_true rfl) (Nat.le_of_ble_eq_true rfl) (Nat.le_of_ble_eq_true rfl) (spX12_spells (d := d - 1) hY' hT hL hB hr h15 (by omega) 0) (fun v M1 hq => ?_)
  obtain ⟨rfl, rfl⟩ := hq
  rw [spB_isW]
  refine PW_if_eq 19 dX12_wordHere_12 (by decide) (fun h12 => ?_) (fun h12 => ?_)
  · have h12 := b2i_0.mp h12
    refine PW_aload_n (i := 0) dX12_wordHere_19 rfl rfl ?_
    refine PW_bipush (v := 114) dX12_wordHere_20 (by decide) ?_
    refine PW_bipush (v := 111) dX12_wordHere_22 (by decide) ?_
    refine PW_bipush (v := 99) dX12_wordHere_24 (by decide) ?_
    refine PW_bipush (v := 107) dX12_wordHere_26 (by decide) ?_
    refine PW_callV dX12_wordHere_28 moX12_spells cv12_137 (Yt) (by omega) rfl rfl (Nat.le_of_ble_eq_true rfl) (Nat.le_of_ble_eq_true rfl) (Nat.le_of_ble_eq_true rfl) (spX12_spells (d := d - 1) hY' hT hL hB hr h15 (by omega) 1) (fun v M1 hq => ?_)
    obtain ⟨rfl, rfl⟩ := hq
    rw [spB_isW]
    refine PW_if_eq 38 dX12_wordHere_31 (by decide) (fun h31 => ?_) (fun h31 => ?_)
    · have h31 := b2i_0.mp h31
      refine PW_aload_n (i := 0) dX12_wordHere_38 rfl rfl ?_
      refine PW_bipush (v := 114) dX12_wordHere_39 (by decide) ?_
      refine PW_bipush (v := 101) dX12_wordHere_41 (by decide) ?_
      refine PW_bipush (v := 101) dX12_wordHere_43 (by decide) ?_
      refine PW_bipush (v := 102) dX12_wordHere_45 (by decide) ?_
      refine PW_callV dX12_wordHere_47 moX12_spells cv12_137 (Yt) (by omega) rfl rfl (Nat.le_of_ble_eq_true rfl) (Nat.le_of_ble_eq_true rfl) (Nat.le_of_ble_eq_true rfl) (spX12_spells (d := d - 1) hY' hT hL hB hr h15 (by omega) 2) (fun v M1 hq => ?_)
      obtain ⟨rfl, rfl⟩ := hq
      rw [spB_isW]
      refine PW_if_eq 57 dX12_wordHere_50 (by decide) (fun h50 => ?_) (fun h50 => ?_)
      · have h50 := b2i_0.mp h50
        refine PW_aload_n (i := 0) dX12_wordHere_57 rfl rfl ?_
        refine PW_bipush (v := 104) dX12_wordHere_58 (by decide) ?_
        refine PW_bipush (v := 97) dX12_wordHere_60 (by decide) ?_
        refine PW_bipush (v := 110) dX12_wordHere_62 (by decide) ?_
        refine PW_bipush (v := 100) dX12_wordHere_64 (by decide) ?_
        refine PW_callV dX12_wordHere_66 moX12_spells cv12_137 (Yt) (by omega) rfl rfl (Nat.le_of_ble_eq_true rfl) (Nat.le_of_ble_eq_true rfl) (Nat.le_of_ble_eq_true rfl) (spX12_spells (d := d - 1) hY' hT hL hB hr h15 (by omega) 3) (fun v M1 hq => ?_)
        obtain ⟨rfl, rfl⟩ := hq
        rw [spB_isW]
        refine PW_if_eq 76 dX12_wordHere_69 (by decide) (fun h69 => ?_) (fun h69 => ?_)
        · have h69 := b2i_0.mp h69
          refine PW_aload_n (i := 0) dX12_wordHere_76 rfl rfl ?_
          refine PW_bipush (v := 108) dX12_wordHere_77 (by decide) ?_
          refine PW_bipush (v := 101) dX12_wordHere_79 (by decide) ?_
          refine PW_bipush (v := 97) dX12_wordHere_81 (by decide) ?_
          refine PW_bipush (v := 110) dX12_wordHere_83 (by decide) ?_
          refine PW_callV dX12_wordHere_85 moX12_spells cv12_137 (Yt) (by omega) rfl rfl (Nat.le_of_ble_eq_true rfl) (Nat.le_of_ble_eq_true rfl) (Nat.le_of_ble_eq_true rfl) (spX12_spells (d := d - 1) hY' hT hL hB hr h15 (by omega) 4) (fun v M1 hq => ?_)
          obtain ⟨rfl, rfl⟩ := hq
          rw [spB_isW]
          refine PW_if_eq 95 dX12_wordHere_88 (by decide) (fun h88 => ?_) (fun h88 => ?_)
          · have h88 := b2i_0.mp h88
            refine PW_iconst (v := -1) dX12_wordHere_95 (by decide) ?_
            refine PW_ireturn rfl (rfl) dX12_wordHere_96 (Nat.le_of_ble_eq_true rfl) (Nat.le_of_ble_eq_true rfl) ?_
            refine rt_i ?_
            unfold whI
            first | (rw [h12]; rfl) | (rw [h12, h31]; rfl) | (rw [h12, h31, h50]; rfl) | (rw [h12, h31, h50, h69]; rfl) | (rw [h12, h31, h50, h69, h88]; rfl)
          · have h88 := b2i_n.mp h88
            refine PW_iconst (v := 4) dX12_wordHere_91 (by decide) ?_
            refine PW_goto 96 dX12_wordHere_92 (by decide) ?_
            refine PW_ireturn rfl (rfl) dX12_wordHere_96 (Nat.le_of_ble_eq_true rfl) (Nat.le_of_ble_eq_true rfl) ?_
            refine rt_i ?_
            unfold whI
            first | (rw [h12]; rfl) | (rw [h12, h31]; rfl) | (rw [h12, h31, h50]; rfl) | (rw [h12, h31, h50, h69]; rfl) | (rw [h12, h31, h50, h69, h88]; rfl)
        · have h69 := b2i_n.mp h69
          refine PW_iconst (v := 3) dX12_wordHere_72 (by decide) ?_
          refine PW_goto 96 dX12_wordHere_73 (by decide) ?_
          refine PW_ireturn rfl (rfl) dX12_wordHere_96 (Nat.le_of_ble_eq_true rfl) (Nat.le_of_ble_eq_true rfl) ?_
          refine rt_i ?_
          unfold whI
          first | (rw [h12]; rfl) | (rw [h12, h31]; rfl) | (rw [h12, h31, h50]; rfl) | (rw [h12, h31, h50, h69]; rfl) | (rw [h12, h31, h50, h69, h88]; rfl)
      · have h50 := b2i_n.mp h50
        refine PW_iconst (v := 2) dX12_wordHere_53 (by decide) ?_
        refine PW_goto 96 dX12_wordHere_54 (by decide) ?_
        refine PW_ireturn rfl (rfl) dX12_wordHere_96 (Nat.le_of_ble_eq_true rfl) (Nat.le_of_ble_eq_true rfl) ?_
        refine rt_i ?_
        unfold whI
        first | (rw [h12]; rfl) | (rw [h12, h31]; rfl) | (rw [h12, h31, h50]; rfl) | (rw [h12, h31, h50, h69]; rfl) | (rw [h12, h31, h50, h69, h88]; rfl)
    · have h31 := b2i_n.mp h31
      refine PW_iconst (v := 1) dX12_wordHere_34 (by decide) ?_
      refine PW_goto 96 dX12_wordHere_35 (by decide) ?_
      refine PW_ireturn rfl (rfl) dX12_wordHere_96 (Nat.le_of_ble_eq_true rfl) (Nat.le_of_ble_eq_true rfl) ?_
      refine rt_i ?_
      unfold whI
      first | (rw [h12]; rfl) | (rw [h12, h31]; rfl) | (rw [h12, h31, h50]; rfl) | (rw [h12, h31, h50, h69]; rfl) | (rw [h12, h31, h50, h69, h88]; rfl)
  · have h12 := b2i_n.mp h12
    refine PW_iconst (v := 0) dX12_wordHere_15 (by decide) ?_
    refine PW_goto 96 dX12_wordHere_16 (by decide) ?_
    refine PW_ireturn rfl (rfl) dX12_wordHere_96 (Nat.le_of_ble_eq_true rfl) (Nat.le_of_ble_eq_true rfl) ?_
    refine rt_i ?_
    unfold whI
    first | (rw [h12]; rfl) | (rw [h12, h31]; rfl) | (rw [h12, h31, h50]; rfl) | (rw [h12, h31, h50, h69]; rfl) | (rw [h12, h31, h50, h69, h88]; rfl)
theorem tT3 {L : Nat} {B : Nat → Nat} {s : Nat} : tT L B s = 3 ↔ s < L ∧ B s = 59 := by
  unfold tT
  by_cases h1 : L ≤ s
  · rw [if_pos h1]; omega
  · rw [if_neg h1]
    by_cases h2 : pL (B s) = true
    · rw [if_pos h2]; have := let' h2; omega
    · rw [if_neg h2]
      by_cases h3 : pF (B s) = true
      · rw [if_pos h3]; have := fig h3; split <;> omega
      · rw [if_neg h3]
        by_cases h4 : B s = 59
        · rw [if_pos h4]; exact ⟨fun _ => ⟨by omega, h4⟩, fun _ => rfl⟩
        · rw [if_neg h4]; exact ⟨fun q => by omega, fun q => absurd q.2 h4⟩
theorem tE3 {L : Nat} {B : Nat → Nat} {s : Nat} (h : tT L B s = 3) : tE L B s = s + 1 := by
  have q := tT3.mp h
  have h2 : ¬ pL (B s) = true := fun z => by have := let' z; omega
  have h3 : ¬ pF (B s) = true := fun z => by have := fig z; omega
  unfold tE
  rw [if_neg (by omega), if_neg h2, if_neg h3]
set_option maxRecDepth 100000 in
set_option maxHeartbeats 4000000 in
theorem spX12_ends {G : GE} {d : Nat} {i : MI0} {S : MS} {Y : Nat} (hY : YS S Y) {L : Nat} {B : Nat → Nat} (hT : i Y 14 = nI L ∧ ∀ j, j < L → i (Y + 9) j = nI (B j)) (hL : L ≤ 150) (hB : ∀ j, j < L → B j < 128) {r : Nat} (hr : r ≤ L) (h15 : i Y 15 = nI r) (hd : 3 ≤ d) : Mt G iX12_ends d [.ref Y] (i, S) (Wi (b1 (tT L B (rn pS L B r) = 3)) S (fun i' => i' Y 15 = nI (if tT L B (rn pS L B r) = 3 then tE L B (rn pS L B r) else (rn pS L B r)) ∧ F15 i i' Y)) := by
  have hY' := hY
  obtain ⟨Yt, ⟨Yt1, Yr1⟩, ⟨Yt2, Yr2⟩, ⟨Yt3, Yr3⟩, ⟨Yt4, Yr4⟩, ⟨Yt5, Yr5⟩, ⟨Yt6, Yr6⟩, ⟨Yt7, Yr7⟩, ⟨Yt8, Yr8⟩, ⟨Yt9, Yr9⟩, ⟨Yt10, Yr10⟩, ⟨Yt11, Yr11⟩, ⟨Yt12, Yr12⟩, ⟨Yt13, Yr13⟩, ⟨Yt14, Yr14⟩, ⟨Yt15, Yr15⟩, ⟨Yt16, Yr16⟩, ⟨Yt17, Yr17⟩, ⟨Yt18, Yr18⟩, ⟨Yt19, Yr19⟩⟩ := hY
  refine Mt_in 0 (ls := [.ref Y]) moX12_ends (Nat.le_of_ble_eq_true rfl) rfl ?_
  refine PW_aload_n (i := 0) dX12_ends_0 rfl rfl ?_
  refine PW_callV dX12_ends_1 moX12_skip cv12_141 (Yt) (by omega) rfl rfl (Nat.le_of_ble_eq_true rfl) (Nat.le_of_ble_eq_true rfl) (Nat.le_of_ble_eq_true rfl) (spX12_skip (d := d - 1) hY' hT hL hB hr h15 (by omega)) (fun v M1 hq => ?_)
  obtain ⟨rfl, i1, rfl, p1, p2⟩ := hq
  have hs0 : rn pS L B r ≤ L := rn_le hr
  have hT1 : i1 Y 14 = nI L ∧ ∀ j, j < L → i1 (Y + 9) j = nI (B j) := ⟨(p2.1 14 (by decide)).trans hT.1, fun q hq => by rw [p2.2 (Y + 9) (by omega)]; exact hT.2 q hq⟩
  refine PW_aload_n (i := 0) dX12_ends_4 rfl rfl ?_
  refine PW_callV dX12_ends_5 moX12_here cv12_125 (Yt) (by omega) rfl rfl (Nat.le_of_ble_eq_true rfl) (Nat.le_of_ble_eq_true rfl) (Nat.le_of_ble_eq_true rfl) (spX12_here (d := d - 1) hY' hT1 hL hB hs0 p1) (fun v M1 hq => ?_)
  obtain ⟨rfl, rfl⟩ := hq
  refine PW_bipush (v := 59) dX12_ends_8 (by decide) ?_
  refine PW_icmp_eq 15 dX12_ends_10 (by decide) (fun h10 => ?_) (fun h10 => ?_)
  · have h10 : tT L B (rn pS L B r) = 3 := tT3.mpr (by
      by_cases q : (rn pS L B r) < L
      · rw [if_pos q] at h10; exact ⟨q, jeq (b := 59) h10 (by have := hB _ q; omega)⟩
      · rw [if_neg q] at h10; exact absurd h10 (by decide))
    refine PW_aload_n (i := 0) dX12_ends_15 rfl rfl ?_
    refine PW_dup dX12_ends_16 rfl ?_
    refine PW_giv (v := nI (rn pS L B r)) dX12_ends_17 fg12_122 (Yt) (p1) ?_
    refine PW_iconst (v := 1) dX12_ends_20 (by decide) ?_
    refine PW_iadd dX12_ends_21 ?_
    refine PW_eqi (nI_1 _) ?_
    refine PW_putI dX12_ends_22 fr12_122 (fun h => by cases h) (Yt) ?_
    refine PW_nm rfl (fun i2 e2 => ?_)
    refine PW_iconst (v := 1) dX12_ends_25 (by decide) ?_
    refine PW_ireturn rfl (rfl) dX12_ends_26 (Nat.le_of_ble_eq_true rfl) (Nat.le_of_ble_eq_true rfl) ?_
    rw [b1_t h10]
    exact Wi_mk rfl rfl ⟨by rw [if_pos h10, tE3 h10, e2]; exact rI_s _ _ _ _, p2.trans (F15.w e2)⟩
  · have h10 : ¬ tT L B (rn pS L B r) = 3 := fun z => h10 (by rw [if_pos (tT3.mp z).1, (tT3.mp z).2]; rfl)
    refine PW_iconst (v := 0) dX12_ends_13 (by decide) ?_
    refine PW_ireturn rfl (rfl) dX12_ends_14 (Nat.le_of_ble_eq_true rfl) (Nat.le_of_ble_eq_true rfl) ?_
    rw [b1_f h10]
    exact Wi_mk rfl rfl ⟨by rw [if_neg h10]; exact p1, p2⟩
/-- the value of the first figures, two at most -/
def nvv (B : Nat → Nat) (s j : Nat) : Nat := if j = 0 then 0 else if j = 1 then B s - 48 else 10 * (B s - 48) + (B (s + 1) - 48)
theorem isN_iff {L : Nat} {B : Nat → Nat} {s m : Nat} (hs : s ≤ L) : isN L B s m = true ↔ (1 ≤ rn pF L B s - s ∧ rn pF L B s - s ≤ 2) ∧ nvv B s (rn pF L B s - s) ≤ m := by
  constructor
  · intro h
    have h1 := isN_t h
    obtain ⟨a1, a2, a3, a4⟩ := tT2 h1.1
    have a5 := rn_pos a1 a3
    refine ⟨⟨by omega, a4⟩, ?_⟩
    have := h1.2
    unfold tV at this
    unfold nvv
    rw [if_neg (by omega)]
    exact this
  · rintro ⟨⟨h1, h2⟩, h3⟩
    have q : s < L ∧ pF (B s) = true := by
      by_cases q : s < L ∧ pF (B s) = true
      · exact q
      · have e : rn pF L B s = s := rn_n (by
          by_cases h1 : s < L
          · exact Or.inr (fun z => q ⟨h1, z⟩)
          · exact Or.inl (by omega))
        omega
    unfold isN
    rw [show tT L B s = 2 from by unfold tT; rw [if_neg (by omega), if_neg (pL_F q.2), if_pos q.2, if_pos h2], decide_eq_true rfl, Bool.true_and]
    refine decide_eq_true ?_
    unfold nvv at h3
    rw [if_neg (by omega)] at h3
    exact h3
theorem isN_v {L : Nat} {B : Nat → Nat} {s m : Nat} (h : isN L B s m = true) : nvv B s (rn pF L B s - s) = tV L B s ∧ tE L B s = rn pF L B s := by
  obtain ⟨a1, a2, a3, a4⟩ := tT2 (isN_t h).1
  have a5 := rn_pos a1 a3
  refine ⟨?_, ?_⟩
  · unfold nvv tV
    rw [if_neg (by omega)]
  · unfold tE
    rw [if_neg (by omega), if_neg a2, if_pos a3]
theorem nvv_k {B : Nat → Nat} {s j : Nat} (hj : 2 ≤ j) : nvv B s j = nvv B s (j + 1) := by
  unfold nvv
  rw [if_neg (by omega), if_neg (by omega), if_neg (by omega), if_neg (by omega)]
theorem nvv_s {B : Nat → Nat} {s j : Nat} (hj : j < 2) (h : 48 ≤ B (s + j)) : 10 * nvv B s j + B (s + j) - 48 = nvv B s (j + 1) := by
  rcases (by omega : j = 0 ∨ j = 1) with rfl | rfl
  · rw [show nvv B s 0 = 0 from rfl, show nvv B s (0 + 1) = B s - 48 from rfl, Nat.add_zero]
    omega
  · rw [show nvv B s 1 = B s - 48 from rfl, show nvv B s (1 + 1) = 10 * (B s - 48) + (B (s + 1) - 48) from rfl]
    omega
theorem nvv_le {L : Nat} {B : Nat → Nat} (hB : ∀ j, j < L → B j < 128) {s j : Nat} (hj : s + j ≤ L) : nvv B s j ≤ 2000 := by
  unfold nvv
  split
  · omega
  · have h1 := hB s (by omega)
    split
    · omega
    · have h2 := hB (s + 1) (by omega)
      omega
set_option maxRecDepth 100000 in
set_option maxHeartbeats 4000000 in
theorem lpX12_number {G : GE} {d : Nat} {i : MI0} {S : MS} {Y : Nat} (hY : YS S Y) {L : Nat} {B : Nat → Nat} (hT : i Y 14 = nI L ∧ ∀ j, j < L → i (Y + 9) j = nI (B j)) (hL : L ≤ 150) (hB : ∀ j, j < L → B j < 128) {r : Nat} (hr : r ≤ L) (h15 : i Y 15 = nI r) {m : Nat} (hm : m < 1000) (hd : 3 ≤ d) {i1 : MI0} (p1 : i1 Y 15 = nI (rn pS L B r)) (p2 : F15 i i1 Y) (hs0 : (rn pS L B r) ≤ L) (hT1 : i1 Y 14 = nI L ∧ ∀ j, j < L → i1 (Y + 9) j = nI (B j)) : ∀ (n0 j : Nat), j ≤ L - (rn pS L B r) → L - (rn pS L B r) < j + n0 → rn pF L B (rn pS L B r) = rn pF L B ((rn pS L B r) + j) → PW G iX12_number d (Wi (b2i (isN L B (rn pS L B r) m)) S (fun i' => (isN L B (rn pS L B r) m = true → i' Y 15 = nI (tE L B (rn pS L B r)) ∧ i' Y 20 = nI (tV L B (rn pS L B r))) ∧ (¬ isN L B (rn pS L B r) m = true → i' Y 15 = nI (rn pS L B r)) ∧ (∀ k, k ≠ 15 → k ≠ 20 → i' Y k = i Y k) ∧ ∀ q, q ≠ Y → i' q = i q)) 9 [.ref Y, .int 0, .int (nI m), .int (nI j), .int (nI (nvv B (rn pS L B r) j))] [] (i1, S) 0 0 := by
  have hY' := hY
  obtain ⟨Yt, ⟨Yt1, Yr1⟩, ⟨Yt2, Yr2⟩, ⟨Yt3, Yr3⟩, ⟨Yt4, Yr4⟩, ⟨Yt5, Yr5⟩, ⟨Yt6, Yr6⟩, ⟨Yt7, Yr7⟩, ⟨Yt8, Yr8⟩, ⟨Yt9, Yr9⟩, ⟨Yt10, Yr10⟩, ⟨Yt11, Yr11⟩, ⟨Yt12, Yr12⟩, ⟨Yt13, Yr13⟩, ⟨Yt14, Yr14⟩, ⟨Yt15, Yr15⟩, ⟨Yt16, Yr16⟩, ⟨Yt17, Yr17⟩, ⟨Yt18, Yr18⟩, ⟨Yt19, Yr19⟩⟩ := hY
  intro n0
  induction n0 with
  | zero => intro j h1 h2; exact absurd h2 (by omega)
  | succ n0 ih =>
    intro j hj1 hj2 v1
    refine PW_aload_n (i := 0) dX12_number_9 rfl rfl ?_
    refine PW_giv (v := nI (rn pS L B r)) dX12_number_10 fg12_122 (Yt) (p1) ?_
    refine PW_iload_n (i := 3) dX12_number_13 rfl rfl ?_
    refine PW_iadd dX12_number_14 ?_
    refine PW_eqi (nI_add _ _) ?_
    refine PW_aload_n (i := 0) dX12_number_15 rfl rfl ?_
    refine PW_giv (v := nI L) dX12_number_16 fg12_119 (Yt) (hT1.1) ?_
    have hv2 := nvv_le hB (s := (rn pS L B r)) (j := j) (by omega)
    refine PW_icmp_ge 77 dX12_number_19 (by decide) (fun h19 => ?_) (fun h19 => ?_)
    · have h19 := jle h19
      have en : rn pF L B (rn pS L B r) = (rn pS L B r) + j := v1.trans (rn_n (by first | exact Or.inl h19 | exact Or.inr (by rw [h36]; decide)))
      have en2 : (rn pF L B (rn pS L B r) - (rn pS L B r)) = j := by omega
      have hiff := isN_iff (m := m) (B := B) hs0
      rw [en2] at hiff
      refine PW_iload_n (i := 3) dX12_number_77 rfl rfl ?_
      refine PW_iconst (v := 1) dX12_number_78 (by decide) ?_
      refine PW_iconst (v := 2) dX12_number_79 (by decide) ?_
      refine PW_callS dX12_number_80 moX12_in cs12_93 (by omega) rfl rfl (Nat.le_of_ble_eq_true rfl) (Nat.le_of_ble_eq_true rfl) (Nat.le_of_ble_eq_true rfl) (spX12_in (d := d - 1) _ _ _) (fun v M1 hq => ?_)
      obtain ⟨rfl, rfl⟩ := hq
      refine PW_if_eq 96 dX12_number_83 (by decide) (fun h83 => ?_) (fun h83 => ?_)
      · have h83 := b1_0.mp h83
        have hno : ¬ isN L B (rn pS L B r) m = true := fun z => h83 ⟨show nI 1 ≤ nI j from nI_le (hiff.mp z).1.1 (by omega), show nI j ≤ nI 2 from nI_le (hiff.mp z).1.2 (by omega)⟩
        refine PW_iconst (v := 0) dX12_number_96 (by decide) ?_
        refine PW_ireturn rfl (rfl) dX12_number_97 (Nat.le_of_ble_eq_true rfl) (Nat.le_of_ble_eq_true rfl) ?_
        rw [show isN L B (rn pS L B r) m = false from by cases q : isN L B (rn pS L B r) m with | false => rfl | true => exact absurd q hno]
        exact Wi_mk rfl rfl ⟨fun z => (by cases z), fun _ => p1, fun k h1 h2 => p2.1 k h1, p2.2⟩
      · have h83 := b1_1.mp h83
        have h83a := jle (a := 1) h83.1
        have h83b := jle (b := 2) h83.2
        refine PW_iload dX12_number_86 rfl ?_
        refine PW_iload_n (i := 1) dX12_number_88 rfl rfl ?_
        refine PW_iload_n (i := 2) dX12_number_89 rfl rfl ?_
        refine PW_callS dX12_number_90 moX12_in cs12_93 (by omega) rfl rfl (Nat.le_of_ble_eq_true rfl) (Nat.le_of_ble_eq_true rfl) (Nat.le_of_ble_eq_true rfl) (spX12_in (d := d - 1) _ _ _) (fun v M1 hq => ?_)
        obtain ⟨rfl, rfl⟩ := hq
        refine PW_if_ne 98 dX12_number_93 (by decide) (fun h93 => ?_) (fun h93 => ?_)
        · have h93 := b1_1.mp h93
          have hyes : isN L B (rn pS L B r) m = true := hiff.mpr ⟨⟨h83a, h83b⟩, jle h93.2⟩
          refine PW_aload_n (i := 0) dX12_number_98 rfl rfl ?_
          refine PW_iload dX12_number_99 rfl ?_
          refine PW_putI dX12_number_101 fr12_147 (fun h => by cases h) (Yt) ?_
          refine PW_aload_n (i := 0) dX12_number_104 rfl rfl ?_
          refine PW_dup dX12_number_105 rfl ?_
          refine PW_giv (v := nI (rn pS L B r)) dX12_number_106 fg12_122 (Yt) ((rI_k _ _ _ (by decide)).trans p1) ?_
          refine PW_iload_n (i := 3) dX12_number_109 rfl rfl ?_
          refine PW_iadd dX12_number_110 ?_
          refine PW_eqi (nI_add _ _) ?_
          refine PW_putI dX12_number_111 fr12_122 (fun h => by cases h) (Yt) ?_
          refine PW_nm rfl (fun i2 e2 => ?_)
          have hv := isN_v hyes
          rw [en2] at hv
          refine PW_iconst (v := 1) dX12_number_114 (by decide) ?_
          refine PW_ireturn rfl (rfl) dX12_number_115 (Nat.le_of_ble_eq_true rfl) (Nat.le_of_ble_eq_true rfl) ?_
          rw [hyes]
          refine Wi_mk rfl rfl ⟨fun _ => ⟨?_, ?_⟩, fun z => absurd rfl z, fun k h1 h2 => ?_, fun q hq => ?_⟩
          · rw [rP, e2, rI_s, hv.2, en]
          · rw [rP, e2, rI_k _ _ _ (by decide), rI_s, hv.1]
          · rw [rP, e2, rI_k _ _ _ h1, rI_k _ _ _ h2]; exact p2.1 k h1
          · rw [rP_f, e2, rI_f _ _ hq, rI_f _ _ hq]; exact p2.2 q hq
        · have h93 := b1_0.mp h93
          have hno : ¬ isN L B (rn pS L B r) m = true := fun z => h93 ⟨nI_pos' (by omega), nI_le (hiff.mp z).2 (by omega)⟩
          refine PW_iconst (v := 0) dX12_number_96 (by decide) ?_
          refine PW_ireturn rfl (rfl) dX12_number_97 (Nat.le_of_ble_eq_true rfl) (Nat.le_of_ble_eq_true rfl) ?_
          rw [show isN L B (rn pS L B r) m = false from by cases q : isN L B (rn pS L B r) m with | false => rfl | true => exact absurd q hno]
          exact Wi_mk rfl rfl ⟨fun z => (by cases z), fun _ => p1, fun k h1 h2 => p2.1 k h1, p2.2⟩
    · have h19 := jnle h19
      refine PW_aload_n (i := 0) dX12_number_22 rfl rfl ?_
      refine PW_getR dX12_number_23 fg12_34 (Yt) (Yr9) ?_
      refine PW_aload_n (i := 0) dX12_number_26 rfl rfl ?_
      refine PW_giv (v := nI (rn pS L B r)) dX12_number_27 fg12_122 (Yt) (p1) ?_
      refine PW_iload_n (i := 3) dX12_number_30 rfl rfl ?_
      refine PW_iadd dX12_number_31 ?_
      refine PW_eqi (nI_add _ _) ?_
      refine PW_ial (v := nI (B ((rn pS L B r) + j))) dX12_number_32 (Yt9) (by omega) (by omega) (hT1.2 _ (by omega)) ?_
      refine PW_callS dX12_number_33 moX12_isFigure cs12_144 (by omega) rfl rfl (Nat.le_of_ble_eq_true rfl) (Nat.le_of_ble_eq_true rfl) (Nat.le_of_ble_eq_true rfl) (spX12_isFigure (d := d - 1) (hB _ (by omega)) (by omega)) (fun v M1 hq => ?_)
      obtain ⟨rfl, rfl⟩ := hq
      refine PW_if_eq 77 dX12_number_36 (by decide) (fun h36 => ?_) (fun h36 => ?_)
      · have h36 := b2i_0.mp h36
        have en : rn pF L B (rn pS L B r) = (rn pS L B r) + j := v1.trans (rn_n (by first | exact Or.inl h19 | exact Or.inr (by rw [h36]; decide)))
        have en2 : (rn pF L B (rn pS L B r) - (rn pS L B r)) = j := by omega
        have hiff := isN_iff (m := m) (B := B) hs0
        rw [en2] at hiff
        refine PW_iload_n (i := 3) dX12_number_77 rfl rfl ?_
        refine PW_iconst (v := 1) dX12_number_78 (by decide) ?_
        refine PW_iconst (v := 2) dX12_number_79 (by decide) ?_
        refine PW_callS dX12_number_80 moX12_in cs12_93 (by omega) rfl rfl (Nat.le_of_ble_eq_true rfl) (Nat.le_of_ble_eq_true rfl) (Nat.le_of_ble_eq_true rfl) (spX12_in (d := d - 1) _ _ _) (fun v M1 hq => ?_)
        obtain ⟨rfl, rfl⟩ := hq
        refine PW_if_eq 96 dX12_number_83 (by decide) (fun h83 => ?_) (fun h83 => ?_)
        · have h83 := b1_0.mp h83
          have hno : ¬ isN L B (rn pS L B r) m = true := fun z => h83 ⟨show nI 1 ≤ nI j from nI_le (hiff.mp z).1.1 (by omega), show nI j ≤ nI 2 from nI_le (hiff.mp z).1.2 (by omega)⟩
          refine PW_iconst (v := 0) dX12_number_96 (by decide) ?_
          refine PW_ireturn rfl (rfl) dX12_number_97 (Nat.le_of_ble_eq_true rfl) (Nat.le_of_ble_eq_true rfl) ?_
          rw [show isN L B (rn pS L B r) m = false from by cases q : isN L B (rn pS L B r) m with | false => rfl | true => exact absurd q hno]
          exact Wi_mk rfl rfl ⟨fun z => (by cases z), fun _ => p1, fun k h1 h2 => p2.1 k h1, p2.2⟩
        · have h83 := b1_1.mp h83
          have h83a := jle (a := 1) h83.1
          have h83b := jle (b := 2) h83.2
          refine PW_iload dX12_number_86 rfl ?_
          refine PW_iload_n (i := 1) dX12_number_88 rfl rfl ?_
          refine PW_iload_n (i := 2) dX12_number_89 rfl rfl ?_
          refine PW_callS dX12_number_90 moX12_in cs12_93 (by omega) rfl rfl (Nat.le_of_ble_eq_true rfl) (Nat.le_of_ble_eq_true rfl) (Nat.le_of_ble_eq_true rfl) (spX12_in (d := d - 1) _ _ _) (fun v M1 hq => ?_)
          obtain ⟨rfl, rfl⟩ := hq
          refine PW_if_ne 98 dX12_number_93 (by decide) (fun h93 => ?_) (fun h93 => ?_)
          · have h93 := b1_1.mp h93
            have hyes : isN L B (rn pS L B r) m = true := hiff.mpr ⟨⟨h83a, h83b⟩, jle h93.2⟩
            refine PW_aload_n (i := 0) dX12_number_98 rfl rfl ?_
            refine PW_iload dX12_number_99 rfl ?_
            refine PW_putI dX12_number_101 fr12_147 (fun h => by cases h) (Yt) ?_
            refine PW_aload_n (i := 0) dX12_number_104 rfl rfl ?_
            refine PW_dup dX12_number_105 rfl ?_
            refine PW_giv (v := nI (rn pS L B r)) dX12_number_106 fg12_122 (Yt) ((rI_k _ _ _ (by decide)).trans p1) ?_
            refine PW_iload_n (i := 3) dX12_number_109 rfl rfl ?_
            refine PW_iadd dX12_number_110 ?_
            refine PW_eqi (nI_add _ _) ?_
            refine PW_putI dX12_number_111 fr12_122 (fun h => by cases h) (Yt) ?_
            refine PW_nm rfl (fun i2 e2 => ?_)
            have hv := isN_v hyes
            rw [en2] at hv
            refine PW_iconst (v := 1) dX12_number_114 (by decide) ?_
            refine PW_ireturn rfl (rfl) dX12_number_115 (Nat.le_of_ble_eq_true rfl) (Nat.le_of_ble_eq_true rfl) ?_
            rw [hyes]
            refine Wi_mk rfl rfl ⟨fun _ => ⟨?_, ?_⟩, fun z => absurd rfl z, fun k h1 h2 => ?_, fun q hq => ?_⟩
            · rw [rP, e2, rI_s, hv.2, en]
            · rw [rP, e2, rI_k _ _ _ (by decide), rI_s, hv.1]
            · rw [rP, e2, rI_k _ _ _ h1, rI_k _ _ _ h2]; exact p2.1 k h1
            · rw [rP_f, e2, rI_f _ _ hq, rI_f _ _ hq]; exact p2.2 q hq
          · have h93 := b1_0.mp h93
            have hno : ¬ isN L B (rn pS L B r) m = true := fun z => h93 ⟨nI_pos' (by omega), nI_le (hiff.mp z).2 (by omega)⟩
            refine PW_iconst (v := 0) dX12_number_96 (by decide) ?_
            refine PW_ireturn rfl (rfl) dX12_number_97 (Nat.le_of_ble_eq_true rfl) (Nat.le_of_ble_eq_true rfl) ?_
            rw [show isN L B (rn pS L B r) m = false from by cases q : isN L B (rn pS L B r) m with | false => rfl | true => exact absurd q hno]
            exact Wi_mk rfl rfl ⟨fun z => (by cases z), fun _ => p1, fun k h1 h2 => p2.1 k h1, p2.2⟩
      · have h36 := b2i_n.mp h36
        have fg := fig h36
        refine PW_iload_n (i := 3) dX12_number_39 rfl rfl ?_
        refine PW_iconst (v := 2) dX12_number_40 (by decide) ?_
        refine PW_icmp_ge 67 dX12_number_41 (by decide) (fun h41 => ?_) (fun h41 => ?_)
        · have h41 := jle (a := 2) h41
          have hnv : nvv B (rn pS L B r) j = nvv B (rn pS L B r) (j + 1) := nvv_k h41
          refine PW_iload dX12_number_67 rfl ?_
          refine PW_eqi (congrArg nI hnv) ?_
          refine PW_istore dX12_number_69 (Nat.le_of_ble_eq_true rfl) rfl ?_
          refine PW_inc1 dX12_number_71 rfl (Nat.le_of_ble_eq_true rfl) rfl ?_
          refine PW_goto 9 dX12_number_74 (by decide) ?_
          exact ih (j + 1) (by omega) (by omega) (v1.trans (rn_y (by omega) h36))
        · have h41 := jnle (a := 2) h41
          have hnv : 10 * nvv B (rn pS L B r) j + B ((rn pS L B r) + j) - 48 = nvv B (rn pS L B r) (j + 1) := nvv_s h41 fg.1
          refine PW_bipush (v := 10) dX12_number_44 (by decide) ?_
          refine PW_iload dX12_number_46 rfl ?_
          refine PW_imul dX12_number_48 ?_
          refine PW_eqi (pk_mul 10 _) ?_
          refine PW_aload_n (i := 0) dX12_number_49 rfl rfl ?_
          refine PW_getR dX12_number_50 fg12_34 (Yt) (Yr9) ?_
          refine PW_aload_n (i := 0) dX12_number_53 rfl rfl ?_
          refine PW_giv (v := nI (rn pS L B r)) dX12_number_54 fg12_122 (Yt) (p1) ?_
          refine PW_iload_n (i := 3) dX12_number_57 rfl rfl ?_
          refine PW_iadd dX12_number_58 ?_
          refine PW_eqi (nI_add _ _) ?_
          refine PW_ial (v := nI (B ((rn pS L B r) + j))) dX12_number_59 (Yt9) (by omega) (by omega) (hT1.2 _ (by omega)) ?_
          refine PW_iadd dX12_number_60 ?_
          refine PW_eqi (nI_add _ _) ?_
          refine PW_bipush (v := 48) dX12_number_61 (by decide) ?_
          refine PW_isub dX12_number_63 ?_
          refine PW_eqi (pk_sub (b := 48) (by omega)) ?_
          refine PW_goto 69 dX12_number_64 (by decide) ?_
          refine PW_eqi (congrArg nI hnv) ?_
          refine PW_istore dX12_number_69 (Nat.le_of_ble_eq_true rfl) rfl ?_
          refine PW_inc1 dX12_number_71 rfl (Nat.le_of_ble_eq_true rfl) rfl ?_
          refine PW_goto 9 dX12_number_74 (by decide) ?_
          exact ih (j + 1) (by omega) (by omega) (v1.trans (rn_y (by omega) h36))
set_option maxRecDepth 100000 in
set_option maxHeartbeats 4000000 in
theorem spX12_number {G : GE} {d : Nat} {i : MI0} {S : MS} {Y : Nat} (hY : YS S Y) {L : Nat} {B : Nat → Nat} (hT : i Y 14 = nI L ∧ ∀ j, j < L → i (Y + 9) j = nI (B j)) (hL : L ≤ 150) (hB : ∀ j, j < L → B j < 128) {r : Nat} (hr : r ≤ L) (h15 : i Y 15 = nI r) {m : Nat} (hm : m < 1000) (hd : 4 ≤ d) : Mt G iX12_number d [.ref Y, .int 0, .int (nI m)] (i, S) (Wi (b2i (isN L B (rn pS L B r) m)) S (fun i' => (isN L B (rn pS L B r) m = true → i' Y 15 = nI (tE L B (rn pS L B r)) ∧ i' Y 20 = nI (tV L B (rn pS L B r))) ∧ (¬ isN L B (rn pS L B r) m = true → i' Y 15 = nI (rn pS L B r)) ∧ (∀ k, k ≠ 15 → k ≠ 20 → i' Y k = i Y k) ∧ ∀ q, q ≠ Y → i' q = i q)) := by
  have hY' := hY
  obtain ⟨Yt, ⟨Yt1, Yr1⟩, ⟨Yt2, Yr2⟩, ⟨Yt3, Yr3⟩, ⟨Yt4, Yr4⟩, ⟨Yt5, Yr5⟩, ⟨Yt6, Yr6⟩, ⟨Yt7, Yr7⟩, ⟨Yt8, Yr8⟩, ⟨Yt9, Yr9⟩, ⟨Yt10, Yr10⟩, ⟨Yt11, Yr11⟩, ⟨Yt12, Yr12⟩, ⟨Yt13, Yr13⟩, ⟨Yt14, Yr14⟩, ⟨Yt15, Yr15⟩, ⟨Yt16, Yr16⟩, ⟨Yt17, Yr17⟩, ⟨Yt18, Yr18⟩, ⟨Yt19, Yr19⟩⟩ := hY
  refine Mt_in 2 (ls := [.ref Y, .int 0, .int (nI m), .null, .null]) moX12_number (Nat.le_of_ble_eq_true rfl) rfl ?_
  refine PW_aload_n (i := 0) dX12_number_0 rfl rfl ?_
  refine PW_callV dX12_number_1 moX12_skip cv12_141 (Yt) (by omega) rfl rfl (Nat.le_of_ble_eq_true rfl) (Nat.le_of_ble_eq_true rfl) (Nat.le_of_ble_eq_true rfl) (spX12_skip (d := d - 1) hY' hT hL hB hr h15 (by omega)) (fun v M1 hq => ?_)
  obtain ⟨rfl, i1, rfl, p1, p2⟩ := hq
  have hs0 : rn pS L B r ≤ L := rn_le hr
  have hT1 : i1 Y 14 = nI L ∧ ∀ j, j < L → i1 (Y + 9) j = nI (B j) := ⟨(p2.1 14 (by decide)).trans hT.1, fun q hq => by rw [p2.2 (Y + 9) (by omega)]; exact hT.2 q hq⟩
  refine PW_iconst (v := 0) dX12_number_4 (by decide) ?_
  refine PW_istore_n (i := 3) dX12_number_5 rfl (Nat.le_of_ble_eq_true rfl) rfl ?_
  refine PW_iconst (v := 0) dX12_number_6 (by decide) ?_
  refine PW_istore dX12_number_7 (Nat.le_of_ble_eq_true rfl) rfl ?_
  exact lpX12_number hY' hT hL hB hr h15 hm (by omega) p1 p2 hs0 hT1 (L - (rn pS L B r) + 1) 0 (by omega) (by omega) rfl

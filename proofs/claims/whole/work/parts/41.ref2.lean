/-! ===== the reference: lays, takes, notes ===== -/
/-- place, watches, tired, fed, laid out from at on -/
def SVd (f : Nat → Int32) (at' : Nat) (i : MI0) (Y : Nat) : Prop := f at' = i Y 2 ∧ f (at' + 1) = i Y 3 ∧ ∀ j, j < 6 → f (at' + 2 + j) = i (Y + 3) j ∧ f (at' + 8 + j) = i (Y + 5) j
def LH (f : Nat → Int32) (at' n : Nat) (h : Hm) : Prop := f at' = iN (hp h) ∧ f (at' + 1) = nI (hw h) ∧ ∀ j, j < n → f (at' + 2 + j) = nI (hT h j) ∧ f (at' + 8 + j) = b2i ((hf h).testBit j)
theorem SVd.lh {f : Nat → Int32} {at' : Nat} {i : MI0} {Y : Nat} {h : Hm} (hs : SVd f at' i Y) (hH : MH i Y h) (h6 : hn h ≤ 6) : LH f at' (hn h) h :=
  ⟨hs.1.trans hH.2.1, hs.2.1.trans hH.2.2.1, fun j hj => ⟨(hs.2.2 j (by omega)).1.trans (hH.2.2.2 j hj).2.1, (hs.2.2 j (by omega)).2.trans (hH.2.2.2 j hj).2.2.2⟩⟩
theorem LH.kp {f g : Nat → Int32} {at' n : Nat} {h : Hm} (hl : LH f at' n h) (h6 : n ≤ 6) (e : ∀ k, at' ≤ k → k < at' + 14 → g k = f k) : LH g at' n h :=
  ⟨(e _ (by omega) (by omega)).trans hl.1, (e _ (by omega) (by omega)).trans hl.2.1, fun j hj => ⟨(e _ (by omega) (by omega)).trans (hl.2.2 j hj).1, (e _ (by omega) (by omega)).trans (hl.2.2 j hj).2⟩⟩
theorem LH.mv {f g : Nat → Int32} {at' bt n : Nat} {h : Hm} (hl : LH f at' n h) (h6 : n ≤ 6) (e : ∀ k, k < 14 → g (bt + k) = f (at' + k)) : LH g bt n h :=
  ⟨(e 0 (by omega)).trans hl.1, (e 1 (by omega)).trans hl.2.1, fun j hj => ⟨by rw [Nat.add_assoc, e (2 + j) (by omega), ← Nat.add_assoc]; exact (hl.2.2 j hj).1, by rw [Nat.add_assoc, e (8 + j) (by omega), ← Nat.add_assoc]; exact (hl.2.2 j hj).2⟩⟩
/-- its voyage -/
def MV (i : MI0) (Y : Nat) (y : Vy) : Prop := MH i Y (vh y) ∧ i Y 4 = nI (vr y) ∧ i Y 5 = nI (vs y) ∧ i Y 22 = nI (vu y) ∧ (∀ j, j < vr y → i (Y + 6) j = vR y j) ∧ (∀ j, j < vs y → i (Y + 7) j = nI (vW y j) ∧ i (Y + 8) j = vP y j) ∧ ∀ u, u < vu y → LH (i (Y + 12)) (14 * u) (hn (vh y)) (vU y u)
/-- an image -/
def IM (f : Nat → Int32) (a : Nat) (y : Vy) : Prop := f a = nI (hn (vh y)) ∧ f (a + 1) = nI (vr y) ∧ f (a + 2) = nI (vs y) ∧ f (a + 3) = nI (vu y) ∧ LH f (a + 4) (hn (vh y)) (vh y) ∧ (∀ j, j < hn (vh y) → f (a + 18 + j) = nI (hK (vh y) j) ∧ f (a + 24 + j) = iN (hN (vh y) j)) ∧ (∀ j, j < vr y → f (a + 30 + j) = vR y j) ∧ (∀ j, j < vs y → f (a + 36 + j) = nI (vW y j) ∧ f (a + 42 + j) = vP y j) ∧ ∀ u, u < vu y → LH f (a + 48 + 14 * u) (hn (vh y)) (vU y u)
def MR (i : MI0) (S : MS) (Y : Nat) (s : Ab) : Prop := MV i Y (aV s) ∧ (aK s 0 = true → IM (i (Y + 18)) 0 (aI s 0)) ∧ (aK s 1 = true → IM (i (Y + 18)) 160 (aI s 1)) ∧ (i (Y + 19) 0 = b2i (aK s 0) ∧ i (Y + 19) 1 = b2i (aK s 1)) ∧ (i (Y + 1) 0 = aX s ∧ i (Y + 1) 1 = aN s ∧ i (Y + 1) 2 = aF s) ∧ (i Y 14 = nI (aL s) ∧ ∀ j, j < aL s → i (Y + 9) j = nI (aB s j)) ∧ sL S Y 28 = lN (aA s) ∧ sL S Y 29 = lN (aW s)
def MI2 (M : Mm) (Y : Nat) (s : Ab) : Prop := YS M.2 Y ∧ MR (mi M) M.2 Y s
def OpM (Y : Nat) (M : Mm) (r : Value) (s : Ab) : Option Value → Mm → Prop := fun v M' => v = some r ∧ MI2 M' Y s ∧ Fr M M' Y (Y + 20)
theorem OpM_i {i i' : MI0} {S : MS} {Y : Nat} {s' : Ab} {o : Int32 × Ab} {r : Int32} (e : o = (r, s')) (hY : YS S Y) (hR : MR i' S Y s') (h : ∀ q, (q < Y ∨ Y + 20 ≤ q) → i' q = i q) : OpM Y (i, S) (.int o.1) o.2 (some (.int r)) (i', S) := by
  rw [e]
  exact ⟨rfl, ⟨hY, hR⟩, Fr_i h⟩
theorem MH.kp {i i' : MI0} {Y : Nat} {h : Hm} (hH : MH i Y h) (h6 : hn h ≤ 6) (e1 : i' Y 1 = i Y 1) (e2 : i' Y 2 = i Y 2) (e3 : i' Y 3 = i Y 3) (e : ∀ j, j < 6 → i' (Y + 2) j = i (Y + 2) j ∧ i' (Y + 3) j = i (Y + 3) j ∧ i' (Y + 4) j = i (Y + 4) j ∧ i' (Y + 5) j = i (Y + 5) j) : MH i' Y h := by
  refine ⟨e1.trans hH.1, e2.trans hH.2.1, e3.trans hH.2.2.1, fun j hj => ?_⟩
  obtain ⟨a1, a2, a3, a4⟩ := e j (by omega)
  rw [a1, a2, a3, a4]
  exact hH.2.2.2 j hj
/-- but for scratch the same -/
def EQ2 (i i' : MI0) (Y : Nat) : Prop := (∀ k, k ≠ 15 → k ≠ 16 → k ≠ 17 → k ≠ 20 → i' Y k = i Y k) ∧ (∀ j, j < 6 → i' (Y + 3) j = i (Y + 3) j ∧ i' (Y + 5) j = i (Y + 5) j) ∧ ∀ q, q ≠ Y → q ≠ Y + 3 → q ≠ Y + 5 → q ≠ Y + 10 → q ≠ Y + 11 → (q < Y + 13 ∨ Y + 17 < q) → i' q = i q
theorem EQ2.rfl' (i : MI0) (Y : Nat) : EQ2 i i Y := ⟨fun _ _ _ _ _ => rfl, fun _ _ => ⟨rfl, rfl⟩, fun _ _ _ _ _ _ _ => rfl⟩
theorem EQ2.trans {i i1 i2 : MI0} {Y : Nat} (h1 : EQ2 i i1 Y) (h2 : EQ2 i1 i2 Y) : EQ2 i i2 Y :=
  ⟨fun k a b c e => (h2.1 k a b c e).trans (h1.1 k a b c e), fun j hj => ⟨(h2.2.1 j hj).1.trans (h1.2.1 j hj).1, (h2.2.1 j hj).2.trans (h1.2.1 j hj).2⟩, fun q a b c e f g => (h2.2.2 q a b c e f g).trans (h1.2.2 q a b c e f g)⟩
theorem EQ2.fr {i i' : MI0} {Y : Nat} (h : EQ2 i i' Y) : ∀ q, (q < Y ∨ Y + 20 ≤ q) → i' q = i q := fun q hq => h.2.2 q (by omega) (by omega) (by omega) (by omega) (by omega) (by omega)
theorem EQ2.mh {i i' : MI0} {Y : Nat} {h : Hm} (e : EQ2 i i' Y) (hH : MH i Y h) (h6 : hn h ≤ 6) : MH i' Y h :=
  hH.kp h6 (e.1 1 (by decide) (by decide) (by decide) (by decide)) (e.1 2 (by decide) (by decide) (by decide) (by decide)) (e.1 3 (by decide) (by decide) (by decide) (by decide)) (fun j hj => ⟨congrFun (e.2.2 _ (by omega) (by omega) (by omega) (by omega) (by omega) (by omega)) j, (e.2.1 j hj).1, congrFun (e.2.2 _ (by omega) (by omega) (by omega) (by omega) (by omega) (by omega)) j, (e.2.1 j hj).2⟩)
theorem EQ2.mr {i i' : MI0} {S : MS} {Y : Nat} {s : Ab} {b : Nat} (e : EQ2 i i' Y) (hR : MR i S Y s) (hV : AV b s) : MR i' S Y s := by
  obtain ⟨⟨m1, m2, m3, m4, m5, m6, m7⟩, r2, r3, r4, r5, r6, r7⟩ := hR
  have f := fun q a b c e' f g => e.2.2 q a b c e' f g
  refine ⟨⟨e.mh m1 hV.1.1.1, (e.1 4 (by decide) (by decide) (by decide) (by decide)).trans m2, (e.1 5 (by decide) (by decide) (by decide) (by decide)).trans m3, (e.1 22 (by decide) (by decide) (by decide) (by decide)).trans m4, ?_, ?_, ?_⟩, ?_, ?_, ?_, ?_, ⟨(e.1 14 (by decide) (by decide) (by decide) (by decide)).trans r6.1, ?_⟩, r7⟩
  · rw [f (Y + 6) (by omega) (by omega) (by omega) (by omega) (by omega) (by omega)]; exact m5
  · rw [f (Y + 7) (by omega) (by omega) (by omega) (by omega) (by omega) (by omega), f (Y + 8) (by omega) (by omega) (by omega) (by omega) (by omega) (by omega)]; exact m6
  · rw [f (Y + 12) (by omega) (by omega) (by omega) (by omega) (by omega) (by omega)]; exact m7
  · rw [f (Y + 18) (by omega) (by omega) (by omega) (by omega) (by omega) (by omega)]; exact r2
  · rw [f (Y + 18) (by omega) (by omega) (by omega) (by omega) (by omega) (by omega)]; exact r3
  · rw [f (Y + 19) (by omega) (by omega) (by omega) (by omega) (by omega) (by omega)]; exact r4
  · rw [f (Y + 1) (by omega) (by omega) (by omega) (by omega) (by omega) (by omega)]; exact r5
  · rw [f (Y + 9) (by omega) (by omega) (by omega) (by omega) (by omega) (by omega)]; exact r6.2
/-- another voyage -/
theorem MR.mv {i i' : MI0} {S : MS} {Y : Nat} {s : Ab} {y : Vy} (hR : MR i S Y s) (hy : MV i' Y y) (e14 : i' Y 14 = i Y 14) (e : ∀ q, (q = Y + 1 ∨ q = Y + 9 ∨ q = Y + 18 ∨ q = Y + 19) → i' q = i q) : MR i' S Y (setV s y) := by
  obtain ⟨r1, r2, r3, r4, r5, r6, r7⟩ := hR
  refine ⟨hy, ?_, ?_, ?_, ?_, ⟨e14.trans r6.1, ?_⟩, r7⟩
  · rw [e _ (by omega)]; exact r2
  · rw [e _ (by omega)]; exact r3
  · rw [e _ (by omega)]; exact r4
  · rw [e _ (by omega)]; exact r5
  · rw [e (Y + 9) (by omega)]; exact r6.2
theorem MR.rf {i i' : MI0} {S : MS} {Y : Nat} {s s' : Ab} (hR : MR i S Y s) (e1 : s'.1 = s.1) (e2 : s'.2.1 = s.2.1) (e3 : s'.2.2.1 = s.2.2.1) (e4 : s'.2.2.2.1 = s.2.2.2.1) (e5 : s'.2.2.2.2.1 = s.2.2.2.2.1) (e6 : s'.2.2.2.2.2.1 = s.2.2.2.2.2.1) (e7 : s'.2.2.2.2.2.2.1 = s.2.2.2.2.2.2.1) (hr : i' (Y + 1) 0 = aX s' ∧ i' (Y + 1) 1 = aN s' ∧ i' (Y + 1) 2 = aF s') (e : ∀ q, q ≠ Y + 1 → i' q = i q) : MR i' S Y s' := by
  obtain ⟨⟨m1, m2, m3, m4, m5, m6, m7⟩, r2, r3, r4, r5, r6, r7⟩ := hR
  unfold MR MV MH aV aI aK aL aB aA aW
  rw [e1, e2, e3, e4, e5, e6, e7, e Y (by omega), e (Y + 2) (by omega), e (Y + 3) (by omega), e (Y + 4) (by omega), e (Y + 5) (by omega), e (Y + 6) (by omega), e (Y + 7) (by omega), e (Y + 8) (by omega), e (Y + 9) (by omega), e (Y + 12) (by omega), e (Y + 18) (by omega), e (Y + 19) (by omega)]
  exact ⟨⟨m1, m2, m3, m4, m5, m6, m7⟩, r2, r3, r4, hr, r6, r7⟩
set_option maxRecDepth 100000 in
set_option maxHeartbeats 4000000 in
theorem lpX12_lays {G : GE} {d : Nat} {i : MI0} {S : MS} {Y : Nat} (hY : YS S Y) {a n at' : Nat} (ha : sT S a = (13, n)) (hn9 : n ≤ 1000) (hat : at' + 14 ≤ n) (haY : a ≠ Y) (ha3 : a ≠ Y + 3) (ha5 : a ≠ Y + 5) : ∀ (n0 j : Nat), j ≤ 6 → 6 < j + n0 → ∀ (i' : MI0), i' a at' = i Y 2 → i' a (at' + 1) = i Y 3 → (∀ q, q < j → i' a (at' + 2 + q) = i (Y + 3) q ∧ i' a (at' + 8 + q) = i (Y + 5) q) → (∀ k, (k < at' ∨ at' + 14 ≤ k) → i' a k = i a k) → (∀ q, q ≠ a → i' q = i q) → PW G iX12_lays d (Wr S (fun i' => SVd (i' a) at' i Y ∧ (∀ k, (k < at' ∨ at' + 14 ≤ k) → i' a k = i a k) ∧ ∀ q, q ≠ a → i' q = i q)) 18 [.ref Y, .ref a, .int (nI at'), .int (nI j)] [] (i', S) 0 0 := by
  have hY' := hY
  obtain ⟨Yt, ⟨Yt1, Yr1⟩, ⟨Yt2, Yr2⟩, ⟨Yt3, Yr3⟩, ⟨Yt4, Yr4⟩, ⟨Yt5, Yr5⟩, ⟨Yt6, Yr6⟩, ⟨Yt7, Yr7⟩, ⟨Yt8, Yr8⟩, ⟨Yt9, Yr9⟩, ⟨Yt10, Yr10⟩, ⟨Yt11, Yr11⟩, ⟨Yt12, Yr12⟩, ⟨Yt13, Yr13⟩, ⟨Yt14, Yr14⟩, ⟨Yt15, Yr15⟩, ⟨Yt16, Yr16⟩, ⟨Yt17, Yr17⟩, ⟨Yt18, Yr18⟩, ⟨Yt19, Yr19⟩⟩ := hY
  intro n0
  induction n0 with
  | zero => intro j h1 h2; exact absurd h2 (by omega)
  | succ n0 ih =>
    intro j hj1 hj2 i' v0 v1 v2 v3 v4
    refine PW_iload_n (i := 3) dX12_lays_18 rfl rfl ?_
    refine PW_bipush (v := 6) dX12_lays_19 (by decide) ?_
    refine PW_icmp_ge 57 dX12_lays_21 (by decide) (fun h21 => ?_) (fun h21 => ?_)
    · have h21 := jle (a := 6) h21
      have ej : j = 6 := by omega
      subst ej
      refine PW_return rfl dX12_lays_57 (Nat.le_of_ble_eq_true rfl) (Nat.le_of_ble_eq_true rfl) ?_
      exact Wr_mk rfl ⟨⟨v0, v1, v2⟩, v3, v4⟩
    · have h21 := jnle (a := 6) h21
      refine PW_aload_n (i := 1) dX12_lays_24 rfl rfl ?_
      refine PW_iload_n (i := 2) dX12_lays_25 rfl rfl ?_
      refine PW_iconst (v := 2) dX12_lays_26 (by decide) ?_
      refine PW_iadd dX12_lays_27 ?_
      refine PW_eqi (nI_add _ 2) ?_
      refine PW_iload_n (i := 3) dX12_lays_28 rfl rfl ?_
      refine PW_iadd dX12_lays_29 ?_
      refine PW_eqi (nI_add _ _) ?_
      refine PW_aload_n (i := 0) dX12_lays_30 rfl rfl ?_
      refine PW_getR dX12_lays_31 fg12_16 (Yt) (Yr3) ?_
      refine PW_iload_n (i := 3) dX12_lays_34 rfl rfl ?_
      refine PW_ial (v := i (Y + 3) j) dX12_lays_35 (Yt3) (by omega) (by omega) (congrFun (v4 (Y + 3) (by omega)) j) ?_
      refine PW_ias dX12_lays_36 (ha) (by omega) (by omega) ?_
      refine PW_aload_n (i := 1) dX12_lays_37 rfl rfl ?_
      refine PW_iload_n (i := 2) dX12_lays_38 rfl rfl ?_
      refine PW_bipush (v := 8) dX12_lays_39 (by decide) ?_
      refine PW_iadd dX12_lays_41 ?_
      refine PW_eqi (nI_add _ 8) ?_
      refine PW_iload_n (i := 3) dX12_lays_42 rfl rfl ?_
      refine PW_iadd dX12_lays_43 ?_
      refine PW_eqi (nI_add _ _) ?_
      refine PW_aload_n (i := 0) dX12_lays_44 rfl rfl ?_
      refine PW_getR dX12_lays_45 fg12_22 (Yt) (Yr5) ?_
      refine PW_iload_n (i := 3) dX12_lays_48 rfl rfl ?_
      refine PW_ial (v := i (Y + 5) j) dX12_lays_49 (Yt5) (by omega) (by omega) ((rI_a _ _ _ (by omega)).trans (congrFun (v4 (Y + 5) (by omega)) j)) ?_
      refine PW_ias dX12_lays_50 (ha) (by omega) (by omega) ?_
      refine PW_inc1 dX12_lays_51 rfl (Nat.le_of_ble_eq_true rfl) rfl ?_
      refine PW_goto 18 dX12_lays_54 (by decide) ?_
      refine PW_nm rfl (fun i2 e2 => ?_)
      refine ih (j + 1) (by omega) (by omega) i2 ?_ ?_ (fun q hq => ?_) (fun k hk => ?_) (fun q hq => by rw [e2, rI_f _ _ hq, rI_f _ _ hq]; exact v4 q hq)
      · rw [e2, rI_k _ _ _ (by omega), rI_k _ _ _ (by omega)]; exact v0
      · rw [e2, rI_k _ _ _ (by omega), rI_k _ _ _ (by omega)]; exact v1
      · rw [e2]
        by_cases e : q = j
        · rw [e, rI_k _ _ _ (by omega), rI_s, rI_s]; exact ⟨rfl, rfl⟩
        · rw [rI_k _ _ _ (by omega), rI_k _ _ _ (by omega), rI_k _ _ _ (by omega), rI_k _ _ _ (by omega)]; exact v2 q (by omega)
      · rw [e2, rI_k _ _ _ (by omega), rI_k _ _ _ (by omega)]; exact v3 k hk
set_option maxRecDepth 100000 in
set_option maxHeartbeats 4000000 in
theorem spX12_lays {G : GE} {d : Nat} {i : MI0} {S : MS} {Y : Nat} (hY : YS S Y) {a n at' : Nat} (ha : sT S a = (13, n)) (hn9 : n ≤ 1000) (hat : at' + 14 ≤ n) (haY : a ≠ Y) (ha3 : a ≠ Y + 3) (ha5 : a ≠ Y + 5) : Mt G iX12_lays d [.ref Y, .ref a, .int (nI at')] (i, S) (Wr S (fun i' => SVd (i' a) at' i Y ∧ (∀ k, (k < at' ∨ at' + 14 ≤ k) → i' a k = i a k) ∧ ∀ q, q ≠ a → i' q = i q)) := by
  have hY' := hY
  obtain ⟨Yt, ⟨Yt1, Yr1⟩, ⟨Yt2, Yr2⟩, ⟨Yt3, Yr3⟩, ⟨Yt4, Yr4⟩, ⟨Yt5, Yr5⟩, ⟨Yt6, Yr6⟩, ⟨Yt7, Yr7⟩, ⟨Yt8, Yr8⟩, ⟨Yt9, Yr9⟩, ⟨Yt10, Yr10⟩, ⟨Yt11, Yr11⟩, ⟨Yt12, Yr12⟩, ⟨Yt13, Yr13⟩, ⟨Yt14, Yr14⟩, ⟨Yt15, Yr15⟩, ⟨Yt16, Yr16⟩, ⟨Yt17, Yr17⟩, ⟨Yt18, Yr18⟩, ⟨Yt19, Yr19⟩⟩ := hY
  refine Mt_in 1 (ls := [.ref Y, .ref a, .int (nI at'), .null]) moX12_lays (Nat.le_of_ble_eq_true rfl) rfl ?_
  refine PW_aload_n (i := 1) dX12_lays_0 rfl rfl ?_
  refine PW_iload_n (i := 2) dX12_lays_1 rfl rfl ?_
  refine PW_aload_n (i := 0) dX12_lays_2 rfl rfl ?_
  refine PW_giv (v := i Y 2) dX12_lays_3 fg12_78 (Yt) (rfl) ?_
  refine PW_ias dX12_lays_6 (ha) (by omega) (by omega) ?_
  refine PW_aload_n (i := 1) dX12_lays_7 rfl rfl ?_
  refine PW_iload_n (i := 2) dX12_lays_8 rfl rfl ?_
  refine PW_iconst (v := 1) dX12_lays_9 (by decide) ?_
  refine PW_iadd dX12_lays_10 ?_
  refine PW_eqi (nI_1 _) ?_
  refine PW_aload_n (i := 0) dX12_lays_11 rfl rfl ?_
  refine PW_giv (v := i Y 3) dX12_lays_12 fg12_81 (Yt) (rI_a _ _ _ (by omega)) ?_
  refine PW_ias dX12_lays_15 (ha) (by omega) (by omega) ?_
  refine PW_iconst (v := 0) dX12_lays_16 (by decide) ?_
  refine PW_istore_n (i := 3) dX12_lays_17 rfl (Nat.le_of_ble_eq_true rfl) rfl ?_
  refine PW_nm rfl (fun i2 e2 => ?_)
  refine lpX12_lays hY' ha hn9 hat haY ha3 ha5 7 0 (by omega) (by omega) i2 ?_ ?_ (fun q hq => absurd hq (Nat.not_lt_zero q)) (fun k hk => by rw [e2, rI_k _ _ _ (by omega), rI_k _ _ _ (by omega)]; rfl) (fun q hq => by rw [e2, rI_f _ _ hq, rI_f _ _ hq]; rfl)
  · rw [e2, rI_k _ _ _ (by omega)]; exact rI_s _ _ _ _
  · rw [e2]; exact rI_s _ _ _ _
set_option maxRecDepth 100000 in
set_option maxHeartbeats 4000000 in
theorem lpX12_takes {G : GE} {d : Nat} {i : MI0} {S : MS} {Y : Nat} (hY : YS S Y) {a n at' : Nat} (ha : sT S a = (13, n)) (hn9 : n ≤ 1000) (hat : at' + 14 ≤ n) (haY : a ≠ Y) (ha3 : a ≠ Y + 3) (ha5 : a ≠ Y + 5) : ∀ (n0 j : Nat), j ≤ 6 → 6 < j + n0 → ∀ (i' : MI0), i' Y 2 = i a at' → i' Y 3 = i a (at' + 1) → (∀ k, k ≠ 2 → k ≠ 3 → i' Y k = i Y k) → (∀ q, q < j → i' (Y + 3) q = i a (at' + 2 + q) ∧ i' (Y + 5) q = i a (at' + 8 + q)) → (∀ q, q ≠ Y → q ≠ Y + 3 → q ≠ Y + 5 → i' q = i q) → PW G iX12_takes d (Wr S (fun i' => i' Y 2 = i a at' ∧ i' Y 3 = i a (at' + 1) ∧ (∀ k, k ≠ 2 → k ≠ 3 → i' Y k = i Y k) ∧ (∀ j, j < 6 → i' (Y + 3) j = i a (at' + 2 + j) ∧ i' (Y + 5) j = i a (at' + 8 + j)) ∧ ∀ q, q ≠ Y → q ≠ Y + 3 → q ≠ Y + 5 → i' q = i q)) 18 [.ref Y, .ref a, .int (nI at'), .int (nI j)] [] (i', S) 0 0 := by
  have hY' := hY
  obtain ⟨Yt, ⟨Yt1, Yr1⟩, ⟨Yt2, Yr2⟩, ⟨Yt3, Yr3⟩, ⟨Yt4, Yr4⟩, ⟨Yt5, Yr5⟩, ⟨Yt6, Yr6⟩, ⟨Yt7, Yr7⟩, ⟨Yt8, Yr8⟩, ⟨Yt9, Yr9⟩, ⟨Yt10, Yr10⟩, ⟨Yt11, Yr11⟩, ⟨Yt12, Yr12⟩, ⟨Yt13, Yr13⟩, ⟨Yt14, Yr14⟩, ⟨Yt15, Yr15⟩, ⟨Yt16, Yr16⟩, ⟨Yt17, Yr17⟩, ⟨Yt18, Yr18⟩, ⟨Yt19, Yr19⟩⟩ := hY
  intro n0
  induction n0 with
  | zero => intro j h1 h2; exact absurd h2 (by omega)
  | succ n0 ih =>
    intro j hj1 hj2 i' v0 v1 v2 v3 v4
    refine PW_iload_n (i := 3) dX12_takes_18 rfl rfl ?_
    refine PW_bipush (v := 6) dX12_takes_19 (by decide) ?_
    refine PW_icmp_ge 57 dX12_takes_21 (by decide) (fun h21 => ?_) (fun h21 => ?_)
    · have h21 := jle (a := 6) h21
      have ej : j = 6 := by omega
      subst ej
      refine PW_return rfl dX12_takes_57 (Nat.le_of_ble_eq_true rfl) (Nat.le_of_ble_eq_true rfl) ?_
      exact Wr_mk rfl ⟨v0, v1, v2, v3, v4⟩
    · have h21 := jnle (a := 6) h21
      refine PW_aload_n (i := 0) dX12_takes_24 rfl rfl ?_
      refine PW_getR dX12_takes_25 fg12_16 (Yt) (Yr3) ?_
      refine PW_iload_n (i := 3) dX12_takes_28 rfl rfl ?_
      refine PW_aload_n (i := 1) dX12_takes_29 rfl rfl ?_
      refine PW_iload_n (i := 2) dX12_takes_30 rfl rfl ?_
      refine PW_iconst (v := 2) dX12_takes_31 (by decide) ?_
      refine PW_iadd dX12_takes_32 ?_
      refine PW_eqi (nI_add _ 2) ?_
      refine PW_iload_n (i := 3) dX12_takes_33 rfl rfl ?_
      refine PW_iadd dX12_takes_34 ?_
      refine PW_eqi (nI_add _ _) ?_
      refine PW_ial (v := i a (at' + 2 + j)) dX12_takes_35 (ha) (by omega) (by omega) (congrFun (v4 a haY ha3 ha5) _) ?_
      refine PW_ias dX12_takes_36 (Yt3) (by omega) (by omega) ?_
      refine PW_aload_n (i := 0) dX12_takes_37 rfl rfl ?_
      refine PW_getR dX12_takes_38 fg12_22 (Yt) (Yr5) ?_
      refine PW_iload_n (i := 3) dX12_takes_41 rfl rfl ?_
      refine PW_aload_n (i := 1) dX12_takes_42 rfl rfl ?_
      refine PW_iload_n (i := 2) dX12_takes_43 rfl rfl ?_
      refine PW_bipush (v := 8) dX12_takes_44 (by decide) ?_
      refine PW_iadd dX12_takes_46 ?_
      refine PW_eqi (nI_add _ 8) ?_
      refine PW_iload_n (i := 3) dX12_takes_47 rfl rfl ?_
      refine PW_iadd dX12_takes_48 ?_
      refine PW_eqi (nI_add _ _) ?_
      refine PW_ial (v := i a (at' + 8 + j)) dX12_takes_49 (ha) (by omega) (by omega) ((rI_a _ _ _ (by omega)).trans (congrFun (v4 a haY ha3 ha5) _)) ?_
      refine PW_ias dX12_takes_50 (Yt5) (by omega) (by omega) ?_
      refine PW_inc1 dX12_takes_51 rfl (Nat.le_of_ble_eq_true rfl) rfl ?_
      refine PW_goto 18 dX12_takes_54 (by decide) ?_
      refine PW_nm rfl (fun i2 e2 => ?_)
      refine ih (j + 1) (by omega) (by omega) i2 ?_ ?_ (fun k h1 h2 => ?_) (fun q hq => ?_) (fun q h1 h2 h3 => by rw [e2, rI_f _ _ h3, rI_f _ _ h2]; exact v4 q h1 h2 h3)
      · rw [e2, rI_a _ _ _ (by omega), rI_a _ _ _ (by omega)]; exact v0
      · rw [e2, rI_a _ _ _ (by omega), rI_a _ _ _ (by omega)]; exact v1
      · rw [e2, rI_a _ _ _ (by omega), rI_a _ _ _ (by omega)]; exact v2 k h1 h2
      · rw [e2]
        by_cases e : q = j
        · rw [e, rI_a _ _ _ (by omega), rI_s, rI_s]; exact ⟨rfl, rfl⟩
        · rw [rI_a _ _ _ (by omega), rI_k _ _ _ e, rI_k _ _ _ e, rI_a _ _ _ (by omega)]; exact v3 q (by omega)
set_option maxRecDepth 100000 in
set_option maxHeartbeats 4000000 in
theorem spX12_takes {G : GE} {d : Nat} {i : MI0} {S : MS} {Y : Nat} (hY : YS S Y) {a n at' : Nat} (ha : sT S a = (13, n)) (hn9 : n ≤ 1000) (hat : at' + 14 ≤ n) (haY : a ≠ Y) (ha3 : a ≠ Y + 3) (ha5 : a ≠ Y + 5) : Mt G iX12_takes d [.ref Y, .ref a, .int (nI at')] (i, S) (Wr S (fun i' => i' Y 2 = i a at' ∧ i' Y 3 = i a (at' + 1) ∧ (∀ k, k ≠ 2 → k ≠ 3 → i' Y k = i Y k) ∧ (∀ j, j < 6 → i' (Y + 3) j = i a (at' + 2 + j) ∧ i' (Y + 5) j = i a (at' + 8 + j)) ∧ ∀ q, q ≠ Y → q ≠ Y + 3 → q ≠ Y + 5 → i' q = i q)) := by
  have hY' := hY
  obtain ⟨Yt, ⟨Yt1, Yr1⟩, ⟨Yt2, Yr2⟩, ⟨Yt3, Yr3⟩, ⟨Yt4, Yr4⟩, ⟨Yt5, Yr5⟩, ⟨Yt6, Yr6⟩, ⟨Yt7, Yr7⟩, ⟨Yt8, Yr8⟩, ⟨Yt9, Yr9⟩, ⟨Yt10, Yr10⟩, ⟨Yt11, Yr11⟩, ⟨Yt12, Yr12⟩, ⟨Yt13, Yr13⟩, ⟨Yt14, Yr14⟩, ⟨Yt15, Yr15⟩, ⟨Yt16, Yr16⟩, ⟨Yt17, Yr17⟩, ⟨Yt18, Yr18⟩, ⟨Yt19, Yr19⟩⟩ := hY
  refine Mt_in 1 (ls := [.ref Y, .ref a, .int (nI at'), .null]) moX12_takes (Nat.le_of_ble_eq_true rfl) rfl ?_
  refine PW_aload_n (i := 0) dX12_takes_0 rfl rfl ?_
  refine PW_aload_n (i := 1) dX12_takes_1 rfl rfl ?_
  refine PW_iload_n (i := 2) dX12_takes_2 rfl rfl ?_
  refine PW_ial (v := i a at') dX12_takes_3 (ha) (by omega) (by omega) (rfl) ?_
  refine PW_putI dX12_takes_4 fr12_78 (fun h => by cases h) (Yt) ?_
  refine PW_aload_n (i := 0) dX12_takes_7 rfl rfl ?_
  refine PW_aload_n (i := 1) dX12_takes_8 rfl rfl ?_
  refine PW_iload_n (i := 2) dX12_takes_9 rfl rfl ?_
  refine PW_iconst (v := 1) dX12_takes_10 (by decide) ?_
  refine PW_iadd dX12_takes_11 ?_
  refine PW_eqi (nI_1 _) ?_
  refine PW_ial (v := i a (at' + 1)) dX12_takes_12 (ha) (by omega) (by omega) (rI_a _ _ _ haY) ?_
  refine PW_putI dX12_takes_13 fr12_81 (fun h => by cases h) (Yt) ?_
  refine PW_iconst (v := 0) dX12_takes_16 (by decide) ?_
  refine PW_istore_n (i := 3) dX12_takes_17 rfl (Nat.le_of_ble_eq_true rfl) rfl ?_
  refine PW_nm rfl (fun i2 e2 => ?_)
  refine lpX12_takes hY' ha hn9 hat haY ha3 ha5 7 0 (by omega) (by omega) i2 ?_ ?_ (fun k h1 h2 => by rw [e2, rI_k _ _ _ h2, rI_k _ _ _ h1]; rfl) (fun q hq => absurd hq (Nat.not_lt_zero q)) (fun q h1 h2 h3 => by rw [e2, rI_f _ _ h1, rI_f _ _ h1]; rfl)
  · rw [e2, rI_k _ _ _ (by decide)]; exact rI_s _ _ _ _
  · rw [e2]; exact rI_s _ _ _ _
set_option maxRecDepth 100000 in
set_option maxHeartbeats 4000000 in
theorem spX12_puts {G : GE} {d : Nat} {i : MI0} {S : MS} {Y : Nat} (hY : YS S Y) (hd : 1 ≤ d) : Mt G iX12_puts d [.ref Y] (i, S) (Wr S (fun i' => SVd (i' (Y + 13)) 0 i Y ∧ ∀ q, q ≠ Y + 13 → i' q = i q)) := by
  have hY' := hY
  obtain ⟨Yt, ⟨Yt1, Yr1⟩, ⟨Yt2, Yr2⟩, ⟨Yt3, Yr3⟩, ⟨Yt4, Yr4⟩, ⟨Yt5, Yr5⟩, ⟨Yt6, Yr6⟩, ⟨Yt7, Yr7⟩, ⟨Yt8, Yr8⟩, ⟨Yt9, Yr9⟩, ⟨Yt10, Yr10⟩, ⟨Yt11, Yr11⟩, ⟨Yt12, Yr12⟩, ⟨Yt13, Yr13⟩, ⟨Yt14, Yr14⟩, ⟨Yt15, Yr15⟩, ⟨Yt16, Yr16⟩, ⟨Yt17, Yr17⟩, ⟨Yt18, Yr18⟩, ⟨Yt19, Yr19⟩⟩ := hY
  refine Mt_in 0 (ls := [.ref Y]) moX12_puts (Nat.le_of_ble_eq_true rfl) rfl ?_
  refine PW_aload_n (i := 0) dX12_puts_0 rfl rfl ?_
  refine PW_aload_n (i := 0) dX12_puts_1 rfl rfl ?_
  refine PW_getR dX12_puts_2 fg12_46 (Yt) (Yr13) ?_
  refine PW_iconst (v := 0) dX12_puts_5 (by decide) ?_
  refine PW_callV dX12_puts_6 moX12_lays cv12_192 (Yt) (by omega) rfl rfl (Nat.le_of_ble_eq_true rfl) (Nat.le_of_ble_eq_true rfl) (Nat.le_of_ble_eq_true rfl) (spX12_lays (d := d - 1) hY' (at' := 0) Yt13 (by omega) (by omega) (by omega) (by omega) (by omega)) (fun v M1 hq => ?_)
  obtain ⟨rfl, i1, rfl, p1, p2, p3⟩ := hq
  refine PW_return rfl dX12_puts_9 (Nat.le_of_ble_eq_true rfl) (Nat.le_of_ble_eq_true rfl) ?_
  exact Wr_mk rfl ⟨p1, p3⟩
theorem pb_eq {i i1 i2 i3 : MI0} {Y : Nat} (p1 : SVd (i1 (Y + 13)) 0 i Y) (p2 : ∀ q, q ≠ Y + 13 → i1 q = i q) (c : CT i1 i2 Y) (b0 : i3 Y 2 = i2 (Y + 13) 0) (b1 : i3 Y 3 = i2 (Y + 13) (0 + 1)) (b2 : ∀ k, k ≠ 2 → k ≠ 3 → i3 Y k = i2 Y k) (b3 : ∀ j, j < 6 → i3 (Y + 3) j = i2 (Y + 13) (0 + 2 + j) ∧ i3 (Y + 5) j = i2 (Y + 13) (0 + 8 + j)) (b4 : ∀ q, q ≠ Y → q ≠ Y + 3 → q ≠ Y + 5 → i3 q = i2 q) : EQ2 i i3 Y := by
  have e13 : i2 (Y + 13) = i1 (Y + 13) := c.2 _ (by omega) (by omega) (by omega) (by omega)
  rw [e13] at b0 b1
  refine ⟨fun k h1 h2 h3 h4 => ?_, fun j hj => ?_, fun q h1 h2 h3 h4 h5 h6 => ?_⟩
  · by_cases e : k = 2
    · rw [e, b0]; exact p1.1
    · by_cases e' : k = 3
      · rw [e', b1]; exact p1.2.1
      · rw [b2 k e e', c.1 k e e', p2 Y (by omega)]
  · rw [(b3 j hj).1, (b3 j hj).2, e13]
    exact p1.2.2 j hj
  · rw [b4 q h1 h2 h3, c.2 q h1 h2 h3 (by omega), p2 q (by omega)]
set_option maxRecDepth 100000 in
set_option maxHeartbeats 4000000 in
theorem spX12_back {G : GE} {d : Nat} {i : MI0} {S : MS} {Y : Nat} (hY : YS S Y) (hd : 1 ≤ d) {i0 i1 : MI0} (p1 : SVd (i1 (Y + 13)) 0 i0 Y) (p2 : ∀ q, q ≠ Y + 13 → i1 q = i0 q) (c : CT i1 i Y) : Mt G iX12_back d [.ref Y] (i, S) (Wr S (fun i' => EQ2 i0 i' Y ∧ ∀ q, q ≠ Y → q ≠ Y + 3 → q ≠ Y + 5 → i' q = i q)) := by
  have hY' := hY
  obtain ⟨Yt, ⟨Yt1, Yr1⟩, ⟨Yt2, Yr2⟩, ⟨Yt3, Yr3⟩, ⟨Yt4, Yr4⟩, ⟨Yt5, Yr5⟩, ⟨Yt6, Yr6⟩, ⟨Yt7, Yr7⟩, ⟨Yt8, Yr8⟩, ⟨Yt9, Yr9⟩, ⟨Yt10, Yr10⟩, ⟨Yt11, Yr11⟩, ⟨Yt12, Yr12⟩, ⟨Yt13, Yr13⟩, ⟨Yt14, Yr14⟩, ⟨Yt15, Yr15⟩, ⟨Yt16, Yr16⟩, ⟨Yt17, Yr17⟩, ⟨Yt18, Yr18⟩, ⟨Yt19, Yr19⟩⟩ := hY
  refine Mt_in 0 (ls := [.ref Y]) moX12_back (Nat.le_of_ble_eq_true rfl) rfl ?_
  refine PW_aload_n (i := 0) dX12_back_0 rfl rfl ?_
  refine PW_aload_n (i := 0) dX12_back_1 rfl rfl ?_
  refine PW_getR dX12_back_2 fg12_46 (Yt) (Yr13) ?_
  refine PW_iconst (v := 0) dX12_back_5 (by decide) ?_
  refine PW_callV dX12_back_6 moX12_takes cv12_196 (Yt) (by omega) rfl rfl (Nat.le_of_ble_eq_true rfl) (Nat.le_of_ble_eq_true rfl) (Nat.le_of_ble_eq_true rfl) (spX12_takes (d := d - 1) hY' (at' := 0) Yt13 (by omega) (by omega) (by omega) (by omega) (by omega)) (fun v M1 hq => ?_)
  obtain ⟨rfl, i4, rfl, b0, b1, b2, b3, b4⟩ := hq
  refine PW_return rfl dX12_back_9 (Nat.le_of_ble_eq_true rfl) (Nat.le_of_ble_eq_true rfl) ?_
  exact Wr_mk rfl ⟨pb_eq p1 p2 c b0 b1 b2 b3 b4, b4⟩
def NTq (i : MI0) (S : MS) (Y : Nat) (y : Vy) : Option Value → Mm → Prop := Wr S (fun i' => MV i' Y (remV y) ∧ (∀ k, k ≠ 22 → i' Y k = i Y k) ∧ ∀ q, q ≠ Y → q ≠ Y + 12 → i' q = i q)
theorem NT_mk {i i1 i3 : MI0} {Y u b : Nat} {y : Vy} (hM : MV i Y y) (hV : VV b y) (hu : u < 8) (hru : vu (remV y) = u + 1) (hlast : vU (remV y) u = vh y) (hold : ∀ k, k < u → LH (i1 (Y + 12)) (14 * k) (hn (vh y)) (vU (remV y) k)) (e1 : ∀ k, k ≠ 22 → i1 Y k = i Y k) (e2 : ∀ q, q ≠ Y → q ≠ Y + 12 → i1 q = i q)
    (p1 : SVd (i3 (Y + 12)) (14 * u) i1 Y) (p2 : ∀ k, (k < 14 * u ∨ 14 * u + 14 ≤ k) → i3 (Y + 12) k = i1 (Y + 12) k) (p3 : ∀ q, q ≠ Y + 12 → q ≠ Y → i3 q = i1 q) (p4 : ∀ k, k ≠ 22 → i3 Y k = i1 Y k) (p5 : i3 Y 22 = nI (u + 1)) : MV i3 Y (remV y) ∧ (∀ k, k ≠ 22 → i3 Y k = i Y k) ∧ ∀ q, q ≠ Y → q ≠ Y + 12 → i3 q = i q := by
  obtain ⟨m1, m2, m3, m4, m5, m6, m7⟩ := hM
  have h6 := hV.1.1
  have f1 : ∀ k, k ≠ 22 → i3 Y k = i Y k := fun k hk => (p4 k hk).trans (e1 k hk)
  have f2 : ∀ q, q ≠ Y → q ≠ Y + 12 → i3 q = i q := fun q h1 h2 => (p3 q h2 h1).trans (e2 q h1 h2)
  have hH1 : MH i1 Y (vh y) := m1.kp h6 (e1 1 (by decide)) (e1 2 (by decide)) (e1 3 (by decide)) (fun j hj => ⟨by rw [e2 _ (by omega) (by omega)], by rw [e2 _ (by omega) (by omega)], by rw [e2 _ (by omega) (by omega)], by rw [e2 _ (by omega) (by omega)]⟩)
  refine ⟨⟨m1.kp h6 (f1 1 (by decide)) (f1 2 (by decide)) (f1 3 (by decide)) (fun j hj => ⟨by rw [f2 _ (by omega) (by omega)], by rw [f2 _ (by omega) (by omega)], by rw [f2 _ (by omega) (by omega)], by rw [f2 _ (by omega) (by omega)]⟩), (f1 4 (by decide)).trans m2, (f1 5 (by decide)).trans m3, by rw [p5, hru], by rw [f2 (Y + 6) (by omega) (by omega)]; exact m5, by rw [f2 (Y + 7) (by omega) (by omega), f2 (Y + 8) (by omega) (by omega)]; exact m6, fun k hk => ?_⟩, f1, f2⟩
  have hk' : k < u + 1 := hru ▸ hk
  by_cases e : k = u
  · rw [e, hlast]
    exact p1.lh hH1 h6
  · exact (hold k (by omega)).kp h6 (fun a h1 h2 => p2 a (by omega))
set_option maxRecDepth 100000 in
set_option maxHeartbeats 4000000 in
theorem tlX12_notes {G : GE} {d : Nat} {i : MI0} {S : MS} {Y : Nat} (hY : YS S Y) {y : Vy} {b : Nat} (hM : MV i Y y) (hV : VV b y) (hd : 1 ≤ d) {i1 : MI0} {u : Nat} (hu : u < 8) (h22 : i1 Y 22 = nI u) (hru : vu (remV y) = u + 1) (hlast : vU (remV y) u = vh y) (hold : ∀ k, k < u → LH (i1 (Y + 12)) (14 * k) (hn (vh y)) (vU (remV y) k)) (e1 : ∀ k, k ≠ 22 → i1 Y k = i Y k) (e2 : ∀ q, q ≠ Y → q ≠ Y + 12 → i1 q = i q) (z1 : Value) : PW G iX12_notes d (NTq i S Y y) 48 [.ref Y, z1] [] (i1, S) 0 0 := by
  have hY' := hY
  obtain ⟨Yt, ⟨Yt1, Yr1⟩, ⟨Yt2, Yr2⟩, ⟨Yt3, Yr3⟩, ⟨Yt4, Yr4⟩, ⟨Yt5, Yr5⟩, ⟨Yt6, Yr6⟩, ⟨Yt7, Yr7⟩, ⟨Yt8, Yr8⟩, ⟨Yt9, Yr9⟩, ⟨Yt10, Yr10⟩, ⟨Yt11, Yr11⟩, ⟨Yt12, Yr12⟩, ⟨Yt13, Yr13⟩, ⟨Yt14, Yr14⟩, ⟨Yt15, Yr15⟩, ⟨Yt16, Yr16⟩, ⟨Yt17, Yr17⟩, ⟨Yt18, Yr18⟩, ⟨Yt19, Yr19⟩⟩ := hY
  refine PW_aload_n (i := 0) dX12_notes_48 rfl rfl ?_
  refine PW_aload_n (i := 0) dX12_notes_49 rfl rfl ?_
  refine PW_getR dX12_notes_50 fg12_43 (Yt) (Yr12) ?_
  refine PW_bipush (v := 14) dX12_notes_53 (by decide) ?_
  refine PW_aload_n (i := 0) dX12_notes_55 rfl rfl ?_
  refine PW_giv (v := nI u) dX12_notes_56 fg12_90 (Yt) (h22) ?_
  refine PW_imul dX12_notes_59 ?_
  refine PW_eqi (pk_mul 14 u) ?_
  refine PW_callV dX12_notes_60 moX12_lays cv12_192 (Yt) (by omega) rfl rfl (Nat.le_of_ble_eq_true rfl) (Nat.le_of_ble_eq_true rfl) (Nat.le_of_ble_eq_true rfl) (spX12_lays (d := d - 1) hY' (at' := 14 * u) Yt12 (by omega) (by omega) (by omega) (by omega) (by omega)) (fun v M1 hq => ?_)
  obtain ⟨rfl, i3, rfl, p1, p2, p3⟩ := hq
  refine PW_aload_n (i := 0) dX12_notes_63 rfl rfl ?_
  refine PW_dup dX12_notes_64 rfl ?_
  refine PW_giv (v := nI u) dX12_notes_65 fg12_90 (Yt) ((congrFun (p3 Y (by omega)) 22).trans h22) ?_
  refine PW_iconst (v := 1) dX12_notes_68 (by decide) ?_
  refine PW_iadd dX12_notes_69 ?_
  refine PW_eqi (nI_1 _) ?_
  refine PW_putI dX12_notes_70 fr12_90 (fun h => by cases h) (Yt) ?_
  refine PW_return rfl dX12_notes_73 (Nat.le_of_ble_eq_true rfl) (Nat.le_of_ble_eq_true rfl) ?_
  refine Wr_mk rfl (NT_mk hM hV hu hru hlast hold e1 e2 ?_ (fun k hk => ?_) (fun q h1 h2 => ?_) (fun k hk => ?_) (rI_s _ _ _ _))
  · rw [rI_f _ _ (by omega)]; exact p1
  · rw [rI_f _ _ (by omega)]; exact p2 k hk
  · rw [rI_f _ _ h2]; exact p3 q h1
  · rw [rI_k _ _ _ hk, rP, p3 Y (by omega)]
set_option maxRecDepth 100000 in
set_option maxHeartbeats 4000000 in
theorem lpX12_notes {G : GE} {d : Nat} {i : MI0} {S : MS} {Y : Nat} (hY : YS S Y) {y : Vy} {b : Nat} (hM : MV i Y y) (hV : VV b y) (hd : 1 ≤ d) (h8 : vu y = 8) (h22 : i Y 22 = nI 8) : ∀ (n0 j : Nat), j ≤ 98 → 98 < j + n0 → ∀ (i' : MI0), (∀ k, k < j → i' (Y + 12) k = i (Y + 12) (k + 14)) → (∀ k, j ≤ k → i' (Y + 12) k = i (Y + 12) k) → i' Y 22 = i Y 22 → (∀ q, q ≠ Y + 12 → i' q = i q) → PW G iX12_notes d (NTq i S Y y) 11 [.ref Y, .int (nI j)] [] (i', S) 0 0 := by
  have hY' := hY
  obtain ⟨Yt, ⟨Yt1, Yr1⟩, ⟨Yt2, Yr2⟩, ⟨Yt3, Yr3⟩, ⟨Yt4, Yr4⟩, ⟨Yt5, Yr5⟩, ⟨Yt6, Yr6⟩, ⟨Yt7, Yr7⟩, ⟨Yt8, Yr8⟩, ⟨Yt9, Yr9⟩, ⟨Yt10, Yr10⟩, ⟨Yt11, Yr11⟩, ⟨Yt12, Yr12⟩, ⟨Yt13, Yr13⟩, ⟨Yt14, Yr14⟩, ⟨Yt15, Yr15⟩, ⟨Yt16, Yr16⟩, ⟨Yt17, Yr17⟩, ⟨Yt18, Yr18⟩, ⟨Yt19, Yr19⟩⟩ := hY
  intro n0
  induction n0 with
  | zero => intro j h1 h2; exact absurd h2 (by omega)
  | succ n0 ih =>
    intro j hj1 hj2 i' v1 v2 v3 v4
    refine PW_iload_n (i := 1) dX12_notes_11 rfl rfl ?_
    refine PW_bipush (v := 98) dX12_notes_12 (by decide) ?_
    refine PW_icmp_ge 38 dX12_notes_14 (by decide) (fun h14 => ?_) (fun h14 => ?_)
    · have h14 := jle (a := 98) h14
      have ej : j = 98 := by omega
      subst ej
      refine PW_aload_n (i := 0) dX12_notes_38 rfl rfl ?_
      refine PW_dup dX12_notes_39 rfl ?_
      refine PW_giv (v := nI 8) dX12_notes_40 fg12_90 (Yt) (v3.trans h22) ?_
      refine PW_iconst (v := 1) dX12_notes_43 (by decide) ?_
      refine PW_isub dX12_notes_44 ?_
      refine PW_eqi (show nI 8 - 1 = nI 7 from rfl) ?_
      refine PW_putI dX12_notes_45 fr12_90 (fun h => by cases h) (Yt) ?_
      refine PW_nm rfl (fun i2 e2 => ?_)
      refine tlX12_notes hY' hM hV hd (u := 7) (by decide) (by rw [e2]; exact rI_s _ _ _ _) (remV_8 h8).1 (by rw [(remV_8 h8).2]; rfl) (fun k hk => ?_) (fun k hk => by rw [e2, rI_k _ _ _ hk, rP, v4 Y (by omega)]) (fun q h1 h2 => by rw [e2, rI_f _ _ h1, rP_f, v4 q h2]) _
      rw [show vU (remV y) k = vU y (k + 1) from by rw [(remV_8 h8).2]; exact if_neg (by omega)]
      refine (hM.2.2.2.2.2.2 (k + 1) (by omega)).mv hV.1.1 (fun a ha => ?_)
      rw [e2, rI_f _ _ (by omega), rP, v1 _ (by omega)]
      congr 1; omega
    · have h14 := jnle (a := 98) h14
      refine PW_aload_n (i := 0) dX12_notes_17 rfl rfl ?_
      refine PW_getR dX12_notes_18 fg12_43 (Yt) (Yr12) ?_
      refine PW_iload_n (i := 1) dX12_notes_21 rfl rfl ?_
      refine PW_aload_n (i := 0) dX12_notes_22 rfl rfl ?_
      refine PW_getR dX12_notes_23 fg12_43 (Yt) (Yr12) ?_
      refine PW_iload_n (i := 1) dX12_notes_26 rfl rfl ?_
      refine PW_bipush (v := 14) dX12_notes_27 (by decide) ?_
      refine PW_iadd dX12_notes_29 ?_
      refine PW_eqi (nI_add _ 14) ?_
      refine PW_ial (v := i (Y + 12) (j + 14)) dX12_notes_30 (Yt12) (by omega) (by omega) (v2 (j + 14) (by omega)) ?_
      refine PW_ias dX12_notes_31 (Yt12) (by omega) (by omega) ?_
      refine PW_inc1 dX12_notes_32 rfl (Nat.le_of_ble_eq_true rfl) rfl ?_
      refine PW_goto 11 dX12_notes_35 (by decide) ?_
      refine PW_nm rfl (fun i2 e2 => ?_)
      refine ih (j + 1) (by omega) (by omega) i2 (fun k hk => ?_) (fun k hk => by rw [e2, rI_k _ _ _ (by omega)]; exact v2 k (by omega)) (by rw [e2, rI_f _ _ (by omega)]; exact v3) (fun q h1 => by rw [e2, rI_f _ _ h1]; exact v4 q h1)
      by_cases e : k = j
      · rw [e, e2, rI_s]
      · rw [e2, rI_k _ _ _ e]; exact v1 k (by omega)
set_option maxRecDepth 100000 in
set_option maxHeartbeats 4000000 in
theorem spX12_notes {G : GE} {d : Nat} {i : MI0} {S : MS} {Y : Nat} (hY : YS S Y) {y : Vy} {b : Nat} (hM : MV i Y y) (hV : VV b y) (hd : 1 ≤ d) : Mt G iX12_notes d [.ref Y] (i, S) (NTq i S Y y) := by
  have hY' := hY
  obtain ⟨Yt, ⟨Yt1, Yr1⟩, ⟨Yt2, Yr2⟩, ⟨Yt3, Yr3⟩, ⟨Yt4, Yr4⟩, ⟨Yt5, Yr5⟩, ⟨Yt6, Yr6⟩, ⟨Yt7, Yr7⟩, ⟨Yt8, Yr8⟩, ⟨Yt9, Yr9⟩, ⟨Yt10, Yr10⟩, ⟨Yt11, Yr11⟩, ⟨Yt12, Yr12⟩, ⟨Yt13, Yr13⟩, ⟨Yt14, Yr14⟩, ⟨Yt15, Yr15⟩, ⟨Yt16, Yr16⟩, ⟨Yt17, Yr17⟩, ⟨Yt18, Yr18⟩, ⟨Yt19, Yr19⟩⟩ := hY
  refine Mt_in 1 (ls := [.ref Y, .null]) moX12_notes (Nat.le_of_ble_eq_true rfl) rfl ?_
  refine PW_aload_n (i := 0) dX12_notes_0 rfl rfl ?_
  refine PW_giv (v := nI (vu y)) dX12_notes_1 fg12_90 (Yt) (hM.2.2.2.1) ?_
  refine PW_bipush (v := 8) dX12_notes_4 (by decide) ?_
  have h88 := hV.2.2.2.1
  refine PW_icmp_ne 48 dX12_notes_6 (by decide) (fun h6 => ?_) (fun h6 => ?_)
  · have h6 := jne (b := 8) h6
    exact tlX12_notes hY' hM hV hd (u := vu y) (by omega) hM.2.2.2.1 (remV_n h6).1 (by rw [(remV_n h6).2]; exact if_pos rfl) (fun k hk => by rw [show vU (remV y) k = vU y k from by rw [(remV_n h6).2]; exact if_neg (by omega)]; exact hM.2.2.2.2.2.2 k hk) (fun _ _ => rfl) (fun _ _ _ => rfl) _
  · have h6 := jeq (b := 8) h6
    refine PW_iconst (v := 0) dX12_notes_9 (by decide) ?_
    refine PW_istore_n (i := 1) dX12_notes_10 rfl (Nat.le_of_ble_eq_true rfl) rfl ?_
    exact lpX12_notes hY' hM hV hd h6 (by rw [hM.2.2.2.1, h6]) 99 0 (by omega) (by omega) i (fun k hk => absurd hk (Nat.not_lt_zero k)) (fun _ _ => rfl) rfl (fun _ _ => rfl)

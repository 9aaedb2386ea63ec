/-! ===== the law: its loop, its start ===== -/
theorem and31 (x : Int32) : ∃ k : Nat, k < 32 ∧ x &&& 31 = nI k := by
  refine ⟨(x.toBitVec &&& 31#32).toNat, ?_, ?_⟩
  · rw [BitVec.toNat_and]
    exact Nat.lt_of_le_of_lt Nat.and_le_right (by decide)
  · apply Int32.toBitVec_inj.mp
    show x.toBitVec &&& 31#32 = BitVec.ofNat 32 _
    rw [BitVec.ofNat_toNat, BitVec.setWidth_eq]
theorem sc_le {L j : Nat} (hL : L ≤ 256) (h : ¬ nI L - 4 < nI (4 * j)) (hj : 4 * j ≤ L) : 4 * j + 4 ≤ L := by
  rw [show nI L - (4 : Int32) = iN ((L : Int) - 4) by rw [nI_iN, show (4 : Int32) = iN 4 from rfl, iN_sub], nI_iN, Int32.lt_iff_toInt_lt, iN_toInt (by omega) (by omega), iN_toInt (by omega) (by omega)] at h
  omega
theorem CI.bl {M M' : Mm} {X b : Nat} {s : Ab} (h : CI M X s) (hv : AV b s) (f : Bl (X + 211) M M') : CI M' X s := by
  obtain ⟨g, hP, hR⟩ := h
  have k : ∀ a c, c ≤ X + 210 → Kq M M' a c := fun a c hac q _ h2 => ⟨(f q (by omega)).1, (f q (by omega)).2.2.2⟩
  have m : ∀ q, q < X + 211 → mt M' q = mt M q := fun q hq => (f q hq).1
  refine ⟨g, ?_, hR.kp hP hv (fun q h1 h2 _ _ => (f q (by omega)).2.1)⟩
  obtain ⟨⟨c1, ⟨r0, r1, r2, r3, r4, r5, r6, r7⟩, c2, ⟨v1, v2, v3, v4⟩, ⟨i1, i2, i3⟩, c3, c4, c5, c6, c7⟩, p1, p2, p3, p4⟩ := hP
  have x := (f X (by omega)).2.2.2
  have y := (f (X + 90) (by omega)).2.2.2
  exact ⟨⟨(m X (by omega)).trans c1, ⟨(congrFun x 0).trans r0, (congrFun x 1).trans r1, (congrFun x 2).trans r2, (congrFun x 3).trans r3, (congrFun x 4).trans r4, (congrFun x 5).trans r5, (congrFun x 6).trans r6, (congrFun x 7).trans r7⟩, c2.k2 (k _ _ (by omega)), ⟨v1.k2 (k _ _ (by omega)), v2.k2 (k _ _ (by omega)), v3.k2 (k _ _ (by omega)), v4.k2 (k _ _ (by omega))⟩, ⟨(m _ (by omega)).trans i1, (congrFun y 0).trans i2, (congrFun y 1).trans i3⟩, (m _ (by omega)).trans c3, c4.k2 (k _ _ (by omega)), c5.k2 (k _ _ (by omega)), c6.k2 (k _ _ (by omega)), c7.k2 (k _ _ (by omega))⟩, p1.k2 (k _ _ (by omega)), p2.k2 (k _ _ (by omega)), p3.k2 (k _ _ (by omega)), p4.k2 (k _ _ (by omega))⟩
set_option maxRecDepth 100000 in
set_option maxHeartbeats 4000000 in
theorem law_loop {G : GE} {nm : String} {d : Nat} {X Y nc ns : Nat} (hd : 30 ≤ d) (hXY : X + 211 = Y) (hL : (g_x G).2.1 ≤ 256) (hnc : nc + 0 ≤ 600000) (hns : ns + 0 ≤ 7302250) : ∀ (n0 j : Nat), 4 * j ≤ (g_x G).2.1 → (g_x G).2.1 < 4 * j + n0 → ∀ (M : Mm) (s : Ab), CI M X s → MI2 M Y s → AV j s → PW G (iLw nm) d (fun v _ => v = some (.int 1)) 18 [.ref (g_x G).1, .ref X, .ref Y, .int (nI (4 * j))] [] M nc ns := by
  intro n0
  induction n0 with
  | zero => intro j h1 h2; omega
  | succ n0 ih =>
    intro j h1 h2 M s hC hM hV
    refine PW_iload_n (i := 3) dL_law_18 rfl rfl ?_
    refine PW_aload_n (i := 0) dL_law_19 rfl rfl ?_
    refine PW_slen dL_law_20 ?_
    refine PW_iconst (v := 4) dL_law_21 (by decide) ?_
    refine PW_isub dL_law_22 ?_
    refine PW_icmp_gt 933 dL_law_23 (by decide) (fun _ => ?_) (fun h23 => ?_)
    · refine PW_iconst (v := 1) dL_law_933 (by decide) ?_
      exact PW_ireturn rfl rfl dL_law_934 hnc hns rfl
    · have hj : 4 * j + 4 ≤ (g_x G).2.1 := sc_le hL h23 h1
      refine PW_aload_n (i := 0) dL_law_26 rfl rfl ?_
      refine PW_iload_n (i := 3) dL_law_27 rfl rfl ?_
      refine PW_sld (j := 4 * j) dL_law_28 rfl (by omega) hL ?_
      refine PW_bipush (v := 31) dL_law_29 (by decide) ?_
      refine PW_iand dL_law_31 ?_
      have hnx : ∀ (M' : Mm) (s' : Ab), CI M' X s' → MI2 M' Y s' → AV (j + 1) s' → PW G (iLw nm) d (fun v _ => v = some (.int 1)) 927 [.ref (g_x G).1, .ref X, .ref Y, .int (nI (4 * j))] [] M' nc ns := by
        intro M' s' q1 q2 q3
        refine PW_iinc dL_law_927 rfl (Nat.le_of_ble_eq_true rfl) rfl ?_
        refine PW_goto 18 dL_law_930 (by decide) ?_
        refine PW_eqL ?_ (ih (j + 1) (by omega) (by omega) M' s' q1 q2 q3)
        rw [show nI (4 * (j + 1)) = nI (4 * j) + Int32.ofInt 4 from (nI_add (4 * j) 4).symm]
        rfl
      obtain ⟨k, hk, ek⟩ := and31 ((g_x G).2.2 (4 * j))
      refine PW_eqi ek ?_
      rcases (by omega : k = 0 ∨ k = 1 ∨ k = 2 ∨ k = 3 ∨ k = 4 ∨ k = 5 ∨ k = 6 ∨ k = 7 ∨ k = 8 ∨ k = 9 ∨ k = 10 ∨ k = 11 ∨ k = 12 ∨ k = 13 ∨ k = 14 ∨ k = 15 ∨ k = 16 ∨ k = 17 ∨ k = 18 ∨ k = 19 ∨ k = 20 ∨ k = 21 ∨ k = 22 ∨ k = 23 ∨ k = 24 ∨ k = 25 ∨ k = 26 ∨ k = 27 ∨ k = 28 ∨ k = 29 ∨ k = 30 ∨ k = 31) with rfl | rfl | rfl | rfl | rfl | rfl | rfl | rfl | rfl | rfl | rfl | rfl | rfl | rfl | rfl | rfl | rfl | rfl | rfl | rfl | rfl | rfl | rfl | rfl | rfl | rfl | rfl | rfl | rfl | rfl | rfl | rfl
      · exact PW_tableIn 172 dL_law_32 (by decide) (by decide) rfl (by decide) (law_ship hd hXY hL hj hC hM hV hnc hns hnx)
      · exact PW_tableIn 185 dL_law_32 (by decide) (by decide) rfl (by decide) (law_rock hd hXY hL hj hC hM hV hnc hns hnx)
      · exact PW_tableIn 208 dL_law_32 (by decide) (by decide) rfl (by decide) (law_hand hd hXY hL hj hC hM hV hnc hns hnx)
      · exact PW_tableIn 251 dL_law_32 (by decide) (by decide) rfl (by decide) (law_type hd hXY hL hj hC hM hV hnc hns hnx)
      · exact PW_tableIn 274 dL_law_32 (by decide) (by decide) rfl (by decide) (law_clear hd hXY hL hj hC hM hV hnc hns hnx)
      · exact PW_tableIn 287 dL_law_32 (by decide) (by decide) rfl (by decide) (law_read hd hXY hL hj hC hM hV hnc hns hnx)
      · exact PW_tableIn 300 dL_law_32 (by decide) (by decide) rfl (by decide) (law_feed hd hXY hL hj hC hM hV hnc hns hnx)
      · exact PW_tableIn 323 dL_law_32 (by decide) (by decide) rfl (by decide) (law_watch hd hXY hL hj hC hM hV hnc hns hnx)
      · exact PW_tableIn 336 dL_law_32 (by decide) (by decide) rfl (by decide) (law_undo hd hXY hL hj hC hM hV hnc hns hnx)
      · exact PW_tableIn 349 dL_law_32 (by decide) (by decide) rfl (by decide) (law_of hd hXY hL hj hC hM hV hnc hns hnx)
      · exact PW_tableIn 382 dL_law_32 (by decide) (by decide) rfl (by decide) (law_now hd hXY hL hj hC hM hV hnc hns hnx)
      · exact PW_tableIn 405 dL_law_32 (by decide) (by decide) rfl (by decide) (law_then hd hXY hL hj hC hM hV hnc hns hnx)
      · exact PW_tableIn 438 dL_law_32 (by decide) (by decide) rfl (by decide) (law_strikes hd hXY hL hj hC hM hV hnc hns hnx)
      · exact PW_tableIn 451 dL_law_32 (by decide) (by decide) rfl (by decide) (law_peas hd hXY hL hj hC hM hV hnc hns hnx)
      · exact PW_tableIn 494 dL_law_32 (by decide) (by decide) rfl (by decide) (law_canNot hd hXY hL hj hC hM hV hnc hns hnx)
      · exact PW_tableIn 517 dL_law_32 (by decide) (by decide) rfl (by decide) (law_eat hd hXY hL hj hC hM hV hnc hns hnx)
      · exact PW_tableIn 550 dL_law_32 (by decide) (by decide) rfl (by decide) (law_seen hd hXY hL hj hC hM hV hnc hns hnx)
      · exact PW_tableIn 583 dL_law_32 (by decide) (by decide) rfl (by decide) (law_forget hd hXY hL hj hC hM hV hnc hns hnx)
      · exact PW_tableIn 596 dL_law_32 (by decide) (by decide) rfl (by decide) (law_nod hd hXY hL hj hC hM hV hnc hns hnx)
      · exact PW_tableIn 619 dL_law_32 (by decide) (by decide) rfl (by decide) (law_is hd hXY hL hj hC hM hV hnc hns hnx)
      · exact PW_tableIn 642 dL_law_32 (by decide) (by decide) rfl (by decide) (law_look hd hXY hL hj hC hM hV hnc hns hnx)
      · exact PW_tableIn 665 dL_law_32 (by decide) (by decide) rfl (by decide) (law_pulled hd hXY hL hj hC hM hV hnc hns hnx)
      · exact PW_tableIn 688 dL_law_32 (by decide) (by decide) rfl (by decide) (law_meet hd hXY hL hj hC hM hV hnc hns hnx)
      · exact PW_tableIn 731 dL_law_32 (by decide) (by decide) rfl (by decide) (law_odds hd hXY hL hj hC hM hV hnc hns hnx)
      · exact PW_tableIn 764 dL_law_32 (by decide) (by decide) rfl (by decide) (law_voyages hd hXY hL hj hC hM hV hnc hns hnx)
      · exact PW_tableIn 797 dL_law_32 (by decide) (by decide) rfl (by decide) (law_part hd hXY hL hj hC hM hV hnc hns hnx)
      · exact PW_tableIn 821 dL_law_32 (by decide) (by decide) rfl (by decide) (law_image hd hXY hL hj hC hM hV hnc hns hnx)
      · exact PW_tableIn 844 dL_law_32 (by decide) (by decide) rfl (by decide) (law_from hd hXY hL hj hC hM hV hnc hns hnx)
      · exact PW_tableIn 867 dL_law_32 (by decide) (by decide) rfl (by decide) (law_status hd hXY hL hj hC hM hV hnc hns hnx)
      · exact PW_tableIn 890 dL_law_32 (by decide) (by decide) rfl (by decide) (law_count hd hXY hL hj hC hM hV hnc hns hnx)
      · exact PW_tableIn 913 dL_law_32 (by decide) (by decide) rfl (by decide) (law_digest hd hXY hL hj hC hM hV hnc hns hnx)
      · exact PW_tableOut 927 dL_law_32 (Or.inr (by decide)) (by decide) (hnx M s hC hM hV.up)
def mem0 (N : Nat) : Mm := ((fun _ _ => 0), (fun _ _ => 0), (fun _ _ => none), (fun _ => (18, 0)), N)
set_option maxRecDepth 100000 in
set_option maxHeartbeats 4000000 in
theorem law_pw {G : GE} {nm : String} {d N : Nat} (hd : 30 ≤ d) (hL : (g_x G).2.1 ≤ 256) : PW G (iLw nm) d (fun v _ => v = some (.int 1)) 0 [.ref (g_x G).1, .null, .null, .null] [] (mem0 N) 0 0 := by
  refine PW_newA (a := N) dL_law_0 nrL_7 rfl (Nat.le_of_ble_eq_true rfl) (Nat.le_of_ble_eq_true rfl) ?_
  refine PW_dup dL_law_3 rfl ?_
  refine PW_callI dL_law_4 moX11_init ctL_9 (by omega : d - 1 < d) rfl rfl (Nat.le_of_ble_eq_true rfl) (Nat.le_of_ble_eq_true rfl) (Nat.le_of_ble_eq_true rfl) (spX11_init (d := d - 1) (X := N) rfl (tNs _ _ _) (iNs _ _ _) (by omega)) (fun v0 M1 hq => ?_)
  obtain ⟨rfl, hC1, hn1, hB1⟩ := hq
  refine PW_astore_n (i := 1) dL_law_7 rfl (Nat.le_of_ble_eq_true rfl) rfl ?_
  refine PW_newA (a := N + 211) dL_law_8 nrL_10 hn1 (Nat.le_of_ble_eq_true rfl) (Nat.le_of_ble_eq_true rfl) ?_
  refine PW_dup dL_law_11 rfl ?_
  refine PW_callI dL_law_12 moX12_init ctL_12 (by omega : d - 1 < d) rfl rfl (Nat.le_of_ble_eq_true rfl) (Nat.le_of_ble_eq_true rfl) (Nat.le_of_ble_eq_true rfl) (spX12_init (d := d - 1) (Y := N + 211) rfl (tNs _ _ _) (iNs _ _ _) (lNs _ _ _) (by omega)) (fun v0 M3 hq => ?_)
  obtain ⟨rfl, hM3, hn3, hB3⟩ := hq
  have hC3 : CI M3 N ab0 := hC1.bl ab0_V (fun q hq => by
    obtain ⟨a1, a2, a3, a4⟩ := hB3 q hq
    exact ⟨a1.trans (tNn _ _ (by omega)), a2.trans (iNn _ _ (by omega)), a3.trans (lNn _ _ (by omega)), a4.trans (rNn _ _ (by omega))⟩)
  refine PW_astore_n (i := 2) dL_law_15 rfl (Nat.le_of_ble_eq_true rfl) rfl ?_
  refine PW_iconst (v := 0) dL_law_16 (by decide) ?_
  refine PW_istore_n (i := 3) dL_law_17 rfl (Nat.le_of_ble_eq_true rfl) rfl ?_
  exact law_loop (X := N) (Y := N + 211) hd rfl hL (Nat.le_of_ble_eq_true rfl) (Nat.le_of_ble_eq_true rfl) ((g_x G).2.1 + 1) 0 (Nat.zero_le _) (by omega) M3 ab0 hC3 hM3 ab0_V

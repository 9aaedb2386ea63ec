/-! ===== the law: calls 16 to 30 ===== -/
set_option maxRecDepth 100000 in
set_option maxHeartbeats 4000000 in
theorem law_seen {G : GE} {nm : String} {d : Nat} {Post : Option Value → Mm → Prop} {X Y j : Nat} {s : Ab} {M : Mm} {nc ns : Nat} (hd : 30 ≤ d) (hXY : X + 211 = Y) (hL : (g_x G).2.1 ≤ 256) (hj : 4 * j + 4 ≤ (g_x G).2.1) (hC : CI M X s) (hM : MI2 M Y s) (hV : AV j s) (hnc : nc + 0 ≤ 600000) (hns : ns + 0 ≤ 7302250) (hnx : ∀ (M' : Mm) (s' : Ab), CI M' X s' → MI2 M' Y s' → AV (j + 1) s' → PW G (iLw nm) d Post 927 [.ref (g_x G).1, .ref X, .ref Y, .int (nI (4 * j))] [] M' nc ns) : PW G (iLw nm) d Post 550 [.ref (g_x G).1, .ref X, .ref Y, .int (nI (4 * j))] [] M nc ns := by
  obtain ⟨g, hP, hR⟩ := hC
  refine PW_aload_n (i := 1) dL_law_550 rfl rfl ?_
  refine PW_aload_n (i := 0) dL_law_551 rfl rfl ?_
  refine PW_iload_n (i := 3) dL_law_552 rfl rfl ?_
  refine PW_iconst (v := 1) dL_law_553 (by decide) ?_
  refine PW_iadd dL_law_554 ?_
  refine PW_sld (j := 4 * j + 1) dL_law_555 (n4a j 1 rfl) (by omega) hL ?_
  refine PW_aload_n (i := 0) dL_law_556 rfl rfl ?_
  refine PW_iload_n (i := 3) dL_law_557 rfl rfl ?_
  refine PW_iconst (v := 2) dL_law_558 (by decide) ?_
  refine PW_iadd dL_law_559 ?_
  refine PW_sld (j := 4 * j + 2) dL_law_560 (n4a j 2 rfl) (by omega) hL ?_
  refine PW_callV dL_law_561 moX11_seen cvL_81 (show mt M X = (11, 0) from hP.1.1) (by omega : d - 1 < d) rfl rfl (Nat.le_of_ble_eq_true rfl) (hnc) (hns) (spX11_seen (d := d - 1) (i := mi M) (S := M.2) (by omega) hP hR hV (by omega) ((g_x G).2.2 (4 * j + 1)) ((g_x G).2.2 (4 * j + 2))) (fun v1 M1 hq => ?_)
  obtain ⟨rfl, hI1, hF1⟩ := hq
  obtain ⟨hY1, hR1⟩ := hM.fr (M' := M1) hF1 (Nat.le_of_eq hXY)
  refine PW_aload_n (i := 2) dL_law_564 rfl rfl ?_
  refine PW_aload_n (i := 0) dL_law_565 rfl rfl ?_
  refine PW_iload_n (i := 3) dL_law_566 rfl rfl ?_
  refine PW_iconst (v := 1) dL_law_567 (by decide) ?_
  refine PW_iadd dL_law_568 ?_
  refine PW_sld (j := 4 * j + 1) dL_law_569 (n4a j 1 rfl) (by omega) hL ?_
  refine PW_aload_n (i := 0) dL_law_570 rfl rfl ?_
  refine PW_iload_n (i := 3) dL_law_571 rfl rfl ?_
  refine PW_iconst (v := 2) dL_law_572 (by decide) ?_
  refine PW_iadd dL_law_573 ?_
  refine PW_sld (j := 4 * j + 2) dL_law_574 (n4a j 2 rfl) (by omega) hL ?_
  refine PW_callV dL_law_575 moX12_seen cvL_84 (show mt M1 Y = (12, 0) from hY1.1) (by omega : d - 1 < d) rfl rfl (Nat.le_of_ble_eq_true rfl) (hnc) (hns) (spX12_seen (d := d - 1) (i := mi M1) (S := M1.2) hY1 hR1 hV (by omega) (by omega) ((g_x G).2.2 (4 * j + 1)) ((g_x G).2.2 (4 * j + 2))) (fun v2 M2 hq => ?_)
  obtain ⟨rfl, hI2, hF2⟩ := hq
  refine PW_icmp_eq 927 dL_law_578 (by decide) (fun _ => ?_) (fun h => absurd rfl h)
  exact hnx M2 _ (hI1.fr (keep_seen hV ((g_x G).2.2 (4 * j + 1)) ((g_x G).2.2 (4 * j + 2))) hF2 (Nat.le_of_eq hXY)) hI2 (keep_seen hV ((g_x G).2.2 (4 * j + 1)) ((g_x G).2.2 (4 * j + 2)))
set_option maxRecDepth 100000 in
set_option maxHeartbeats 4000000 in
theorem law_forget {G : GE} {nm : String} {d : Nat} {Post : Option Value → Mm → Prop} {X Y j : Nat} {s : Ab} {M : Mm} {nc ns : Nat} (hd : 30 ≤ d) (hXY : X + 211 = Y) (hL : (g_x G).2.1 ≤ 256) (hj : 4 * j + 4 ≤ (g_x G).2.1) (hC : CI M X s) (hM : MI2 M Y s) (hV : AV j s) (hnc : nc + 0 ≤ 600000) (hns : ns + 0 ≤ 7302250) (hnx : ∀ (M' : Mm) (s' : Ab), CI M' X s' → MI2 M' Y s' → AV (j + 1) s' → PW G (iLw nm) d Post 927 [.ref (g_x G).1, .ref X, .ref Y, .int (nI (4 * j))] [] M' nc ns) : PW G (iLw nm) d Post 583 [.ref (g_x G).1, .ref X, .ref Y, .int (nI (4 * j))] [] M nc ns := by
  obtain ⟨g, hP, hR⟩ := hC
  refine PW_aload_n (i := 1) dL_law_583 rfl rfl ?_
  refine PW_callV dL_law_584 moX11_forget cvL_85 (show mt M X = (11, 0) from hP.1.1) (by omega : d - 1 < d) rfl rfl (Nat.le_of_ble_eq_true rfl) (hnc) (hns) (spX11_forget (d := d - 1) (i := mi M) (S := M.2) (by omega) hP hR hV (by omega) ) (fun v1 M1 hq => ?_)
  obtain ⟨rfl, hI1, hF1⟩ := hq
  obtain ⟨hY1, hR1⟩ := hM.fr (M' := M1) hF1 (Nat.le_of_eq hXY)
  refine PW_aload_n (i := 2) dL_law_587 rfl rfl ?_
  refine PW_callV dL_law_588 moX12_forget cvL_88 (show mt M1 Y = (12, 0) from hY1.1) (by omega : d - 1 < d) rfl rfl (Nat.le_of_ble_eq_true rfl) (hnc) (hns) (spX12_forget (d := d - 1) (i := mi M1) (S := M1.2) hY1 hR1 hV (by omega) (by omega) ) (fun v2 M2 hq => ?_)
  obtain ⟨rfl, hI2, hF2⟩ := hq
  refine PW_icmp_eq 927 dL_law_591 (by decide) (fun _ => ?_) (fun h => absurd rfl h)
  exact hnx M2 _ (hI1.fr (keep_forget hV) hF2 (Nat.le_of_eq hXY)) hI2 (keep_forget hV)
set_option maxRecDepth 100000 in
set_option maxHeartbeats 4000000 in
theorem law_nod {G : GE} {nm : String} {d : Nat} {Post : Option Value → Mm → Prop} {X Y j : Nat} {s : Ab} {M : Mm} {nc ns : Nat} (hd : 30 ≤ d) (hXY : X + 211 = Y) (hL : (g_x G).2.1 ≤ 256) (hj : 4 * j + 4 ≤ (g_x G).2.1) (hC : CI M X s) (hM : MI2 M Y s) (hV : AV j s) (hnc : nc + 0 ≤ 600000) (hns : ns + 0 ≤ 7302250) (hnx : ∀ (M' : Mm) (s' : Ab), CI M' X s' → MI2 M' Y s' → AV (j + 1) s' → PW G (iLw nm) d Post 927 [.ref (g_x G).1, .ref X, .ref Y, .int (nI (4 * j))] [] M' nc ns) : PW G (iLw nm) d Post 596 [.ref (g_x G).1, .ref X, .ref Y, .int (nI (4 * j))] [] M nc ns := by
  obtain ⟨g, hP, hR⟩ := hC
  refine PW_aload_n (i := 1) dL_law_596 rfl rfl ?_
  refine PW_aload_n (i := 0) dL_law_597 rfl rfl ?_
  refine PW_iload_n (i := 3) dL_law_598 rfl rfl ?_
  refine PW_iconst (v := 1) dL_law_599 (by decide) ?_
  refine PW_iadd dL_law_600 ?_
  refine PW_sld (j := 4 * j + 1) dL_law_601 (n4a j 1 rfl) (by omega) hL ?_
  refine PW_callV dL_law_602 moX11_nod cvL_89 (show mt M X = (11, 0) from hP.1.1) (by omega : d - 1 < d) rfl rfl (Nat.le_of_ble_eq_true rfl) (hnc) (hns) (spX11_nod (d := d - 1) (i := mi M) (S := M.2) (by omega) hP hR hV (by omega) ((g_x G).2.2 (4 * j + 1))) (fun v1 M1 hq => ?_)
  obtain ⟨rfl, hI1, hF1⟩ := hq
  obtain ⟨hY1, hR1⟩ := hM.fr (M' := M1) hF1 (Nat.le_of_eq hXY)
  refine PW_aload_n (i := 2) dL_law_605 rfl rfl ?_
  refine PW_aload_n (i := 0) dL_law_606 rfl rfl ?_
  refine PW_iload_n (i := 3) dL_law_607 rfl rfl ?_
  refine PW_iconst (v := 1) dL_law_608 (by decide) ?_
  refine PW_iadd dL_law_609 ?_
  refine PW_sld (j := 4 * j + 1) dL_law_610 (n4a j 1 rfl) (by omega) hL ?_
  refine PW_callV dL_law_611 moX12_nod cvL_92 (show mt M1 Y = (12, 0) from hY1.1) (by omega : d - 1 < d) rfl rfl (Nat.le_of_ble_eq_true rfl) (hnc) (hns) (spX12_nod (d := d - 1) (i := mi M1) (S := M1.2) hY1 hR1 hV (by omega) (by omega) ((g_x G).2.2 (4 * j + 1))) (fun v2 M2 hq => ?_)
  rw [rNod_o] at hq
  obtain ⟨rfl, hI2, hF2⟩ := hq
  refine PW_icmp_eq 927 dL_law_614 (by decide) (fun _ => ?_) (fun h => absurd rfl h)
  exact hnx M2 _ (hI1.fr (keep_nod hV ((g_x G).2.2 (4 * j + 1))) hF2 (Nat.le_of_eq hXY)) hI2 (keep_nod hV ((g_x G).2.2 (4 * j + 1)))
set_option maxRecDepth 100000 in
set_option maxHeartbeats 4000000 in
theorem law_is {G : GE} {nm : String} {d : Nat} {Post : Option Value → Mm → Prop} {X Y j : Nat} {s : Ab} {M : Mm} {nc ns : Nat} (hd : 30 ≤ d) (hXY : X + 211 = Y) (hL : (g_x G).2.1 ≤ 256) (hj : 4 * j + 4 ≤ (g_x G).2.1) (hC : CI M X s) (hM : MI2 M Y s) (hV : AV j s) (hnc : nc + 0 ≤ 600000) (hns : ns + 0 ≤ 7302250) (hnx : ∀ (M' : Mm) (s' : Ab), CI M' X s' → MI2 M' Y s' → AV (j + 1) s' → PW G (iLw nm) d Post 927 [.ref (g_x G).1, .ref X, .ref Y, .int (nI (4 * j))] [] M' nc ns) : PW G (iLw nm) d Post 619 [.ref (g_x G).1, .ref X, .ref Y, .int (nI (4 * j))] [] M nc ns := by
  obtain ⟨g, hP, hR⟩ := hC
  refine PW_aload_n (i := 1) dL_law_619 rfl rfl ?_
  refine PW_aload_n (i := 0) dL_law_620 rfl rfl ?_
  refine PW_iload_n (i := 3) dL_law_621 rfl rfl ?_
  refine PW_iconst (v := 1) dL_law_622 (by decide) ?_
  refine PW_iadd dL_law_623 ?_
  refine PW_sld (j := 4 * j + 1) dL_law_624 (n4a j 1 rfl) (by omega) hL ?_
  refine PW_callV dL_law_625 moX11_is cvL_93 (show mt M X = (11, 0) from hP.1.1) (by omega : d - 1 < d) rfl rfl (Nat.le_of_ble_eq_true rfl) (hnc) (hns) (spX11_is (d := d - 1) (i := mi M) (S := M.2) (by omega) hP hR hV (by omega) ((g_x G).2.2 (4 * j + 1))) (fun v1 M1 hq => ?_)
  obtain ⟨rfl, hI1, hF1⟩ := hq
  obtain ⟨hY1, hR1⟩ := hM.fr (M' := M1) hF1 (Nat.le_of_eq hXY)
  refine PW_aload_n (i := 2) dL_law_628 rfl rfl ?_
  refine PW_aload_n (i := 0) dL_law_629 rfl rfl ?_
  refine PW_iload_n (i := 3) dL_law_630 rfl rfl ?_
  refine PW_iconst (v := 1) dL_law_631 (by decide) ?_
  refine PW_iadd dL_law_632 ?_
  refine PW_sld (j := 4 * j + 1) dL_law_633 (n4a j 1 rfl) (by omega) hL ?_
  refine PW_callV dL_law_634 moX12_is cvL_96 (show mt M1 Y = (12, 0) from hY1.1) (by omega : d - 1 < d) rfl rfl (Nat.le_of_ble_eq_true rfl) (hnc) (hns) (spX12_is (d := d - 1) (i := mi M1) (S := M1.2) hY1 hR1 hV (by omega) (by omega) ((g_x G).2.2 (4 * j + 1))) (fun v2 M2 hq => ?_)
  rw [rIs_o] at hq
  obtain ⟨rfl, hI2, hF2⟩ := hq
  refine PW_icmp_eq 927 dL_law_637 (by decide) (fun _ => ?_) (fun h => absurd rfl h)
  exact hnx M2 _ (hI1.fr (keep_is hV ((g_x G).2.2 (4 * j + 1))) hF2 (Nat.le_of_eq hXY)) hI2 (keep_is hV ((g_x G).2.2 (4 * j + 1)))
set_option maxRecDepth 100000 in
set_option maxHeartbeats 4000000 in
theorem law_look {G : GE} {nm : String} {d : Nat} {Post : Option Value → Mm → Prop} {X Y j : Nat} {s : Ab} {M : Mm} {nc ns : Nat} (hd : 30 ≤ d) (hXY : X + 211 = Y) (hL : (g_x G).2.1 ≤ 256) (hj : 4 * j + 4 ≤ (g_x G).2.1) (hC : CI M X s) (hM : MI2 M Y s) (hV : AV j s) (hnc : nc + 0 ≤ 600000) (hns : ns + 0 ≤ 7302250) (hnx : ∀ (M' : Mm) (s' : Ab), CI M' X s' → MI2 M' Y s' → AV (j + 1) s' → PW G (iLw nm) d Post 927 [.ref (g_x G).1, .ref X, .ref Y, .int (nI (4 * j))] [] M' nc ns) : PW G (iLw nm) d Post 642 [.ref (g_x G).1, .ref X, .ref Y, .int (nI (4 * j))] [] M nc ns := by
  obtain ⟨g, hP, hR⟩ := hC
  refine PW_aload_n (i := 1) dL_law_642 rfl rfl ?_
  refine PW_aload_n (i := 0) dL_law_643 rfl rfl ?_
  refine PW_iload_n (i := 3) dL_law_644 rfl rfl ?_
  refine PW_iconst (v := 1) dL_law_645 (by decide) ?_
  refine PW_iadd dL_law_646 ?_
  refine PW_sld (j := 4 * j + 1) dL_law_647 (n4a j 1 rfl) (by omega) hL ?_
  refine PW_callV dL_law_648 moX11_look cvL_97 (show mt M X = (11, 0) from hP.1.1) (by omega : d - 1 < d) rfl rfl (Nat.le_of_ble_eq_true rfl) (hnc) (hns) (spX11_look (d := d - 1) (i := mi M) (S := M.2) (by omega) hP hR hV (by omega) ((g_x G).2.2 (4 * j + 1))) (fun v1 M1 hq => ?_)
  obtain ⟨rfl, hI1, hF1⟩ := hq
  obtain ⟨hY1, hR1⟩ := hM.fr (M' := M1) hF1 (Nat.le_of_eq hXY)
  refine PW_aload_n (i := 2) dL_law_651 rfl rfl ?_
  refine PW_aload_n (i := 0) dL_law_652 rfl rfl ?_
  refine PW_iload_n (i := 3) dL_law_653 rfl rfl ?_
  refine PW_iconst (v := 1) dL_law_654 (by decide) ?_
  refine PW_iadd dL_law_655 ?_
  refine PW_sld (j := 4 * j + 1) dL_law_656 (n4a j 1 rfl) (by omega) hL ?_
  refine PW_callV dL_law_657 moX12_look cvL_100 (show mt M1 Y = (12, 0) from hY1.1) (by omega : d - 1 < d) rfl rfl (Nat.le_of_ble_eq_true rfl) (hnc) (hns) (spX12_look (d := d - 1) (i := mi M1) (S := M1.2) hY1 hR1 hV (by omega) (by omega) ((g_x G).2.2 (4 * j + 1))) (fun v2 M2 hq => ?_)
  rw [rLook_o hV (by omega)] at hq
  obtain ⟨rfl, hI2, hF2⟩ := hq
  refine PW_icmp_eq 927 dL_law_660 (by decide) (fun _ => ?_) (fun h => absurd rfl h)
  exact hnx M2 _ (hI1.fr (keep_look hV ((g_x G).2.2 (4 * j + 1))) hF2 (Nat.le_of_eq hXY)) hI2 (keep_look hV ((g_x G).2.2 (4 * j + 1)))
set_option maxRecDepth 100000 in
set_option maxHeartbeats 4000000 in
theorem law_pulled {G : GE} {nm : String} {d : Nat} {Post : Option Value → Mm → Prop} {X Y j : Nat} {s : Ab} {M : Mm} {nc ns : Nat} (hd : 30 ≤ d) (hXY : X + 211 = Y) (hL : (g_x G).2.1 ≤ 256) (hj : 4 * j + 4 ≤ (g_x G).2.1) (hC : CI M X s) (hM : MI2 M Y s) (hV : AV j s) (hnc : nc + 0 ≤ 600000) (hns : ns + 0 ≤ 7302250) (hnx : ∀ (M' : Mm) (s' : Ab), CI M' X s' → MI2 M' Y s' → AV (j + 1) s' → PW G (iLw nm) d Post 927 [.ref (g_x G).1, .ref X, .ref Y, .int (nI (4 * j))] [] M' nc ns) : PW G (iLw nm) d Post 665 [.ref (g_x G).1, .ref X, .ref Y, .int (nI (4 * j))] [] M nc ns := by
  obtain ⟨g, hP, hR⟩ := hC
  refine PW_aload_n (i := 1) dL_law_665 rfl rfl ?_
  refine PW_aload_n (i := 0) dL_law_666 rfl rfl ?_
  refine PW_iload_n (i := 3) dL_law_667 rfl rfl ?_
  refine PW_iconst (v := 1) dL_law_668 (by decide) ?_
  refine PW_iadd dL_law_669 ?_
  refine PW_sld (j := 4 * j + 1) dL_law_670 (n4a j 1 rfl) (by omega) hL ?_
  refine PW_callV dL_law_671 moX11_pulled cvL_101 (show mt M X = (11, 0) from hP.1.1) (by omega : d - 1 < d) rfl rfl (Nat.le_of_ble_eq_true rfl) (hnc) (hns) (spX11_pulled (d := d - 1) (i := mi M) (S := M.2) (by omega) hP hR hV (by omega) ((g_x G).2.2 (4 * j + 1))) (fun v1 M1 hq => ?_)
  obtain ⟨rfl, hI1, hF1⟩ := hq
  obtain ⟨hY1, hR1⟩ := hM.fr (M' := M1) hF1 (Nat.le_of_eq hXY)
  refine PW_aload_n (i := 2) dL_law_674 rfl rfl ?_
  refine PW_aload_n (i := 0) dL_law_675 rfl rfl ?_
  refine PW_iload_n (i := 3) dL_law_676 rfl rfl ?_
  refine PW_iconst (v := 1) dL_law_677 (by decide) ?_
  refine PW_iadd dL_law_678 ?_
  refine PW_sld (j := 4 * j + 1) dL_law_679 (n4a j 1 rfl) (by omega) hL ?_
  refine PW_callV dL_law_680 moX12_pulled cvL_104 (show mt M1 Y = (12, 0) from hY1.1) (by omega : d - 1 < d) rfl rfl (Nat.le_of_ble_eq_true rfl) (hnc) (hns) (spX12_pulled (d := d - 1) (i := mi M1) (S := M1.2) hY1 hR1 hV (by omega) (by omega) ((g_x G).2.2 (4 * j + 1))) (fun v2 M2 hq => ?_)
  rw [rPulled_o] at hq
  obtain ⟨rfl, hI2, hF2⟩ := hq
  refine PW_icmp_eq 927 dL_law_683 (by decide) (fun _ => ?_) (fun h => absurd rfl h)
  exact hnx M2 _ (hI1.fr (keep_pulled hV ((g_x G).2.2 (4 * j + 1))) hF2 (Nat.le_of_eq hXY)) hI2 (keep_pulled hV ((g_x G).2.2 (4 * j + 1)))
set_option maxRecDepth 100000 in
set_option maxHeartbeats 4000000 in
theorem law_meet {G : GE} {nm : String} {d : Nat} {Post : Option Value → Mm → Prop} {X Y j : Nat} {s : Ab} {M : Mm} {nc ns : Nat} (hd : 30 ≤ d) (hXY : X + 211 = Y) (hL : (g_x G).2.1 ≤ 256) (hj : 4 * j + 4 ≤ (g_x G).2.1) (hC : CI M X s) (hM : MI2 M Y s) (hV : AV j s) (hnc : nc + 0 ≤ 600000) (hns : ns + 0 ≤ 7302250) (hnx : ∀ (M' : Mm) (s' : Ab), CI M' X s' → MI2 M' Y s' → AV (j + 1) s' → PW G (iLw nm) d Post 927 [.ref (g_x G).1, .ref X, .ref Y, .int (nI (4 * j))] [] M' nc ns) : PW G (iLw nm) d Post 688 [.ref (g_x G).1, .ref X, .ref Y, .int (nI (4 * j))] [] M nc ns := by
  obtain ⟨g, hP, hR⟩ := hC
  refine PW_aload_n (i := 1) dL_law_688 rfl rfl ?_
  refine PW_aload_n (i := 0) dL_law_689 rfl rfl ?_
  refine PW_iload_n (i := 3) dL_law_690 rfl rfl ?_
  refine PW_iconst (v := 1) dL_law_691 (by decide) ?_
  refine PW_iadd dL_law_692 ?_
  refine PW_sld (j := 4 * j + 1) dL_law_693 (n4a j 1 rfl) (by omega) hL ?_
  refine PW_aload_n (i := 0) dL_law_694 rfl rfl ?_
  refine PW_iload_n (i := 3) dL_law_695 rfl rfl ?_
  refine PW_iconst (v := 2) dL_law_696 (by decide) ?_
  refine PW_iadd dL_law_697 ?_
  refine PW_sld (j := 4 * j + 2) dL_law_698 (n4a j 2 rfl) (by omega) hL ?_
  refine PW_aload_n (i := 0) dL_law_699 rfl rfl ?_
  refine PW_iload_n (i := 3) dL_law_700 rfl rfl ?_
  refine PW_iconst (v := 3) dL_law_701 (by decide) ?_
  refine PW_iadd dL_law_702 ?_
  refine PW_sld (j := 4 * j + 3) dL_law_703 (n4a j 3 rfl) (by omega) hL ?_
  refine PW_callV dL_law_704 moX11_meet cvL_105 (show mt M X = (11, 0) from hP.1.1) (by omega : d - 1 < d) rfl rfl (Nat.le_of_ble_eq_true rfl) (hnc) (hns) (spX11_meet (d := d - 1) (i := mi M) (S := M.2) (by omega) hP hR hV (by omega) ((g_x G).2.2 (4 * j + 1)) ((g_x G).2.2 (4 * j + 2)) ((g_x G).2.2 (4 * j + 3))) (fun v1 M1 hq => ?_)
  obtain ⟨rfl, hI1, hF1⟩ := hq
  obtain ⟨hY1, hR1⟩ := hM.fr (M' := M1) hF1 (Nat.le_of_eq hXY)
  refine PW_aload_n (i := 2) dL_law_707 rfl rfl ?_
  refine PW_aload_n (i := 0) dL_law_708 rfl rfl ?_
  refine PW_iload_n (i := 3) dL_law_709 rfl rfl ?_
  refine PW_iconst (v := 1) dL_law_710 (by decide) ?_
  refine PW_iadd dL_law_711 ?_
  refine PW_sld (j := 4 * j + 1) dL_law_712 (n4a j 1 rfl) (by omega) hL ?_
  refine PW_aload_n (i := 0) dL_law_713 rfl rfl ?_
  refine PW_iload_n (i := 3) dL_law_714 rfl rfl ?_
  refine PW_iconst (v := 2) dL_law_715 (by decide) ?_
  refine PW_iadd dL_law_716 ?_
  refine PW_sld (j := 4 * j + 2) dL_law_717 (n4a j 2 rfl) (by omega) hL ?_
  refine PW_aload_n (i := 0) dL_law_718 rfl rfl ?_
  refine PW_iload_n (i := 3) dL_law_719 rfl rfl ?_
  refine PW_iconst (v := 3) dL_law_720 (by decide) ?_
  refine PW_iadd dL_law_721 ?_
  refine PW_sld (j := 4 * j + 3) dL_law_722 (n4a j 3 rfl) (by omega) hL ?_
  refine PW_callV dL_law_723 moX12_meet cvL_108 (show mt M1 Y = (12, 0) from hY1.1) (by omega : d - 1 < d) rfl rfl (Nat.le_of_ble_eq_true rfl) (hnc) (hns) (spX12_meet (d := d - 1) (i := mi M1) (S := M1.2) hY1 hR1 hV (by omega) (by omega) ((g_x G).2.2 (4 * j + 1)) ((g_x G).2.2 (4 * j + 2)) ((g_x G).2.2 (4 * j + 3))) (fun v2 M2 hq => ?_)
  rw [rMeet_o hV (by omega)] at hq
  obtain ⟨rfl, hI2, hF2⟩ := hq
  refine PW_icmp_eq 927 dL_law_726 (by decide) (fun _ => ?_) (fun h => absurd rfl h)
  exact hnx M2 _ (hI1.fr (keep_meet hV ((g_x G).2.2 (4 * j + 1)) ((g_x G).2.2 (4 * j + 2)) ((g_x G).2.2 (4 * j + 3))) hF2 (Nat.le_of_eq hXY)) hI2 (keep_meet hV ((g_x G).2.2 (4 * j + 1)) ((g_x G).2.2 (4 * j + 2)) ((g_x G).2.2 (4 * j + 3)))
set_option maxRecDepth 100000 in
set_option maxHeartbeats 4000000 in
theorem law_odds {G : GE} {nm : String} {d : Nat} {Post : Option Value → Mm → Prop} {X Y j : Nat} {s : Ab} {M : Mm} {nc ns : Nat} (hd : 30 ≤ d) (hXY : X + 211 = Y) (hL : (g_x G).2.1 ≤ 256) (hj : 4 * j + 4 ≤ (g_x G).2.1) (hC : CI M X s) (hM : MI2 M Y s) (hV : AV j s) (hnc : nc + 0 ≤ 600000) (hns : ns + 0 ≤ 7302250) (hnx : ∀ (M' : Mm) (s' : Ab), CI M' X s' → MI2 M' Y s' → AV (j + 1) s' → PW G (iLw nm) d Post 927 [.ref (g_x G).1, .ref X, .ref Y, .int (nI (4 * j))] [] M' nc ns) : PW G (iLw nm) d Post 731 [.ref (g_x G).1, .ref X, .ref Y, .int (nI (4 * j))] [] M nc ns := by
  obtain ⟨g, hP, hR⟩ := hC
  refine PW_aload_n (i := 1) dL_law_731 rfl rfl ?_
  refine PW_aload_n (i := 0) dL_law_732 rfl rfl ?_
  refine PW_iload_n (i := 3) dL_law_733 rfl rfl ?_
  refine PW_iconst (v := 1) dL_law_734 (by decide) ?_
  refine PW_iadd dL_law_735 ?_
  refine PW_sld (j := 4 * j + 1) dL_law_736 (n4a j 1 rfl) (by omega) hL ?_
  refine PW_aload_n (i := 0) dL_law_737 rfl rfl ?_
  refine PW_iload_n (i := 3) dL_law_738 rfl rfl ?_
  refine PW_iconst (v := 2) dL_law_739 (by decide) ?_
  refine PW_iadd dL_law_740 ?_
  refine PW_sld (j := 4 * j + 2) dL_law_741 (n4a j 2 rfl) (by omega) hL ?_
  refine PW_callV dL_law_742 moX11_odds cvL_109 (show mt M X = (11, 0) from hP.1.1) (by omega : d - 1 < d) rfl rfl (Nat.le_of_ble_eq_true rfl) (hnc) (hns) (spX11_odds (d := d - 1) (i := mi M) (S := M.2) (by omega) hP hR hV (by omega) ((g_x G).2.2 (4 * j + 1)) ((g_x G).2.2 (4 * j + 2))) (fun v1 M1 hq => ?_)
  obtain ⟨rfl, hI1, hF1⟩ := hq
  obtain ⟨hY1, hR1⟩ := hM.fr (M' := M1) hF1 (Nat.le_of_eq hXY)
  refine PW_aload_n (i := 2) dL_law_745 rfl rfl ?_
  refine PW_aload_n (i := 0) dL_law_746 rfl rfl ?_
  refine PW_iload_n (i := 3) dL_law_747 rfl rfl ?_
  refine PW_iconst (v := 1) dL_law_748 (by decide) ?_
  refine PW_iadd dL_law_749 ?_
  refine PW_sld (j := 4 * j + 1) dL_law_750 (n4a j 1 rfl) (by omega) hL ?_
  refine PW_aload_n (i := 0) dL_law_751 rfl rfl ?_
  refine PW_iload_n (i := 3) dL_law_752 rfl rfl ?_
  refine PW_iconst (v := 2) dL_law_753 (by decide) ?_
  refine PW_iadd dL_law_754 ?_
  refine PW_sld (j := 4 * j + 2) dL_law_755 (n4a j 2 rfl) (by omega) hL ?_
  refine PW_callV dL_law_756 moX12_odds cvL_112 (show mt M1 Y = (12, 0) from hY1.1) (by omega : d - 1 < d) rfl rfl (Nat.le_of_ble_eq_true rfl) (hnc) (hns) (spX12_odds (d := d - 1) (i := mi M1) (S := M1.2) hY1 hR1 hV (by omega) (by omega) ((g_x G).2.2 (4 * j + 1)) ((g_x G).2.2 (4 * j + 2))) (fun v2 M2 hq => ?_)
  rw [rOdds_o hV] at hq
  obtain ⟨rfl, hI2, hF2⟩ := hq
  refine PW_icmp_eq 927 dL_law_759 (by decide) (fun _ => ?_) (fun h => absurd rfl h)
  exact hnx M2 _ (hI1.fr (keep_odds hV ((g_x G).2.2 (4 * j + 1)) ((g_x G).2.2 (4 * j + 2))) hF2 (Nat.le_of_eq hXY)) hI2 (keep_odds hV ((g_x G).2.2 (4 * j + 1)) ((g_x G).2.2 (4 * j + 2)))
set_option maxRecDepth 100000 in
set_option maxHeartbeats 4000000 in
theorem law_voyages {G : GE} {nm : String} {d : Nat} {Post : Option Value → Mm → Prop} {X Y j : Nat} {s : Ab} {M : Mm} {nc ns : Nat} (hd : 30 ≤ d) (hXY : X + 211 = Y) (hL : (g_x G).2.1 ≤ 256) (hj : 4 * j + 4 ≤ (g_x G).2.1) (hC : CI M X s) (hM : MI2 M Y s) (hV : AV j s) (hnc : nc + 0 ≤ 600000) (hns : ns + 0 ≤ 7302250) (hnx : ∀ (M' : Mm) (s' : Ab), CI M' X s' → MI2 M' Y s' → AV (j + 1) s' → PW G (iLw nm) d Post 927 [.ref (g_x G).1, .ref X, .ref Y, .int (nI (4 * j))] [] M' nc ns) : PW G (iLw nm) d Post 764 [.ref (g_x G).1, .ref X, .ref Y, .int (nI (4 * j))] [] M nc ns := by
  obtain ⟨g, hP, hR⟩ := hC
  refine PW_aload_n (i := 1) dL_law_764 rfl rfl ?_
  refine PW_aload_n (i := 0) dL_law_765 rfl rfl ?_
  refine PW_iload_n (i := 3) dL_law_766 rfl rfl ?_
  refine PW_iconst (v := 1) dL_law_767 (by decide) ?_
  refine PW_iadd dL_law_768 ?_
  refine PW_sld (j := 4 * j + 1) dL_law_769 (n4a j 1 rfl) (by omega) hL ?_
  refine PW_aload_n (i := 0) dL_law_770 rfl rfl ?_
  refine PW_iload_n (i := 3) dL_law_771 rfl rfl ?_
  refine PW_iconst (v := 2) dL_law_772 (by decide) ?_
  refine PW_iadd dL_law_773 ?_
  refine PW_sld (j := 4 * j + 2) dL_law_774 (n4a j 2 rfl) (by omega) hL ?_
  refine PW_callV dL_law_775 moX11_voyages cvL_113 (show mt M X = (11, 0) from hP.1.1) (by omega : d - 1 < d) rfl rfl (Nat.le_of_ble_eq_true rfl) (hnc) (hns) (spX11_voyages (d := d - 1) (i := mi M) (S := M.2) (by omega) hP hR hV (by omega) ((g_x G).2.2 (4 * j + 1)) ((g_x G).2.2 (4 * j + 2))) (fun v1 M1 hq => ?_)
  obtain ⟨rfl, hI1, hF1⟩ := hq
  obtain ⟨hY1, hR1⟩ := hM.fr (M' := M1) hF1 (Nat.le_of_eq hXY)
  refine PW_aload_n (i := 2) dL_law_778 rfl rfl ?_
  refine PW_aload_n (i := 0) dL_law_779 rfl rfl ?_
  refine PW_iload_n (i := 3) dL_law_780 rfl rfl ?_
  refine PW_iconst (v := 1) dL_law_781 (by decide) ?_
  refine PW_iadd dL_law_782 ?_
  refine PW_sld (j := 4 * j + 1) dL_law_783 (n4a j 1 rfl) (by omega) hL ?_
  refine PW_aload_n (i := 0) dL_law_784 rfl rfl ?_
  refine PW_iload_n (i := 3) dL_law_785 rfl rfl ?_
  refine PW_iconst (v := 2) dL_law_786 (by decide) ?_
  refine PW_iadd dL_law_787 ?_
  refine PW_sld (j := 4 * j + 2) dL_law_788 (n4a j 2 rfl) (by omega) hL ?_
  refine PW_callV dL_law_789 moX12_voyages cvL_116 (show mt M1 Y = (12, 0) from hY1.1) (by omega : d - 1 < d) rfl rfl (Nat.le_of_ble_eq_true rfl) (hnc) (hns) (spX12_voyages (d := d - 1) (i := mi M1) (S := M1.2) hY1 hR1 hV (by omega) (by omega) ((g_x G).2.2 (4 * j + 1)) ((g_x G).2.2 (4 * j + 2))) (fun v2 M2 hq => ?_)
  obtain ⟨rfl, hI2, hF2⟩ := hq
  refine PW_icmp_eq 927 dL_law_792 (by decide) (fun _ => ?_) (fun h => absurd rfl h)
  exact hnx M2 _ (hI1.fr (keep_voyages hV ((g_x G).2.2 (4 * j + 1)) ((g_x G).2.2 (4 * j + 2))) hF2 (Nat.le_of_eq hXY)) hI2 (keep_voyages hV ((g_x G).2.2 (4 * j + 1)) ((g_x G).2.2 (4 * j + 2)))
set_option maxRecDepth 100000 in
set_option maxHeartbeats 4000000 in
theorem law_part {G : GE} {nm : String} {d : Nat} {Post : Option Value → Mm → Prop} {X Y j : Nat} {s : Ab} {M : Mm} {nc ns : Nat} (hd : 30 ≤ d) (hXY : X + 211 = Y) (hL : (g_x G).2.1 ≤ 256) (hj : 4 * j + 4 ≤ (g_x G).2.1) (hC : CI M X s) (hM : MI2 M Y s) (hV : AV j s) (hnc : nc + 0 ≤ 600000) (hns : ns + 0 ≤ 7302250) (hnx : ∀ (M' : Mm) (s' : Ab), CI M' X s' → MI2 M' Y s' → AV (j + 1) s' → PW G (iLw nm) d Post 927 [.ref (g_x G).1, .ref X, .ref Y, .int (nI (4 * j))] [] M' nc ns) : PW G (iLw nm) d Post 797 [.ref (g_x G).1, .ref X, .ref Y, .int (nI (4 * j))] [] M nc ns := by
  obtain ⟨g, hP, hR⟩ := hC
  refine PW_aload_n (i := 1) dL_law_797 rfl rfl ?_
  refine PW_aload_n (i := 0) dL_law_798 rfl rfl ?_
  refine PW_iload_n (i := 3) dL_law_799 rfl rfl ?_
  refine PW_iconst (v := 1) dL_law_800 (by decide) ?_
  refine PW_iadd dL_law_801 ?_
  refine PW_sld (j := 4 * j + 1) dL_law_802 (n4a j 1 rfl) (by omega) hL ?_
  refine PW_callV dL_law_803 moX11_part cvL_117 (show mt M X = (11, 0) from hP.1.1) (by omega : d - 1 < d) rfl rfl (Nat.le_of_ble_eq_true rfl) (hnc) (hns) (spX11_part (d := d - 1) (i := mi M) (S := M.2) (by omega) hP hR hV (by omega) ((g_x G).2.2 (4 * j + 1))) (fun v1 M1 hq => ?_)
  obtain ⟨rfl, hI1, hF1⟩ := hq
  obtain ⟨hY1, hR1⟩ := hM.fr (M' := M1) hF1 (Nat.le_of_eq hXY)
  refine PW_aload_n (i := 2) dL_law_806 rfl rfl ?_
  refine PW_aload_n (i := 0) dL_law_807 rfl rfl ?_
  refine PW_iload_n (i := 3) dL_law_808 rfl rfl ?_
  refine PW_iconst (v := 1) dL_law_809 (by decide) ?_
  refine PW_iadd dL_law_810 ?_
  refine PW_sld (j := 4 * j + 1) dL_law_811 (n4a j 1 rfl) (by omega) hL ?_
  refine PW_callV dL_law_812 moX12_part cvL_121 (show mt M1 Y = (12, 0) from hY1.1) (by omega : d - 1 < d) rfl rfl (Nat.le_of_ble_eq_true rfl) (hnc) (hns) (spX12_part (d := d - 1) (i := mi M1) (S := M1.2) hY1 hR1 hV (by omega) (by omega) ((g_x G).2.2 (4 * j + 1))) (fun v2 M2 hq => ?_)
  obtain ⟨rfl, hI2, hF2⟩ := hq
  refine PW_lcmp dL_law_815 ?_
  refine PW_if_eq 927 dL_law_816 (by decide) (fun _ => ?_) (fun h => absurd (lg_cmp_self _) h)
  exact hnx M2 _ (hI1.fr (keep_part hV ((g_x G).2.2 (4 * j + 1))) hF2 (Nat.le_of_eq hXY)) hI2 (keep_part hV ((g_x G).2.2 (4 * j + 1)))
set_option maxRecDepth 100000 in
set_option maxHeartbeats 4000000 in
theorem law_image {G : GE} {nm : String} {d : Nat} {Post : Option Value → Mm → Prop} {X Y j : Nat} {s : Ab} {M : Mm} {nc ns : Nat} (hd : 30 ≤ d) (hXY : X + 211 = Y) (hL : (g_x G).2.1 ≤ 256) (hj : 4 * j + 4 ≤ (g_x G).2.1) (hC : CI M X s) (hM : MI2 M Y s) (hV : AV j s) (hnc : nc + 0 ≤ 600000) (hns : ns + 0 ≤ 7302250) (hnx : ∀ (M' : Mm) (s' : Ab), CI M' X s' → MI2 M' Y s' → AV (j + 1) s' → PW G (iLw nm) d Post 927 [.ref (g_x G).1, .ref X, .ref Y, .int (nI (4 * j))] [] M' nc ns) : PW G (iLw nm) d Post 821 [.ref (g_x G).1, .ref X, .ref Y, .int (nI (4 * j))] [] M nc ns := by
  obtain ⟨g, hP, hR⟩ := hC
  refine PW_aload_n (i := 1) dL_law_821 rfl rfl ?_
  refine PW_aload_n (i := 0) dL_law_822 rfl rfl ?_
  refine PW_iload_n (i := 3) dL_law_823 rfl rfl ?_
  refine PW_iconst (v := 1) dL_law_824 (by decide) ?_
  refine PW_iadd dL_law_825 ?_
  refine PW_sld (j := 4 * j + 1) dL_law_826 (n4a j 1 rfl) (by omega) hL ?_
  refine PW_callV dL_law_827 moX11_image cvL_122 (show mt M X = (11, 0) from hP.1.1) (by omega : d - 1 < d) rfl rfl (Nat.le_of_ble_eq_true rfl) (hnc) (hns) (spX11_image (d := d - 1) (i := mi M) (S := M.2) (by omega) hP hR hV (by omega) ((g_x G).2.2 (4 * j + 1))) (fun v1 M1 hq => ?_)
  obtain ⟨rfl, hI1, hF1⟩ := hq
  obtain ⟨hY1, hR1⟩ := hM.fr (M' := M1) hF1 (Nat.le_of_eq hXY)
  refine PW_aload_n (i := 2) dL_law_830 rfl rfl ?_
  refine PW_aload_n (i := 0) dL_law_831 rfl rfl ?_
  refine PW_iload_n (i := 3) dL_law_832 rfl rfl ?_
  refine PW_iconst (v := 1) dL_law_833 (by decide) ?_
  refine PW_iadd dL_law_834 ?_
  refine PW_sld (j := 4 * j + 1) dL_law_835 (n4a j 1 rfl) (by omega) hL ?_
  refine PW_callV dL_law_836 moX12_image cvL_125 (show mt M1 Y = (12, 0) from hY1.1) (by omega : d - 1 < d) rfl rfl (Nat.le_of_ble_eq_true rfl) (hnc) (hns) (spX12_image (d := d - 1) (i := mi M1) (S := M1.2) hY1 hR1 hV (by omega) (by omega) ((g_x G).2.2 (4 * j + 1))) (fun v2 M2 hq => ?_)
  obtain ⟨rfl, hI2, hF2⟩ := hq
  refine PW_icmp_eq 927 dL_law_839 (by decide) (fun _ => ?_) (fun h => absurd rfl h)
  exact hnx M2 _ (hI1.fr (keep_image hV ((g_x G).2.2 (4 * j + 1))) hF2 (Nat.le_of_eq hXY)) hI2 (keep_image hV ((g_x G).2.2 (4 * j + 1)))
set_option maxRecDepth 100000 in
set_option maxHeartbeats 4000000 in
theorem law_from {G : GE} {nm : String} {d : Nat} {Post : Option Value → Mm → Prop} {X Y j : Nat} {s : Ab} {M : Mm} {nc ns : Nat} (hd : 30 ≤ d) (hXY : X + 211 = Y) (hL : (g_x G).2.1 ≤ 256) (hj : 4 * j + 4 ≤ (g_x G).2.1) (hC : CI M X s) (hM : MI2 M Y s) (hV : AV j s) (hnc : nc + 0 ≤ 600000) (hns : ns + 0 ≤ 7302250) (hnx : ∀ (M' : Mm) (s' : Ab), CI M' X s' → MI2 M' Y s' → AV (j + 1) s' → PW G (iLw nm) d Post 927 [.ref (g_x G).1, .ref X, .ref Y, .int (nI (4 * j))] [] M' nc ns) : PW G (iLw nm) d Post 844 [.ref (g_x G).1, .ref X, .ref Y, .int (nI (4 * j))] [] M nc ns := by
  obtain ⟨g, hP, hR⟩ := hC
  refine PW_aload_n (i := 1) dL_law_844 rfl rfl ?_
  refine PW_aload_n (i := 0) dL_law_845 rfl rfl ?_
  refine PW_iload_n (i := 3) dL_law_846 rfl rfl ?_
  refine PW_iconst (v := 1) dL_law_847 (by decide) ?_
  refine PW_iadd dL_law_848 ?_
  refine PW_sld (j := 4 * j + 1) dL_law_849 (n4a j 1 rfl) (by omega) hL ?_
  refine PW_callV dL_law_850 moX11_from cvL_126 (show mt M X = (11, 0) from hP.1.1) (by omega : d - 1 < d) rfl rfl (Nat.le_of_ble_eq_true rfl) (hnc) (hns) (spX11_from (d := d - 1) (i := mi M) (S := M.2) (by omega) hP hR hV (by omega) ((g_x G).2.2 (4 * j + 1))) (fun v1 M1 hq => ?_)
  obtain ⟨rfl, hI1, hF1⟩ := hq
  obtain ⟨hY1, hR1⟩ := hM.fr (M' := M1) hF1 (Nat.le_of_eq hXY)
  refine PW_aload_n (i := 2) dL_law_853 rfl rfl ?_
  refine PW_aload_n (i := 0) dL_law_854 rfl rfl ?_
  refine PW_iload_n (i := 3) dL_law_855 rfl rfl ?_
  refine PW_iconst (v := 1) dL_law_856 (by decide) ?_
  refine PW_iadd dL_law_857 ?_
  refine PW_sld (j := 4 * j + 1) dL_law_858 (n4a j 1 rfl) (by omega) hL ?_
  refine PW_callV dL_law_859 moX12_from cvL_129 (show mt M1 Y = (12, 0) from hY1.1) (by omega : d - 1 < d) rfl rfl (Nat.le_of_ble_eq_true rfl) (hnc) (hns) (spX12_from (d := d - 1) (i := mi M1) (S := M1.2) hY1 hR1 hV (by omega) (by omega) ((g_x G).2.2 (4 * j + 1))) (fun v2 M2 hq => ?_)
  obtain ⟨rfl, hI2, hF2⟩ := hq
  refine PW_icmp_eq 927 dL_law_862 (by decide) (fun _ => ?_) (fun h => absurd rfl h)
  exact hnx M2 _ (hI1.fr (keep_from hV ((g_x G).2.2 (4 * j + 1))) hF2 (Nat.le_of_eq hXY)) hI2 (keep_from hV ((g_x G).2.2 (4 * j + 1)))
set_option maxRecDepth 100000 in
set_option maxHeartbeats 4000000 in
theorem law_status {G : GE} {nm : String} {d : Nat} {Post : Option Value → Mm → Prop} {X Y j : Nat} {s : Ab} {M : Mm} {nc ns : Nat} (hd : 30 ≤ d) (hXY : X + 211 = Y) (hL : (g_x G).2.1 ≤ 256) (hj : 4 * j + 4 ≤ (g_x G).2.1) (hC : CI M X s) (hM : MI2 M Y s) (hV : AV j s) (hnc : nc + 0 ≤ 600000) (hns : ns + 0 ≤ 7302250) (hnx : ∀ (M' : Mm) (s' : Ab), CI M' X s' → MI2 M' Y s' → AV (j + 1) s' → PW G (iLw nm) d Post 927 [.ref (g_x G).1, .ref X, .ref Y, .int (nI (4 * j))] [] M' nc ns) : PW G (iLw nm) d Post 867 [.ref (g_x G).1, .ref X, .ref Y, .int (nI (4 * j))] [] M nc ns := by
  obtain ⟨g, hP, hR⟩ := hC
  refine PW_aload_n (i := 1) dL_law_867 rfl rfl ?_
  refine PW_aload_n (i := 0) dL_law_868 rfl rfl ?_
  refine PW_iload_n (i := 3) dL_law_869 rfl rfl ?_
  refine PW_iconst (v := 1) dL_law_870 (by decide) ?_
  refine PW_iadd dL_law_871 ?_
  refine PW_sld (j := 4 * j + 1) dL_law_872 (n4a j 1 rfl) (by omega) hL ?_
  refine PW_callV dL_law_873 moX11_status cvL_130 (show mt M X = (11, 0) from hP.1.1) (by omega : d - 1 < d) rfl rfl (Nat.le_of_ble_eq_true rfl) (hnc) (hns) (spX11_status (d := d - 1) (i := mi M) (S := M.2) (by omega) hP hR hV (by omega) ((g_x G).2.2 (4 * j + 1))) (fun v1 M1 hq => ?_)
  obtain ⟨rfl, hI1, hF1⟩ := hq
  obtain ⟨hY1, hR1⟩ := hM.fr (M' := M1) hF1 (Nat.le_of_eq hXY)
  refine PW_aload_n (i := 2) dL_law_876 rfl rfl ?_
  refine PW_aload_n (i := 0) dL_law_877 rfl rfl ?_
  refine PW_iload_n (i := 3) dL_law_878 rfl rfl ?_
  refine PW_iconst (v := 1) dL_law_879 (by decide) ?_
  refine PW_iadd dL_law_880 ?_
  refine PW_sld (j := 4 * j + 1) dL_law_881 (n4a j 1 rfl) (by omega) hL ?_
  refine PW_callV dL_law_882 moX12_status cvL_133 (show mt M1 Y = (12, 0) from hY1.1) (by omega : d - 1 < d) rfl rfl (Nat.le_of_ble_eq_true rfl) (hnc) (hns) (spX12_status (d := d - 1) (i := mi M1) (S := M1.2) hY1 hR1 hV (by omega) (by omega) ((g_x G).2.2 (4 * j + 1))) (fun v2 M2 hq => ?_)
  obtain ⟨rfl, hI2, hF2⟩ := hq
  refine PW_icmp_eq 927 dL_law_885 (by decide) (fun _ => ?_) (fun h => absurd rfl h)
  exact hnx M2 _ (hI1.fr (keep_status hV ((g_x G).2.2 (4 * j + 1))) hF2 (Nat.le_of_eq hXY)) hI2 (keep_status hV ((g_x G).2.2 (4 * j + 1)))
set_option maxRecDepth 100000 in
set_option maxHeartbeats 4000000 in
theorem law_count {G : GE} {nm : String} {d : Nat} {Post : Option Value → Mm → Prop} {X Y j : Nat} {s : Ab} {M : Mm} {nc ns : Nat} (hd : 30 ≤ d) (hXY : X + 211 = Y) (hL : (g_x G).2.1 ≤ 256) (hj : 4 * j + 4 ≤ (g_x G).2.1) (hC : CI M X s) (hM : MI2 M Y s) (hV : AV j s) (hnc : nc + 0 ≤ 600000) (hns : ns + 0 ≤ 7302250) (hnx : ∀ (M' : Mm) (s' : Ab), CI M' X s' → MI2 M' Y s' → AV (j + 1) s' → PW G (iLw nm) d Post 927 [.ref (g_x G).1, .ref X, .ref Y, .int (nI (4 * j))] [] M' nc ns) : PW G (iLw nm) d Post 890 [.ref (g_x G).1, .ref X, .ref Y, .int (nI (4 * j))] [] M nc ns := by
  obtain ⟨g, hP, hR⟩ := hC
  refine PW_aload_n (i := 1) dL_law_890 rfl rfl ?_
  refine PW_aload_n (i := 0) dL_law_891 rfl rfl ?_
  refine PW_iload_n (i := 3) dL_law_892 rfl rfl ?_
  refine PW_iconst (v := 1) dL_law_893 (by decide) ?_
  refine PW_iadd dL_law_894 ?_
  refine PW_sld (j := 4 * j + 1) dL_law_895 (n4a j 1 rfl) (by omega) hL ?_
  refine PW_callV dL_law_896 moX11_count cvL_134 (show mt M X = (11, 0) from hP.1.1) (by omega : d - 1 < d) rfl rfl (Nat.le_of_ble_eq_true rfl) (hnc) (hns) (spX11_count (d := d - 1) (i := mi M) (S := M.2) (by omega) hP hR hV (by omega) ((g_x G).2.2 (4 * j + 1))) (fun v1 M1 hq => ?_)
  obtain ⟨rfl, hI1, hF1⟩ := hq
  obtain ⟨hY1, hR1⟩ := hM.fr (M' := M1) hF1 (Nat.le_of_eq hXY)
  refine PW_aload_n (i := 2) dL_law_899 rfl rfl ?_
  refine PW_aload_n (i := 0) dL_law_900 rfl rfl ?_
  refine PW_iload_n (i := 3) dL_law_901 rfl rfl ?_
  refine PW_iconst (v := 1) dL_law_902 (by decide) ?_
  refine PW_iadd dL_law_903 ?_
  refine PW_sld (j := 4 * j + 1) dL_law_904 (n4a j 1 rfl) (by omega) hL ?_
  refine PW_callV dL_law_905 moX12_count cvL_137 (show mt M1 Y = (12, 0) from hY1.1) (by omega : d - 1 < d) rfl rfl (Nat.le_of_ble_eq_true rfl) (hnc) (hns) (spX12_count (d := d - 1) (i := mi M1) (S := M1.2) hY1 hR1 hV (by omega) (by omega) ((g_x G).2.2 (4 * j + 1))) (fun v2 M2 hq => ?_)
  obtain ⟨rfl, hI2, hF2⟩ := hq
  refine PW_icmp_eq 927 dL_law_908 (by decide) (fun _ => ?_) (fun h => absurd rfl h)
  exact hnx M2 _ (hI1.fr (keep_count hV ((g_x G).2.2 (4 * j + 1))) hF2 (Nat.le_of_eq hXY)) hI2 (keep_count hV ((g_x G).2.2 (4 * j + 1)))
set_option maxRecDepth 100000 in
set_option maxHeartbeats 4000000 in
theorem law_digest {G : GE} {nm : String} {d : Nat} {Post : Option Value → Mm → Prop} {X Y j : Nat} {s : Ab} {M : Mm} {nc ns : Nat} (hd : 30 ≤ d) (hXY : X + 211 = Y) (hL : (g_x G).2.1 ≤ 256) (hj : 4 * j + 4 ≤ (g_x G).2.1) (hC : CI M X s) (hM : MI2 M Y s) (hV : AV j s) (hnc : nc + 0 ≤ 600000) (hns : ns + 0 ≤ 7302250) (hnx : ∀ (M' : Mm) (s' : Ab), CI M' X s' → MI2 M' Y s' → AV (j + 1) s' → PW G (iLw nm) d Post 927 [.ref (g_x G).1, .ref X, .ref Y, .int (nI (4 * j))] [] M' nc ns) : PW G (iLw nm) d Post 913 [.ref (g_x G).1, .ref X, .ref Y, .int (nI (4 * j))] [] M nc ns := by
  obtain ⟨g, hP, hR⟩ := hC
  refine PW_aload_n (i := 1) dL_law_913 rfl rfl ?_
  refine PW_callV dL_law_914 moX11_digest cvL_138 (show mt M X = (11, 0) from hP.1.1) (by omega : d - 1 < d) rfl rfl (Nat.le_of_ble_eq_true rfl) (hnc) (hns) (spX11_digest (d := d - 1) (i := mi M) (S := M.2) (by omega) hP hR hV (by omega) ) (fun v1 M1 hq => ?_)
  obtain ⟨rfl, hI1, hF1⟩ := hq
  obtain ⟨hY1, hR1⟩ := hM.fr (M' := M1) hF1 (Nat.le_of_eq hXY)
  refine PW_aload_n (i := 2) dL_law_917 rfl rfl ?_
  refine PW_callV dL_law_918 moX12_digest cvL_142 (show mt M1 Y = (12, 0) from hY1.1) (by omega : d - 1 < d) rfl rfl (Nat.le_of_ble_eq_true rfl) (hnc) (hns) (spX12_digest (d := d - 1) (i := mi M1) (S := M1.2) hY1 hR1 hV (by omega) (by omega) ) (fun v2 M2 hq => ?_)
  obtain ⟨rfl, hI2, hF2⟩ := hq
  refine PW_lcmp dL_law_921 ?_
  refine PW_if_eq 927 dL_law_922 (by decide) (fun _ => ?_) (fun h => absurd (lg_cmp_self _) h)
  exact hnx M2 _ (hI1.fr (keep_digest hV) hF2 (Nat.le_of_eq hXY)) hI2 (keep_digest hV)

/-! ===== making: the reference ===== -/
theorem lLs (M : Mm) (a k : Nat) (v : Int64) : ml (wL M a k v) a k = v := by simp [ml, wL, va_up, vp_updL]
theorem lLk (M : Mm) (a : Nat) {k : Nat} (v : Int64) (b : Nat) {j : Nat} (h : j ≠ k) : ml (wL M a k v) b j = ml M b j := by
  by_cases e : b = a <;> simp [ml, wL, va_up, vp_updL, e, h]
theorem lLf (M : Mm) {a : Nat} (k : Nat) (v : Int64) {b : Nat} (h : b ≠ a) : ml (wL M a k v) b = ml M b := by simp [ml, wL, va_up, h]
theorem lN0 : lN 0 = 0 := rfl
theorem lN1 : lN 1 = 1 := rfl
set_option maxRecDepth 100000 in
set_option maxHeartbeats 4000000 in
theorem spX12_init {G : GE} {d : Nat} {M : Mm} {Y : Nat} (hn : mn M = Y + 1) (ht : mt M Y = (12, 0)) (hz : mi M Y = fun _ => 0) (hl : ml M Y = fun _ => 0) (hd : 1 ≤ d) : Mt G iX12_init d [.ref Y] M (Nw (fun M' => MI2 M' Y ab0 ∧ mn M' = Y + 20 ∧ Bl Y M M')) := by
  refine Mt_in 0 (ls := [.ref Y]) moX12_init (Nat.le_of_ble_eq_true rfl) rfl ?_
  refine PW_aload_n (i := 0) dX12_init_0 rfl rfl ?_
  refine PW_objInit dX12_init_1 oi12_7 oiI oiC (Nat.le_of_ble_eq_true rfl) ?_
  refine PW_aload_n (i := 0) dX12_init_4 rfl rfl ?_
  refine PW_iconst (v := 3) dX12_init_5 (by decide) ?_
  refine PW_newIA (N := 3) (a := Y + 1) dX12_init_6 arI (by decide) rfl (by decide) (by first | rfl | exact hn) (Nat.le_of_ble_eq_true rfl) (Nat.le_of_ble_eq_true rfl) ?_
  refine PW_putR dX12_init_8 fr12_1 (fun _ => rfl) (by first | exact hY.1 | (simp (disch := omega) only [tW, tI, tL, tNs, tNn, iW, iL, iNs, iNn, lW, lI, lNs, lNn, rWs, rWk, rWa, rWf, rNs, rNn, rI_, rL_, ne_eq, not_false_eq_true, ht]; done)) ?_
  refine PW_aload_n (i := 0) dX12_init_11 rfl rfl ?_
  refine PW_bipush (v := 6) dX12_init_12 (by decide) ?_
  refine PW_newIA (N := 6) (a := Y + 2) dX12_init_14 arI (by decide) rfl (by decide) (by first | rfl | exact hn) (Nat.le_of_ble_eq_true rfl) (Nat.le_of_ble_eq_true rfl) ?_
  refine PW_putR dX12_init_16 fr12_13 (fun _ => rfl) (by first | exact hY.1 | (simp (disch := omega) only [tW, tI, tL, tNs, tNn, iW, iL, iNs, iNn, lW, lI, lNs, lNn, rWs, rWk, rWa, rWf, rNs, rNn, rI_, rL_, ne_eq, not_false_eq_true, ht]; done)) ?_
  refine PW_aload_n (i := 0) dX12_init_19 rfl rfl ?_
  refine PW_bipush (v := 6) dX12_init_20 (by decide) ?_
  refine PW_newIA (N := 6) (a := Y + 3) dX12_init_22 arI (by decide) rfl (by decide) (by first | rfl | exact hn) (Nat.le_of_ble_eq_true rfl) (Nat.le_of_ble_eq_true rfl) ?_
  refine PW_putR dX12_init_24 fr12_16 (fun _ => rfl) (by first | exact hY.1 | (simp (disch := omega) only [tW, tI, tL, tNs, tNn, iW, iL, iNs, iNn, lW, lI, lNs, lNn, rWs, rWk, rWa, rWf, rNs, rNn, rI_, rL_, ne_eq, not_false_eq_true, ht]; done)) ?_
  refine PW_aload_n (i := 0) dX12_init_27 rfl rfl ?_
  refine PW_bipush (v := 6) dX12_init_28 (by decide) ?_
  refine PW_newIA (N := 6) (a := Y + 4) dX12_init_30 arI (by decide) rfl (by decide) (by first | rfl | exact hn) (Nat.le_of_ble_eq_true rfl) (Nat.le_of_ble_eq_true rfl) ?_
  refine PW_putR dX12_init_32 fr12_19 (fun _ => rfl) (by first | exact hY.1 | (simp (disch := omega) only [tW, tI, tL, tNs, tNn, iW, iL, iNs, iNn, lW, lI, lNs, lNn, rWs, rWk, rWa, rWf, rNs, rNn, rI_, rL_, ne_eq, not_false_eq_true, ht]; done)) ?_
  refine PW_aload_n (i := 0) dX12_init_35 rfl rfl ?_
  refine PW_bipush (v := 6) dX12_init_36 (by decide) ?_
  refine PW_newIA (N := 6) (a := Y + 5) dX12_init_38 arI (by decide) rfl (by decide) (by first | rfl | exact hn) (Nat.le_of_ble_eq_true rfl) (Nat.le_of_ble_eq_true rfl) ?_
  refine PW_putR dX12_init_40 fr12_22 (fun _ => rfl) (by first | exact hY.1 | (simp (disch := omega) only [tW, tI, tL, tNs, tNn, iW, iL, iNs, iNn, lW, lI, lNs, lNn, rWs, rWk, rWa, rWf, rNs, rNn, rI_, rL_, ne_eq, not_false_eq_true, ht]; done)) ?_
  refine PW_aload_n (i := 0) dX12_init_43 rfl rfl ?_
  refine PW_bipush (v := 6) dX12_init_44 (by decide) ?_
  refine PW_newIA (N := 6) (a := Y + 6) dX12_init_46 arI (by decide) rfl (by decide) (by first | rfl | exact hn) (Nat.le_of_ble_eq_true rfl) (Nat.le_of_ble_eq_true rfl) ?_
  refine PW_putR dX12_init_48 fr12_25 (fun _ => rfl) (by first | exact hY.1 | (simp (disch := omega) only [tW, tI, tL, tNs, tNn, iW, iL, iNs, iNn, lW, lI, lNs, lNn, rWs, rWk, rWa, rWf, rNs, rNn, rI_, rL_, ne_eq, not_false_eq_true, ht]; done)) ?_
  refine PW_aload_n (i := 0) dX12_init_51 rfl rfl ?_
  refine PW_bipush (v := 6) dX12_init_52 (by decide) ?_
  refine PW_newIA (N := 6) (a := Y + 7) dX12_init_54 arI (by decide) rfl (by decide) (by first | rfl | exact hn) (Nat.le_of_ble_eq_true rfl) (Nat.le_of_ble_eq_true rfl) ?_
  refine PW_putR dX12_init_56 fr12_28 (fun _ => rfl) (by first | exact hY.1 | (simp (disch := omega) only [tW, tI, tL, tNs, tNn, iW, iL, iNs, iNn, lW, lI, lNs, lNn, rWs, rWk, rWa, rWf, rNs, rNn, rI_, rL_, ne_eq, not_false_eq_true, ht]; done)) ?_
  refine PW_aload_n (i := 0) dX12_init_59 rfl rfl ?_
  refine PW_bipush (v := 6) dX12_init_60 (by decide) ?_
  refine PW_newIA (N := 6) (a := Y + 8) dX12_init_62 arI (by decide) rfl (by decide) (by first | rfl | exact hn) (Nat.le_of_ble_eq_true rfl) (Nat.le_of_ble_eq_true rfl) ?_
  refine PW_putR dX12_init_64 fr12_31 (fun _ => rfl) (by first | exact hY.1 | (simp (disch := omega) only [tW, tI, tL, tNs, tNn, iW, iL, iNs, iNn, lW, lI, lNs, lNn, rWs, rWk, rWa, rWf, rNs, rNn, rI_, rL_, ne_eq, not_false_eq_true, ht]; done)) ?_
  refine PW_aload_n (i := 0) dX12_init_67 rfl rfl ?_
  refine PW_sipush (v := 150) dX12_init_68 (by decide) ?_
  refine PW_newIA (N := 150) (a := Y + 9) dX12_init_71 arI (by decide) rfl (by decide) (by first | rfl | exact hn) (Nat.le_of_ble_eq_true rfl) (Nat.le_of_ble_eq_true rfl) ?_
  refine PW_putR dX12_init_73 fr12_34 (fun _ => rfl) (by first | exact hY.1 | (simp (disch := omega) only [tW, tI, tL, tNs, tNn, iW, iL, iNs, iNn, lW, lI, lNs, lNn, rWs, rWk, rWa, rWf, rNs, rNn, rI_, rL_, ne_eq, not_false_eq_true, ht]; done)) ?_
  refine PW_aload_n (i := 0) dX12_init_76 rfl rfl ?_
  refine PW_bipush (v := 6) dX12_init_77 (by decide) ?_
  refine PW_newIA (N := 6) (a := Y + 10) dX12_init_79 arI (by decide) rfl (by decide) (by first | rfl | exact hn) (Nat.le_of_ble_eq_true rfl) (Nat.le_of_ble_eq_true rfl) ?_
  refine PW_putR dX12_init_81 fr12_37 (fun _ => rfl) (by first | exact hY.1 | (simp (disch := omega) only [tW, tI, tL, tNs, tNn, iW, iL, iNs, iNn, lW, lI, lNs, lNn, rWs, rWk, rWa, rWf, rNs, rNn, rI_, rL_, ne_eq, not_false_eq_true, ht]; done)) ?_
  refine PW_aload_n (i := 0) dX12_init_84 rfl rfl ?_
  refine PW_bipush (v := 18) dX12_init_85 (by decide) ?_
  refine PW_newIA (N := 18) (a := Y + 11) dX12_init_87 arI (by decide) rfl (by decide) (by first | rfl | exact hn) (Nat.le_of_ble_eq_true rfl) (Nat.le_of_ble_eq_true rfl) ?_
  refine PW_putR dX12_init_89 fr12_40 (fun _ => rfl) (by first | exact hY.1 | (simp (disch := omega) only [tW, tI, tL, tNs, tNn, iW, iL, iNs, iNn, lW, lI, lNs, lNn, rWs, rWk, rWa, rWf, rNs, rNn, rI_, rL_, ne_eq, not_false_eq_true, ht]; done)) ?_
  refine PW_aload_n (i := 0) dX12_init_92 rfl rfl ?_
  refine PW_bipush (v := 112) dX12_init_93 (by decide) ?_
  refine PW_newIA (N := 112) (a := Y + 12) dX12_init_95 arI (by decide) rfl (by decide) (by first | rfl | exact hn) (Nat.le_of_ble_eq_true rfl) (Nat.le_of_ble_eq_true rfl) ?_
  refine PW_putR dX12_init_97 fr12_43 (fun _ => rfl) (by first | exact hY.1 | (simp (disch := omega) only [tW, tI, tL, tNs, tNn, iW, iL, iNs, iNn, lW, lI, lNs, lNn, rWs, rWk, rWa, rWf, rNs, rNn, rI_, rL_, ne_eq, not_false_eq_true, ht]; done)) ?_
  refine PW_aload_n (i := 0) dX12_init_100 rfl rfl ?_
  refine PW_bipush (v := 14) dX12_init_101 (by decide) ?_
  refine PW_newIA (N := 14) (a := Y + 13) dX12_init_103 arI (by decide) rfl (by decide) (by first | rfl | exact hn) (Nat.le_of_ble_eq_true rfl) (Nat.le_of_ble_eq_true rfl) ?_
  refine PW_putR dX12_init_105 fr12_46 (fun _ => rfl) (by first | exact hY.1 | (simp (disch := omega) only [tW, tI, tL, tNs, tNn, iW, iL, iNs, iNn, lW, lI, lNs, lNn, rWs, rWk, rWa, rWf, rNs, rNn, rI_, rL_, ne_eq, not_false_eq_true, ht]; done)) ?_
  refine PW_aload_n (i := 0) dX12_init_108 rfl rfl ?_
  refine PW_iconst (v := 4) dX12_init_109 (by decide) ?_
  refine PW_newIA (N := 4) (a := Y + 14) dX12_init_110 arI (by decide) rfl (by decide) (by first | rfl | exact hn) (Nat.le_of_ble_eq_true rfl) (Nat.le_of_ble_eq_true rfl) ?_
  refine PW_putR dX12_init_112 fr12_49 (fun _ => rfl) (by first | exact hY.1 | (simp (disch := omega) only [tW, tI, tL, tNs, tNn, iW, iL, iNs, iNn, lW, lI, lNs, lNn, rWs, rWk, rWa, rWf, rNs, rNn, rI_, rL_, ne_eq, not_false_eq_true, ht]; done)) ?_
  refine PW_aload_n (i := 0) dX12_init_115 rfl rfl ?_
  refine PW_iconst (v := 4) dX12_init_116 (by decide) ?_
  refine PW_newIA (N := 4) (a := Y + 15) dX12_init_117 arI (by decide) rfl (by decide) (by first | rfl | exact hn) (Nat.le_of_ble_eq_true rfl) (Nat.le_of_ble_eq_true rfl) ?_
  refine PW_putR dX12_init_119 fr12_52 (fun _ => rfl) (by first | exact hY.1 | (simp (disch := omega) only [tW, tI, tL, tNs, tNn, iW, iL, iNs, iNn, lW, lI, lNs, lNn, rWs, rWk, rWa, rWf, rNs, rNn, rI_, rL_, ne_eq, not_false_eq_true, ht]; done)) ?_
  refine PW_aload_n (i := 0) dX12_init_122 rfl rfl ?_
  refine PW_bipush (v := 21) dX12_init_123 (by decide) ?_
  refine PW_newIA (N := 21) (a := Y + 16) dX12_init_125 arI (by decide) rfl (by decide) (by first | rfl | exact hn) (Nat.le_of_ble_eq_true rfl) (Nat.le_of_ble_eq_true rfl) ?_
  refine PW_putR dX12_init_127 fr12_55 (fun _ => rfl) (by first | exact hY.1 | (simp (disch := omega) only [tW, tI, tL, tNs, tNn, iW, iL, iNs, iNn, lW, lI, lNs, lNn, rWs, rWk, rWa, rWf, rNs, rNn, rI_, rL_, ne_eq, not_false_eq_true, ht]; done)) ?_
  refine PW_aload_n (i := 0) dX12_init_130 rfl rfl ?_
  refine PW_sipush (v := 147) dX12_init_131 (by decide) ?_
  refine PW_newIA (N := 147) (a := Y + 17) dX12_init_134 arI (by decide) rfl (by decide) (by first | rfl | exact hn) (Nat.le_of_ble_eq_true rfl) (Nat.le_of_ble_eq_true rfl) ?_
  refine PW_putR dX12_init_136 fr12_58 (fun _ => rfl) (by first | exact hY.1 | (simp (disch := omega) only [tW, tI, tL, tNs, tNn, iW, iL, iNs, iNn, lW, lI, lNs, lNn, rWs, rWk, rWa, rWf, rNs, rNn, rI_, rL_, ne_eq, not_false_eq_true, ht]; done)) ?_
  refine PW_aload_n (i := 0) dX12_init_139 rfl rfl ?_
  refine PW_lconst (v := 1) dX12_init_140 (by decide) ?_
  refine PW_putL dX12_init_141 fr12_61 (fun h => by cases h) (by first | exact hY.1 | (simp (disch := omega) only [tW, tI, tL, tNs, tNn, iW, iL, iNs, iNn, lW, lI, lNs, lNn, rWs, rWk, rWa, rWf, rNs, rNn, rI_, rL_, ne_eq, not_false_eq_true, ht]; done)) ?_
  refine PW_aload_n (i := 0) dX12_init_144 rfl rfl ?_
  refine PW_sipush (v := 320) dX12_init_145 (by decide) ?_
  refine PW_newIA (N := 320) (a := Y + 18) dX12_init_148 arI (by decide) rfl (by decide) (by first | rfl | exact hn) (Nat.le_of_ble_eq_true rfl) (Nat.le_of_ble_eq_true rfl) ?_
  refine PW_putR dX12_init_150 fr12_65 (fun _ => rfl) (by first | exact hY.1 | (simp (disch := omega) only [tW, tI, tL, tNs, tNn, iW, iL, iNs, iNn, lW, lI, lNs, lNn, rWs, rWk, rWa, rWf, rNs, rNn, rI_, rL_, ne_eq, not_false_eq_true, ht]; done)) ?_
  refine PW_aload_n (i := 0) dX12_init_153 rfl rfl ?_
  refine PW_iconst (v := 2) dX12_init_154 (by decide) ?_
  refine PW_newIA (N := 2) (a := Y + 19) dX12_init_155 arI (by decide) rfl (by decide) (by first | rfl | exact hn) (Nat.le_of_ble_eq_true rfl) (Nat.le_of_ble_eq_true rfl) ?_
  refine PW_putR dX12_init_157 fr12_68 (fun _ => rfl) (by first | exact hY.1 | (simp (disch := omega) only [tW, tI, tL, tNs, tNn, iW, iL, iNs, iNn, lW, lI, lNs, lNn, rWs, rWk, rWa, rWf, rNs, rNn, rI_, rL_, ne_eq, not_false_eq_true, ht]; done)) ?_
  refine PW_aload_n (i := 0) dX12_init_160 rfl rfl ?_
  refine PW_ge (fun Mx eM => ?_)
  have hx : mn Mx = Y + 20 := by rw [eM]; rfl
  have hY : YS Mx.2 Y := by
    rw [eM]
    refine ⟨?_, ⟨?_, ?_⟩, ⟨?_, ?_⟩, ⟨?_, ?_⟩, ⟨?_, ?_⟩, ⟨?_, ?_⟩, ⟨?_, ?_⟩, ⟨?_, ?_⟩, ⟨?_, ?_⟩, ⟨?_, ?_⟩, ⟨?_, ?_⟩, ⟨?_, ?_⟩, ⟨?_, ?_⟩, ⟨?_, ?_⟩, ⟨?_, ?_⟩, ⟨?_, ?_⟩, ⟨?_, ?_⟩, ⟨?_, ?_⟩, ⟨?_, ?_⟩, ⟨?_, ?_⟩⟩ <;> simp (disch := omega) only [sT_mt, sR_mr, tW, tI, tL, tNs, tNn, iW, iL, iNs, iNn, lW, lI, lNs, lNn, rWs, rWk, rWa, rWf, rNs, rNn, rI_, rL_, ne_eq, not_false_eq_true, lLs, lLk, lLf, ht, hz, hl]
  have Z0 : ∀ q, Y ≤ q → q < Y + 20 → mi Mx q = fun _ => 0 := fun q h1 h2 => by
    rw [eM]
    rcases (by omega : q = Y ∨ q = Y + 1 ∨ q = Y + 2 ∨ q = Y + 3 ∨ q = Y + 4 ∨ q = Y + 5 ∨ q = Y + 6 ∨ q = Y + 7 ∨ q = Y + 8 ∨ q = Y + 9 ∨ q = Y + 10 ∨ q = Y + 11 ∨ q = Y + 12 ∨ q = Y + 13 ∨ q = Y + 14 ∨ q = Y + 15 ∨ q = Y + 16 ∨ q = Y + 17 ∨ q = Y + 18 ∨ q = Y + 19) with rfl | rfl | rfl | rfl | rfl | rfl | rfl | rfl | rfl | rfl | rfl | rfl | rfl | rfl | rfl | rfl | rfl | rfl | rfl | rfl <;> simp (disch := omega) only [sT_mt, sR_mr, tW, tI, tL, tNs, tNn, iW, iL, iNs, iNn, lW, lI, lNs, lNn, rWs, rWk, rWa, rWf, rNs, rNn, rI_, rL_, ne_eq, not_false_eq_true, lLs, lLk, lLf, ht, hz, hl]
  have L28 : sL Mx.2 Y 28 = 0 := by
    rw [eM]
    show ml _ Y 28 = 0
    simp (disch := omega) only [sT_mt, sR_mr, tW, tI, tL, tNs, tNn, iW, iL, iNs, iNn, lW, lI, lNs, lNn, rWs, rWk, rWa, rWf, rNs, rNn, rI_, rL_, ne_eq, not_false_eq_true, lLs, lLk, lLf, ht, hz, hl]
  have L29 : sL Mx.2 Y 29 = 1 := by
    rw [eM]
    show ml _ Y 29 = 1
    simp (disch := omega) only [sT_mt, sR_mr, tW, tI, tL, tNs, tNn, iW, iL, iNs, iNn, lW, lI, lNs, lNn, rWs, rWk, rWa, rWf, rNs, rNn, rI_, rL_, ne_eq, not_false_eq_true, lLs, lLk, lLf, ht, hz, hl]
  have B0 : Bl Y M Mx := fun q hq => by
    rw [eM]
    refine ⟨?_, ?_, ?_, ?_⟩ <;> simp (disch := omega) only [sT_mt, sR_mr, tW, tI, tL, tNs, tNn, iW, iL, iNs, iNn, lW, lI, lNs, lNn, rWs, rWk, rWa, rWf, rNs, rNn, rI_, rL_, ne_eq, not_false_eq_true, lLs, lLk, lLf, ht, hz, hl]
  clear eM
  refine PW_callV dX12_init_161 moX12_begin cv12_71 (by first | exact hY.1 | (simp (disch := omega) only [tW, tI, tL, tNs, tNn, iW, iL, iNs, iNn, lW, lI, lNs, lNn, rWs, rWk, rWa, rWf, rNs, rNn, rI_, rL_, ne_eq, not_false_eq_true, ht]; done)) (by omega) rfl rfl (Nat.le_of_ble_eq_true rfl) (Nat.le_of_ble_eq_true rfl) (Nat.le_of_ble_eq_true rfl) (spX12_begin (d := d - 1) (i := mi Mx) (S := Mx.2) hY) (fun v M1 hq => ?_)
  obtain ⟨rfl, i', rfl, hv, hk, hf⟩ := hq
  refine PW_return rfl dX12_init_164 (Nat.le_of_ble_eq_true rfl) (Nat.le_of_ble_eq_true rfl) ?_
  have zf : ∀ q, Y < q → q < Y + 20 → i' q = fun _ => 0 := fun q h1 h2 => (hf q (by omega)).trans (Z0 q (by omega) h2)
  refine ⟨rfl, ⟨hY, ⟨hv, (fun h => by cases h), (fun h => by cases h), ⟨?_, ?_⟩, ⟨?_, ?_, ?_⟩, ⟨?_, fun j hj => absurd hj (Nat.not_lt_zero j)⟩, L28.trans lN0.symm, L29.trans lN1.symm⟩⟩, hx, fun q hq => ?_⟩
  · show i' _ _ = _; rw [zf _ (by omega) (by omega)]; rfl
  · show i' _ _ = _; rw [zf _ (by omega) (by omega)]; rfl
  · show i' _ _ = _; rw [zf _ (by omega) (by omega)]; rfl
  · show i' _ _ = _; rw [zf _ (by omega) (by omega)]; rfl
  · show i' _ _ = _; rw [zf _ (by omega) (by omega)]; rfl
  · show i' Y 14 = _; rw [hk 14 (by decide) (by decide) (by decide) (by decide) (by decide) (by decide), Z0 Y (by omega) (by omega)]; rfl
  · obtain ⟨a1, a2, a3, a4⟩ := B0 q hq
    exact ⟨a1, (hf q (by omega)).trans a2, a3, a4⟩

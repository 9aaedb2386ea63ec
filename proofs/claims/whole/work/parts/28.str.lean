/-! ===== String constants ===== -/
/-! ===== String constants: length, charAt ===== -/
section PWS
variable {G : GE} {I : MI} {d : Nat} {Post : Option Value → Mm → Prop} {pc : Nat} {ls st : List Value} {M : Mm} {nc ns : Nat}
theorem PW_sval {idx i : Nat} (hi : i < 5) (hd : decode I.2.1 pc = .ok (.getfield idx, 3)) (hw : Cond.fieldLink I.1.cls idx "java/lang/String" "value" "[B" ∈ wsG) (kk : PW G I d Post (pc + 3) ls (.ref (g_s G (i + 5)) :: st) M nc ns) : PW G I d Post pc ls (.ref (g_s G i) :: st) M nc ns :=
  fun p l e s m args below meth c C H locs la hS hV hl => vk_getf C.1 C.2.1 (C.2.2.2.2.2.2.2.2.2.1.1 i hi).2.2.1 hV C.2.2.2.2.2.1 (C.2.2.2.2.2.2.1 _ hw) (fun _ h => h) hd (kk p l e s m args below meth c C H locs la hS hV hl)
theorem PW_scod {idx i : Nat} (hi : i < 5) (hd : decode I.2.1 pc = .ok (.getfield idx, 3)) (hw : Cond.fieldLink I.1.cls idx "java/lang/String" "coder" "B" ∈ wsG) (kk : PW G I d Post (pc + 3) ls (.int 0 :: st) M nc ns) : PW G I d Post pc ls (.ref (g_s G i) :: st) M nc ns :=
  fun p l e s m args below meth c C H locs la hS hV hl => vk_getf C.1 C.2.1 (C.2.2.2.2.2.2.2.2.2.1.1 i hi).2.1 hV C.2.2.2.2.2.1 (C.2.2.2.2.2.2.1 _ hw) (fun _ h => h) hd (kk p l e s m args below meth c C H locs la hS hV hl)
theorem PW_gcs {idx : Nat} (hd : decode I.2.1 pc = .ok (.getstatic idx, 3)) (hw : Cond.fieldLink I.1.cls idx "java/lang/String" "COMPACT_STRINGS" "Z" ∈ wsG) (kk : PW G I d Post (pc + 3) ls (.int 1 :: st) M nc ns) : PW G I d Post pc ls st M nc ns :=
  fun p l e s m args below meth c C H locs la hS hV hl => va_gets C.1 C.2.1 C.2.2.2.2.2.2.2.2.2.2.2.1 hV C.2.2.2.2.2.1 (C.2.2.2.2.2.2.1 _ hw) (fun _ h => h) hd (kk p l e s m args below meth c C H locs la hS hV hl)
theorem PW_gsf {idx : Nat} (hd : decode I.2.1 pc = .ok (.getstatic idx, 3)) (hw : Cond.fieldLink I.1.cls idx "jdk/internal/util/Preconditions" "SIOOBE_FORMATTER" "Ljava/util/function/BiFunction;" ∈ wsG) (kk : ∀ v : Value, (v = .null ∨ ∃ t, v = .ref t) → PW G I d Post (pc + 3) ls (v :: st) M nc ns) : PW G I d Post pc ls st M nc ns := by
  intro p l e s m args below meth c C H locs la hS hV hl
  rcases C.2.2.2.2.2.2.2.2.2.2.2.2.1 with hz | ⟨t, hz⟩
  · exact va_gets C.1 C.2.1 hz hV C.2.2.2.2.2.1 (C.2.2.2.2.2.2.1 _ hw) (fun _ h => h) hd (kk _ (Or.inl rfl) p l e s m args below meth c C H locs la hS hV hl)
  · exact va_gets C.1 C.2.1 hz hV C.2.2.2.2.2.1 (C.2.2.2.2.2.2.1 _ hw) (fun _ h => h) hd (kk _ (Or.inr ⟨t, rfl⟩) p l e s m args below meth c C H locs la hS hV hl)
theorem len4 : ∀ i, i < 5 → Int32.ofNat ([4, 4, 4, 4, 4].getD i 0) = 4 := by decide
theorem PW_blen {i : Nat} (hi : i < 5) (hd : decode I.2.1 pc = .ok (.arraylength, 1)) (kk : PW G I d Post (pc + 1) ls (.int 4 :: st) M nc ns) : PW G I d Post pc ls (.ref (g_s G (i + 5)) :: st) M nc ns :=
  fun p l e s m args below meth c C H locs la hS hV hl => va_tlen C.1 C.2.1 (C.2.2.2.2.2.2.2.2.2.1.1 i hi).2.2.2 hV (len4 i hi) hd (kk p l e s m args below meth c C H locs la hS hV hl)
theorem len4' : ∀ i, i < 5 → [4, 4, 4, 4, 4].getD i 0 = 4 := by decide
theorem PW_bald {i j : Nat} (hi : i < 5) (hj : j < 4) (hd : decode I.2.1 pc = .ok (.baload, 1)) (kk : PW G I d Post (pc + 1) ls (.int ((sBy.getD i []).getD j 0) :: st) M nc ns) : PW G I d Post pc ls (.int (nI j) :: .ref (g_s G (i + 5)) :: st) M nc ns :=
  fun p l e s m args below meth c C H locs la hS hV hl => va_tb C.1 C.2.1 (C.2.2.2.2.2.2.2.2.2.1.1 i hi).2.2.2 hV (i := nI j) (by rw [len4' i hi]; exact vin hj (by decide)) (by rw [cln (by omega)]) hd (kk p l e s m args below meth c C H locs la hS hV hl)
theorem PW_i2c {x v : Int32} (hd : decode I.2.1 pc = .ok (.i2c, 1)) (hv : (x.toUInt32 % 65536).toInt32 = v) (kk : PW G I d Post (pc + 1) ls (.int v :: st) M nc ns) : PW G I d Post pc ls (.int x :: st) M nc ns :=
  fun p l e s m args below meth c C H locs la hS hV hl => lv_i2c C.1 C.2.1 hd hv (kk p l e s m args below meth c C H locs la hS hV hl)
variable {J : MI} {n d' : Nat} {Post' : Option Value → Mm → Prop}
def CVs (own : String) (idx : Nat) (J : MI) : Prop := Cond.methodLink own idx J.1 ∈ wsG ∧ Cond.instanceMethod J.1 ∈ wsG ∧ Cond.selects "java/lang/String" J.1 J.1 ∈ wsG
theorem PW_callVS {idx i : Nat} {As : List Value} {st0 : List Value} (hi : i < 5) (hd : decode I.2.1 pc = .ok (.invokevirtual idx, 3)) (hJ : MO J n) (hC : CVs I.1.cls idx J) (hdd : d' < d) (hn : As.length = n) (hst : st0 = As.reverse ++ .ref (g_s G i) :: st) (hw : (st.map fun v => v.category).sum ≤ 8) (hc : nc + J.2.2.2.2.1 ≤ I.2.2.2.2.1) (hs : ns + J.2.2.2.2.2 ≤ I.2.2.2.2.2) (hM : Mt G J d' (.ref (g_s G i) :: As) M Post')
    (kk : ∀ v M', Post' v M' → PW G I d Post (pc + 3) ls (v.toList ++ st) M' (nc + J.2.2.2.2.1) (ns + J.2.2.2.2.2)) : PW G I d Post pc ls st0 M nc ns := by
  intro p l e s m args below meth c C H locs la hS hV hl
  have hts := C.2.2.2.2.2.2.1
  have hr := room_ok (I := I) hJ hdd
  obtain ⟨h1, h2, h3⟩ := hC
  refine run_go (va_runV (Ts := wsG) (C := "java/lang/String") (n := n) (As := As) (rest := st) ⟨C.1, C.2.1, C.2.2.1, C.2.2.2.2.2.1, hts⟩ (hM l) ⟨⟨rfl, rfl, hr.1, hr.2, wsM_warm hts hJ.2.1, List.mem_cons_self, hts _ hJ.2.1, hts _ hJ.2.2.1, hJ.2.2.2.1, hJ.len, hts _ h1⟩, hts _ h2, hts _ h3⟩ ⟨mt_blind G _ M, vk_recv C.2.2.2.2.2.2.2.2.2.1 hi hV, fun U hU hW => ⟨rfl, env_warm hW hU hV C.2.2.2.2.2.2.2.2, by rw [hU]; exact hS⟩⟩ rfl hn hl.1 hst (lv_room hw) hd ⟨hc, hs⟩) hV fun v M' H1 locs1 hp hS1 hV1 => ?_
  exact kk v M' hp p l e s m args below meth c C H1 locs1 la hS1 hV1 hl
end PWS
/-- the k-th letter of the i-th constant -/
def chr (i k : Nat) : Int32 := (sBy.getD i []).getD k 0
theorem chr_ok : ∀ i, i < 5 → ∀ k, k < 4 → ((chr i k &&& 255).toUInt32 % 65536).toInt32 = chr i k ∧ narrow .char (.int (chr i k)) = .int (chr i k) := by decide +kernel
def iJ0_length_8abf5 : MI := (yJ0_length_8abf5, cJ0_length_8abf5, 1, some .int, 0, 0)
theorem moJ0_length_8abf5 : MO iJ0_length_8abf5 0 := ⟨by decide +kernel, mgG 451 (by decide +kernel) rfl, mgG 79 (by decide +kernel) rfl, ⟨by decide +kernel, by decide +kernel⟩, by decide +kernel, by decide⟩
def iJ0_charAt_5068e : MI := (yJ0_charAt_5068e, cJ0_charAt_5068e, 2, some .char, 0, 0)
theorem moJ0_charAt_5068e : MO iJ0_charAt_5068e 1 := ⟨by decide +kernel, mgG 461 (by decide +kernel) rfl, mgG 79 (by decide +kernel) rfl, ⟨by decide +kernel, by decide +kernel⟩, by decide +kernel, by decide⟩
def iJ0_coder_7d493 : MI := (yJ0_coder_7d493, cJ0_coder_7d493, 1, some .byte, 0, 0)
theorem moJ0_coder_7d493 : MO iJ0_coder_7d493 0 := ⟨by decide +kernel, mgG 455 (by decide +kernel) rfl, mgG 79 (by decide +kernel) rfl, ⟨by decide +kernel, by decide +kernel⟩, by decide +kernel, by decide⟩
def iJ0_isLatin1_aae02 : MI := (yJ0_isLatin1_aae02, cJ0_isLatin1_aae02, 1, some .boolean, 0, 0)
theorem moJ0_isLatin1_aae02 : MO iJ0_isLatin1_aae02 0 := ⟨by decide +kernel, mgG 465 (by decide +kernel) rfl, mgG 79 (by decide +kernel) rfl, ⟨by decide +kernel, by decide +kernel⟩, by decide +kernel, by decide⟩
def iJ0_checkIndex_df160 : MI := (yJ0_checkIndex_df160, cJ0_checkIndex_df160, 2, none, 0, 0)
theorem moJ0_checkIndex_df160 : MO iJ0_checkIndex_df160 2 := ⟨by decide +kernel, mgG 471 (by decide +kernel) rfl, mgG 79 (by decide +kernel) rfl, ⟨by decide +kernel, by decide +kernel⟩, by decide +kernel, by decide⟩
def iJ1_charAt_3b067 : MI := (yJ1_charAt_3b067, cJ1_charAt_3b067, 2, some .char, 0, 0)
theorem moJ1_charAt_3b067 : MO iJ1_charAt_3b067 2 := ⟨by decide +kernel, mgG 468 (by decide +kernel) rfl, mgG 80 (by decide +kernel) rfl, ⟨by decide +kernel, by decide +kernel⟩, by decide +kernel, by decide⟩
def iJ3_checkIndex_8e157 : MI := (yJ3_checkIndex_8e157, cJ3_checkIndex_8e157, 3, some .int, 0, 0)
theorem moJ3_checkIndex_8e157 : MO iJ3_checkIndex_8e157 3 := ⟨by decide +kernel, mgG 476 (by decide +kernel) rfl, mgG 81 (by decide +kernel) rfl, ⟨by decide +kernel, by decide +kernel⟩, by decide +kernel, by decide⟩
theorem cwRX9_104 : CVs RX9 104 iJ0_length_8abf5 := ⟨mgG 448 (by decide +kernel) rfl, mgG 449 (by decide +kernel) rfl, mgG 450 (by decide +kernel) rfl⟩
theorem cwRX9_109 : CVs RX9 109 iJ0_charAt_5068e := ⟨mgG 458 (by decide +kernel) rfl, mgG 459 (by decide +kernel) rfl, mgG 460 (by decide +kernel) rfl⟩
theorem cwRJ0_335 : CVs RJ0 335 iJ0_coder_7d493 := ⟨mgG 452 (by decide +kernel) rfl, mgG 453 (by decide +kernel) rfl, mgG 454 (by decide +kernel) rfl⟩
theorem cwRJ0_492 : CVs RJ0 492 iJ0_isLatin1_aae02 := ⟨mgG 462 (by decide +kernel) rfl, mgG 463 (by decide +kernel) rfl, mgG 464 (by decide +kernel) rfl⟩
theorem cwRJ0_495 : CSt RJ0 495 iJ1_charAt_3b067 := ⟨mgG 466 (by decide +kernel) rfl, mgG 467 (by decide +kernel) rfl⟩
theorem cwRJ1_9 : CSt RJ1 9 iJ0_checkIndex_df160 := ⟨mgG 469 (by decide +kernel) rfl, mgG 470 (by decide +kernel) rfl⟩
theorem cwRJ0_1059 : CSt RJ0 1059 iJ3_checkIndex_8e157 := ⟨mgG 474 (by decide +kernel) rfl, mgG 475 (by decide +kernel) rfl⟩
set_option maxRecDepth 100000 in
set_option maxHeartbeats 4000000 in
theorem spJ0_coder {G : GE} {d : Nat} {M : Mm} {i : Nat} (hi : i < 5) : Mt G iJ0_coder_7d493 d [.ref (g_s G i)] M (Rt 0 M) := by
  refine Mt_in 0 (ls := [.ref (g_s G i)]) moJ0_coder_7d493 (Nat.le_of_ble_eq_true rfl) rfl ?_
  refine PW_gcs dJ0_coder_7d493_0 (mgG 456 (by decide +kernel) rfl) ?_
  refine PW_if_eq 13 dJ0_coder_7d493_3 (by decide) (fun q => absurd q (by decide)) (fun _ => ?_)
  refine PW_aload_n (i := 0) dJ0_coder_7d493_6 rfl rfl ?_
  refine PW_scod hi dJ0_coder_7d493_7 (mgG 1255 (by decide +kernel) rfl) ?_
  refine PW_goto 14 dJ0_coder_7d493_10 (by decide) ?_
  refine PW_ireturn rfl rfl dJ0_coder_7d493_14 (Nat.le_of_ble_eq_true rfl) (Nat.le_of_ble_eq_true rfl) ?_
  exact rt_i rfl
set_option maxRecDepth 100000 in
set_option maxHeartbeats 4000000 in
theorem spJ0_isLatin1 {G : GE} {d : Nat} {M : Mm} {i : Nat} (hi : i < 5) : Mt G iJ0_isLatin1_aae02 d [.ref (g_s G i)] M (Rt 1 M) := by
  refine Mt_in 0 (ls := [.ref (g_s G i)]) moJ0_isLatin1_aae02 (Nat.le_of_ble_eq_true rfl) rfl ?_
  refine PW_gcs dJ0_isLatin1_aae02_0 (mgG 456 (by decide +kernel) rfl) ?_
  refine PW_if_eq 17 dJ0_isLatin1_aae02_3 (by decide) (fun q => absurd q (by decide)) (fun _ => ?_)
  refine PW_aload_n (i := 0) dJ0_isLatin1_aae02_6 rfl rfl ?_
  refine PW_scod hi dJ0_isLatin1_aae02_7 (mgG 1255 (by decide +kernel) rfl) ?_
  refine PW_if_ne 17 dJ0_isLatin1_aae02_10 (by decide) (fun q => absurd rfl q) (fun _ => ?_)
  refine PW_iconst (v := 1) dJ0_isLatin1_aae02_13 (by decide) ?_
  refine PW_goto 18 dJ0_isLatin1_aae02_14 (by decide) ?_
  refine PW_ireturn rfl rfl dJ0_isLatin1_aae02_18 (Nat.le_of_ble_eq_true rfl) (Nat.le_of_ble_eq_true rfl) ?_
  exact rt_i rfl
set_option maxRecDepth 100000 in
set_option maxHeartbeats 4000000 in
theorem spJ0_length {G : GE} {d : Nat} {M : Mm} {i : Nat} (hi : i < 5) (hd : 1 ≤ d) : Mt G iJ0_length_8abf5 d [.ref (g_s G i)] M (Rt 4 M) := by
  refine Mt_in 0 (ls := [.ref (g_s G i)]) moJ0_length_8abf5 (Nat.le_of_ble_eq_true rfl) rfl ?_
  refine PW_aload_n (i := 0) dJ0_length_8abf5_0 rfl rfl ?_
  refine PW_sval hi dJ0_length_8abf5_1 (mgG 1254 (by decide +kernel) rfl) ?_
  refine PW_blen hi dJ0_length_8abf5_4 ?_
  refine PW_aload_n (i := 0) dJ0_length_8abf5_5 rfl rfl ?_
  refine PW_callVS hi dJ0_length_8abf5_6 moJ0_coder_7d493 cwRJ0_335 (by omega) rfl rfl (Nat.le_of_ble_eq_true rfl) (Nat.le_of_ble_eq_true rfl) (Nat.le_of_ble_eq_true rfl) (spJ0_coder (d := d - 1) hi) (fun v M1 hq => ?_)
  obtain ⟨rfl, rfl⟩ := hq
  refine PW_ishr dJ0_length_8abf5_9 ?_
  refine PW_ireturn rfl rfl dJ0_length_8abf5_10 (Nat.le_of_ble_eq_true rfl) (Nat.le_of_ble_eq_true rfl) ?_
  exact rt_i rfl
set_option maxRecDepth 100000 in
set_option maxHeartbeats 4000000 in
theorem spJ3_checkIndex {G : GE} {d : Nat} {M : Mm} {k : Nat} (hk : k < 4) {v : Value} (hv : v = .null ∨ ∃ t, v = .ref t) : Mt G iJ3_checkIndex_8e157 d [.int (nI k), .int 4, v] M (Rt (nI k) M) := by
  rcases hv with rfl | ⟨t, rfl⟩
  · refine Mt_in 0 (ls := [.int (nI k), .int 4, .null]) moJ3_checkIndex_8e157 (Nat.le_of_ble_eq_true rfl) rfl ?_
    refine PW_iload_n (i := 0) dJ3_checkIndex_8e157_0 rfl rfl ?_
    refine PW_if_lt 9 dJ3_checkIndex_8e157_1 (by decide) (fun q => absurd q (nI_pos (by omega))) (fun _ => ?_)
    refine PW_iload_n (i := 0) dJ3_checkIndex_8e157_4 rfl rfl ?_
    refine PW_iload_n (i := 1) dJ3_checkIndex_8e157_5 rfl rfl ?_
    refine PW_icmp_lt 16 dJ3_checkIndex_8e157_6 (by decide) (fun _ => ?_) (fun q => absurd (show nI k < nI 4 from nI_lt hk (by decide)) q)
    refine PW_iload_n (i := 0) dJ3_checkIndex_8e157_16 rfl rfl ?_
    refine PW_ireturn rfl rfl dJ3_checkIndex_8e157_17 (Nat.le_of_ble_eq_true rfl) (Nat.le_of_ble_eq_true rfl) ?_
    exact rt_i rfl
  · refine Mt_in 0 (ls := [.int (nI k), .int 4, .ref t]) moJ3_checkIndex_8e157 (Nat.le_of_ble_eq_true rfl) rfl ?_
    refine PW_iload_n (i := 0) dJ3_checkIndex_8e157_0 rfl rfl ?_
    refine PW_if_lt 9 dJ3_checkIndex_8e157_1 (by decide) (fun q => absurd q (nI_pos (by omega))) (fun _ => ?_)
    refine PW_iload_n (i := 0) dJ3_checkIndex_8e157_4 rfl rfl ?_
    refine PW_iload_n (i := 1) dJ3_checkIndex_8e157_5 rfl rfl ?_
    refine PW_icmp_lt 16 dJ3_checkIndex_8e157_6 (by decide) (fun _ => ?_) (fun q => absurd (show nI k < nI 4 from nI_lt hk (by decide)) q)
    refine PW_iload_n (i := 0) dJ3_checkIndex_8e157_16 rfl rfl ?_
    refine PW_ireturn rfl rfl dJ3_checkIndex_8e157_17 (Nat.le_of_ble_eq_true rfl) (Nat.le_of_ble_eq_true rfl) ?_
    exact rt_i rfl
set_option maxRecDepth 100000 in
set_option maxHeartbeats 4000000 in
theorem spJ0_checkIndex {G : GE} {d : Nat} {M : Mm} {k : Nat} (hk : k < 4) (hd : 1 ≤ d) : Mt G iJ0_checkIndex_df160 d [.int (nI k), .int 4] M (fun v M' => v = none ∧ M' = M) := by
  refine Mt_in 0 (ls := [.int (nI k), .int 4]) moJ0_checkIndex_df160 (Nat.le_of_ble_eq_true rfl) rfl ?_
  refine PW_iload_n (i := 0) dJ0_checkIndex_df160_0 rfl rfl ?_
  refine PW_iload_n (i := 1) dJ0_checkIndex_df160_1 rfl rfl ?_
  refine PW_gsf dJ0_checkIndex_df160_2 (mgG 472 (by decide +kernel) rfl) (fun w hw => ?_)
  refine PW_callS (As := [.int (nI k), .int 4, w]) dJ0_checkIndex_df160_5 moJ3_checkIndex_8e157 cwRJ0_1059 (by omega) rfl rfl (Nat.le_of_ble_eq_true rfl) (Nat.le_of_ble_eq_true rfl) (Nat.le_of_ble_eq_true rfl) (spJ3_checkIndex (d := d - 1) hk hw) (fun v M1 hq => ?_)
  obtain ⟨rfl, rfl⟩ := hq
  refine PW_pop dJ0_checkIndex_df160_8 rfl ?_
  refine PW_return rfl dJ0_checkIndex_df160_9 (Nat.le_of_ble_eq_true rfl) (Nat.le_of_ble_eq_true rfl) ?_
  exact ⟨rfl, rfl⟩
set_option maxRecDepth 100000 in
set_option maxHeartbeats 4000000 in
theorem spJ1_charAt {G : GE} {d : Nat} {M : Mm} {i k : Nat} (hi : i < 5) (hk : k < 4) (hd : 2 ≤ d) : Mt G iJ1_charAt_3b067 d [.ref (g_s G (i + 5)), .int (nI k)] M (Rt (chr i k) M) := by
  refine Mt_in 0 (ls := [.ref (g_s G (i + 5)), .int (nI k)]) moJ1_charAt_3b067 (Nat.le_of_ble_eq_true rfl) rfl ?_
  refine PW_iload_n (i := 1) dJ1_charAt_3b067_0 rfl rfl ?_
  refine PW_aload_n (i := 0) dJ1_charAt_3b067_1 rfl rfl ?_
  refine PW_blen hi dJ1_charAt_3b067_2 ?_
  refine PW_callS dJ1_charAt_3b067_3 moJ0_checkIndex_df160 cwRJ1_9 (by omega) rfl rfl (Nat.le_of_ble_eq_true rfl) (Nat.le_of_ble_eq_true rfl) (Nat.le_of_ble_eq_true rfl) (spJ0_checkIndex (d := d - 1) hk (by omega)) (fun v M1 hq => ?_)
  obtain ⟨rfl, rfl⟩ := hq
  refine PW_aload_n (i := 0) dJ1_charAt_3b067_6 rfl rfl ?_
  refine PW_iload_n (i := 1) dJ1_charAt_3b067_7 rfl rfl ?_
  refine PW_bald hi hk dJ1_charAt_3b067_8 ?_
  refine PW_sipush (v := 255) dJ1_charAt_3b067_9 (by decide) ?_
  refine PW_iand dJ1_charAt_3b067_12 ?_
  refine PW_i2c dJ1_charAt_3b067_13 (chr_ok i hi k hk).1 ?_
  refine PW_ireturn rfl (chr_ok i hi k hk).2 dJ1_charAt_3b067_14 (Nat.le_of_ble_eq_true rfl) (Nat.le_of_ble_eq_true rfl) ?_
  exact rt_i rfl
set_option maxRecDepth 100000 in
set_option maxHeartbeats 4000000 in
theorem spJ0_charAt {G : GE} {d : Nat} {M : Mm} {i k : Nat} (hi : i < 5) (hk : k < 4) (hd : 3 ≤ d) : Mt G iJ0_charAt_5068e d [.ref (g_s G i), .int (nI k)] M (Rt (chr i k) M) := by
  refine Mt_in 0 (ls := [.ref (g_s G i), .int (nI k)]) moJ0_charAt_5068e (Nat.le_of_ble_eq_true rfl) rfl ?_
  refine PW_aload_n (i := 0) dJ0_charAt_5068e_0 rfl rfl ?_
  refine PW_callVS hi dJ0_charAt_5068e_1 moJ0_isLatin1_aae02 cwRJ0_492 (by omega) rfl rfl (Nat.le_of_ble_eq_true rfl) (Nat.le_of_ble_eq_true rfl) (Nat.le_of_ble_eq_true rfl) (spJ0_isLatin1 (d := d - 1) hi) (fun v M1 hq => ?_)
  obtain ⟨rfl, rfl⟩ := hq
  refine PW_if_eq 16 dJ0_charAt_5068e_4 (by decide) (fun q => absurd q (by decide)) (fun _ => ?_)
  refine PW_aload_n (i := 0) dJ0_charAt_5068e_7 rfl rfl ?_
  refine PW_sval hi dJ0_charAt_5068e_8 (mgG 1254 (by decide +kernel) rfl) ?_
  refine PW_iload_n (i := 1) dJ0_charAt_5068e_11 rfl rfl ?_
  refine PW_callS dJ0_charAt_5068e_12 moJ1_charAt_3b067 cwRJ0_495 (by omega) rfl rfl (Nat.le_of_ble_eq_true rfl) (Nat.le_of_ble_eq_true rfl) (Nat.le_of_ble_eq_true rfl) (spJ1_charAt (d := d - 1) hi hk (by omega)) (fun v M1 hq => ?_)
  obtain ⟨rfl, rfl⟩ := hq
  refine PW_ireturn rfl (chr_ok i hi k hk).2 dJ0_charAt_5068e_15 (Nat.le_of_ble_eq_true rfl) (Nat.le_of_ble_eq_true rfl) ?_
  exact rt_i rfl

/-! ===== the law: calls 0 to 15 ===== -/
theorem lg_cmp_self (x : Int64) : lg_cmp x x = 0 := by unfold lg_cmp; simp
set_option maxRecDepth 100000 in
set_option maxHeartbeats 4000000 in
theorem law_ship {G : GE} {nm : String} {d : Nat} {Post : Option Value → Mm → Prop} {X Y j : Nat} {s : Ab} {M : Mm} {nc ns : Nat} (hd : 30 ≤ d) (hXY : X + 211 = Y) (hL : (g_x G).2.1 ≤ 256) (hj : 4 * j + 4 ≤ (g_x G).2.1) (hC : CI M X s) (hM : MI2 M Y s) (hV : AV j s) (hnc : nc + 0 ≤ 600000) (hns : ns + 0 ≤ 7302250) (hnx : ∀ (M' : Mm) (s' : Ab), CI M' X s' → MI2 M' Y s' → AV (j + 1) s' → PW G (iLw nm) d Post 927 [.ref (g_x G).1, .ref X, .ref Y, .int (nI (4 * j))] [] M' nc ns) : PW G (iLw nm) d Post 172 [.ref (g_x G).1, .ref X, .ref Y, .int (nI (4 * j))] [] M nc ns := by
  obtain ⟨g, hP, hR⟩ := hC
  refine PW_aload_n (i := 1) dL_law_172 rfl rfl ?_
  refine PW_callV dL_law_173 moX11_ship cvL_13 (show mt M X = (11, 0) from hP.1.1) (by omega : d - 1 < d) rfl rfl (Nat.le_of_ble_eq_true rfl) (hnc) (hns) (spX11_ship (d := d - 1) (i := mi M) (S := M.2) (by omega) hP hR hV (by omega) ) (fun v1 M1 hq => ?_)
  obtain ⟨rfl, hI1, hF1⟩ := hq
  obtain ⟨hY1, hR1⟩ := hM.fr (M' := M1) hF1 (Nat.le_of_eq hXY)
  refine PW_aload_n (i := 2) dL_law_176 rfl rfl ?_
  refine PW_callV dL_law_177 moX12_ship cvL_17 (show mt M1 Y = (12, 0) from hY1.1) (by omega : d - 1 < d) rfl rfl (Nat.le_of_ble_eq_true rfl) (hnc) (hns) (spX12_ship (d := d - 1) (i := mi M1) (S := M1.2) hY1 hR1 hV (by omega) (by omega) ) (fun v2 M2 hq => ?_)
  obtain ⟨rfl, hI2, hF2⟩ := hq
  refine PW_icmp_eq 927 dL_law_180 (by decide) (fun _ => ?_) (fun h => absurd rfl h)
  exact hnx M2 _ (hI1.fr (keep_ship hV) hF2 (Nat.le_of_eq hXY)) hI2 (keep_ship hV)
set_option maxRecDepth 100000 in
set_option maxHeartbeats 4000000 in
theorem law_rock {G : GE} {nm : String} {d : Nat} {Post : Option Value → Mm → Prop} {X Y j : Nat} {s : Ab} {M : Mm} {nc ns : Nat} (hd : 30 ≤ d) (hXY : X + 211 = Y) (hL : (g_x G).2.1 ≤ 256) (hj : 4 * j + 4 ≤ (g_x G).2.1) (hC : CI M X s) (hM : MI2 M Y s) (hV : AV j s) (hnc : nc + 0 ≤ 600000) (hns : ns + 0 ≤ 7302250) (hnx : ∀ (M' : Mm) (s' : Ab), CI M' X s' → MI2 M' Y s' → AV (j + 1) s' → PW G (iLw nm) d Post 927 [.ref (g_x G).1, .ref X, .ref Y, .int (nI (4 * j))] [] M' nc ns) : PW G (iLw nm) d Post 185 [.ref (g_x G).1, .ref X, .ref Y, .int (nI (4 * j))] [] M nc ns := by
  obtain ⟨g, hP, hR⟩ := hC
  refine PW_aload_n (i := 1) dL_law_185 rfl rfl ?_
  refine PW_aload_n (i := 0) dL_law_186 rfl rfl ?_
  refine PW_iload_n (i := 3) dL_law_187 rfl rfl ?_
  refine PW_iconst (v := 1) dL_law_188 (by decide) ?_
  refine PW_iadd dL_law_189 ?_
  refine PW_sld (j := 4 * j + 1) dL_law_190 (n4a j 1 rfl) (by omega) hL ?_
  refine PW_callV dL_law_191 moX11_rock cvL_18 (show mt M X = (11, 0) from hP.1.1) (by omega : d - 1 < d) rfl rfl (Nat.le_of_ble_eq_true rfl) (hnc) (hns) (spX11_rock (d := d - 1) (i := mi M) (S := M.2) (by omega) hP hR hV (by omega) ((g_x G).2.2 (4 * j + 1))) (fun v1 M1 hq => ?_)
  obtain ⟨rfl, hI1, hF1⟩ := hq
  obtain ⟨hY1, hR1⟩ := hM.fr (M' := M1) hF1 (Nat.le_of_eq hXY)
  refine PW_aload_n (i := 2) dL_law_194 rfl rfl ?_
  refine PW_aload_n (i := 0) dL_law_195 rfl rfl ?_
  refine PW_iload_n (i := 3) dL_law_196 rfl rfl ?_
  refine PW_iconst (v := 1) dL_law_197 (by decide) ?_
  refine PW_iadd dL_law_198 ?_
  refine PW_sld (j := 4 * j + 1) dL_law_199 (n4a j 1 rfl) (by omega) hL ?_
  refine PW_callV dL_law_200 moX12_rock cvL_22 (show mt M1 Y = (12, 0) from hY1.1) (by omega : d - 1 < d) rfl rfl (Nat.le_of_ble_eq_true rfl) (hnc) (hns) (spX12_rock (d := d - 1) (i := mi M1) (S := M1.2) hY1 hR1 hV (by omega) (by omega) ((g_x G).2.2 (4 * j + 1))) (fun v2 M2 hq => ?_)
  obtain ⟨rfl, hI2, hF2⟩ := hq
  refine PW_icmp_eq 927 dL_law_203 (by decide) (fun _ => ?_) (fun h => absurd rfl h)
  exact hnx M2 _ (hI1.fr (keep_rock hV ((g_x G).2.2 (4 * j + 1))) hF2 (Nat.le_of_eq hXY)) hI2 (keep_rock hV ((g_x G).2.2 (4 * j + 1)))
set_option maxRecDepth 100000 in
set_option maxHeartbeats 4000000 in
theorem law_hand {G : GE} {nm : String} {d : Nat} {Post : Option Value → Mm → Prop} {X Y j : Nat} {s : Ab} {M : Mm} {nc ns : Nat} (hd : 30 ≤ d) (hXY : X + 211 = Y) (hL : (g_x G).2.1 ≤ 256) (hj : 4 * j + 4 ≤ (g_x G).2.1) (hC : CI M X s) (hM : MI2 M Y s) (hV : AV j s) (hnc : nc + 0 ≤ 600000) (hns : ns + 0 ≤ 7302250) (hnx : ∀ (M' : Mm) (s' : Ab), CI M' X s' → MI2 M' Y s' → AV (j + 1) s' → PW G (iLw nm) d Post 927 [.ref (g_x G).1, .ref X, .ref Y, .int (nI (4 * j))] [] M' nc ns) : PW G (iLw nm) d Post 208 [.ref (g_x G).1, .ref X, .ref Y, .int (nI (4 * j))] [] M nc ns := by
  obtain ⟨g, hP, hR⟩ := hC
  refine PW_aload_n (i := 1) dL_law_208 rfl rfl ?_
  refine PW_aload_n (i := 0) dL_law_209 rfl rfl ?_
  refine PW_iload_n (i := 3) dL_law_210 rfl rfl ?_
  refine PW_iconst (v := 1) dL_law_211 (by decide) ?_
  refine PW_iadd dL_law_212 ?_
  refine PW_sld (j := 4 * j + 1) dL_law_213 (n4a j 1 rfl) (by omega) hL ?_
  refine PW_aload_n (i := 0) dL_law_214 rfl rfl ?_
  refine PW_iload_n (i := 3) dL_law_215 rfl rfl ?_
  refine PW_iconst (v := 2) dL_law_216 (by decide) ?_
  refine PW_iadd dL_law_217 ?_
  refine PW_sld (j := 4 * j + 2) dL_law_218 (n4a j 2 rfl) (by omega) hL ?_
  refine PW_aload_n (i := 0) dL_law_219 rfl rfl ?_
  refine PW_iload_n (i := 3) dL_law_220 rfl rfl ?_
  refine PW_iconst (v := 3) dL_law_221 (by decide) ?_
  refine PW_iadd dL_law_222 ?_
  refine PW_sld (j := 4 * j + 3) dL_law_223 (n4a j 3 rfl) (by omega) hL ?_
  refine PW_callV dL_law_224 moX11_hand cvL_23 (show mt M X = (11, 0) from hP.1.1) (by omega : d - 1 < d) rfl rfl (Nat.le_of_ble_eq_true rfl) (hnc) (hns) (spX11_hand (d := d - 1) (i := mi M) (S := M.2) (by omega) hP hR hV (by omega) ((g_x G).2.2 (4 * j + 1)) ((g_x G).2.2 (4 * j + 2)) ((g_x G).2.2 (4 * j + 3))) (fun v1 M1 hq => ?_)
  obtain ⟨rfl, hI1, hF1⟩ := hq
  obtain ⟨hY1, hR1⟩ := hM.fr (M' := M1) hF1 (Nat.le_of_eq hXY)
  refine PW_aload_n (i := 2) dL_law_227 rfl rfl ?_
  refine PW_aload_n (i := 0) dL_law_228 rfl rfl ?_
  refine PW_iload_n (i := 3) dL_law_229 rfl rfl ?_
  refine PW_iconst (v := 1) dL_law_230 (by decide) ?_
  refine PW_iadd dL_law_231 ?_
  refine PW_sld (j := 4 * j + 1) dL_law_232 (n4a j 1 rfl) (by omega) hL ?_
  refine PW_aload_n (i := 0) dL_law_233 rfl rfl ?_
  refine PW_iload_n (i := 3) dL_law_234 rfl rfl ?_
  refine PW_iconst (v := 2) dL_law_235 (by decide) ?_
  refine PW_iadd dL_law_236 ?_
  refine PW_sld (j := 4 * j + 2) dL_law_237 (n4a j 2 rfl) (by omega) hL ?_
  refine PW_aload_n (i := 0) dL_law_238 rfl rfl ?_
  refine PW_iload_n (i := 3) dL_law_239 rfl rfl ?_
  refine PW_iconst (v := 3) dL_law_240 (by decide) ?_
  refine PW_iadd dL_law_241 ?_
  refine PW_sld (j := 4 * j + 3) dL_law_242 (n4a j 3 rfl) (by omega) hL ?_
  refine PW_callV dL_law_243 moX12_hand cvL_27 (show mt M1 Y = (12, 0) from hY1.1) (by omega : d - 1 < d) rfl rfl (Nat.le_of_ble_eq_true rfl) (hnc) (hns) (spX12_hand (d := d - 1) (i := mi M1) (S := M1.2) hY1 hR1 hV (by omega) (by omega) ((g_x G).2.2 (4 * j + 1)) ((g_x G).2.2 (4 * j + 2)) ((g_x G).2.2 (4 * j + 3))) (fun v2 M2 hq => ?_)
  obtain ⟨rfl, hI2, hF2⟩ := hq
  refine PW_icmp_eq 927 dL_law_246 (by decide) (fun _ => ?_) (fun h => absurd rfl h)
  exact hnx M2 _ (hI1.fr (keep_hand hV ((g_x G).2.2 (4 * j + 1)) ((g_x G).2.2 (4 * j + 2)) ((g_x G).2.2 (4 * j + 3))) hF2 (Nat.le_of_eq hXY)) hI2 (keep_hand hV ((g_x G).2.2 (4 * j + 1)) ((g_x G).2.2 (4 * j + 2)) ((g_x G).2.2 (4 * j + 3)))
set_option maxRecDepth 100000 in
set_option maxHeartbeats 4000000 in
theorem law_type {G : GE} {nm : String} {d : Nat} {Post : Option Value → Mm → Prop} {X Y j : Nat} {s : Ab} {M : Mm} {nc ns : Nat} (hd : 30 ≤ d) (hXY : X + 211 = Y) (hL : (g_x G).2.1 ≤ 256) (hj : 4 * j + 4 ≤ (g_x G).2.1) (hC : CI M X s) (hM : MI2 M Y s) (hV : AV j s) (hnc : nc + 0 ≤ 600000) (hns : ns + 0 ≤ 7302250) (hnx : ∀ (M' : Mm) (s' : Ab), CI M' X s' → MI2 M' Y s' → AV (j + 1) s' → PW G (iLw nm) d Post 927 [.ref (g_x G).1, .ref X, .ref Y, .int (nI (4 * j))] [] M' nc ns) : PW G (iLw nm) d Post 251 [.ref (g_x G).1, .ref X, .ref Y, .int (nI (4 * j))] [] M nc ns := by
  obtain ⟨g, hP, hR⟩ := hC
  refine PW_aload_n (i := 1) dL_law_251 rfl rfl ?_
  refine PW_aload_n (i := 0) dL_law_252 rfl rfl ?_
  refine PW_iload_n (i := 3) dL_law_253 rfl rfl ?_
  refine PW_iconst (v := 1) dL_law_254 (by decide) ?_
  refine PW_iadd dL_law_255 ?_
  refine PW_sld (j := 4 * j + 1) dL_law_256 (n4a j 1 rfl) (by omega) hL ?_
  refine PW_callV dL_law_257 moX11_type cvL_28 (show mt M X = (11, 0) from hP.1.1) (by omega : d - 1 < d) rfl rfl (Nat.le_of_ble_eq_true rfl) (hnc) (hns) (spX11_type (d := d - 1) (i := mi M) (S := M.2) (by omega) hP hR hV (by omega) ((g_x G).2.2 (4 * j + 1))) (fun v1 M1 hq => ?_)
  obtain ⟨rfl, hI1, hF1⟩ := hq
  obtain ⟨hY1, hR1⟩ := hM.fr (M' := M1) hF1 (Nat.le_of_eq hXY)
  refine PW_aload_n (i := 2) dL_law_260 rfl rfl ?_
  refine PW_aload_n (i := 0) dL_law_261 rfl rfl ?_
  refine PW_iload_n (i := 3) dL_law_262 rfl rfl ?_
  refine PW_iconst (v := 1) dL_law_263 (by decide) ?_
  refine PW_iadd dL_law_264 ?_
  refine PW_sld (j := 4 * j + 1) dL_law_265 (n4a j 1 rfl) (by omega) hL ?_
  refine PW_callV dL_law_266 moX12_type cvL_31 (show mt M1 Y = (12, 0) from hY1.1) (by omega : d - 1 < d) rfl rfl (Nat.le_of_ble_eq_true rfl) (hnc) (hns) (spX12_type (d := d - 1) (i := mi M1) (S := M1.2) hY1 hR1 hV (by omega) (by omega) ((g_x G).2.2 (4 * j + 1))) (fun v2 M2 hq => ?_)
  obtain ⟨rfl, hI2, hF2⟩ := hq
  refine PW_icmp_eq 927 dL_law_269 (by decide) (fun _ => ?_) (fun h => absurd rfl h)
  exact hnx M2 _ (hI1.fr (keep_type hV ((g_x G).2.2 (4 * j + 1))) hF2 (Nat.le_of_eq hXY)) hI2 (keep_type hV ((g_x G).2.2 (4 * j + 1)))
set_option maxRecDepth 100000 in
set_option maxHeartbeats 4000000 in
theorem law_clear {G : GE} {nm : String} {d : Nat} {Post : Option Value → Mm → Prop} {X Y j : Nat} {s : Ab} {M : Mm} {nc ns : Nat} (hd : 30 ≤ d) (hXY : X + 211 = Y) (hL : (g_x G).2.1 ≤ 256) (hj : 4 * j + 4 ≤ (g_x G).2.1) (hC : CI M X s) (hM : MI2 M Y s) (hV : AV j s) (hnc : nc + 0 ≤ 600000) (hns : ns + 0 ≤ 7302250) (hnx : ∀ (M' : Mm) (s' : Ab), CI M' X s' → MI2 M' Y s' → AV (j + 1) s' → PW G (iLw nm) d Post 927 [.ref (g_x G).1, .ref X, .ref Y, .int (nI (4 * j))] [] M' nc ns) : PW G (iLw nm) d Post 274 [.ref (g_x G).1, .ref X, .ref Y, .int (nI (4 * j))] [] M nc ns := by
  obtain ⟨g, hP, hR⟩ := hC
  refine PW_aload_n (i := 1) dL_law_274 rfl rfl ?_
  refine PW_callV dL_law_275 moX11_clear cvL_32 (show mt M X = (11, 0) from hP.1.1) (by omega : d - 1 < d) rfl rfl (Nat.le_of_ble_eq_true rfl) (hnc) (hns) (spX11_clear (d := d - 1) (i := mi M) (S := M.2) (by omega) hP hR hV (by omega) ) (fun v1 M1 hq => ?_)
  obtain ⟨rfl, hI1, hF1⟩ := hq
  obtain ⟨hY1, hR1⟩ := hM.fr (M' := M1) hF1 (Nat.le_of_eq hXY)
  refine PW_aload_n (i := 2) dL_law_278 rfl rfl ?_
  refine PW_callV dL_law_279 moX12_clear cvL_35 (show mt M1 Y = (12, 0) from hY1.1) (by omega : d - 1 < d) rfl rfl (Nat.le_of_ble_eq_true rfl) (hnc) (hns) (spX12_clear (d := d - 1) (i := mi M1) (S := M1.2) hY1 hR1 hV (by omega) (by omega) ) (fun v2 M2 hq => ?_)
  obtain ⟨rfl, hI2, hF2⟩ := hq
  refine PW_icmp_eq 927 dL_law_282 (by decide) (fun _ => ?_) (fun h => absurd rfl h)
  exact hnx M2 _ (hI1.fr (keep_clear hV) hF2 (Nat.le_of_eq hXY)) hI2 (keep_clear hV)
set_option maxRecDepth 100000 in
set_option maxHeartbeats 4000000 in
theorem law_read {G : GE} {nm : String} {d : Nat} {Post : Option Value → Mm → Prop} {X Y j : Nat} {s : Ab} {M : Mm} {nc ns : Nat} (hd : 30 ≤ d) (hXY : X + 211 = Y) (hL : (g_x G).2.1 ≤ 256) (hj : 4 * j + 4 ≤ (g_x G).2.1) (hC : CI M X s) (hM : MI2 M Y s) (hV : AV j s) (hnc : nc + 0 ≤ 600000) (hns : ns + 0 ≤ 7302250) (hnx : ∀ (M' : Mm) (s' : Ab), CI M' X s' → MI2 M' Y s' → AV (j + 1) s' → PW G (iLw nm) d Post 927 [.ref (g_x G).1, .ref X, .ref Y, .int (nI (4 * j))] [] M' nc ns) : PW G (iLw nm) d Post 287 [.ref (g_x G).1, .ref X, .ref Y, .int (nI (4 * j))] [] M nc ns := by
  obtain ⟨g, hP, hR⟩ := hC
  refine PW_aload_n (i := 1) dL_law_287 rfl rfl ?_
  refine PW_callV dL_law_288 moX11_read cvL_36 (show mt M X = (11, 0) from hP.1.1) (by omega : d - 1 < d) rfl rfl (Nat.le_of_ble_eq_true rfl) (hnc) (hns) (spX11_read (d := d - 1) (i := mi M) (S := M.2) (by omega) hP hR hV (by omega) ) (fun v1 M1 hq => ?_)
  obtain ⟨rfl, hI1, hF1⟩ := hq
  obtain ⟨hY1, hR1⟩ := hM.fr (M' := M1) hF1 (Nat.le_of_eq hXY)
  refine PW_aload_n (i := 2) dL_law_291 rfl rfl ?_
  refine PW_callV dL_law_292 moX12_read cvL_39 (show mt M1 Y = (12, 0) from hY1.1) (by omega : d - 1 < d) rfl rfl (Nat.le_of_ble_eq_true rfl) (hnc) (hns) (spX12_read (d := d - 1) (i := mi M1) (S := M1.2) hY1 hR1 hV (by omega) (by omega) ) (fun v2 M2 hq => ?_)
  obtain ⟨rfl, hI2, hF2⟩ := hq
  refine PW_icmp_eq 927 dL_law_295 (by decide) (fun _ => ?_) (fun h => absurd rfl h)
  exact hnx M2 _ (hI1.fr (keep_read hV) hF2 (Nat.le_of_eq hXY)) hI2 (keep_read hV)
set_option maxRecDepth 100000 in
set_option maxHeartbeats 4000000 in
theorem law_feed {G : GE} {nm : String} {d : Nat} {Post : Option Value → Mm → Prop} {X Y j : Nat} {s : Ab} {M : Mm} {nc ns : Nat} (hd : 30 ≤ d) (hXY : X + 211 = Y) (hL : (g_x G).2.1 ≤ 256) (hj : 4 * j + 4 ≤ (g_x G).2.1) (hC : CI M X s) (hM : MI2 M Y s) (hV : AV j s) (hnc : nc + 0 ≤ 600000) (hns : ns + 0 ≤ 7302250) (hnx : ∀ (M' : Mm) (s' : Ab), CI M' X s' → MI2 M' Y s' → AV (j + 1) s' → PW G (iLw nm) d Post 927 [.ref (g_x G).1, .ref X, .ref Y, .int (nI (4 * j))] [] M' nc ns) : PW G (iLw nm) d Post 300 [.ref (g_x G).1, .ref X, .ref Y, .int (nI (4 * j))] [] M nc ns := by
  obtain ⟨g, hP, hR⟩ := hC
  refine PW_aload_n (i := 1) dL_law_300 rfl rfl ?_
  refine PW_aload_n (i := 0) dL_law_301 rfl rfl ?_
  refine PW_iload_n (i := 3) dL_law_302 rfl rfl ?_
  refine PW_iconst (v := 1) dL_law_303 (by decide) ?_
  refine PW_iadd dL_law_304 ?_
  refine PW_sld (j := 4 * j + 1) dL_law_305 (n4a j 1 rfl) (by omega) hL ?_
  refine PW_callV dL_law_306 moX11_feed cvL_40 (show mt M X = (11, 0) from hP.1.1) (by omega : d - 1 < d) rfl rfl (Nat.le_of_ble_eq_true rfl) (hnc) (hns) (spX11_feed (d := d - 1) (i := mi M) (S := M.2) (by omega) hP hR hV (by omega) ((g_x G).2.2 (4 * j + 1))) (fun v1 M1 hq => ?_)
  obtain ⟨rfl, hI1, hF1⟩ := hq
  obtain ⟨hY1, hR1⟩ := hM.fr (M' := M1) hF1 (Nat.le_of_eq hXY)
  refine PW_aload_n (i := 2) dL_law_309 rfl rfl ?_
  refine PW_aload_n (i := 0) dL_law_310 rfl rfl ?_
  refine PW_iload_n (i := 3) dL_law_311 rfl rfl ?_
  refine PW_iconst (v := 1) dL_law_312 (by decide) ?_
  refine PW_iadd dL_law_313 ?_
  refine PW_sld (j := 4 * j + 1) dL_law_314 (n4a j 1 rfl) (by omega) hL ?_
  refine PW_callV dL_law_315 moX12_feed cvL_43 (show mt M1 Y = (12, 0) from hY1.1) (by omega : d - 1 < d) rfl rfl (Nat.le_of_ble_eq_true rfl) (hnc) (hns) (spX12_feed (d := d - 1) (i := mi M1) (S := M1.2) hY1 hR1 hV (by omega) (by omega) ((g_x G).2.2 (4 * j + 1))) (fun v2 M2 hq => ?_)
  obtain ⟨rfl, hI2, hF2⟩ := hq
  refine PW_icmp_eq 927 dL_law_318 (by decide) (fun _ => ?_) (fun h => absurd rfl h)
  exact hnx M2 _ (hI1.fr (keep_feed hV ((g_x G).2.2 (4 * j + 1))) hF2 (Nat.le_of_eq hXY)) hI2 (keep_feed hV ((g_x G).2.2 (4 * j + 1)))
set_option maxRecDepth 100000 in
set_option maxHeartbeats 4000000 in
theorem law_watch {G : GE} {nm : String} {d : Nat} {Post : Option Value → Mm → Prop} {X Y j : Nat} {s : Ab} {M : Mm} {nc ns : Nat} (hd : 30 ≤ d) (hXY : X + 211 = Y) (hL : (g_x G).2.1 ≤ 256) (hj : 4 * j + 4 ≤ (g_x G).2.1) (hC : CI M X s) (hM : MI2 M Y s) (hV : AV j s) (hnc : nc + 0 ≤ 600000) (hns : ns + 0 ≤ 7302250) (hnx : ∀ (M' : Mm) (s' : Ab), CI M' X s' → MI2 M' Y s' → AV (j + 1) s' → PW G (iLw nm) d Post 927 [.ref (g_x G).1, .ref X, .ref Y, .int (nI (4 * j))] [] M' nc ns) : PW G (iLw nm) d Post 323 [.ref (g_x G).1, .ref X, .ref Y, .int (nI (4 * j))] [] M nc ns := by
  obtain ⟨g, hP, hR⟩ := hC
  refine PW_aload_n (i := 1) dL_law_323 rfl rfl ?_
  refine PW_callV dL_law_324 moX11_watch cvL_44 (show mt M X = (11, 0) from hP.1.1) (by omega : d - 1 < d) rfl rfl (Nat.le_of_ble_eq_true rfl) (hnc) (hns) (spX11_watch (d := d - 1) (i := mi M) (S := M.2) (by omega) hP hR hV (by omega) ) (fun v1 M1 hq => ?_)
  obtain ⟨rfl, hI1, hF1⟩ := hq
  obtain ⟨hY1, hR1⟩ := hM.fr (M' := M1) hF1 (Nat.le_of_eq hXY)
  refine PW_aload_n (i := 2) dL_law_327 rfl rfl ?_
  refine PW_callV dL_law_328 moX12_watch cvL_47 (show mt M1 Y = (12, 0) from hY1.1) (by omega : d - 1 < d) rfl rfl (Nat.le_of_ble_eq_true rfl) (hnc) (hns) (spX12_watch (d := d - 1) (i := mi M1) (S := M1.2) hY1 hR1 hV (by omega) (by omega) ) (fun v2 M2 hq => ?_)
  obtain ⟨rfl, hI2, hF2⟩ := hq
  refine PW_icmp_eq 927 dL_law_331 (by decide) (fun _ => ?_) (fun h => absurd rfl h)
  exact hnx M2 _ (hI1.fr (keep_watch hV) hF2 (Nat.le_of_eq hXY)) hI2 (keep_watch hV)
set_option maxRecDepth 100000 in
set_option maxHeartbeats 4000000 in
theorem law_undo {G : GE} {nm : String} {d : Nat} {Post : Option Value → Mm → Prop} {X Y j : Nat} {s : Ab} {M : Mm} {nc ns : Nat} (hd : 30 ≤ d) (hXY : X + 211 = Y) (hL : (g_x G).2.1 ≤ 256) (hj : 4 * j + 4 ≤ (g_x G).2.1) (hC : CI M X s) (hM : MI2 M Y s) (hV : AV j s) (hnc : nc + 0 ≤ 600000) (hns : ns + 0 ≤ 7302250) (hnx : ∀ (M' : Mm) (s' : Ab), CI M' X s' → MI2 M' Y s' → AV (j + 1) s' → PW G (iLw nm) d Post 927 [.ref (g_x G).1, .ref X, .ref Y, .int (nI (4 * j))] [] M' nc ns) : PW G (iLw nm) d Post 336 [.ref (g_x G).1, .ref X, .ref Y, .int (nI (4 * j))] [] M nc ns := by
  obtain ⟨g, hP, hR⟩ := hC
  refine PW_aload_n (i := 1) dL_law_336 rfl rfl ?_
  refine PW_callV dL_law_337 moX11_undo cvL_48 (show mt M X = (11, 0) from hP.1.1) (by omega : d - 1 < d) rfl rfl (Nat.le_of_ble_eq_true rfl) (hnc) (hns) (spX11_undo (d := d - 1) (i := mi M) (S := M.2) (by omega) hP hR hV (by omega) ) (fun v1 M1 hq => ?_)
  obtain ⟨rfl, hI1, hF1⟩ := hq
  obtain ⟨hY1, hR1⟩ := hM.fr (M' := M1) hF1 (Nat.le_of_eq hXY)
  refine PW_aload_n (i := 2) dL_law_340 rfl rfl ?_
  refine PW_callV dL_law_341 moX12_undo cvL_51 (show mt M1 Y = (12, 0) from hY1.1) (by omega : d - 1 < d) rfl rfl (Nat.le_of_ble_eq_true rfl) (hnc) (hns) (spX12_undo (d := d - 1) (i := mi M1) (S := M1.2) hY1 hR1 hV (by omega) (by omega) ) (fun v2 M2 hq => ?_)
  obtain ⟨rfl, hI2, hF2⟩ := hq
  refine PW_icmp_eq 927 dL_law_344 (by decide) (fun _ => ?_) (fun h => absurd rfl h)
  exact hnx M2 _ (hI1.fr (keep_undo hV) hF2 (Nat.le_of_eq hXY)) hI2 (keep_undo hV)
set_option maxRecDepth 100000 in
set_option maxHeartbeats 4000000 in
theorem law_of {G : GE} {nm : String} {d : Nat} {Post : Option Value → Mm → Prop} {X Y j : Nat} {s : Ab} {M : Mm} {nc ns : Nat} (hd : 30 ≤ d) (hXY : X + 211 = Y) (hL : (g_x G).2.1 ≤ 256) (hj : 4 * j + 4 ≤ (g_x G).2.1) (hC : CI M X s) (hM : MI2 M Y s) (hV : AV j s) (hnc : nc + 0 ≤ 600000) (hns : ns + 0 ≤ 7302250) (hnx : ∀ (M' : Mm) (s' : Ab), CI M' X s' → MI2 M' Y s' → AV (j + 1) s' → PW G (iLw nm) d Post 927 [.ref (g_x G).1, .ref X, .ref Y, .int (nI (4 * j))] [] M' nc ns) : PW G (iLw nm) d Post 349 [.ref (g_x G).1, .ref X, .ref Y, .int (nI (4 * j))] [] M nc ns := by
  obtain ⟨g, hP, hR⟩ := hC
  refine PW_aload_n (i := 1) dL_law_349 rfl rfl ?_
  refine PW_aload_n (i := 0) dL_law_350 rfl rfl ?_
  refine PW_iload_n (i := 3) dL_law_351 rfl rfl ?_
  refine PW_iconst (v := 1) dL_law_352 (by decide) ?_
  refine PW_iadd dL_law_353 ?_
  refine PW_sld (j := 4 * j + 1) dL_law_354 (n4a j 1 rfl) (by omega) hL ?_
  refine PW_aload_n (i := 0) dL_law_355 rfl rfl ?_
  refine PW_iload_n (i := 3) dL_law_356 rfl rfl ?_
  refine PW_iconst (v := 2) dL_law_357 (by decide) ?_
  refine PW_iadd dL_law_358 ?_
  refine PW_sld (j := 4 * j + 2) dL_law_359 (n4a j 2 rfl) (by omega) hL ?_
  refine PW_callV dL_law_360 moX11_of cvL_52 (show mt M X = (11, 0) from hP.1.1) (by omega : d - 1 < d) rfl rfl (Nat.le_of_ble_eq_true rfl) (hnc) (hns) (spX11_of (d := d - 1) (i := mi M) (S := M.2) (by omega) hP hR hV (by omega) ((g_x G).2.2 (4 * j + 1)) ((g_x G).2.2 (4 * j + 2))) (fun v1 M1 hq => ?_)
  obtain ⟨rfl, hI1, hF1⟩ := hq
  obtain ⟨hY1, hR1⟩ := hM.fr (M' := M1) hF1 (Nat.le_of_eq hXY)
  refine PW_aload_n (i := 2) dL_law_363 rfl rfl ?_
  refine PW_aload_n (i := 0) dL_law_364 rfl rfl ?_
  refine PW_iload_n (i := 3) dL_law_365 rfl rfl ?_
  refine PW_iconst (v := 1) dL_law_366 (by decide) ?_
  refine PW_iadd dL_law_367 ?_
  refine PW_sld (j := 4 * j + 1) dL_law_368 (n4a j 1 rfl) (by omega) hL ?_
  refine PW_aload_n (i := 0) dL_law_369 rfl rfl ?_
  refine PW_iload_n (i := 3) dL_law_370 rfl rfl ?_
  refine PW_iconst (v := 2) dL_law_371 (by decide) ?_
  refine PW_iadd dL_law_372 ?_
  refine PW_sld (j := 4 * j + 2) dL_law_373 (n4a j 2 rfl) (by omega) hL ?_
  refine PW_callV dL_law_374 moX12_of cvL_56 (show mt M1 Y = (12, 0) from hY1.1) (by omega : d - 1 < d) rfl rfl (Nat.le_of_ble_eq_true rfl) (hnc) (hns) (spX12_of (d := d - 1) (i := mi M1) (S := M1.2) hY1 hR1 hV (by omega) (by omega) ((g_x G).2.2 (4 * j + 1)) ((g_x G).2.2 (4 * j + 2))) (fun v2 M2 hq => ?_)
  obtain ⟨rfl, hI2, hF2⟩ := hq
  refine PW_icmp_eq 927 dL_law_377 (by decide) (fun _ => ?_) (fun h => absurd rfl h)
  exact hnx M2 _ (hI1.fr (keep_of hV ((g_x G).2.2 (4 * j + 1)) ((g_x G).2.2 (4 * j + 2))) hF2 (Nat.le_of_eq hXY)) hI2 (keep_of hV ((g_x G).2.2 (4 * j + 1)) ((g_x G).2.2 (4 * j + 2)))
set_option maxRecDepth 100000 in
set_option maxHeartbeats 4000000 in
theorem law_now {G : GE} {nm : String} {d : Nat} {Post : Option Value → Mm → Prop} {X Y j : Nat} {s : Ab} {M : Mm} {nc ns : Nat} (hd : 30 ≤ d) (hXY : X + 211 = Y) (hL : (g_x G).2.1 ≤ 256) (hj : 4 * j + 4 ≤ (g_x G).2.1) (hC : CI M X s) (hM : MI2 M Y s) (hV : AV j s) (hnc : nc + 0 ≤ 600000) (hns : ns + 0 ≤ 7302250) (hnx : ∀ (M' : Mm) (s' : Ab), CI M' X s' → MI2 M' Y s' → AV (j + 1) s' → PW G (iLw nm) d Post 927 [.ref (g_x G).1, .ref X, .ref Y, .int (nI (4 * j))] [] M' nc ns) : PW G (iLw nm) d Post 382 [.ref (g_x G).1, .ref X, .ref Y, .int (nI (4 * j))] [] M nc ns := by
  obtain ⟨g, hP, hR⟩ := hC
  refine PW_aload_n (i := 1) dL_law_382 rfl rfl ?_
  refine PW_aload_n (i := 0) dL_law_383 rfl rfl ?_
  refine PW_iload_n (i := 3) dL_law_384 rfl rfl ?_
  refine PW_iconst (v := 1) dL_law_385 (by decide) ?_
  refine PW_iadd dL_law_386 ?_
  refine PW_sld (j := 4 * j + 1) dL_law_387 (n4a j 1 rfl) (by omega) hL ?_
  refine PW_callV dL_law_388 moX11_now cvL_57 (show mt M X = (11, 0) from hP.1.1) (by omega : d - 1 < d) rfl rfl (Nat.le_of_ble_eq_true rfl) (hnc) (hns) (spX11_now (d := d - 1) (i := mi M) (S := M.2) (by omega) hP hR hV (by omega) ((g_x G).2.2 (4 * j + 1))) (fun v1 M1 hq => ?_)
  obtain ⟨rfl, hI1, hF1⟩ := hq
  obtain ⟨hY1, hR1⟩ := hM.fr (M' := M1) hF1 (Nat.le_of_eq hXY)
  refine PW_aload_n (i := 2) dL_law_391 rfl rfl ?_
  refine PW_aload_n (i := 0) dL_law_392 rfl rfl ?_
  refine PW_iload_n (i := 3) dL_law_393 rfl rfl ?_
  refine PW_iconst (v := 1) dL_law_394 (by decide) ?_
  refine PW_iadd dL_law_395 ?_
  refine PW_sld (j := 4 * j + 1) dL_law_396 (n4a j 1 rfl) (by omega) hL ?_
  refine PW_callV dL_law_397 moX12_now cvL_60 (show mt M1 Y = (12, 0) from hY1.1) (by omega : d - 1 < d) rfl rfl (Nat.le_of_ble_eq_true rfl) (hnc) (hns) (spX12_now (d := d - 1) (i := mi M1) (S := M1.2) hY1 hR1 hV (by omega) (by omega) ((g_x G).2.2 (4 * j + 1))) (fun v2 M2 hq => ?_)
  obtain ⟨rfl, hI2, hF2⟩ := hq
  refine PW_icmp_eq 927 dL_law_400 (by decide) (fun _ => ?_) (fun h => absurd rfl h)
  exact hnx M2 _ (hI1.fr (keep_now hV ((g_x G).2.2 (4 * j + 1))) hF2 (Nat.le_of_eq hXY)) hI2 (keep_now hV ((g_x G).2.2 (4 * j + 1)))
set_option maxRecDepth 100000 in
set_option maxHeartbeats 4000000 in
theorem law_then {G : GE} {nm : String} {d : Nat} {Post : Option Value → Mm → Prop} {X Y j : Nat} {s : Ab} {M : Mm} {nc ns : Nat} (hd : 30 ≤ d) (hXY : X + 211 = Y) (hL : (g_x G).2.1 ≤ 256) (hj : 4 * j + 4 ≤ (g_x G).2.1) (hC : CI M X s) (hM : MI2 M Y s) (hV : AV j s) (hnc : nc + 0 ≤ 600000) (hns : ns + 0 ≤ 7302250) (hnx : ∀ (M' : Mm) (s' : Ab), CI M' X s' → MI2 M' Y s' → AV (j + 1) s' → PW G (iLw nm) d Post 927 [.ref (g_x G).1, .ref X, .ref Y, .int (nI (4 * j))] [] M' nc ns) : PW G (iLw nm) d Post 405 [.ref (g_x G).1, .ref X, .ref Y, .int (nI (4 * j))] [] M nc ns := by
  obtain ⟨g, hP, hR⟩ := hC
  refine PW_aload_n (i := 1) dL_law_405 rfl rfl ?_
  refine PW_aload_n (i := 0) dL_law_406 rfl rfl ?_
  refine PW_iload_n (i := 3) dL_law_407 rfl rfl ?_
  refine PW_iconst (v := 1) dL_law_408 (by decide) ?_
  refine PW_iadd dL_law_409 ?_
  refine PW_sld (j := 4 * j + 1) dL_law_410 (n4a j 1 rfl) (by omega) hL ?_
  refine PW_aload_n (i := 0) dL_law_411 rfl rfl ?_
  refine PW_iload_n (i := 3) dL_law_412 rfl rfl ?_
  refine PW_iconst (v := 2) dL_law_413 (by decide) ?_
  refine PW_iadd dL_law_414 ?_
  refine PW_sld (j := 4 * j + 2) dL_law_415 (n4a j 2 rfl) (by omega) hL ?_
  refine PW_callV dL_law_416 moX11_then cvL_61 (show mt M X = (11, 0) from hP.1.1) (by omega : d - 1 < d) rfl rfl (Nat.le_of_ble_eq_true rfl) (hnc) (hns) (spX11_then (d := d - 1) (i := mi M) (S := M.2) (by omega) hP hR hV (by omega) ((g_x G).2.2 (4 * j + 1)) ((g_x G).2.2 (4 * j + 2))) (fun v1 M1 hq => ?_)
  obtain ⟨rfl, hI1, hF1⟩ := hq
  obtain ⟨hY1, hR1⟩ := hM.fr (M' := M1) hF1 (Nat.le_of_eq hXY)
  refine PW_aload_n (i := 2) dL_law_419 rfl rfl ?_
  refine PW_aload_n (i := 0) dL_law_420 rfl rfl ?_
  refine PW_iload_n (i := 3) dL_law_421 rfl rfl ?_
  refine PW_iconst (v := 1) dL_law_422 (by decide) ?_
  refine PW_iadd dL_law_423 ?_
  refine PW_sld (j := 4 * j + 1) dL_law_424 (n4a j 1 rfl) (by omega) hL ?_
  refine PW_aload_n (i := 0) dL_law_425 rfl rfl ?_
  refine PW_iload_n (i := 3) dL_law_426 rfl rfl ?_
  refine PW_iconst (v := 2) dL_law_427 (by decide) ?_
  refine PW_iadd dL_law_428 ?_
  refine PW_sld (j := 4 * j + 2) dL_law_429 (n4a j 2 rfl) (by omega) hL ?_
  refine PW_callV dL_law_430 moX12_then cvL_64 (show mt M1 Y = (12, 0) from hY1.1) (by omega : d - 1 < d) rfl rfl (Nat.le_of_ble_eq_true rfl) (hnc) (hns) (spX12_then (d := d - 1) (i := mi M1) (S := M1.2) hY1 hR1 hV (by omega) (by omega) ((g_x G).2.2 (4 * j + 1)) ((g_x G).2.2 (4 * j + 2))) (fun v2 M2 hq => ?_)
  obtain ⟨rfl, hI2, hF2⟩ := hq
  refine PW_icmp_eq 927 dL_law_433 (by decide) (fun _ => ?_) (fun h => absurd rfl h)
  exact hnx M2 _ (hI1.fr (keep_then hV ((g_x G).2.2 (4 * j + 1)) ((g_x G).2.2 (4 * j + 2))) hF2 (Nat.le_of_eq hXY)) hI2 (keep_then hV ((g_x G).2.2 (4 * j + 1)) ((g_x G).2.2 (4 * j + 2)))
set_option maxRecDepth 100000 in
set_option maxHeartbeats 4000000 in
theorem law_strikes {G : GE} {nm : String} {d : Nat} {Post : Option Value → Mm → Prop} {X Y j : Nat} {s : Ab} {M : Mm} {nc ns : Nat} (hd : 30 ≤ d) (hXY : X + 211 = Y) (hL : (g_x G).2.1 ≤ 256) (hj : 4 * j + 4 ≤ (g_x G).2.1) (hC : CI M X s) (hM : MI2 M Y s) (hV : AV j s) (hnc : nc + 0 ≤ 600000) (hns : ns + 0 ≤ 7302250) (hnx : ∀ (M' : Mm) (s' : Ab), CI M' X s' → MI2 M' Y s' → AV (j + 1) s' → PW G (iLw nm) d Post 927 [.ref (g_x G).1, .ref X, .ref Y, .int (nI (4 * j))] [] M' nc ns) : PW G (iLw nm) d Post 438 [.ref (g_x G).1, .ref X, .ref Y, .int (nI (4 * j))] [] M nc ns := by
  obtain ⟨g, hP, hR⟩ := hC
  refine PW_aload_n (i := 1) dL_law_438 rfl rfl ?_
  refine PW_callV dL_law_439 moX11_strikes cvL_65 (show mt M X = (11, 0) from hP.1.1) (by omega : d - 1 < d) rfl rfl (Nat.le_of_ble_eq_true rfl) (hnc) (hns) (spX11_strikes (d := d - 1) (i := mi M) (S := M.2) (by omega) hP hR hV (by omega) ) (fun v1 M1 hq => ?_)
  obtain ⟨rfl, hI1, hF1⟩ := hq
  obtain ⟨hY1, hR1⟩ := hM.fr (M' := M1) hF1 (Nat.le_of_eq hXY)
  refine PW_aload_n (i := 2) dL_law_442 rfl rfl ?_
  refine PW_callV dL_law_443 moX12_strikes cvL_68 (show mt M1 Y = (12, 0) from hY1.1) (by omega : d - 1 < d) rfl rfl (Nat.le_of_ble_eq_true rfl) (hnc) (hns) (spX12_strikes (d := d - 1) (i := mi M1) (S := M1.2) hY1 hR1 hV (by omega) (by omega) ) (fun v2 M2 hq => ?_)
  obtain ⟨rfl, hI2, hF2⟩ := hq
  refine PW_icmp_eq 927 dL_law_446 (by decide) (fun _ => ?_) (fun h => absurd rfl h)
  exact hnx M2 _ (hI1.fr (keep_strikes hV) hF2 (Nat.le_of_eq hXY)) hI2 (keep_strikes hV)
set_option maxRecDepth 100000 in
set_option maxHeartbeats 4000000 in
theorem law_peas {G : GE} {nm : String} {d : Nat} {Post : Option Value → Mm → Prop} {X Y j : Nat} {s : Ab} {M : Mm} {nc ns : Nat} (hd : 30 ≤ d) (hXY : X + 211 = Y) (hL : (g_x G).2.1 ≤ 256) (hj : 4 * j + 4 ≤ (g_x G).2.1) (hC : CI M X s) (hM : MI2 M Y s) (hV : AV j s) (hnc : nc + 0 ≤ 600000) (hns : ns + 0 ≤ 7302250) (hnx : ∀ (M' : Mm) (s' : Ab), CI M' X s' → MI2 M' Y s' → AV (j + 1) s' → PW G (iLw nm) d Post 927 [.ref (g_x G).1, .ref X, .ref Y, .int (nI (4 * j))] [] M' nc ns) : PW G (iLw nm) d Post 451 [.ref (g_x G).1, .ref X, .ref Y, .int (nI (4 * j))] [] M nc ns := by
  obtain ⟨g, hP, hR⟩ := hC
  refine PW_aload_n (i := 1) dL_law_451 rfl rfl ?_
  refine PW_aload_n (i := 0) dL_law_452 rfl rfl ?_
  refine PW_iload_n (i := 3) dL_law_453 rfl rfl ?_
  refine PW_iconst (v := 1) dL_law_454 (by decide) ?_
  refine PW_iadd dL_law_455 ?_
  refine PW_sld (j := 4 * j + 1) dL_law_456 (n4a j 1 rfl) (by omega) hL ?_
  refine PW_aload_n (i := 0) dL_law_457 rfl rfl ?_
  refine PW_iload_n (i := 3) dL_law_458 rfl rfl ?_
  refine PW_iconst (v := 2) dL_law_459 (by decide) ?_
  refine PW_iadd dL_law_460 ?_
  refine PW_sld (j := 4 * j + 2) dL_law_461 (n4a j 2 rfl) (by omega) hL ?_
  refine PW_aload_n (i := 0) dL_law_462 rfl rfl ?_
  refine PW_iload_n (i := 3) dL_law_463 rfl rfl ?_
  refine PW_iconst (v := 3) dL_law_464 (by decide) ?_
  refine PW_iadd dL_law_465 ?_
  refine PW_sld (j := 4 * j + 3) dL_law_466 (n4a j 3 rfl) (by omega) hL ?_
  refine PW_callV dL_law_467 moX11_peas cvL_69 (show mt M X = (11, 0) from hP.1.1) (by omega : d - 1 < d) rfl rfl (Nat.le_of_ble_eq_true rfl) (hnc) (hns) (spX11_peas (d := d - 1) (i := mi M) (S := M.2) (by omega) hP hR hV (by omega) ((g_x G).2.2 (4 * j + 1)) ((g_x G).2.2 (4 * j + 2)) ((g_x G).2.2 (4 * j + 3))) (fun v1 M1 hq => ?_)
  obtain ⟨rfl, hI1, hF1⟩ := hq
  obtain ⟨hY1, hR1⟩ := hM.fr (M' := M1) hF1 (Nat.le_of_eq hXY)
  refine PW_aload_n (i := 2) dL_law_470 rfl rfl ?_
  refine PW_aload_n (i := 0) dL_law_471 rfl rfl ?_
  refine PW_iload_n (i := 3) dL_law_472 rfl rfl ?_
  refine PW_iconst (v := 1) dL_law_473 (by decide) ?_
  refine PW_iadd dL_law_474 ?_
  refine PW_sld (j := 4 * j + 1) dL_law_475 (n4a j 1 rfl) (by omega) hL ?_
  refine PW_aload_n (i := 0) dL_law_476 rfl rfl ?_
  refine PW_iload_n (i := 3) dL_law_477 rfl rfl ?_
  refine PW_iconst (v := 2) dL_law_478 (by decide) ?_
  refine PW_iadd dL_law_479 ?_
  refine PW_sld (j := 4 * j + 2) dL_law_480 (n4a j 2 rfl) (by omega) hL ?_
  refine PW_aload_n (i := 0) dL_law_481 rfl rfl ?_
  refine PW_iload_n (i := 3) dL_law_482 rfl rfl ?_
  refine PW_iconst (v := 3) dL_law_483 (by decide) ?_
  refine PW_iadd dL_law_484 ?_
  refine PW_sld (j := 4 * j + 3) dL_law_485 (n4a j 3 rfl) (by omega) hL ?_
  refine PW_callV dL_law_486 moX12_peas cvL_72 (show mt M1 Y = (12, 0) from hY1.1) (by omega : d - 1 < d) rfl rfl (Nat.le_of_ble_eq_true rfl) (hnc) (hns) (spX12_peas (d := d - 1) (i := mi M1) (S := M1.2) hY1 hR1 hV (by omega) (by omega) ((g_x G).2.2 (4 * j + 1)) ((g_x G).2.2 (4 * j + 2)) ((g_x G).2.2 (4 * j + 3))) (fun v2 M2 hq => ?_)
  rw [rPeas_o] at hq
  obtain ⟨rfl, hI2, hF2⟩ := hq
  refine PW_icmp_eq 927 dL_law_489 (by decide) (fun _ => ?_) (fun h => absurd rfl h)
  exact hnx M2 _ (hI1.fr (keep_peas hV ((g_x G).2.2 (4 * j + 1)) ((g_x G).2.2 (4 * j + 2)) ((g_x G).2.2 (4 * j + 3))) hF2 (Nat.le_of_eq hXY)) hI2 (keep_peas hV ((g_x G).2.2 (4 * j + 1)) ((g_x G).2.2 (4 * j + 2)) ((g_x G).2.2 (4 * j + 3)))
set_option maxRecDepth 100000 in
set_option maxHeartbeats 4000000 in
theorem law_canNot {G : GE} {nm : String} {d : Nat} {Post : Option Value → Mm → Prop} {X Y j : Nat} {s : Ab} {M : Mm} {nc ns : Nat} (hd : 30 ≤ d) (hXY : X + 211 = Y) (hL : (g_x G).2.1 ≤ 256) (hj : 4 * j + 4 ≤ (g_x G).2.1) (hC : CI M X s) (hM : MI2 M Y s) (hV : AV j s) (hnc : nc + 0 ≤ 600000) (hns : ns + 0 ≤ 7302250) (hnx : ∀ (M' : Mm) (s' : Ab), CI M' X s' → MI2 M' Y s' → AV (j + 1) s' → PW G (iLw nm) d Post 927 [.ref (g_x G).1, .ref X, .ref Y, .int (nI (4 * j))] [] M' nc ns) : PW G (iLw nm) d Post 494 [.ref (g_x G).1, .ref X, .ref Y, .int (nI (4 * j))] [] M nc ns := by
  obtain ⟨g, hP, hR⟩ := hC
  refine PW_aload_n (i := 1) dL_law_494 rfl rfl ?_
  refine PW_aload_n (i := 0) dL_law_495 rfl rfl ?_
  refine PW_iload_n (i := 3) dL_law_496 rfl rfl ?_
  refine PW_iconst (v := 1) dL_law_497 (by decide) ?_
  refine PW_iadd dL_law_498 ?_
  refine PW_sld (j := 4 * j + 1) dL_law_499 (n4a j 1 rfl) (by omega) hL ?_
  refine PW_callV dL_law_500 moX11_canNot cvL_73 (show mt M X = (11, 0) from hP.1.1) (by omega : d - 1 < d) rfl rfl (Nat.le_of_ble_eq_true rfl) (hnc) (hns) (spX11_canNot (d := d - 1) (i := mi M) (S := M.2) (by omega) hP hR hV (by omega) ((g_x G).2.2 (4 * j + 1))) (fun v1 M1 hq => ?_)
  obtain ⟨rfl, hI1, hF1⟩ := hq
  obtain ⟨hY1, hR1⟩ := hM.fr (M' := M1) hF1 (Nat.le_of_eq hXY)
  refine PW_aload_n (i := 2) dL_law_503 rfl rfl ?_
  refine PW_aload_n (i := 0) dL_law_504 rfl rfl ?_
  refine PW_iload_n (i := 3) dL_law_505 rfl rfl ?_
  refine PW_iconst (v := 1) dL_law_506 (by decide) ?_
  refine PW_iadd dL_law_507 ?_
  refine PW_sld (j := 4 * j + 1) dL_law_508 (n4a j 1 rfl) (by omega) hL ?_
  refine PW_callV dL_law_509 moX12_canNot cvL_76 (show mt M1 Y = (12, 0) from hY1.1) (by omega : d - 1 < d) rfl rfl (Nat.le_of_ble_eq_true rfl) (hnc) (hns) (spX12_canNot (d := d - 1) (i := mi M1) (S := M1.2) hY1 hR1 hV (by omega) (by omega) ((g_x G).2.2 (4 * j + 1))) (fun v2 M2 hq => ?_)
  rw [rCanNot_o hV] at hq
  obtain ⟨rfl, hI2, hF2⟩ := hq
  refine PW_icmp_eq 927 dL_law_512 (by decide) (fun _ => ?_) (fun h => absurd rfl h)
  exact hnx M2 _ (hI1.fr (keep_canNot hV ((g_x G).2.2 (4 * j + 1))) hF2 (Nat.le_of_eq hXY)) hI2 (keep_canNot hV ((g_x G).2.2 (4 * j + 1)))
set_option maxRecDepth 100000 in
set_option maxHeartbeats 4000000 in
theorem law_eat {G : GE} {nm : String} {d : Nat} {Post : Option Value → Mm → Prop} {X Y j : Nat} {s : Ab} {M : Mm} {nc ns : Nat} (hd : 30 ≤ d) (hXY : X + 211 = Y) (hL : (g_x G).2.1 ≤ 256) (hj : 4 * j + 4 ≤ (g_x G).2.1) (hC : CI M X s) (hM : MI2 M Y s) (hV : AV j s) (hnc : nc + 0 ≤ 600000) (hns : ns + 0 ≤ 7302250) (hnx : ∀ (M' : Mm) (s' : Ab), CI M' X s' → MI2 M' Y s' → AV (j + 1) s' → PW G (iLw nm) d Post 927 [.ref (g_x G).1, .ref X, .ref Y, .int (nI (4 * j))] [] M' nc ns) : PW G (iLw nm) d Post 517 [.ref (g_x G).1, .ref X, .ref Y, .int (nI (4 * j))] [] M nc ns := by
  obtain ⟨g, hP, hR⟩ := hC
  refine PW_aload_n (i := 1) dL_law_517 rfl rfl ?_
  refine PW_aload_n (i := 0) dL_law_518 rfl rfl ?_
  refine PW_iload_n (i := 3) dL_law_519 rfl rfl ?_
  refine PW_iconst (v := 1) dL_law_520 (by decide) ?_
  refine PW_iadd dL_law_521 ?_
  refine PW_sld (j := 4 * j + 1) dL_law_522 (n4a j 1 rfl) (by omega) hL ?_
  refine PW_aload_n (i := 0) dL_law_523 rfl rfl ?_
  refine PW_iload_n (i := 3) dL_law_524 rfl rfl ?_
  refine PW_iconst (v := 2) dL_law_525 (by decide) ?_
  refine PW_iadd dL_law_526 ?_
  refine PW_sld (j := 4 * j + 2) dL_law_527 (n4a j 2 rfl) (by omega) hL ?_
  refine PW_callV dL_law_528 moX11_eat cvL_77 (show mt M X = (11, 0) from hP.1.1) (by omega : d - 1 < d) rfl rfl (Nat.le_of_ble_eq_true rfl) (hnc) (hns) (spX11_eat (d := d - 1) (i := mi M) (S := M.2) (by omega) hP hR hV (by omega) ((g_x G).2.2 (4 * j + 1)) ((g_x G).2.2 (4 * j + 2))) (fun v1 M1 hq => ?_)
  obtain ⟨rfl, hI1, hF1⟩ := hq
  obtain ⟨hY1, hR1⟩ := hM.fr (M' := M1) hF1 (Nat.le_of_eq hXY)
  refine PW_aload_n (i := 2) dL_law_531 rfl rfl ?_
  refine PW_aload_n (i := 0) dL_law_532 rfl rfl ?_
  refine PW_iload_n (i := 3) dL_law_533 rfl rfl ?_
  refine PW_iconst (v := 1) dL_law_534 (by decide) ?_
  refine PW_iadd dL_law_535 ?_
  refine PW_sld (j := 4 * j + 1) dL_law_536 (n4a j 1 rfl) (by omega) hL ?_
  refine PW_aload_n (i := 0) dL_law_537 rfl rfl ?_
  refine PW_iload_n (i := 3) dL_law_538 rfl rfl ?_
  refine PW_iconst (v := 2) dL_law_539 (by decide) ?_
  refine PW_iadd dL_law_540 ?_
  refine PW_sld (j := 4 * j + 2) dL_law_541 (n4a j 2 rfl) (by omega) hL ?_
  refine PW_callV dL_law_542 moX12_eat cvL_80 (show mt M1 Y = (12, 0) from hY1.1) (by omega : d - 1 < d) rfl rfl (Nat.le_of_ble_eq_true rfl) (hnc) (hns) (spX12_eat (d := d - 1) (i := mi M1) (S := M1.2) hY1 hR1 hV (by omega) (by omega) ((g_x G).2.2 (4 * j + 1)) ((g_x G).2.2 (4 * j + 2))) (fun v2 M2 hq => ?_)
  rw [rEat_o hV] at hq
  obtain ⟨rfl, hI2, hF2⟩ := hq
  refine PW_icmp_eq 927 dL_law_545 (by decide) (fun _ => ?_) (fun h => absurd rfl h)
  exact hnx M2 _ (hI1.fr (keep_eat hV ((g_x G).2.2 (4 * j + 1)) ((g_x G).2.2 (4 * j + 2))) hF2 (Nat.le_of_eq hXY)) hI2 (keep_eat hV ((g_x G).2.2 (4 * j + 1)) ((g_x G).2.2 (4 * j + 2)))

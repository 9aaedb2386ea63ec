def iX12_from : MI := (yX12_from, cX12_from, 4, some .int, 0, 0)
theorem moX12_from : MO iX12_from 1 := ⟨by decide +kernel, mgG 1224 (by decide +kernel) rfl, mgG 78 (by decide +kernel) rfl, ⟨by decide +kernel, by decide +kernel⟩, by decide +kernel, by decide⟩
def iX12_status : MI := (yX12_status, cX12_status, 2, some .int, 0, 0)
theorem moX12_status : MO iX12_status 1 := ⟨by decide +kernel, mgG 1228 (by decide +kernel) rfl, mgG 78 (by decide +kernel) rfl, ⟨by decide +kernel, by decide +kernel⟩, by decide +kernel, by decide⟩
def iX12_countOf : MI := (yX12_countOf, cX12_countOf, 4, some .int, 0, 0)
theorem moX12_countOf : MO iX12_countOf 1 := ⟨by decide +kernel, mgG 1236 (by decide +kernel) rfl, mgG 78 (by decide +kernel) rfl, ⟨by decide +kernel, by decide +kernel⟩, by decide +kernel, by decide⟩
def iX12_count : MI := (yX12_count, cX12_count, 2, some .int, 0, 0)
theorem moX12_count : MO iX12_count 1 := ⟨by decide +kernel, mgG 1232 (by decide +kernel) rfl, mgG 78 (by decide +kernel) rfl, ⟨by decide +kernel, by decide +kernel⟩, by decide +kernel, by decide⟩
def iX12_mix : MI := (yX12_mix, cX12_mix, 3, none, 0, 0)
theorem moX12_mix : MO iX12_mix 1 := ⟨by decide +kernel, mgG 1245 (by decide +kernel) rfl, mgG 78 (by decide +kernel) rfl, ⟨by decide +kernel, by decide +kernel⟩, by decide +kernel, by decide⟩
def iX12_digest : MI := (yX12_digest, cX12_digest, 2, some .long, 0, 0)
theorem moX12_digest : MO iX12_digest 0 := ⟨by decide +kernel, mgG 1240 (by decide +kernel) rfl, mgG 78 (by decide +kernel) rfl, ⟨by decide +kernel, by decide +kernel⟩, by decide +kernel, by decide⟩
def iJ6_compare_7cf53 : MI := (yJ6_compare_7cf53, cJ6_compare_7cf53, 2, some .int, 0, 0)
theorem moJ6_compare_7cf53 : MO iJ6_compare_7cf53 2 := ⟨by decide +kernel, mgG 760 (by decide +kernel) rfl, mgG 85 (by decide +kernel) rfl, ⟨by decide +kernel, by decide +kernel⟩, by decide +kernel, by decide⟩
def iJ6_bitCount_0f7a4 : MI := (yJ6_bitCount_0f7a4, cJ6_bitCount_0f7a4, 1, some .int, 0, 0)
theorem moJ6_bitCount_0f7a4 : MO iJ6_bitCount_0f7a4 1 := ⟨by decide +kernel, mgG 746 (by decide +kernel) rfl, mgG 85 (by decide +kernel) rfl, ⟨by decide +kernel, by decide +kernel⟩, by decide +kernel, by decide⟩
theorem fr4_21 : FR RX4 21 4 0 2 true := ⟨RX4, TX4, 8, tyX4, cok4, by decide, rfl, rfl, fun _ => rfl, Or.inl (mgG 150 (by decide +kernel) rfl)⟩
theorem fg4_21 : FRr RX4 21 4 0 2 := fr4_21.rd
theorem fr4_9 : FR RX4 9 4 1 2 true := ⟨RX4, TX4, 8, tyX4, cok4, by decide, rfl, rfl, fun _ => rfl, Or.inl (mgG 151 (by decide +kernel) rfl)⟩
theorem fg4_9 : FRr RX4 9 4 1 2 := fr4_9.rd
theorem fg10_60 : FRr RX10 60 4 1 2 := ⟨RX4, TX4, 8, tyX4, cok4, by decide, rfl, Or.inr ⟨"SleepyHelm", mgN 152 (by decide +kernel) rfl⟩⟩
theorem fg11_170 : FRr RX11 170 4 1 2 := ⟨RX4, TX4, 8, tyX4, cok4, by decide, rfl, Or.inr ⟨"SleepyHelm", mgN 153 (by decide +kernel) rfl⟩⟩
theorem fr4_15 : FR RX4 15 4 2 2 true := ⟨RX4, TX4, 8, tyX4, cok4, by decide, rfl, rfl, fun _ => rfl, Or.inl (mgG 154 (by decide +kernel) rfl)⟩
theorem fg4_15 : FRr RX4 15 4 2 2 := fr4_15.rd
theorem fg10_63 : FRr RX10 63 4 2 2 := ⟨RX4, TX4, 8, tyX4, cok4, by decide, rfl, Or.inr ⟨"SleepyHelm", mgN 155 (by decide +kernel) rfl⟩⟩
theorem fg11_174 : FRr RX11 174 4 2 2 := ⟨RX4, TX4, 8, tyX4, cok4, by decide, rfl, Or.inr ⟨"SleepyHelm", mgN 156 (by decide +kernel) rfl⟩⟩
theorem fr4_18 : FR RX4 18 4 3 2 true := ⟨RX4, TX4, 8, tyX4, cok4, by decide, rfl, rfl, fun _ => rfl, Or.inl (mgG 157 (by decide +kernel) rfl)⟩
theorem fg4_18 : FRr RX4 18 4 3 2 := fr4_18.rd
theorem fg10_66 : FRr RX10 66 4 3 2 := ⟨RX4, TX4, 8, tyX4, cok4, by decide, rfl, Or.inr ⟨"SleepyHelm", mgN 158 (by decide +kernel) rfl⟩⟩
theorem fg11_177 : FRr RX11 177 4 3 2 := ⟨RX4, TX4, 8, tyX4, cok4, by decide, rfl, Or.inr ⟨"SleepyHelm", mgN 159 (by decide +kernel) rfl⟩⟩
theorem fr4_25 : FR RX4 25 4 4 0 false := ⟨RX4, TX4, 8, tyX4, cok4, by decide, rfl, rfl, fun _ => rfl, Or.inl (mgG 160 (by decide +kernel) rfl)⟩
theorem fg4_25 : FRr RX4 25 4 4 0 := fr4_25.rd
theorem fg11_85 : FRr RX11 85 4 4 0 := ⟨RX4, TX4, 8, tyX4, cok4, by decide, rfl, Or.inr ⟨"SleepyHelm", mgN 161 (by decide +kernel) rfl⟩⟩
theorem fr11_85 : FR RX11 85 4 4 0 false := ⟨RX4, TX4, 8, tyX4, cok4, by decide, rfl, rfl, (fun h => by cases h), Or.inr ⟨"SleepyHelm", rfl, mgN 161 (by decide +kernel) rfl⟩⟩
theorem fg6_74 : FRr RX6 74 4 4 0 := ⟨RX4, TX4, 8, tyX4, cok4, by decide, rfl, Or.inr ⟨"SleepyHelm", mgN 162 (by decide +kernel) rfl⟩⟩
theorem fr6_74 : FR RX6 74 4 4 0 false := ⟨RX4, TX4, 8, tyX4, cok4, by decide, rfl, rfl, (fun h => by cases h), Or.inr ⟨"SleepyHelm", rfl, mgN 162 (by decide +kernel) rfl⟩⟩
theorem fg10_57 : FRr RX10 57 4 4 0 := ⟨RX4, TX4, 8, tyX4, cok4, by decide, rfl, Or.inr ⟨"SleepyHelm", mgN 163 (by decide +kernel) rfl⟩⟩
theorem fr10_57 : FR RX10 57 4 4 0 false := ⟨RX4, TX4, 8, tyX4, cok4, by decide, rfl, rfl, (fun h => by cases h), Or.inr ⟨"SleepyHelm", rfl, mgN 163 (by decide +kernel) rfl⟩⟩
theorem fg9_88 : FRr RX9 88 4 4 0 := ⟨RX4, TX4, 8, tyX4, cok4, by decide, rfl, Or.inr ⟨"SleepyHelm", mgN 164 (by decide +kernel) rfl⟩⟩
theorem fr9_88 : FR RX9 88 4 4 0 false := ⟨RX4, TX4, 8, tyX4, cok4, by decide, rfl, rfl, (fun h => by cases h), Or.inr ⟨"SleepyHelm", rfl, mgN 164 (by decide +kernel) rfl⟩⟩
theorem fr4_29 : FR RX4 29 4 5 0 false := ⟨RX4, TX4, 8, tyX4, cok4, by decide, rfl, rfl, fun _ => rfl, Or.inl (mgG 165 (by decide +kernel) rfl)⟩
theorem fg4_29 : FRr RX4 29 4 5 0 := fr4_29.rd
theorem fg3_31 : FRr RX3 31 4 5 0 := ⟨RX4, TX4, 8, tyX4, cok4, by decide, rfl, Or.inr ⟨"SleepyHelm", mgN 166 (by decide +kernel) rfl⟩⟩
theorem fr3_31 : FR RX3 31 4 5 0 false := ⟨RX4, TX4, 8, tyX4, cok4, by decide, rfl, rfl, (fun h => by cases h), Or.inr ⟨"SleepyHelm", rfl, mgN 166 (by decide +kernel) rfl⟩⟩
theorem fg6_51 : FRr RX6 51 4 5 0 := ⟨RX4, TX4, 8, tyX4, cok4, by decide, rfl, Or.inr ⟨"SleepyHelm", mgN 167 (by decide +kernel) rfl⟩⟩
theorem fr6_51 : FR RX6 51 4 5 0 false := ⟨RX4, TX4, 8, tyX4, cok4, by decide, rfl, rfl, (fun h => by cases h), Or.inr ⟨"SleepyHelm", rfl, mgN 167 (by decide +kernel) rfl⟩⟩
theorem fg10_71 : FRr RX10 71 4 5 0 := ⟨RX4, TX4, 8, tyX4, cok4, by decide, rfl, Or.inr ⟨"SleepyHelm", mgN 168 (by decide +kernel) rfl⟩⟩
theorem fr10_71 : FR RX10 71 4 5 0 false := ⟨RX4, TX4, 8, tyX4, cok4, by decide, rfl, rfl, (fun h => by cases h), Or.inr ⟨"SleepyHelm", rfl, mgN 168 (by decide +kernel) rfl⟩⟩
theorem fg11_184 : FRr RX11 184 4 5 0 := ⟨RX4, TX4, 8, tyX4, cok4, by decide, rfl, Or.inr ⟨"SleepyHelm", mgN 169 (by decide +kernel) rfl⟩⟩
theorem fr11_184 : FR RX11 184 4 5 0 false := ⟨RX4, TX4, 8, tyX4, cok4, by decide, rfl, rfl, (fun h => by cases h), Or.inr ⟨"SleepyHelm", rfl, mgN 169 (by decide +kernel) rfl⟩⟩
theorem fr4_32 : FR RX4 32 4 6 0 false := ⟨RX4, TX4, 8, tyX4, cok4, by decide, rfl, rfl, fun _ => rfl, Or.inl (mgG 170 (by decide +kernel) rfl)⟩
theorem fg4_32 : FRr RX4 32 4 6 0 := fr4_32.rd
theorem fg11_167 : FRr RX11 167 4 6 0 := ⟨RX4, TX4, 8, tyX4, cok4, by decide, rfl, Or.inr ⟨"SleepyHelm", mgN 171 (by decide +kernel) rfl⟩⟩
theorem fr11_167 : FR RX11 167 4 6 0 false := ⟨RX4, TX4, 8, tyX4, cok4, by decide, rfl, rfl, (fun h => by cases h), Or.inr ⟨"SleepyHelm", rfl, mgN 171 (by decide +kernel) rfl⟩⟩
theorem fr4_35 : FR RX4 35 4 7 0 false := ⟨RX4, TX4, 8, tyX4, cok4, by decide, rfl, rfl, fun _ => rfl, Or.inl (mgG 172 (by decide +kernel) rfl)⟩
theorem fg4_35 : FRr RX4 35 4 7 0 := fr4_35.rd
theorem fg3_35 : FRr RX3 35 4 7 0 := ⟨RX4, TX4, 8, tyX4, cok4, by decide, rfl, Or.inr ⟨"SleepyHelm", mgN 173 (by decide +kernel) rfl⟩⟩
theorem fr3_35 : FR RX3 35 4 7 0 false := ⟨RX4, TX4, 8, tyX4, cok4, by decide, rfl, rfl, (fun h => by cases h), Or.inr ⟨"SleepyHelm", rfl, mgN 173 (by decide +kernel) rfl⟩⟩
theorem fg6_64 : FRr RX6 64 4 7 0 := ⟨RX4, TX4, 8, tyX4, cok4, by decide, rfl, Or.inr ⟨"SleepyHelm", mgN 174 (by decide +kernel) rfl⟩⟩
theorem fr6_64 : FR RX6 64 4 7 0 false := ⟨RX4, TX4, 8, tyX4, cok4, by decide, rfl, rfl, (fun h => by cases h), Or.inr ⟨"SleepyHelm", rfl, mgN 174 (by decide +kernel) rfl⟩⟩
theorem fg11_147 : FRr RX11 147 4 7 0 := ⟨RX4, TX4, 8, tyX4, cok4, by decide, rfl, Or.inr ⟨"SleepyHelm", mgN 175 (by decide +kernel) rfl⟩⟩
theorem fr11_147 : FR RX11 147 4 7 0 false := ⟨RX4, TX4, 8, tyX4, cok4, by decide, rfl, rfl, (fun h => by cases h), Or.inr ⟨"SleepyHelm", rfl, mgN 175 (by decide +kernel) rfl⟩⟩
theorem fg10_74 : FRr RX10 74 4 7 0 := ⟨RX4, TX4, 8, tyX4, cok4, by decide, rfl, Or.inr ⟨"SleepyHelm", mgN 176 (by decide +kernel) rfl⟩⟩
theorem fr10_74 : FR RX10 74 4 7 0 false := ⟨RX4, TX4, 8, tyX4, cok4, by decide, rfl, rfl, (fun h => by cases h), Or.inr ⟨"SleepyHelm", rfl, mgN 176 (by decide +kernel) rfl⟩⟩
theorem fr10_30 : FR RX10 30 10 0 2 true := ⟨RX10, TX10, 8, tyX10, cok10, by decide, rfl, rfl, fun _ => rfl, Or.inl (mgG 195 (by decide +kernel) rfl)⟩
theorem fg10_30 : FRr RX10 30 10 0 2 := fr10_30.rd
theorem fg11_82 : FRr RX11 82 10 0 2 := ⟨RX10, TX10, 8, tyX10, cok10, by decide, rfl, Or.inr ⟨"SleepyHelm", mgN 196 (by decide +kernel) rfl⟩⟩
theorem fg9_84 : FRr RX9 84 10 0 2 := ⟨RX10, TX10, 8, tyX10, cok10, by decide, rfl, Or.inr ⟨"SleepyHelm", mgN 197 (by decide +kernel) rfl⟩⟩
theorem fr10_9 : FR RX10 9 10 1 2 true := ⟨RX10, TX10, 8, tyX10, cok10, by decide, rfl, rfl, fun _ => rfl, Or.inl (mgG 198 (by decide +kernel) rfl)⟩
theorem fg10_9 : FRr RX10 9 10 1 2 := fr10_9.rd
theorem fr10_15 : FR RX10 15 10 2 2 true := ⟨RX10, TX10, 8, tyX10, cok10, by decide, rfl, rfl, fun _ => rfl, Or.inl (mgG 199 (by decide +kernel) rfl)⟩
theorem fg10_15 : FRr RX10 15 10 2 2 := fr10_15.rd
theorem fg11_284 : FRr RX11 284 10 2 2 := ⟨RX10, TX10, 8, tyX10, cok10, by decide, rfl, Or.inr ⟨"SleepyHelm", mgN 200 (by decide +kernel) rfl⟩⟩
theorem fr10_18 : FR RX10 18 10 3 2 true := ⟨RX10, TX10, 8, tyX10, cok10, by decide, rfl, rfl, fun _ => rfl, Or.inl (mgG 201 (by decide +kernel) rfl)⟩
theorem fg10_18 : FRr RX10 18 10 3 2 := fr10_18.rd
theorem fg11_287 : FRr RX11 287 10 3 2 := ⟨RX10, TX10, 8, tyX10, cok10, by decide, rfl, Or.inr ⟨"SleepyHelm", mgN 202 (by decide +kernel) rfl⟩⟩
theorem fr10_23 : FR RX10 23 10 4 2 true := ⟨RX10, TX10, 8, tyX10, cok10, by decide, rfl, rfl, fun _ => rfl, Or.inl (mgG 203 (by decide +kernel) rfl)⟩
theorem fg10_23 : FRr RX10 23 10 4 2 := fr10_23.rd
theorem fr10_37 : FR RX10 37 10 5 0 false := ⟨RX10, TX10, 8, tyX10, cok10, by decide, rfl, rfl, fun _ => rfl, Or.inl (mgG 204 (by decide +kernel) rfl)⟩
theorem fg10_37 : FRr RX10 37 10 5 0 := fr10_37.rd
theorem fg11_106 : FRr RX11 106 10 5 0 := ⟨RX10, TX10, 8, tyX10, cok10, by decide, rfl, Or.inr ⟨"SleepyHelm", mgN 205 (by decide +kernel) rfl⟩⟩
theorem fr11_106 : FR RX11 106 10 5 0 false := ⟨RX10, TX10, 8, tyX10, cok10, by decide, rfl, rfl, (fun h => by cases h), Or.inr ⟨"SleepyHelm", rfl, mgN 205 (by decide +kernel) rfl⟩⟩
theorem fg9_67 : FRr RX9 67 10 5 0 := ⟨RX10, TX10, 8, tyX10, cok10, by decide, rfl, Or.inr ⟨"SleepyHelm", mgN 206 (by decide +kernel) rfl⟩⟩
theorem fr9_67 : FR RX9 67 10 5 0 false := ⟨RX10, TX10, 8, tyX10, cok10, by decide, rfl, rfl, (fun h => by cases h), Or.inr ⟨"SleepyHelm", rfl, mgN 206 (by decide +kernel) rfl⟩⟩
theorem fr10_41 : FR RX10 41 10 6 0 false := ⟨RX10, TX10, 8, tyX10, cok10, by decide, rfl, rfl, fun _ => rfl, Or.inl (mgG 207 (by decide +kernel) rfl)⟩
theorem fg10_41 : FRr RX10 41 10 6 0 := fr10_41.rd
theorem fg11_216 : FRr RX11 216 10 6 0 := ⟨RX10, TX10, 8, tyX10, cok10, by decide, rfl, Or.inr ⟨"SleepyHelm", mgN 208 (by decide +kernel) rfl⟩⟩
theorem fr11_216 : FR RX11 216 10 6 0 false := ⟨RX10, TX10, 8, tyX10, cok10, by decide, rfl, rfl, (fun h => by cases h), Or.inr ⟨"SleepyHelm", rfl, mgN 208 (by decide +kernel) rfl⟩⟩
theorem fr10_44 : FR RX10 44 10 7 0 false := ⟨RX10, TX10, 8, tyX10, cok10, by decide, rfl, rfl, fun _ => rfl, Or.inl (mgG 209 (by decide +kernel) rfl)⟩
theorem fg10_44 : FRr RX10 44 10 7 0 := fr10_44.rd
theorem fg11_278 : FRr RX11 278 10 7 0 := ⟨RX10, TX10, 8, tyX10, cok10, by decide, rfl, Or.inr ⟨"SleepyHelm", mgN 210 (by decide +kernel) rfl⟩⟩
theorem fr11_278 : FR RX11 278 10 7 0 false := ⟨RX10, TX10, 8, tyX10, cok10, by decide, rfl, rfl, (fun h => by cases h), Or.inr ⟨"SleepyHelm", rfl, mgN 210 (by decide +kernel) rfl⟩⟩
theorem fr3_23 : FR RX3 23 3 0 2 true := ⟨RX3, TX3, 3, tyX3, cok3, by decide, rfl, rfl, fun _ => rfl, Or.inl (mgG 239 (by decide +kernel) rfl)⟩
theorem fg3_23 : FRr RX3 23 3 0 2 := fr3_23.rd
theorem fr3_9 : FR RX3 9 3 1 2 true := ⟨RX3, TX3, 3, tyX3, cok3, by decide, rfl, rfl, fun _ => rfl, Or.inl (mgG 240 (by decide +kernel) rfl)⟩
theorem fg3_9 : FRr RX3 9 3 1 2 := fr3_9.rd
theorem fg11_191 : FRr RX11 191 3 1 2 := ⟨RX3, TX3, 3, tyX3, cok3, by decide, rfl, Or.inr ⟨"SleepyHelm", mgN 241 (by decide +kernel) rfl⟩⟩
theorem fr3_15 : FR RX3 15 3 2 2 true := ⟨RX3, TX3, 3, tyX3, cok3, by decide, rfl, rfl, fun _ => rfl, Or.inl (mgG 242 (by decide +kernel) rfl)⟩
theorem fg3_15 : FRr RX3 15 3 2 2 := fr3_15.rd
theorem fg11_194 : FRr RX11 194 3 2 2 := ⟨RX3, TX3, 3, tyX3, cok3, by decide, rfl, Or.inr ⟨"SleepyHelm", mgN 243 (by decide +kernel) rfl⟩⟩
theorem fr6_11 : FR RX6 11 6 0 2 true := ⟨RX6, TX6, 6, tyX6, cok6, by decide, rfl, rfl, fun _ => rfl, Or.inl (mgG 260 (by decide +kernel) rfl)⟩
theorem fg6_11 : FRr RX6 11 6 0 2 := fr6_11.rd
theorem fr6_17 : FR RX6 17 6 1 2 true := ⟨RX6, TX6, 6, tyX6, cok6, by decide, rfl, rfl, fun _ => rfl, Or.inl (mgG 261 (by decide +kernel) rfl)⟩
theorem fg6_17 : FRr RX6 17 6 1 2 := fr6_17.rd
theorem fr6_21 : FR RX6 21 6 2 2 true := ⟨RX6, TX6, 6, tyX6, cok6, by decide, rfl, rfl, fun _ => rfl, Or.inl (mgG 262 (by decide +kernel) rfl)⟩
theorem fg6_21 : FRr RX6 21 6 2 2 := fr6_21.rd
theorem fg11_204 : FRr RX11 204 6 2 2 := ⟨RX6, TX6, 6, tyX6, cok6, by decide, rfl, Or.inr ⟨"SleepyHelm", mgN 263 (by decide +kernel) rfl⟩⟩
theorem fr6_27 : FR RX6 27 6 3 0 false := ⟨RX6, TX6, 6, tyX6, cok6, by decide, rfl, rfl, fun _ => rfl, Or.inl (mgG 264 (by decide +kernel) rfl)⟩
theorem fg6_27 : FRr RX6 27 6 3 0 := fr6_27.rd
theorem fr6_37 : FR RX6 37 6 4 0 false := ⟨RX6, TX6, 6, tyX6, cok6, by decide, rfl, rfl, fun _ => rfl, Or.inl (mgG 265 (by decide +kernel) rfl)⟩
theorem fg6_37 : FRr RX6 37 6 4 0 := fr6_37.rd
theorem fr6_40 : FR RX6 40 6 5 0 false := ⟨RX6, TX6, 6, tyX6, cok6, by decide, rfl, rfl, fun _ => rfl, Or.inl (mgG 266 (by decide +kernel) rfl)⟩
theorem fg6_40 : FRr RX6 40 6 5 0 := fr6_40.rd
theorem fg11_201 : FRr RX11 201 6 5 0 := ⟨RX6, TX6, 6, tyX6, cok6, by decide, rfl, Or.inr ⟨"SleepyHelm", mgN 267 (by decide +kernel) rfl⟩⟩
theorem fr11_201 : FR RX11 201 6 5 0 false := ⟨RX6, TX6, 6, tyX6, cok6, by decide, rfl, rfl, (fun h => by cases h), Or.inr ⟨"SleepyHelm", rfl, mgN 267 (by decide +kernel) rfl⟩⟩
theorem fr9_9 : FR RX9 9 9 0 2 true := ⟨RX9, TX9, 7, tyX9, cok9, by decide, rfl, rfl, fun _ => rfl, Or.inl (mgG 287 (by decide +kernel) rfl)⟩
theorem fg9_9 : FRr RX9 9 9 0 2 := fr9_9.rd
theorem fr9_15 : FR RX9 15 9 1 0 false := ⟨RX9, TX9, 7, tyX9, cok9, by decide, rfl, rfl, fun _ => rfl, Or.inl (mgG 288 (by decide +kernel) rfl)⟩
theorem fg9_15 : FRr RX9 15 9 1 0 := fr9_15.rd
theorem fg11_127 : FRr RX11 127 9 1 0 := ⟨RX9, TX9, 7, tyX9, cok9, by decide, rfl, Or.inr ⟨"SleepyHelm", mgN 289 (by decide +kernel) rfl⟩⟩
theorem fr11_127 : FR RX11 127 9 1 0 false := ⟨RX9, TX9, 7, tyX9, cok9, by decide, rfl, rfl, (fun h => by cases h), Or.inr ⟨"SleepyHelm", rfl, mgN 289 (by decide +kernel) rfl⟩⟩
theorem fr9_24 : FR RX9 24 9 2 0 false := ⟨RX9, TX9, 7, tyX9, cok9, by decide, rfl, rfl, fun _ => rfl, Or.inl (mgG 290 (by decide +kernel) rfl)⟩
theorem fg9_24 : FRr RX9 24 9 2 0 := fr9_24.rd
theorem fg11_137 : FRr RX11 137 9 2 0 := ⟨RX9, TX9, 7, tyX9, cok9, by decide, rfl, Or.inr ⟨"SleepyHelm", mgN 291 (by decide +kernel) rfl⟩⟩
theorem fr11_137 : FR RX11 137 9 2 0 false := ⟨RX9, TX9, 7, tyX9, cok9, by decide, rfl, rfl, (fun h => by cases h), Or.inr ⟨"SleepyHelm", rfl, mgN 291 (by decide +kernel) rfl⟩⟩
theorem fr9_45 : FR RX9 45 9 3 0 false := ⟨RX9, TX9, 7, tyX9, cok9, by decide, rfl, rfl, fun _ => rfl, Or.inl (mgG 292 (by decide +kernel) rfl)⟩
theorem fg9_45 : FRr RX9 45 9 3 0 := fr9_45.rd
theorem fr9_101 : FR RX9 101 9 4 0 false := ⟨RX9, TX9, 7, tyX9, cok9, by decide, rfl, rfl, fun _ => rfl, Or.inl (mgG 293 (by decide +kernel) rfl)⟩
theorem fg9_101 : FRr RX9 101 9 4 0 := fr9_101.rd
theorem fr9_27 : FR RX9 27 9 5 0 false := ⟨RX9, TX9, 7, tyX9, cok9, by decide, rfl, rfl, fun _ => rfl, Or.inl (mgG 294 (by decide +kernel) rfl)⟩
theorem fg9_27 : FRr RX9 27 9 5 0 := fr9_27.rd
theorem fr9_70 : FR RX9 70 9 6 0 false := ⟨RX9, TX9, 7, tyX9, cok9, by decide, rfl, rfl, fun _ => rfl, Or.inl (mgG 295 (by decide +kernel) rfl)⟩
theorem fg9_70 : FRr RX9 70 9 6 0 := fr9_70.rd
theorem fr11_32 : FR RX11 32 11 0 2 true := ⟨RX11, TX11, 13, tyX11, cok11, by decide, rfl, rfl, fun _ => rfl, Or.inl (mgG 311 (by decide +kernel) rfl)⟩
theorem fg11_32 : FRr RX11 32 11 0 2 := fr11_32.rd
theorem fr11_36 : FR RX11 36 11 1 2 true := ⟨RX11, TX11, 13, tyX11, cok11, by decide, rfl, rfl, fun _ => rfl, Or.inl (mgG 312 (by decide +kernel) rfl)⟩
theorem fg11_36 : FRr RX11 36 11 1 2 := fr11_36.rd
theorem fr11_39 : FR RX11 39 11 2 2 true := ⟨RX11, TX11, 13, tyX11, cok11, by decide, rfl, rfl, fun _ => rfl, Or.inl (mgG 313 (by decide +kernel) rfl)⟩
theorem fg11_39 : FRr RX11 39 11 2 2 := fr11_39.rd
theorem fr11_43 : FR RX11 43 11 3 2 true := ⟨RX11, TX11, 13, tyX11, cok11, by decide, rfl, rfl, fun _ => rfl, Or.inl (mgG 314 (by decide +kernel) rfl)⟩
theorem fg11_43 : FRr RX11 43 11 3 2 := fr11_43.rd
theorem fr11_50 : FR RX11 50 11 4 2 true := ⟨RX11, TX11, 13, tyX11, cok11, by decide, rfl, rfl, fun _ => rfl, Or.inl (mgG 315 (by decide +kernel) rfl)⟩
theorem fg11_50 : FRr RX11 50 11 4 2 := fr11_50.rd
theorem fr11_57 : FR RX11 57 11 5 2 true := ⟨RX11, TX11, 13, tyX11, cok11, by decide, rfl, rfl, fun _ => rfl, Or.inl (mgG 316 (by decide +kernel) rfl)⟩
theorem fg11_57 : FRr RX11 57 11 5 2 := fr11_57.rd
theorem fr11_64 : FR RX11 64 11 6 2 true := ⟨RX11, TX11, 13, tyX11, cok11, by decide, rfl, rfl, fun _ => rfl, Or.inl (mgG 317 (by decide +kernel) rfl)⟩
theorem fg11_64 : FRr RX11 64 11 6 2 := fr11_64.rd
theorem fr11_71 : FR RX11 71 11 7 2 true := ⟨RX11, TX11, 13, tyX11, cok11, by decide, rfl, rfl, fun _ => rfl, Or.inl (mgG 318 (by decide +kernel) rfl)⟩
theorem fg11_71 : FRr RX11 71 11 7 2 := fr11_71.rd
theorem fr11_75 : FR RX11 75 11 8 0 false := ⟨RX11, TX11, 13, tyX11, cok11, by decide, rfl, rfl, fun _ => rfl, Or.inl (mgG 319 (by decide +kernel) rfl)⟩
theorem fg11_75 : FRr RX11 75 11 8 0 := fr11_75.rd
theorem fr11_79 : FR RX11 79 11 9 0 false := ⟨RX11, TX11, 13, tyX11, cok11, by decide, rfl, rfl, fun _ => rfl, Or.inl (mgG 320 (by decide +kernel) rfl)⟩
theorem fg11_79 : FRr RX11 79 11 9 0 := fr11_79.rd
theorem fr11_258 : FR RX11 258 11 10 0 false := ⟨RX11, TX11, 13, tyX11, cok11, by decide, rfl, rfl, fun _ => rfl, Or.inl (mgG 321 (by decide +kernel) rfl)⟩
theorem fg11_258 : FRr RX11 258 11 10 0 := fr11_258.rd
theorem fr11_261 : FR RX11 261 11 11 0 false := ⟨RX11, TX11, 13, tyX11, cok11, by decide, rfl, rfl, fun _ => rfl, Or.inl (mgG 322 (by decide +kernel) rfl)⟩
theorem fg11_261 : FRr RX11 261 11 11 0 := fr11_261.rd
theorem fr11_264 : FR RX11 264 11 12 0 false := ⟨RX11, TX11, 13, tyX11, cok11, by decide, rfl, rfl, fun _ => rfl, Or.inl (mgG 323 (by decide +kernel) rfl)⟩
theorem fg11_264 : FRr RX11 264 11 12 0 := fr11_264.rd
theorem fr12_1 : FR RX12 1 12 0 2 true := ⟨RX12, TX12, 33, tyX12, cok12, by decide, rfl, rfl, fun _ => rfl, Or.inl (mgG 836 (by decide +kernel) rfl)⟩
theorem fg12_1 : FRr RX12 1 12 0 2 := fr12_1.rd
theorem fr12_74 : FR RX12 74 12 1 0 false := ⟨RX12, TX12, 33, tyX12, cok12, by decide, rfl, rfl, fun _ => rfl, Or.inl (mgG 837 (by decide +kernel) rfl)⟩
theorem fg12_74 : FRr RX12 74 12 1 0 := fr12_74.rd
theorem fr12_78 : FR RX12 78 12 2 0 false := ⟨RX12, TX12, 33, tyX12, cok12, by decide, rfl, rfl, fun _ => rfl, Or.inl (mgG 838 (by decide +kernel) rfl)⟩
theorem fg12_78 : FRr RX12 78 12 2 0 := fr12_78.rd
theorem fr12_81 : FR RX12 81 12 3 0 false := ⟨RX12, TX12, 33, tyX12, cok12, by decide, rfl, rfl, fun _ => rfl, Or.inl (mgG 839 (by decide +kernel) rfl)⟩
theorem fg12_81 : FRr RX12 81 12 3 0 := fr12_81.rd
theorem fr12_84 : FR RX12 84 12 4 0 false := ⟨RX12, TX12, 33, tyX12, cok12, by decide, rfl, rfl, fun _ => rfl, Or.inl (mgG 840 (by decide +kernel) rfl)⟩
theorem fg12_84 : FRr RX12 84 12 4 0 := fr12_84.rd
theorem fr12_87 : FR RX12 87 12 5 0 false := ⟨RX12, TX12, 33, tyX12, cok12, by decide, rfl, rfl, fun _ => rfl, Or.inl (mgG 841 (by decide +kernel) rfl)⟩
theorem fg12_87 : FRr RX12 87 12 5 0 := fr12_87.rd
theorem fr12_13 : FR RX12 13 12 6 2 true := ⟨RX12, TX12, 33, tyX12, cok12, by decide, rfl, rfl, fun _ => rfl, Or.inl (mgG 842 (by decide +kernel) rfl)⟩
theorem fg12_13 : FRr RX12 13 12 6 2 := fr12_13.rd
theorem fr12_16 : FR RX12 16 12 7 2 true := ⟨RX12, TX12, 33, tyX12, cok12, by decide, rfl, rfl, fun _ => rfl, Or.inl (mgG 843 (by decide +kernel) rfl)⟩
theorem fg12_16 : FRr RX12 16 12 7 2 := fr12_16.rd
theorem fr12_19 : FR RX12 19 12 8 2 true := ⟨RX12, TX12, 33, tyX12, cok12, by decide, rfl, rfl, fun _ => rfl, Or.inl (mgG 844 (by decide +kernel) rfl)⟩
theorem fg12_19 : FRr RX12 19 12 8 2 := fr12_19.rd
theorem fr12_22 : FR RX12 22 12 9 2 true := ⟨RX12, TX12, 33, tyX12, cok12, by decide, rfl, rfl, fun _ => rfl, Or.inl (mgG 845 (by decide +kernel) rfl)⟩
theorem fg12_22 : FRr RX12 22 12 9 2 := fr12_22.rd
theorem fr12_25 : FR RX12 25 12 10 2 true := ⟨RX12, TX12, 33, tyX12, cok12, by decide, rfl, rfl, fun _ => rfl, Or.inl (mgG 846 (by decide +kernel) rfl)⟩
theorem fg12_25 : FRr RX12 25 12 10 2 := fr12_25.rd
theorem fr12_28 : FR RX12 28 12 11 2 true := ⟨RX12, TX12, 33, tyX12, cok12, by decide, rfl, rfl, fun _ => rfl, Or.inl (mgG 847 (by decide +kernel) rfl)⟩
theorem fg12_28 : FRr RX12 28 12 11 2 := fr12_28.rd
theorem fr12_31 : FR RX12 31 12 12 2 true := ⟨RX12, TX12, 33, tyX12, cok12, by decide, rfl, rfl, fun _ => rfl, Or.inl (mgG 848 (by decide +kernel) rfl)⟩
theorem fg12_31 : FRr RX12 31 12 12 2 := fr12_31.rd
theorem fr12_34 : FR RX12 34 12 13 2 true := ⟨RX12, TX12, 33, tyX12, cok12, by decide, rfl, rfl, fun _ => rfl, Or.inl (mgG 849 (by decide +kernel) rfl)⟩
theorem fg12_34 : FRr RX12 34 12 13 2 := fr12_34.rd
theorem fr12_119 : FR RX12 119 12 14 0 false := ⟨RX12, TX12, 33, tyX12, cok12, by decide, rfl, rfl, fun _ => rfl, Or.inl (mgG 850 (by decide +kernel) rfl)⟩
theorem fg12_119 : FRr RX12 119 12 14 0 := fr12_119.rd
theorem fr12_122 : FR RX12 122 12 15 0 false := ⟨RX12, TX12, 33, tyX12, cok12, by decide, rfl, rfl, fun _ => rfl, Or.inl (mgG 851 (by decide +kernel) rfl)⟩
theorem fg12_122 : FRr RX12 122 12 15 0 := fr12_122.rd
theorem fr12_154 : FR RX12 154 12 16 0 false := ⟨RX12, TX12, 33, tyX12, cok12, by decide, rfl, rfl, fun _ => rfl, Or.inl (mgG 852 (by decide +kernel) rfl)⟩
theorem fg12_154 : FRr RX12 154 12 16 0 := fr12_154.rd
theorem fr12_161 : FR RX12 161 12 17 0 false := ⟨RX12, TX12, 33, tyX12, cok12, by decide, rfl, rfl, fun _ => rfl, Or.inl (mgG 853 (by decide +kernel) rfl)⟩
theorem fg12_161 : FRr RX12 161 12 17 0 := fr12_161.rd
theorem fr12_37 : FR RX12 37 12 18 2 true := ⟨RX12, TX12, 33, tyX12, cok12, by decide, rfl, rfl, fun _ => rfl, Or.inl (mgG 854 (by decide +kernel) rfl)⟩
theorem fg12_37 : FRr RX12 37 12 18 2 := fr12_37.rd
theorem fr12_40 : FR RX12 40 12 19 2 true := ⟨RX12, TX12, 33, tyX12, cok12, by decide, rfl, rfl, fun _ => rfl, Or.inl (mgG 855 (by decide +kernel) rfl)⟩
theorem fg12_40 : FRr RX12 40 12 19 2 := fr12_40.rd
theorem fr12_147 : FR RX12 147 12 20 0 false := ⟨RX12, TX12, 33, tyX12, cok12, by decide, rfl, rfl, fun _ => rfl, Or.inl (mgG 856 (by decide +kernel) rfl)⟩
theorem fg12_147 : FRr RX12 147 12 20 0 := fr12_147.rd
theorem fr12_43 : FR RX12 43 12 21 2 true := ⟨RX12, TX12, 33, tyX12, cok12, by decide, rfl, rfl, fun _ => rfl, Or.inl (mgG 857 (by decide +kernel) rfl)⟩
theorem fg12_43 : FRr RX12 43 12 21 2 := fr12_43.rd
theorem fr12_90 : FR RX12 90 12 22 0 false := ⟨RX12, TX12, 33, tyX12, cok12, by decide, rfl, rfl, fun _ => rfl, Or.inl (mgG 858 (by decide +kernel) rfl)⟩
theorem fg12_90 : FRr RX12 90 12 22 0 := fr12_90.rd
theorem fr12_46 : FR RX12 46 12 23 2 true := ⟨RX12, TX12, 33, tyX12, cok12, by decide, rfl, rfl, fun _ => rfl, Or.inl (mgG 859 (by decide +kernel) rfl)⟩
theorem fg12_46 : FRr RX12 46 12 23 2 := fr12_46.rd
theorem fr12_49 : FR RX12 49 12 24 2 true := ⟨RX12, TX12, 33, tyX12, cok12, by decide, rfl, rfl, fun _ => rfl, Or.inl (mgG 860 (by decide +kernel) rfl)⟩
theorem fg12_49 : FRr RX12 49 12 24 2 := fr12_49.rd
theorem fr12_52 : FR RX12 52 12 25 2 true := ⟨RX12, TX12, 33, tyX12, cok12, by decide, rfl, rfl, fun _ => rfl, Or.inl (mgG 861 (by decide +kernel) rfl)⟩
theorem fg12_52 : FRr RX12 52 12 25 2 := fr12_52.rd
theorem fr12_55 : FR RX12 55 12 26 2 true := ⟨RX12, TX12, 33, tyX12, cok12, by decide, rfl, rfl, fun _ => rfl, Or.inl (mgG 862 (by decide +kernel) rfl)⟩
theorem fg12_55 : FRr RX12 55 12 26 2 := fr12_55.rd
theorem fr12_58 : FR RX12 58 12 27 2 true := ⟨RX12, TX12, 33, tyX12, cok12, by decide, rfl, rfl, fun _ => rfl, Or.inl (mgG 863 (by decide +kernel) rfl)⟩
theorem fg12_58 : FRr RX12 58 12 27 2 := fr12_58.rd
theorem fr12_249 : FR RX12 249 12 28 1 false := ⟨RX12, TX12, 33, tyX12, cok12, by decide, rfl, rfl, fun _ => rfl, Or.inl (mgG 864 (by decide +kernel) rfl)⟩
theorem fg12_249 : FRr RX12 249 12 28 1 := fr12_249.rd
theorem fr12_61 : FR RX12 61 12 29 1 false := ⟨RX12, TX12, 33, tyX12, cok12, by decide, rfl, rfl, fun _ => rfl, Or.inl (mgG 865 (by decide +kernel) rfl)⟩
theorem fg12_61 : FRr RX12 61 12 29 1 := fr12_61.rd
theorem fr12_65 : FR RX12 65 12 30 2 true := ⟨RX12, TX12, 33, tyX12, cok12, by decide, rfl, rfl, fun _ => rfl, Or.inl (mgG 866 (by decide +kernel) rfl)⟩
theorem fg12_65 : FRr RX12 65 12 30 2 := fr12_65.rd
theorem fr12_68 : FR RX12 68 12 31 2 true := ⟨RX12, TX12, 33, tyX12, cok12, by decide, rfl, rfl, fun _ => rfl, Or.inl (mgG 867 (by decide +kernel) rfl)⟩
theorem fg12_68 : FRr RX12 68 12 31 2 := fr12_68.rd
theorem fr12_274 : FR RX12 274 12 32 1 false := ⟨RX12, TX12, 33, tyX12, cok12, by decide, rfl, rfl, fun _ => rfl, Or.inl (mgG 868 (by decide +kernel) rfl)⟩
theorem fg12_274 : FRr RX12 274 12 32 1 := fr12_274.rd
theorem oi11_1 : Cond.methodLink RX11 1 objectInit ∈ wsG := mgG 91 (by decide +kernel) rfl
theorem ct11_11 : CIn RX11 11 iX7_init := ⟨rfl, rfl, mgG 98 (by decide +kernel) rfl, Or.inr ⟨"SleepyHelm", mgN 97 (by decide +kernel) rfl⟩⟩
theorem oi7_1 : Cond.methodLink RX7 1 objectInit ∈ wsG := mgG 100 (by decide +kernel) rfl
theorem ct11_14 : CIn RX11 14 iX1_init := ⟨rfl, rfl, mgG 105 (by decide +kernel) rfl, Or.inr ⟨"SleepyHelm", mgN 104 (by decide +kernel) rfl⟩⟩
theorem ct1_1 : CIn RX1 1 iX7_init := ⟨rfl, rfl, mgG 98 (by decide +kernel) rfl, Or.inr ⟨"SleepyHelm", mgN 107 (by decide +kernel) rfl⟩⟩
theorem ct11_17 : CIn RX11 17 iX8_init := ⟨rfl, rfl, mgG 112 (by decide +kernel) rfl, Or.inr ⟨"SleepyHelm", mgN 111 (by decide +kernel) rfl⟩⟩
theorem ct8_1 : CIn RX8 1 iX7_init := ⟨rfl, rfl, mgG 98 (by decide +kernel) rfl, Or.inr ⟨"SleepyHelm", mgN 114 (by decide +kernel) rfl⟩⟩
theorem ct11_20 : CIn RX11 20 iX2_init := ⟨rfl, rfl, mgG 119 (by decide +kernel) rfl, Or.inr ⟨"SleepyHelm", mgN 118 (by decide +kernel) rfl⟩⟩
theorem ct2_1 : CIn RX2 1 iX7_init := ⟨rfl, rfl, mgG 98 (by decide +kernel) rfl, Or.inr ⟨"SleepyHelm", mgN 121 (by decide +kernel) rfl⟩⟩
theorem ct11_23 : CIn RX11 23 iX5_init := ⟨rfl, rfl, mgG 126 (by decide +kernel) rfl, Or.inr ⟨"SleepyHelm", mgN 125 (by decide +kernel) rfl⟩⟩
theorem ct5_1 : CIn RX5 1 iX1_init := ⟨rfl, rfl, mgG 105 (by decide +kernel) rfl, Or.inr ⟨"SleepyHelm", mgN 128 (by decide +kernel) rfl⟩⟩
theorem ct11_26 : CIn RX11 26 iX0_init := ⟨rfl, rfl, mgG 133 (by decide +kernel) rfl, Or.inr ⟨"SleepyHelm", mgN 132 (by decide +kernel) rfl⟩⟩
theorem ct0_1 : CIn RX0 1 iX8_init := ⟨rfl, rfl, mgG 112 (by decide +kernel) rfl, Or.inr ⟨"SleepyHelm", mgN 135 (by decide +kernel) rfl⟩⟩
theorem ct11_29 : CIn RX11 29 iX10_init := ⟨rfl, rfl, mgG 140 (by decide +kernel) rfl, Or.inl (mgG 139 (by decide +kernel) rfl)⟩
theorem oi10_3 : Cond.methodLink RX10 3 objectInit ∈ wsG := mgG 142 (by decide +kernel) rfl
theorem ct10_27 : CIn RX10 27 iX4_init := ⟨rfl, rfl, mgG 147 (by decide +kernel) rfl, Or.inl (mgG 146 (by decide +kernel) rfl)⟩
theorem oi4_3 : Cond.methodLink RX4 3 objectInit ∈ wsG := mgG 149 (by decide +kernel) rfl
theorem ct11_49 : CIn RX11 49 iX4_init := ⟨rfl, rfl, mgG 147 (by decide +kernel) rfl, Or.inl (mgG 230 (by decide +kernel) rfl)⟩
theorem ct11_56 : CIn RX11 56 iX3_init := ⟨rfl, rfl, mgG 234 (by decide +kernel) rfl, Or.inl (mgG 233 (by decide +kernel) rfl)⟩
theorem oi3_3 : Cond.methodLink RX3 3 objectInit ∈ wsG := mgG 236 (by decide +kernel) rfl
theorem ct3_20 : CIn RX3 20 iX4_init := ⟨rfl, rfl, mgG 147 (by decide +kernel) rfl, Or.inl (mgG 238 (by decide +kernel) rfl)⟩
theorem ct11_63 : CIn RX11 63 iX6_init := ⟨rfl, rfl, mgG 255 (by decide +kernel) rfl, Or.inl (mgG 254 (by decide +kernel) rfl)⟩
theorem oi6_3 : Cond.methodLink RX6 3 objectInit ∈ wsG := mgG 257 (by decide +kernel) rfl
theorem ct6_24 : CIn RX6 24 iX4_init := ⟨rfl, rfl, mgG 147 (by decide +kernel) rfl, Or.inl (mgG 259 (by decide +kernel) rfl)⟩
theorem ct11_70 : CIn RX11 70 iX9_init := ⟨rfl, rfl, mgG 284 (by decide +kernel) rfl, Or.inr ⟨"SleepyHelm", mgN 283 (by decide +kernel) rfl⟩⟩
theorem oi9_3 : Cond.methodLink RX9 3 objectInit ∈ wsG := mgG 286 (by decide +kernel) rfl
theorem cv11_88 : CVi RX11 88 iX10_begin 10 := ⟨_, rfl, by decide, mgG 355 (by decide +kernel) rfl, mgG 356 (by decide +kernel) rfl, mgG 357 (by decide +kernel) rfl⟩
theorem cv10_34 : CVi RX10 34 iX4_begin 4 := ⟨_, rfl, by decide, mgG 359 (by decide +kernel) rfl, mgG 360 (by decide +kernel) rfl, mgG 361 (by decide +kernel) rfl⟩
theorem cs11_91 : CSt RX11 91 iX11_isPlace := ⟨mgG 367 (by decide +kernel) rfl, mgG 368 (by decide +kernel) rfl⟩
theorem cs11_116 : CSt RX11 116 iX11_isWithin := ⟨mgG 370 (by decide +kernel) rfl, mgG 371 (by decide +kernel) rfl⟩
theorem cv11_95 : CVi RX11 95 iX11_refuseBad 11 := ⟨_, rfl, by decide, mgG 373 (by decide +kernel) rfl, mgG 375 (by decide +kernel) rfl, mgG 0 (by decide +kernel) rfl⟩
theorem cv11_99 : CVi RX11 99 iX10_isRock 10 := ⟨_, rfl, by decide, mgG 377 (by decide +kernel) rfl, mgG 378 (by decide +kernel) rfl, mgG 379 (by decide +kernel) rfl⟩
theorem cv11_102 : CVi RX11 102 iX11_refuseNo 11 := ⟨_, rfl, by decide, mgG 381 (by decide +kernel) rfl, mgG 383 (by decide +kernel) rfl, mgG 1 (by decide +kernel) rfl⟩
theorem cv11_109 : CVi RX11 109 iX11_refuseFull 11 := ⟨_, rfl, by decide, mgG 385 (by decide +kernel) rfl, mgG 387 (by decide +kernel) rfl, mgG 2 (by decide +kernel) rfl⟩
theorem cv11_112 : CVi RX11 112 iX10_addRock 10 := ⟨_, rfl, by decide, mgG 389 (by decide +kernel) rfl, mgG 390 (by decide +kernel) rfl, mgG 391 (by decide +kernel) rfl⟩
theorem cs11_120 : CSt RX11 120 iX11_isNods := ⟨mgG 397 (by decide +kernel) rfl, mgG 398 (by decide +kernel) rfl⟩
theorem cv11_123 : CVi RX11 123 iX10_addHand 10 := ⟨_, rfl, by decide, mgG 400 (by decide +kernel) rfl, mgG 401 (by decide +kernel) rfl, mgG 402 (by decide +kernel) rfl⟩
theorem cv11_130 : CVi RX11 130 iX9_append 9 := ⟨_, rfl, by decide, mgG 408 (by decide +kernel) rfl, mgG 409 (by decide +kernel) rfl, mgG 410 (by decide +kernel) rfl⟩
theorem cv11_133 : CVi RX11 133 iX9_parse 9 := ⟨_, rfl, by decide, mgG 420 (by decide +kernel) rfl, mgG 421 (by decide +kernel) rfl, mgG 422 (by decide +kernel) rfl⟩
theorem cv9_19 : CVi RX9 19 iX10_begin 10 := ⟨_, rfl, by decide, mgG 424 (by decide +kernel) rfl, mgG 356 (by decide +kernel) rfl, mgG 357 (by decide +kernel) rfl⟩
theorem cv9_30 : CVi RX9 30 iX9_advance 9 := ⟨_, rfl, by decide, mgG 425 (by decide +kernel) rfl, mgG 427 (by decide +kernel) rfl, mgG 3 (by decide +kernel) rfl⟩
theorem cs9_113 : CSt RX9 113 iX9_isLetter := ⟨mgG 429 (by decide +kernel) rfl, mgG 430 (by decide +kernel) rfl⟩
theorem cv9_116 : CVi RX9 116 iX9_advanceOverWord 9 := ⟨_, rfl, by decide, mgG 432 (by decide +kernel) rfl, mgG 434 (by decide +kernel) rfl, mgG 4 (by decide +kernel) rfl⟩
theorem cs9_119 : CSt RX9 119 iX9_isFigure := ⟨mgG 436 (by decide +kernel) rfl, mgG 437 (by decide +kernel) rfl⟩
theorem cv9_122 : CVi RX9 122 iX9_advanceOverNumber 9 := ⟨_, rfl, by decide, mgG 439 (by decide +kernel) rfl, mgG 441 (by decide +kernel) rfl, mgG 5 (by decide +kernel) rfl⟩
theorem cv9_35 : CVi RX9 35 iX9_isWord 9 := ⟨_, rfl, by decide, mgG 444 (by decide +kernel) rfl, mgG 446 (by decide +kernel) rfl, mgG 6 (by decide +kernel) rfl⟩
theorem sl9_104 : Cond.methodLink RX9 104 ⟨"java/lang/String", "length", "()I"⟩ ∈ wsG := mgG 448 (by decide +kernel) rfl
theorem sl9_109 : Cond.methodLink RX9 109 ⟨"java/lang/String", "charAt", "(I)C"⟩ ∈ wsG := mgG 458 (by decide +kernel) rfl
theorem cv9_39 : CVi RX9 39 iX9_expectStop 9 := ⟨_, rfl, by decide, mgG 496 (by decide +kernel) rfl, mgG 498 (by decide +kernel) rfl, mgG 7 (by decide +kernel) rfl⟩
theorem cv9_42 : CVi RX9 42 iX9_fail 9 := ⟨_, rfl, by decide, mgG 500 (by decide +kernel) rfl, mgG 502 (by decide +kernel) rfl, mgG 8 (by decide +kernel) rfl⟩
theorem cv9_48 : CVi RX9 48 iX9_parseItem 9 := ⟨_, rfl, by decide, mgG 504 (by decide +kernel) rfl, mgG 506 (by decide +kernel) rfl, mgG 9 (by decide +kernel) rfl⟩
theorem cv9_54 : CVi RX9 54 iX9_parseRock 9 := ⟨_, rfl, by decide, mgG 509 (by decide +kernel) rfl, mgG 511 (by decide +kernel) rfl, mgG 10 (by decide +kernel) rfl⟩
theorem cv9_73 : CVi RX9 73 iX9_isNumberUpTo 9 := ⟨_, rfl, by decide, mgG 513 (by decide +kernel) rfl, mgG 515 (by decide +kernel) rfl, mgG 11 (by decide +kernel) rfl⟩
theorem cv9_77 : CVi RX9 77 iX10_isRock 10 := ⟨_, rfl, by decide, mgG 517 (by decide +kernel) rfl, mgG 378 (by decide +kernel) rfl, mgG 379 (by decide +kernel) rfl⟩
theorem cv9_80 : CVi RX9 80 iX10_addRock 10 := ⟨_, rfl, by decide, mgG 518 (by decide +kernel) rfl, mgG 390 (by decide +kernel) rfl, mgG 391 (by decide +kernel) rfl⟩
theorem cv9_62 : CVi RX9 62 iX9_parseHand 9 := ⟨_, rfl, by decide, mgG 521 (by decide +kernel) rfl, mgG 523 (by decide +kernel) rfl, mgG 12 (by decide +kernel) rfl⟩
theorem cv9_93 : CVi RX9 93 iX9_takeNumberUpTo 9 := ⟨_, rfl, by decide, mgG 525 (by decide +kernel) rfl, mgG 527 (by decide +kernel) rfl, mgG 13 (by decide +kernel) rfl⟩
theorem cv9_97 : CVi RX9 97 iX10_addHand 10 := ⟨_, rfl, by decide, mgG 529 (by decide +kernel) rfl, mgG 401 (by decide +kernel) rfl, mgG 402 (by decide +kernel) rfl⟩
theorem cv11_140 : CVi RX11 140 iX10_take 10 := ⟨_, rfl, by decide, mgG 531 (by decide +kernel) rfl, mgG 532 (by decide +kernel) rfl, mgG 533 (by decide +kernel) rfl⟩
theorem cv10_47 : CVi RX10 47 iX4_take 4 := ⟨_, rfl, by decide, mgG 535 (by decide +kernel) rfl, mgG 536 (by decide +kernel) rfl, mgG 537 (by decide +kernel) rfl⟩
theorem ac4_38 : Cond.methodLink RX4 38 arraycopyName ∈ wsG := mgG 539 (by decide +kernel) rfl
theorem ac10_51 : Cond.methodLink RX10 51 arraycopyName ∈ wsG := mgG 542 (by decide +kernel) rfl
theorem cv11_144 : CVi RX11 144 iX11_isHand 11 := ⟨_, rfl, by decide, mgG 548 (by decide +kernel) rfl, mgG 550 (by decide +kernel) rfl, mgG 14 (by decide +kernel) rfl⟩
theorem cs11_150 : CSt RX11 150 iX11_holds := ⟨mgG 552 (by decide +kernel) rfl, mgG 553 (by decide +kernel) rfl⟩
theorem cv11_154 : CVi RX11 154 iX10_remember 10 := ⟨_, rfl, by decide, mgG 555 (by decide +kernel) rfl, mgG 556 (by decide +kernel) rfl, mgG 557 (by decide +kernel) rfl⟩
theorem cv11_157 : CVi RX11 157 iX4_steerer 4 := ⟨_, rfl, by decide, mgG 563 (by decide +kernel) rfl, mgG 564 (by decide +kernel) rfl, mgG 565 (by decide +kernel) rfl⟩
theorem cs4_50 : CSn RX4 50 iX11_holds := ⟨⟨"SleepyHelm", mgN 567 (by decide +kernel) rfl⟩, mgG 553 (by decide +kernel) rfl⟩
theorem cv4_54 : CVi RX4 54 iX4_sleepiness 4 := ⟨_, rfl, by decide, mgG 568 (by decide +kernel) rfl, mgG 569 (by decide +kernel) rfl, mgG 570 (by decide +kernel) rfl⟩
theorem cu4_44_0 : CVu RX4 44 iX7_sleepy.1 iX0_sleepy 0 := ⟨_, cX7_sleepy, 4, some .int, rfl, by decide, mgG 572 (by decide +kernel) rfl, mgG 575 (by decide +kernel) rfl, mgG 573 (by decide +kernel) rfl, mgG 576 (by decide +kernel) rfl, mgG 577 (by decide +kernel) rfl, mgG 598 (by decide +kernel) rfl, ⟨by decide +kernel, by decide +kernel⟩, rfl⟩
theorem cu4_44_1 : CVu RX4 44 iX7_sleepy.1 iX1_sleepy 1 := ⟨_, cX7_sleepy, 4, some .int, rfl, by decide, mgG 572 (by decide +kernel) rfl, mgG 575 (by decide +kernel) rfl, mgG 573 (by decide +kernel) rfl, mgG 579 (by decide +kernel) rfl, mgG 580 (by decide +kernel) rfl, mgG 598 (by decide +kernel) rfl, ⟨by decide +kernel, by decide +kernel⟩, rfl⟩
theorem cu4_44_2 : CVu RX4 44 iX7_sleepy.1 iX2_sleepy 2 := ⟨_, cX7_sleepy, 4, some .int, rfl, by decide, mgG 572 (by decide +kernel) rfl, mgG 575 (by decide +kernel) rfl, mgG 573 (by decide +kernel) rfl, mgG 586 (by decide +kernel) rfl, mgG 587 (by decide +kernel) rfl, mgG 598 (by decide +kernel) rfl, ⟨by decide +kernel, by decide +kernel⟩, rfl⟩
theorem cu4_44_5 : CVu RX4 44 iX7_sleepy.1 iX5_sleepy 5 := ⟨_, cX7_sleepy, 4, some .int, rfl, by decide, mgG 572 (by decide +kernel) rfl, mgG 575 (by decide +kernel) rfl, mgG 573 (by decide +kernel) rfl, mgG 590 (by decide +kernel) rfl, mgG 591 (by decide +kernel) rfl, mgG 598 (by decide +kernel) rfl, ⟨by decide +kernel, by decide +kernel⟩, rfl⟩
theorem cu4_44_7 : CVu RX4 44 iX7_sleepy.1 iX7_sleepy 7 := ⟨_, cX7_sleepy, 4, some .int, rfl, by decide, mgG 572 (by decide +kernel) rfl, mgG 575 (by decide +kernel) rfl, mgG 573 (by decide +kernel) rfl, mgG 574 (by decide +kernel) rfl, mgG 573 (by decide +kernel) rfl, mgG 598 (by decide +kernel) rfl, ⟨by decide +kernel, by decide +kernel⟩, rfl⟩
theorem cu4_44_8 : CVu RX4 44 iX7_sleepy.1 iX8_sleepy 8 := ⟨_, cX7_sleepy, 4, some .int, rfl, by decide, mgG 572 (by decide +kernel) rfl, mgG 575 (by decide +kernel) rfl, mgG 573 (by decide +kernel) rfl, mgG 594 (by decide +kernel) rfl, mgG 595 (by decide +kernel) rfl, mgG 598 (by decide +kernel) rfl, ⟨by decide +kernel, by decide +kernel⟩, rfl⟩
theorem cv1_7 : CSu RX1 7 iX7_sleepy := ⟨mgG 582 (by decide +kernel) rfl, mgG 575 (by decide +kernel) rfl, mgG 108 (by decide +kernel) rfl, mgG 573 (by decide +kernel) rfl, by decide +kernel⟩
theorem mm1_11 : Cond.methodLink RX1 11 Lib.Math.max.name ∈ wsG := mgG 583 (by decide +kernel) rfl
theorem cv2_7 : CSu RX2 7 iX7_sleepy := ⟨mgG 589 (by decide +kernel) rfl, mgG 575 (by decide +kernel) rfl, mgG 122 (by decide +kernel) rfl, mgG 573 (by decide +kernel) rfl, by decide +kernel⟩
theorem cv5_7 : CSu RX5 7 iX1_sleepy := ⟨mgG 593 (by decide +kernel) rfl, mgG 1247 (by decide +kernel) rfl, mgG 129 (by decide +kernel) rfl, mgG 580 (by decide +kernel) rfl, by decide +kernel⟩
theorem cv8_7 : CSu RX8 7 iX7_sleepy := ⟨mgG 597 (by decide +kernel) rfl, mgG 575 (by decide +kernel) rfl, mgG 115 (by decide +kernel) rfl, mgG 573 (by decide +kernel) rfl, by decide +kernel⟩
theorem cv11_160 : CVi RX11 160 iX4_go 4 := ⟨_, rfl, by decide, mgG 599 (by decide +kernel) rfl, mgG 600 (by decide +kernel) rfl, mgG 601 (by decide +kernel) rfl⟩
theorem mm4_58 : Cond.methodLink RX4 58 Lib.Math.max.name ∈ wsG := mgG 603 (by decide +kernel) rfl
theorem cu4_64_0 : CVu RX4 64 iX7_tires.1 iX0_tires 0 := ⟨_, cX7_tires, 1, some .int, rfl, by decide, mgG 604 (by decide +kernel) rfl, mgG 607 (by decide +kernel) rfl, mgG 605 (by decide +kernel) rfl, mgG 608 (by decide +kernel) rfl, mgG 609 (by decide +kernel) rfl, mgG 619 (by decide +kernel) rfl, ⟨by decide +kernel, by decide +kernel⟩, rfl⟩
theorem cu4_64_1 : CVu RX4 64 iX7_tires.1 iX7_tires 1 := ⟨_, cX7_tires, 1, some .int, rfl, by decide, mgG 604 (by decide +kernel) rfl, mgG 607 (by decide +kernel) rfl, mgG 605 (by decide +kernel) rfl, mgG 615 (by decide +kernel) rfl, mgG 605 (by decide +kernel) rfl, mgG 619 (by decide +kernel) rfl, ⟨by decide +kernel, by decide +kernel⟩, rfl⟩
theorem cu4_64_2 : CVu RX4 64 iX7_tires.1 iX7_tires 2 := ⟨_, cX7_tires, 1, some .int, rfl, by decide, mgG 604 (by decide +kernel) rfl, mgG 607 (by decide +kernel) rfl, mgG 605 (by decide +kernel) rfl, mgG 616 (by decide +kernel) rfl, mgG 605 (by decide +kernel) rfl, mgG 619 (by decide +kernel) rfl, ⟨by decide +kernel, by decide +kernel⟩, rfl⟩
theorem cu4_64_5 : CVu RX4 64 iX7_tires.1 iX7_tires 5 := ⟨_, cX7_tires, 1, some .int, rfl, by decide, mgG 604 (by decide +kernel) rfl, mgG 607 (by decide +kernel) rfl, mgG 605 (by decide +kernel) rfl, mgG 617 (by decide +kernel) rfl, mgG 605 (by decide +kernel) rfl, mgG 619 (by decide +kernel) rfl, ⟨by decide +kernel, by decide +kernel⟩, rfl⟩
theorem cu4_64_7 : CVu RX4 64 iX7_tires.1 iX7_tires 7 := ⟨_, cX7_tires, 1, some .int, rfl, by decide, mgG 604 (by decide +kernel) rfl, mgG 607 (by decide +kernel) rfl, mgG 605 (by decide +kernel) rfl, mgG 606 (by decide +kernel) rfl, mgG 605 (by decide +kernel) rfl, mgG 619 (by decide +kernel) rfl, ⟨by decide +kernel, by decide +kernel⟩, rfl⟩
theorem cu4_64_8 : CVu RX4 64 iX7_tires.1 iX8_tires 8 := ⟨_, cX7_tires, 1, some .int, rfl, by decide, mgG 604 (by decide +kernel) rfl, mgG 607 (by decide +kernel) rfl, mgG 605 (by decide +kernel) rfl, mgG 618 (by decide +kernel) rfl, mgG 612 (by decide +kernel) rfl, mgG 619 (by decide +kernel) rfl, ⟨by decide +kernel, by decide +kernel⟩, rfl⟩
theorem cv0_7 : CSu RX0 7 iX8_tires := ⟨mgG 611 (by decide +kernel) rfl, mgG 1248 (by decide +kernel) rfl, mgG 136 (by decide +kernel) rfl, mgG 612 (by decide +kernel) rfl, by decide +kernel⟩
theorem cv8_11 : CSu RX8 11 iX7_tires := ⟨mgG 614 (by decide +kernel) rfl, mgG 607 (by decide +kernel) rfl, mgG 115 (by decide +kernel) rfl, mgG 605 (by decide +kernel) rfl, by decide +kernel⟩
theorem mm4_68 : Cond.methodLink RX4 68 Lib.Math.min.name ∈ wsG := mgG 620 (by decide +kernel) rfl
theorem cv11_163 : CVi RX11 163 iX10_goBack 10 := ⟨_, rfl, by decide, mgG 627 (by decide +kernel) rfl, mgG 628 (by decide +kernel) rfl, mgG 629 (by decide +kernel) rfl⟩
theorem cv11_180 : CVi RX11 180 iX4_sleepiness 4 := ⟨_, rfl, by decide, mgG 635 (by decide +kernel) rfl, mgG 569 (by decide +kernel) rfl, mgG 570 (by decide +kernel) rfl⟩
theorem cv11_187 : CVi RX11 187 iX3_run 3 := ⟨_, rfl, by decide, mgG 644 (by decide +kernel) rfl, mgG 645 (by decide +kernel) rfl, mgG 646 (by decide +kernel) rfl⟩
theorem cv3_27 : CVi RX3 27 iX4_take 4 := ⟨_, rfl, by decide, mgG 648 (by decide +kernel) rfl, mgG 536 (by decide +kernel) rfl, mgG 537 (by decide +kernel) rfl⟩
theorem cv3_38 : CVi RX3 38 iX4_steerer 4 := ⟨_, rfl, by decide, mgG 649 (by decide +kernel) rfl, mgG 564 (by decide +kernel) rfl, mgG 565 (by decide +kernel) rfl⟩
theorem cv3_42 : CVi RX3 42 iX4_go 4 := ⟨_, rfl, by decide, mgG 650 (by decide +kernel) rfl, mgG 600 (by decide +kernel) rfl, mgG 601 (by decide +kernel) rfl⟩
theorem cv11_197 : CVi RX11 197 iX6_seek 6 := ⟨_, rfl, by decide, mgG 659 (by decide +kernel) rfl, mgG 660 (by decide +kernel) rfl, mgG 661 (by decide +kernel) rfl⟩
theorem mm6_31 : Cond.methodLink RX6 31 Lib.Math.min.name ∈ wsG := mgG 663 (by decide +kernel) rfl
theorem cv6_43 : CVi RX6 43 iX4_take 4 := ⟨_, rfl, by decide, mgG 664 (by decide +kernel) rfl, mgG 536 (by decide +kernel) rfl, mgG 537 (by decide +kernel) rfl⟩
theorem cv6_47 : CVi RX6 47 iX6_serve 6 := ⟨_, rfl, by decide, mgG 665 (by decide +kernel) rfl, mgG 667 (by decide +kernel) rfl, mgG 15 (by decide +kernel) rfl⟩
theorem mm6_54 : Cond.methodLink RX6 54 Lib.Math.abs.name ∈ wsG := mgG 669 (by decide +kernel) rfl
theorem ac6_58 : Cond.methodLink RX6 58 arraycopyName ∈ wsG := mgG 672 (by decide +kernel) rfl
theorem cv6_67 : CVi RX6 67 iX4_steerer 4 := ⟨_, rfl, by decide, mgG 673 (by decide +kernel) rfl, mgG 564 (by decide +kernel) rfl, mgG 565 (by decide +kernel) rfl⟩
theorem cv6_70 : CVi RX6 70 iX6_goOn 6 := ⟨_, rfl, by decide, mgG 674 (by decide +kernel) rfl, mgG 676 (by decide +kernel) rfl, mgG 16 (by decide +kernel) rfl⟩
theorem cv6_77 : CVi RX6 77 iX4_go 4 := ⟨_, rfl, by decide, mgG 678 (by decide +kernel) rfl, mgG 600 (by decide +kernel) rfl, mgG 601 (by decide +kernel) rfl⟩
theorem cv11_207 : CVi RX11 207 iX4_take 4 := ⟨_, rfl, by decide, mgG 683 (by decide +kernel) rfl, mgG 536 (by decide +kernel) rfl, mgG 537 (by decide +kernel) rfl⟩
theorem cv11_210 : CVi RX11 210 iX4_canSteer 4 := ⟨_, rfl, by decide, mgG 684 (by decide +kernel) rfl, mgG 685 (by decide +kernel) rfl, mgG 686 (by decide +kernel) rfl⟩
theorem cs4_71 : CSt RX4 71 iX4_staysBehind := ⟨mgG 688 (by decide +kernel) rfl, mgG 689 (by decide +kernel) rfl⟩
theorem cv11_213 : CVi RX11 213 iX4_pairRests 4 := ⟨_, rfl, by decide, mgG 695 (by decide +kernel) rfl, mgG 696 (by decide +kernel) rfl, mgG 697 (by decide +kernel) rfl⟩
theorem cv4_79 : CVi RX4 79 iX4_steererByPair 4 := ⟨_, rfl, by decide, mgG 699 (by decide +kernel) rfl, mgG 701 (by decide +kernel) rfl, mgG 17 (by decide +kernel) rfl⟩
theorem cv4_82 : CVi RX4 82 iX4_steerer 4 := ⟨_, rfl, by decide, mgG 703 (by decide +kernel) rfl, mgG 564 (by decide +kernel) rfl, mgG 565 (by decide +kernel) rfl⟩
theorem cv11_219 : CVi RX11 219 iX10_addSight 10 := ⟨_, rfl, by decide, mgG 708 (by decide +kernel) rfl, mgG 709 (by decide +kernel) rfl, mgG 710 (by decide +kernel) rfl⟩
theorem cv11_223 : CVi RX11 223 iX11_fittingNods 11 := ⟨_, rfl, by decide, mgG 720 (by decide +kernel) rfl, mgG 722 (by decide +kernel) rfl, mgG 18 (by decide +kernel) rfl⟩
theorem cv11_281 : CVi RX11 281 iX11_fitsNods 11 := ⟨_, rfl, by decide, mgG 724 (by decide +kernel) rfl, mgG 726 (by decide +kernel) rfl, mgG 19 (by decide +kernel) rfl⟩
theorem cv11_234 : CVi RX11 234 iX3_timesSteered 3 := ⟨_, rfl, by decide, mgG 728 (by decide +kernel) rfl, mgG 729 (by decide +kernel) rfl, mgG 730 (by decide +kernel) rfl⟩
theorem cv11_226 : CVi RX11 226 iX11_fitsPulled 11 := ⟨_, rfl, by decide, mgG 736 (by decide +kernel) rfl, mgG 738 (by decide +kernel) rfl, mgG 20 (by decide +kernel) rfl⟩
theorem cs11_229 : CSt RX11 229 iJ6_bitCount_0f7a4 := ⟨mgG 744 (by decide +kernel) rfl, mgG 745 (by decide +kernel) rfl⟩
theorem cs11_238 : CSt RX11 238 iJ6_compare_7cf53 := ⟨mgG 758 (by decide +kernel) rfl, mgG 759 (by decide +kernel) rfl⟩
theorem cv11_241 : CVi RX11 241 iX4_chances 4 := ⟨_, rfl, by decide, mgG 765 (by decide +kernel) rfl, mgG 766 (by decide +kernel) rfl, mgG 767 (by decide +kernel) rfl⟩
theorem cv4_75 : CVi RX4 75 iX4_chancesOfOthers 4 := ⟨_, rfl, by decide, mgG 769 (by decide +kernel) rfl, mgG 771 (by decide +kernel) rfl, mgG 21 (by decide +kernel) rfl⟩
theorem cv11_244 : CVi RX11 244 iX11_setFraction 11 := ⟨_, rfl, by decide, mgG 773 (by decide +kernel) rfl, mgG 775 (by decide +kernel) rfl, mgG 22 (by decide +kernel) rfl⟩
theorem cs11_290 : CSt RX11 290 iX11_greatestDivisor := ⟨mgG 777 (by decide +kernel) rfl, mgG 778 (by decide +kernel) rfl⟩
theorem cv11_267 : CVi RX11 267 iX11_amount 11 := ⟨_, rfl, by decide, mgG 810 (by decide +kernel) rfl, mgG 812 (by decide +kernel) rfl, mgG 23 (by decide +kernel) rfl⟩
theorem cv11_274 : CVi RX11 274 iX10_digestOnto 10 := ⟨_, rfl, by decide, mgG 820 (by decide +kernel) rfl, mgG 821 (by decide +kernel) rfl, mgG 822 (by decide +kernel) rfl⟩
theorem cs10_77 : CSn RX10 77 iX11_holds := ⟨⟨"SleepyHelm", mgN 825 (by decide +kernel) rfl⟩, mgG 553 (by decide +kernel) rfl⟩
theorem oi12_7 : Cond.methodLink RX12 7 objectInit ∈ wsG := mgG 831 (by decide +kernel) rfl
theorem cv12_71 : CVi RX12 71 iX12_begin 12 := ⟨_, rfl, by decide, mgG 832 (by decide +kernel) rfl, mgG 834 (by decide +kernel) rfl, mgG 24 (by decide +kernel) rfl⟩
theorem cs12_93 : CSt RX12 93 iX12_in := ⟨mgG 944 (by decide +kernel) rfl, mgG 945 (by decide +kernel) rfl⟩
theorem cv12_97 : CVi RX12 97 iX12_bad 12 := ⟨_, rfl, by decide, mgG 947 (by decide +kernel) rfl, mgG 949 (by decide +kernel) rfl, mgG 25 (by decide +kernel) rfl⟩
theorem cv12_101 : CVi RX12 101 iX12_isRock 12 := ⟨_, rfl, by decide, mgG 951 (by decide +kernel) rfl, mgG 953 (by decide +kernel) rfl, mgG 26 (by decide +kernel) rfl⟩
theorem cv12_105 : CVi RX12 105 iX12_no 12 := ⟨_, rfl, by decide, mgG 955 (by decide +kernel) rfl, mgG 957 (by decide +kernel) rfl, mgG 27 (by decide +kernel) rfl⟩
theorem cv12_108 : CVi RX12 108 iX12_full 12 := ⟨_, rfl, by decide, mgG 959 (by decide +kernel) rfl, mgG 961 (by decide +kernel) rfl, mgG 28 (by decide +kernel) rfl⟩
theorem cv12_111 : CVi RX12 111 iX12_addRock 12 := ⟨_, rfl, by decide, mgG 963 (by decide +kernel) rfl, mgG 965 (by decide +kernel) rfl, mgG 29 (by decide +kernel) rfl⟩
theorem cv12_115 : CVi RX12 115 iX12_addHand 12 := ⟨_, rfl, by decide, mgG 971 (by decide +kernel) rfl, mgG 973 (by decide +kernel) rfl, mgG 30 (by decide +kernel) rfl⟩
theorem cv12_176 : CVi RX12 176 iX12_readsShip 12 := ⟨_, rfl, by decide, mgG 987 (by decide +kernel) rfl, mgG 989 (by decide +kernel) rfl, mgG 31 (by decide +kernel) rfl⟩
theorem cv12_141 : CVi RX12 141 iX12_skip 12 := ⟨_, rfl, by decide, mgG 991 (by decide +kernel) rfl, mgG 993 (by decide +kernel) rfl, mgG 32 (by decide +kernel) rfl⟩
theorem cv12_125 : CVi RX12 125 iX12_here 12 := ⟨_, rfl, by decide, mgG 995 (by decide +kernel) rfl, mgG 997 (by decide +kernel) rfl, mgG 33 (by decide +kernel) rfl⟩
theorem cv12_164 : CVi RX12 164 iX12_wordHere 12 := ⟨_, rfl, by decide, mgG 999 (by decide +kernel) rfl, mgG 1001 (by decide +kernel) rfl, mgG 34 (by decide +kernel) rfl⟩
theorem cv12_137 : CVi RX12 137 iX12_spells 12 := ⟨_, rfl, by decide, mgG 1003 (by decide +kernel) rfl, mgG 1005 (by decide +kernel) rfl, mgG 35 (by decide +kernel) rfl⟩
theorem cv12_131 : CVi RX12 131 iX12_wordSize 12 := ⟨_, rfl, by decide, mgG 1007 (by decide +kernel) rfl, mgG 1009 (by decide +kernel) rfl, mgG 36 (by decide +kernel) rfl⟩
theorem cs12_128 : CSt RX12 128 iX12_isLetter := ⟨mgG 1011 (by decide +kernel) rfl, mgG 1012 (by decide +kernel) rfl⟩
theorem cv12_134 : CVi RX12 134 iX12_letter 12 := ⟨_, rfl, by decide, mgG 1014 (by decide +kernel) rfl, mgG 1016 (by decide +kernel) rfl, mgG 37 (by decide +kernel) rfl⟩
theorem cv12_157 : CVi RX12 157 iX12_ends 12 := ⟨_, rfl, by decide, mgG 1018 (by decide +kernel) rfl, mgG 1020 (by decide +kernel) rfl, mgG 38 (by decide +kernel) rfl⟩
theorem cv12_173 : CVi RX12 173 iX12_readsItem 12 := ⟨_, rfl, by decide, mgG 1022 (by decide +kernel) rfl, mgG 1024 (by decide +kernel) rfl, mgG 39 (by decide +kernel) rfl⟩
theorem cv12_167 : CVi RX12 167 iX12_readsRock 12 := ⟨_, rfl, by decide, mgG 1026 (by decide +kernel) rfl, mgG 1028 (by decide +kernel) rfl, mgG 40 (by decide +kernel) rfl⟩
theorem cv12_150 : CVi RX12 150 iX12_number 12 := ⟨_, rfl, by decide, mgG 1030 (by decide +kernel) rfl, mgG 1032 (by decide +kernel) rfl, mgG 41 (by decide +kernel) rfl⟩
theorem cs12_144 : CSt RX12 144 iX12_isFigure := ⟨mgG 1034 (by decide +kernel) rfl, mgG 1035 (by decide +kernel) rfl⟩
theorem cv12_170 : CVi RX12 170 iX12_readsHand 12 := ⟨_, rfl, by decide, mgG 1037 (by decide +kernel) rfl, mgG 1039 (by decide +kernel) rfl, mgG 42 (by decide +kernel) rfl⟩
theorem cv12_199 : CVi RX12 199 iX12_isHand 12 := ⟨_, rfl, by decide, mgG 1045 (by decide +kernel) rfl, mgG 1047 (by decide +kernel) rfl, mgG 43 (by decide +kernel) rfl⟩
theorem cv12_202 : CVi RX12 202 iX12_notes 12 := ⟨_, rfl, by decide, mgG 1049 (by decide +kernel) rfl, mgG 1051 (by decide +kernel) rfl, mgG 44 (by decide +kernel) rfl⟩
theorem cv12_192 : CVi RX12 192 iX12_lays 12 := ⟨_, rfl, by decide, mgG 1053 (by decide +kernel) rfl, mgG 1055 (by decide +kernel) rfl, mgG 45 (by decide +kernel) rfl⟩
theorem cv12_205 : CVi RX12 205 iX12_pass 12 := ⟨_, rfl, by decide, mgG 1061 (by decide +kernel) rfl, mgG 1063 (by decide +kernel) rfl, mgG 46 (by decide +kernel) rfl⟩
theorem cv12_186 : CVi RX12 186 iX12_steers 12 := ⟨_, rfl, by decide, mgG 1065 (by decide +kernel) rfl, mgG 1067 (by decide +kernel) rfl, mgG 47 (by decide +kernel) rfl⟩
theorem cv12_183 : CVi RX12 183 iX12_sleepy 12 := ⟨_, rfl, by decide, mgG 1069 (by decide +kernel) rfl, mgG 1071 (by decide +kernel) rfl, mgG 48 (by decide +kernel) rfl⟩
theorem cs12_179 : CSt RX12 179 iX12_sleepyBy := ⟨mgG 1073 (by decide +kernel) rfl, mgG 1074 (by decide +kernel) rfl⟩
theorem cs12_189 : CSt RX12 189 iX12_moreBy := ⟨mgG 1076 (by decide +kernel) rfl, mgG 1077 (by decide +kernel) rfl⟩
theorem cv12_196 : CVi RX12 196 iX12_takes 12 := ⟨_, rfl, by decide, mgG 1083 (by decide +kernel) rfl, mgG 1085 (by decide +kernel) rfl, mgG 49 (by decide +kernel) rfl⟩
theorem cv12_208 : CVi RX12 208 iX12_ten 12 := ⟨_, rfl, by decide, mgG 1091 (by decide +kernel) rfl, mgG 1093 (by decide +kernel) rfl, mgG 50 (by decide +kernel) rfl⟩
theorem cv12_211 : CVi RX12 211 iX12_manyBad 12 := ⟨_, rfl, by decide, mgG 1099 (by decide +kernel) rfl, mgG 1101 (by decide +kernel) rfl, mgG 51 (by decide +kernel) rfl⟩
theorem cv12_214 : CVi RX12 214 iX12_puts 12 := ⟨_, rfl, by decide, mgG 1107 (by decide +kernel) rfl, mgG 1109 (by decide +kernel) rfl, mgG 52 (by decide +kernel) rfl⟩
theorem cv12_217 : CVi RX12 217 iX12_passes 12 := ⟨_, rfl, by decide, mgG 1111 (by decide +kernel) rfl, mgG 1113 (by decide +kernel) rfl, mgG 53 (by decide +kernel) rfl⟩
theorem cv12_221 : CVi RX12 221 iX12_back 12 := ⟨_, rfl, by decide, mgG 1115 (by decide +kernel) rfl, mgG 1117 (by decide +kernel) rfl, mgG 54 (by decide +kernel) rfl⟩
theorem cv12_224 : CVi RX12 224 iX12_fedBy 12 := ⟨_, rfl, by decide, mgG 1127 (by decide +kernel) rfl, mgG 1129 (by decide +kernel) rfl, mgG 55 (by decide +kernel) rfl⟩
theorem cv12_228 : CVi RX12 228 iX12_placeBy 12 := ⟨_, rfl, by decide, mgG 1131 (by decide +kernel) rfl, mgG 1133 (by decide +kernel) rfl, mgG 56 (by decide +kernel) rfl⟩
theorem cv12_231 : CVi RX12 231 iX12_steersBy 12 := ⟨_, rfl, by decide, mgG 1139 (by decide +kernel) rfl, mgG 1141 (by decide +kernel) rfl, mgG 57 (by decide +kernel) rfl⟩
theorem cv12_240 : CVi RX12 240 iX12_nodSet 12 := ⟨_, rfl, by decide, mgG 1159 (by decide +kernel) rfl, mgG 1161 (by decide +kernel) rfl, mgG 58 (by decide +kernel) rfl⟩
theorem cv12_234 : CVi RX12 234 iX12_setWay 12 := ⟨_, rfl, by decide, mgG 1163 (by decide +kernel) rfl, mgG 1165 (by decide +kernel) rfl, mgG 59 (by decide +kernel) rfl⟩
theorem cv12_237 : CVi RX12 237 iX12_isSeen 12 := ⟨_, rfl, by decide, mgG 1167 (by decide +kernel) rfl, mgG 1169 (by decide +kernel) rfl, mgG 60 (by decide +kernel) rfl⟩
theorem cv12_246 : CVi RX12 246 iX12_alike 12 := ⟨_, rfl, by decide, mgG 1179 (by decide +kernel) rfl, mgG 1181 (by decide +kernel) rfl, mgG 61 (by decide +kernel) rfl⟩
theorem cs12_243 : CSt RX12 243 iX12_has := ⟨mgG 1183 (by decide +kernel) rfl, mgG 1184 (by decide +kernel) rfl⟩
theorem cv12_254 : CVi RX12 254 iX12_lay 12 := ⟨_, rfl, by decide, mgG 1199 (by decide +kernel) rfl, mgG 1201 (by decide +kernel) rfl, mgG 62 (by decide +kernel) rfl⟩
theorem cv12_269 : CVi RX12 269 iX12_countOf 12 := ⟨_, rfl, by decide, mgG 1233 (by decide +kernel) rfl, mgG 1235 (by decide +kernel) rfl, mgG 63 (by decide +kernel) rfl⟩
theorem cv12_279 : CVi RX12 279 iX12_mix 12 := ⟨_, rfl, by decide, mgG 1242 (by decide +kernel) rfl, mgG 1244 (by decide +kernel) rfl, mgG 64 (by decide +kernel) rfl⟩
theorem oiI : Cond.instanceMethod objectInit ∈ wsG := mgG 92 (by decide +kernel) rfl
theorem oiC : Cond.code objectInit ⟨#[0xb1]⟩ 1 none ∈ wsG := mgG 93 (by decide +kernel) rfl
theorem mw_max : Cond.static Lib.Math.max.name ∈ wsG ∧ Cond.initialized "java/lang/Math" ∈ wsG ∧ Cond.code Lib.Math.max.name Lib.Math.max.code 2 (some .int) ∈ wsG := ⟨mgG 584 (by decide +kernel) rfl, mgG 84 (by decide +kernel) rfl, mgG 585 (by decide +kernel) rfl⟩
theorem mw_min : Cond.static Lib.Math.min.name ∈ wsG ∧ Cond.initialized "java/lang/Math" ∈ wsG ∧ Cond.code Lib.Math.min.name Lib.Math.min.code 2 (some .int) ∈ wsG := ⟨mgG 621 (by decide +kernel) rfl, mgG 84 (by decide +kernel) rfl, mgG 622 (by decide +kernel) rfl⟩
theorem mw_abs : Cond.static Lib.Math.abs.name ∈ wsG ∧ Cond.initialized "java/lang/Math" ∈ wsG ∧ Cond.code Lib.Math.abs.name Lib.Math.abs.code 1 (some .int) ∈ wsG := ⟨mgG 670 (by decide +kernel) rfl, mgG 84 (by decide +kernel) rfl, mgG 671 (by decide +kernel) rfl⟩
theorem acw : Cond.native arraycopyName ∈ wsG ∧ Cond.static arraycopyName ∈ wsG ∧ Cond.initialized "java/lang/System" ∈ wsG := ⟨mgG 541 (by decide +kernel) rfl, mgG 540 (by decide +kernel) rfl, mgG 83 (by decide +kernel) rfl⟩
theorem arI : Cond.arrayClass .int ∈ wsG := mgG 194 (by decide +kernel) rfl
theorem arZ : Cond.arrayClass .boolean ∈ wsG := mgG 251 (by decide +kernel) rfl
theorem cl11_9 : Cond.classLink RX11 9 "SleepyHelm$Plain" ∈ wsG := mgG 94 (by decide +kernel) rfl
theorem nr11_9 : NR RX11 9 7 0 := ⟨RX7, TX7, tyX7, cok7, mgG 94 (by decide +kernel) rfl, mgG 96 (by decide +kernel) rfl, mgG 67 (by decide +kernel) rfl⟩
theorem cl11_12 : Cond.classLink RX11 12 "SleepyHelm$Cold" ∈ wsG := mgG 102 (by decide +kernel) rfl
theorem nr11_12 : NR RX11 12 1 0 := ⟨RX1, TX1, tyX1, cok1, mgG 102 (by decide +kernel) rfl, mgG 103 (by decide +kernel) rfl, mgG 68 (by decide +kernel) rfl⟩
theorem cl11_15 : Cond.classLink RX11 15 "SleepyHelm$Talker" ∈ wsG := mgG 109 (by decide +kernel) rfl
theorem nr11_15 : NR RX11 15 8 0 := ⟨RX8, TX8, tyX8, cok8, mgG 109 (by decide +kernel) rfl, mgG 110 (by decide +kernel) rfl, mgG 69 (by decide +kernel) rfl⟩
theorem cl11_18 : Cond.classLink RX11 18 "SleepyHelm$Cook" ∈ wsG := mgG 116 (by decide +kernel) rfl
theorem nr11_18 : NR RX11 18 2 0 := ⟨RX2, TX2, tyX2, cok2, mgG 116 (by decide +kernel) rfl, mgG 117 (by decide +kernel) rfl, mgG 70 (by decide +kernel) rfl⟩
theorem cl11_21 : Cond.classLink RX11 21 "SleepyHelm$Moonstruck" ∈ wsG := mgG 123 (by decide +kernel) rfl
theorem nr11_21 : NR RX11 21 5 0 := ⟨RX5, TX5, tyX5, cok5, mgG 123 (by decide +kernel) rfl, mgG 124 (by decide +kernel) rfl, mgG 71 (by decide +kernel) rfl⟩
theorem cl11_24 : Cond.classLink RX11 24 "SleepyHelm$Boy" ∈ wsG := mgG 130 (by decide +kernel) rfl
theorem nr11_24 : NR RX11 24 0 0 := ⟨RX0, TX0, tyX0, cok0, mgG 130 (by decide +kernel) rfl, mgG 131 (by decide +kernel) rfl, mgG 72 (by decide +kernel) rfl⟩
theorem cl11_27 : Cond.classLink RX11 27 "SleepyHelm$Voyage" ∈ wsG := mgG 137 (by decide +kernel) rfl
theorem nr11_27 : NR RX11 27 10 8 := ⟨RX10, TX10, tyX10, cok10, mgG 137 (by decide +kernel) rfl, mgG 138 (by decide +kernel) rfl, mgG 73 (by decide +kernel) rfl⟩
theorem cl10_21 : Cond.classLink RX10 21 "SleepyHelm$Helm" ∈ wsG := mgG 143 (by decide +kernel) rfl
theorem nr10_21 : NR RX10 21 4 8 := ⟨RX4, TX4, tyX4, cok4, mgG 143 (by decide +kernel) rfl, mgG 145 (by decide +kernel) rfl, mgG 74 (by decide +kernel) rfl⟩
theorem cl11_47 : Cond.classLink RX11 47 "SleepyHelm$Helm" ∈ wsG := mgG 229 (by decide +kernel) rfl
theorem nr11_47 : NR RX11 47 4 8 := ⟨RX4, TX4, tyX4, cok4, mgG 229 (by decide +kernel) rfl, mgG 145 (by decide +kernel) rfl, mgG 74 (by decide +kernel) rfl⟩
theorem cl11_54 : Cond.classLink RX11 54 "SleepyHelm$Course" ∈ wsG := mgG 231 (by decide +kernel) rfl
theorem nr11_54 : NR RX11 54 3 3 := ⟨RX3, TX3, tyX3, cok3, mgG 231 (by decide +kernel) rfl, mgG 232 (by decide +kernel) rfl, mgG 75 (by decide +kernel) rfl⟩
theorem cl3_18 : Cond.classLink RX3 18 "SleepyHelm$Helm" ∈ wsG := mgG 237 (by decide +kernel) rfl
theorem nr3_18 : NR RX3 18 4 8 := ⟨RX4, TX4, tyX4, cok4, mgG 237 (by decide +kernel) rfl, mgG 145 (by decide +kernel) rfl, mgG 74 (by decide +kernel) rfl⟩
theorem cl11_61 : Cond.classLink RX11 61 "SleepyHelm$PeaSearch" ∈ wsG := mgG 252 (by decide +kernel) rfl
theorem nr11_61 : NR RX11 61 6 6 := ⟨RX6, TX6, tyX6, cok6, mgG 252 (by decide +kernel) rfl, mgG 253 (by decide +kernel) rfl, mgG 76 (by decide +kernel) rfl⟩
theorem cl6_9 : Cond.classLink RX6 9 "SleepyHelm$Helm" ∈ wsG := mgG 258 (by decide +kernel) rfl
theorem nr6_9 : NR RX6 9 4 8 := ⟨RX4, TX4, tyX4, cok4, mgG 258 (by decide +kernel) rfl, mgG 145 (by decide +kernel) rfl, mgG 74 (by decide +kernel) rfl⟩
theorem cl11_68 : Cond.classLink RX11 68 "SleepyHelm$Text" ∈ wsG := mgG 281 (by decide +kernel) rfl
theorem nr11_68 : NR RX11 68 9 7 := ⟨RX9, TX9, tyX9, cok9, mgG 281 (by decide +kernel) rfl, mgG 282 (by decide +kernel) rfl, mgG 77 (by decide +kernel) rfl⟩
theorem kcJ6_265 : Cond.constant RJ6 265 1431655765 ∈ wsG := mgG 747 (by decide +kernel) rfl
theorem kcJ6_266 : Cond.constant RJ6 266 858993459 ∈ wsG := mgG 748 (by decide +kernel) rfl
theorem kcJ6_267 : Cond.constant RJ6 267 252645135 ∈ wsG := mgG 749 (by decide +kernel) rfl
theorem kc11_247 : Cond.constant RX11 247 999999 ∈ wsG := mgG 784 (by decide +kernel) rfl
theorem kc11_248 : Cond.constantLong RX11 248 1103515245 ∈ wsG := mgG 785 (by decide +kernel) rfl
theorem kc11_250 : Cond.constantLong RX11 250 12345 ∈ wsG := mgG 786 (by decide +kernel) rfl
theorem kc11_252 : Cond.constantLong RX11 252 2147483648 ∈ wsG := mgG 787 (by decide +kernel) rfl
theorem kc11_254 : Cond.constantLong RX11 254 65536 ∈ wsG := mgG 788 (by decide +kernel) rfl
theorem kc11_256 : Cond.constantLong RX11 256 7 ∈ wsG := mgG 789 (by decide +kernel) rfl
theorem kc11_270 : Cond.constantLong RX11 270 1181 ∈ wsG := mgG 818 (by decide +kernel) rfl
theorem kc11_272 : Cond.constantLong RX11 272 31 ∈ wsG := mgG 819 (by decide +kernel) rfl
theorem kc10_69 : Cond.constantLong RX10 69 31 ∈ wsG := mgG 824 (by decide +kernel) rfl
theorem kc12_252 : Cond.constantLong RX12 252 10 ∈ wsG := mgG 1198 (by decide +kernel) rfl
theorem kc12_258 : Cond.constant RX12 258 999999 ∈ wsG := mgG 1207 (by decide +kernel) rfl
theorem kc12_259 : Cond.constantLong RX12 259 1103515245 ∈ wsG := mgG 1208 (by decide +kernel) rfl
theorem kc12_261 : Cond.constantLong RX12 261 12345 ∈ wsG := mgG 1209 (by decide +kernel) rfl

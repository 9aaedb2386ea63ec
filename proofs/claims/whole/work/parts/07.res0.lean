/-! ===== printed by gen07.py: classes, fields, methods and calls as the tables have them ===== -/
theorem cok0 : CO 0 RX0 TX0 0 tyX0 := ⟨rfl, rfl, by decide, fun w hw => absurd hw (by simp [u_ws]),
  tyX0_ok, nmX0, fun k hk => absurd hk (Nat.not_lt_zero k)⟩
theorem cok1 : CO 1 RX1 TX1 0 tyX1 := ⟨rfl, rfl, by decide, fun w hw => absurd hw (by simp [u_ws]),
  tyX1_ok, nmX1, fun k hk => absurd hk (Nat.not_lt_zero k)⟩
theorem cok2 : CO 2 RX2 TX2 0 tyX2 := ⟨rfl, rfl, by decide, fun w hw => absurd hw (by simp [u_ws]),
  tyX2_ok, nmX2, fun k hk => absurd hk (Nat.not_lt_zero k)⟩
theorem ly_3_0 : u_lay RX3 TX3 0 ∈ wsG := mgG 244 (by decide +kernel) (by decide +kernel)
theorem ly_3_1 : u_lay RX3 TX3 1 ∈ wsG := mgG 246 (by decide +kernel) (by decide +kernel)
theorem ly_3_2 : u_lay RX3 TX3 2 ∈ wsG := mgG 248 (by decide +kernel) (by decide +kernel)
theorem cok3 : CO 3 RX3 TX3 3 tyX3 := ⟨rfl, rfl, by decide, fun w hw => by
    obtain ⟨k, hk, rfl⟩ := List.mem_map.mp hw
    have hk := List.mem_range.mp hk
    rcases (by omega : k = 0 ∨ k = 1 ∨ k = 2) with rfl | rfl | rfl
    · exact ly_3_0
    · exact ly_3_1
    · exact ly_3_2,
  tyX3_ok, nmX3, fun k hk => by
    rcases (by omega : k = 0 ∨ k = 1 ∨ k = 2) with rfl | rfl | rfl
    · exact Or.inl ⟨_, rfl⟩
    · exact Or.inr ⟨_, rfl⟩
    · exact Or.inr ⟨_, rfl⟩⟩
theorem ly_4_0 : u_lay RX4 TX4 0 ∈ wsG := mgG 177 (by decide +kernel) (by decide +kernel)
theorem ly_4_1 : u_lay RX4 TX4 1 ∈ wsG := mgG 179 (by decide +kernel) (by decide +kernel)
theorem ly_4_2 : u_lay RX4 TX4 2 ∈ wsG := mgG 181 (by decide +kernel) (by decide +kernel)
theorem ly_4_3 : u_lay RX4 TX4 3 ∈ wsG := mgG 183 (by decide +kernel) (by decide +kernel)
theorem ly_4_4 : u_lay RX4 TX4 4 ∈ wsG := mgG 185 (by decide +kernel) (by decide +kernel)
theorem ly_4_5 : u_lay RX4 TX4 5 ∈ wsG := mgG 187 (by decide +kernel) (by decide +kernel)
theorem ly_4_6 : u_lay RX4 TX4 6 ∈ wsG := mgG 189 (by decide +kernel) (by decide +kernel)
theorem ly_4_7 : u_lay RX4 TX4 7 ∈ wsG := mgG 191 (by decide +kernel) (by decide +kernel)
theorem cok4 : CO 4 RX4 TX4 8 tyX4 := ⟨rfl, rfl, by decide, fun w hw => by
    obtain ⟨k, hk, rfl⟩ := List.mem_map.mp hw
    have hk := List.mem_range.mp hk
    rcases (by omega : k = 0 ∨ k = 1 ∨ k = 2 ∨ k = 3 ∨ k = 4 ∨ k = 5 ∨ k = 6 ∨ k = 7) with rfl | rfl | rfl | rfl | rfl | rfl | rfl | rfl
    · exact ly_4_0
    · exact ly_4_1
    · exact ly_4_2
    · exact ly_4_3
    · exact ly_4_4
    · exact ly_4_5
    · exact ly_4_6
    · exact ly_4_7,
  tyX4_ok, nmX4, fun k hk => by
    rcases (by omega : k = 0 ∨ k = 1 ∨ k = 2 ∨ k = 3 ∨ k = 4 ∨ k = 5 ∨ k = 6 ∨ k = 7) with rfl | rfl | rfl | rfl | rfl | rfl | rfl | rfl
    · exact Or.inr ⟨_, rfl⟩
    · exact Or.inr ⟨_, rfl⟩
    · exact Or.inr ⟨_, rfl⟩
    · exact Or.inr ⟨_, rfl⟩
    · exact rfl
    · exact rfl
    · exact rfl
    · exact rfl⟩
theorem cok5 : CO 5 RX5 TX5 0 tyX5 := ⟨rfl, rfl, by decide, fun w hw => absurd hw (by simp [u_ws]),
  tyX5_ok, nmX5, fun k hk => absurd hk (Nat.not_lt_zero k)⟩
theorem ly_6_0 : u_lay RX6 TX6 0 ∈ wsG := mgG 268 (by decide +kernel) (by decide +kernel)
theorem ly_6_1 : u_lay RX6 TX6 1 ∈ wsG := mgG 270 (by decide +kernel) (by decide +kernel)
theorem ly_6_2 : u_lay RX6 TX6 2 ∈ wsG := mgG 272 (by decide +kernel) (by decide +kernel)
theorem ly_6_3 : u_lay RX6 TX6 3 ∈ wsG := mgG 274 (by decide +kernel) (by decide +kernel)
theorem ly_6_4 : u_lay RX6 TX6 4 ∈ wsG := mgG 276 (by decide +kernel) (by decide +kernel)
theorem ly_6_5 : u_lay RX6 TX6 5 ∈ wsG := mgG 278 (by decide +kernel) (by decide +kernel)
theorem cok6 : CO 6 RX6 TX6 6 tyX6 := ⟨rfl, rfl, by decide, fun w hw => by
    obtain ⟨k, hk, rfl⟩ := List.mem_map.mp hw
    have hk := List.mem_range.mp hk
    rcases (by omega : k = 0 ∨ k = 1 ∨ k = 2 ∨ k = 3 ∨ k = 4 ∨ k = 5) with rfl | rfl | rfl | rfl | rfl | rfl
    · exact ly_6_0
    · exact ly_6_1
    · exact ly_6_2
    · exact ly_6_3
    · exact ly_6_4
    · exact ly_6_5,
  tyX6_ok, nmX6, fun k hk => by
    rcases (by omega : k = 0 ∨ k = 1 ∨ k = 2 ∨ k = 3 ∨ k = 4 ∨ k = 5) with rfl | rfl | rfl | rfl | rfl | rfl
    · exact Or.inr ⟨_, rfl⟩
    · exact Or.inr ⟨_, rfl⟩
    · exact Or.inr ⟨_, rfl⟩
    · exact rfl
    · exact rfl
    · exact rfl⟩
theorem cok7 : CO 7 RX7 TX7 0 tyX7 := ⟨rfl, rfl, by decide, fun w hw => absurd hw (by simp [u_ws]),
  tyX7_ok, nmX7, fun k hk => absurd hk (Nat.not_lt_zero k)⟩
theorem cok8 : CO 8 RX8 TX8 0 tyX8 := ⟨rfl, rfl, by decide, fun w hw => absurd hw (by simp [u_ws]),
  tyX8_ok, nmX8, fun k hk => absurd hk (Nat.not_lt_zero k)⟩
theorem ly_9_0 : u_lay RX9 TX9 0 ∈ wsG := mgG 296 (by decide +kernel) (by decide +kernel)
theorem ly_9_1 : u_lay RX9 TX9 1 ∈ wsG := mgG 298 (by decide +kernel) (by decide +kernel)
theorem ly_9_2 : u_lay RX9 TX9 2 ∈ wsG := mgG 300 (by decide +kernel) (by decide +kernel)
theorem ly_9_3 : u_lay RX9 TX9 3 ∈ wsG := mgG 302 (by decide +kernel) (by decide +kernel)
theorem ly_9_4 : u_lay RX9 TX9 4 ∈ wsG := mgG 304 (by decide +kernel) (by decide +kernel)
theorem ly_9_5 : u_lay RX9 TX9 5 ∈ wsG := mgG 306 (by decide +kernel) (by decide +kernel)
theorem ly_9_6 : u_lay RX9 TX9 6 ∈ wsG := mgG 308 (by decide +kernel) (by decide +kernel)
theorem cok9 : CO 9 RX9 TX9 7 tyX9 := ⟨rfl, rfl, by decide, fun w hw => by
    obtain ⟨k, hk, rfl⟩ := List.mem_map.mp hw
    have hk := List.mem_range.mp hk
    rcases (by omega : k = 0 ∨ k = 1 ∨ k = 2 ∨ k = 3 ∨ k = 4 ∨ k = 5 ∨ k = 6) with rfl | rfl | rfl | rfl | rfl | rfl | rfl
    · exact ly_9_0
    · exact ly_9_1
    · exact ly_9_2
    · exact ly_9_3
    · exact ly_9_4
    · exact ly_9_5
    · exact ly_9_6,
  tyX9_ok, nmX9, fun k hk => by
    rcases (by omega : k = 0 ∨ k = 1 ∨ k = 2 ∨ k = 3 ∨ k = 4 ∨ k = 5 ∨ k = 6) with rfl | rfl | rfl | rfl | rfl | rfl | rfl
    · exact Or.inr ⟨_, rfl⟩
    · exact rfl
    · exact rfl
    · exact rfl
    · exact rfl
    · exact rfl
    · exact rfl⟩
theorem ly_10_0 : u_lay RX10 TX10 0 ∈ wsG := mgG 211 (by decide +kernel) (by decide +kernel)
theorem ly_10_1 : u_lay RX10 TX10 1 ∈ wsG := mgG 213 (by decide +kernel) (by decide +kernel)
theorem ly_10_2 : u_lay RX10 TX10 2 ∈ wsG := mgG 215 (by decide +kernel) (by decide +kernel)
theorem ly_10_3 : u_lay RX10 TX10 3 ∈ wsG := mgG 217 (by decide +kernel) (by decide +kernel)
theorem ly_10_4 : u_lay RX10 TX10 4 ∈ wsG := mgG 219 (by decide +kernel) (by decide +kernel)
theorem ly_10_5 : u_lay RX10 TX10 5 ∈ wsG := mgG 221 (by decide +kernel) (by decide +kernel)
theorem ly_10_6 : u_lay RX10 TX10 6 ∈ wsG := mgG 223 (by decide +kernel) (by decide +kernel)
theorem ly_10_7 : u_lay RX10 TX10 7 ∈ wsG := mgG 225 (by decide +kernel) (by decide +kernel)
theorem cok10 : CO 10 RX10 TX10 8 tyX10 := ⟨rfl, rfl, by decide, fun w hw => by
    obtain ⟨k, hk, rfl⟩ := List.mem_map.mp hw
    have hk := List.mem_range.mp hk
    rcases (by omega : k = 0 ∨ k = 1 ∨ k = 2 ∨ k = 3 ∨ k = 4 ∨ k = 5 ∨ k = 6 ∨ k = 7) with rfl | rfl | rfl | rfl | rfl | rfl | rfl | rfl
    · exact ly_10_0
    · exact ly_10_1
    · exact ly_10_2
    · exact ly_10_3
    · exact ly_10_4
    · exact ly_10_5
    · exact ly_10_6
    · exact ly_10_7,
  tyX10_ok, nmX10, fun k hk => by
    rcases (by omega : k = 0 ∨ k = 1 ∨ k = 2 ∨ k = 3 ∨ k = 4 ∨ k = 5 ∨ k = 6 ∨ k = 7) with rfl | rfl | rfl | rfl | rfl | rfl | rfl | rfl
    · exact Or.inl ⟨_, rfl⟩
    · exact Or.inr ⟨_, rfl⟩
    · exact Or.inr ⟨_, rfl⟩
    · exact Or.inr ⟨_, rfl⟩
    · exact Or.inr ⟨_, rfl⟩
    · exact rfl
    · exact rfl
    · exact rfl⟩
theorem ly_11_0 : u_lay RX11 TX11 0 ∈ wsG := mgG 324 (by decide +kernel) (by decide +kernel)
theorem ly_11_1 : u_lay RX11 TX11 1 ∈ wsG := mgG 326 (by decide +kernel) (by decide +kernel)
theorem ly_11_2 : u_lay RX11 TX11 2 ∈ wsG := mgG 328 (by decide +kernel) (by decide +kernel)
theorem ly_11_3 : u_lay RX11 TX11 3 ∈ wsG := mgG 330 (by decide +kernel) (by decide +kernel)
theorem ly_11_4 : u_lay RX11 TX11 4 ∈ wsG := mgG 332 (by decide +kernel) (by decide +kernel)
theorem ly_11_5 : u_lay RX11 TX11 5 ∈ wsG := mgG 334 (by decide +kernel) (by decide +kernel)
theorem ly_11_6 : u_lay RX11 TX11 6 ∈ wsG := mgG 336 (by decide +kernel) (by decide +kernel)
theorem ly_11_7 : u_lay RX11 TX11 7 ∈ wsG := mgG 338 (by decide +kernel) (by decide +kernel)
theorem ly_11_8 : u_lay RX11 TX11 8 ∈ wsG := mgG 340 (by decide +kernel) (by decide +kernel)
theorem ly_11_9 : u_lay RX11 TX11 9 ∈ wsG := mgG 342 (by decide +kernel) (by decide +kernel)
theorem ly_11_10 : u_lay RX11 TX11 10 ∈ wsG := mgG 344 (by decide +kernel) (by decide +kernel)
theorem ly_11_11 : u_lay RX11 TX11 11 ∈ wsG := mgG 346 (by decide +kernel) (by decide +kernel)
theorem ly_11_12 : u_lay RX11 TX11 12 ∈ wsG := mgG 348 (by decide +kernel) (by decide +kernel)
theorem cok11 : CO 11 RX11 TX11 13 tyX11 := ⟨rfl, rfl, by decide, fun w hw => by
    obtain ⟨k, hk, rfl⟩ := List.mem_map.mp hw
    have hk := List.mem_range.mp hk
    rcases (by omega : k = 0 ∨ k = 1 ∨ k = 2 ∨ k = 3 ∨ k = 4 ∨ k = 5 ∨ k = 6 ∨ k = 7 ∨ k = 8 ∨ k = 9 ∨ k = 10 ∨ k = 11 ∨ k = 12) with rfl | rfl | rfl | rfl | rfl | rfl | rfl | rfl | rfl | rfl | rfl | rfl | rfl
    · exact ly_11_0
    · exact ly_11_1
    · exact ly_11_2
    · exact ly_11_3
    · exact ly_11_4
    · exact ly_11_5
    · exact ly_11_6
    · exact ly_11_7
    · exact ly_11_8
    · exact ly_11_9
    · exact ly_11_10
    · exact ly_11_11
    · exact ly_11_12,
  tyX11_ok, nmX11, fun k hk => by
    rcases (by omega : k = 0 ∨ k = 1 ∨ k = 2 ∨ k = 3 ∨ k = 4 ∨ k = 5 ∨ k = 6 ∨ k = 7 ∨ k = 8 ∨ k = 9 ∨ k = 10 ∨ k = 11 ∨ k = 12) with rfl | rfl | rfl | rfl | rfl | rfl | rfl | rfl | rfl | rfl | rfl | rfl | rfl
    · exact Or.inl ⟨_, rfl⟩
    · exact Or.inl ⟨_, rfl⟩
    · exact Or.inr ⟨_, rfl⟩
    · exact Or.inr ⟨_, rfl⟩
    · exact Or.inl ⟨_, rfl⟩
    · exact Or.inl ⟨_, rfl⟩
    · exact Or.inl ⟨_, rfl⟩
    · exact Or.inl ⟨_, rfl⟩
    · exact rfl
    · exact rfl
    · exact rfl
    · exact rfl
    · exact rfl⟩
theorem ly_12_0 : u_lay RX12 TX12 0 ∈ wsG := mgG 869 (by decide +kernel) (by decide +kernel)
theorem ly_12_1 : u_lay RX12 TX12 1 ∈ wsG := mgG 871 (by decide +kernel) (by decide +kernel)
theorem ly_12_2 : u_lay RX12 TX12 2 ∈ wsG := mgG 873 (by decide +kernel) (by decide +kernel)
theorem ly_12_3 : u_lay RX12 TX12 3 ∈ wsG := mgG 875 (by decide +kernel) (by decide +kernel)
theorem ly_12_4 : u_lay RX12 TX12 4 ∈ wsG := mgG 877 (by decide +kernel) (by decide +kernel)
theorem ly_12_5 : u_lay RX12 TX12 5 ∈ wsG := mgG 879 (by decide +kernel) (by decide +kernel)
theorem ly_12_6 : u_lay RX12 TX12 6 ∈ wsG := mgG 881 (by decide +kernel) (by decide +kernel)
theorem ly_12_7 : u_lay RX12 TX12 7 ∈ wsG := mgG 883 (by decide +kernel) (by decide +kernel)
theorem ly_12_8 : u_lay RX12 TX12 8 ∈ wsG := mgG 885 (by decide +kernel) (by decide +kernel)
theorem ly_12_9 : u_lay RX12 TX12 9 ∈ wsG := mgG 887 (by decide +kernel) (by decide +kernel)
theorem ly_12_10 : u_lay RX12 TX12 10 ∈ wsG := mgG 889 (by decide +kernel) (by decide +kernel)
theorem ly_12_11 : u_lay RX12 TX12 11 ∈ wsG := mgG 891 (by decide +kernel) (by decide +kernel)
theorem ly_12_12 : u_lay RX12 TX12 12 ∈ wsG := mgG 893 (by decide +kernel) (by decide +kernel)
theorem ly_12_13 : u_lay RX12 TX12 13 ∈ wsG := mgG 895 (by decide +kernel) (by decide +kernel)
theorem ly_12_14 : u_lay RX12 TX12 14 ∈ wsG := mgG 897 (by decide +kernel) (by decide +kernel)
theorem ly_12_15 : u_lay RX12 TX12 15 ∈ wsG := mgG 899 (by decide +kernel) (by decide +kernel)
theorem ly_12_16 : u_lay RX12 TX12 16 ∈ wsG := mgG 901 (by decide +kernel) (by decide +kernel)
theorem ly_12_17 : u_lay RX12 TX12 17 ∈ wsG := mgG 903 (by decide +kernel) (by decide +kernel)
theorem ly_12_18 : u_lay RX12 TX12 18 ∈ wsG := mgG 905 (by decide +kernel) (by decide +kernel)
theorem ly_12_19 : u_lay RX12 TX12 19 ∈ wsG := mgG 907 (by decide +kernel) (by decide +kernel)
theorem ly_12_20 : u_lay RX12 TX12 20 ∈ wsG := mgG 909 (by decide +kernel) (by decide +kernel)
theorem ly_12_21 : u_lay RX12 TX12 21 ∈ wsG := mgG 911 (by decide +kernel) (by decide +kernel)
theorem ly_12_22 : u_lay RX12 TX12 22 ∈ wsG := mgG 913 (by decide +kernel) (by decide +kernel)
theorem ly_12_23 : u_lay RX12 TX12 23 ∈ wsG := mgG 915 (by decide +kernel) (by decide +kernel)
theorem ly_12_24 : u_lay RX12 TX12 24 ∈ wsG := mgG 917 (by decide +kernel) (by decide +kernel)
theorem ly_12_25 : u_lay RX12 TX12 25 ∈ wsG := mgG 919 (by decide +kernel) (by decide +kernel)
theorem ly_12_26 : u_lay RX12 TX12 26 ∈ wsG := mgG 921 (by decide +kernel) (by decide +kernel)
theorem ly_12_27 : u_lay RX12 TX12 27 ∈ wsG := mgG 923 (by decide +kernel) (by decide +kernel)
theorem ly_12_28 : u_lay RX12 TX12 28 ∈ wsG := mgG 925 (by decide +kernel) (by decide +kernel)
theorem ly_12_29 : u_lay RX12 TX12 29 ∈ wsG := mgG 927 (by decide +kernel) (by decide +kernel)
theorem ly_12_30 : u_lay RX12 TX12 30 ∈ wsG := mgG 929 (by decide +kernel) (by decide +kernel)
theorem ly_12_31 : u_lay RX12 TX12 31 ∈ wsG := mgG 931 (by decide +kernel) (by decide +kernel)
theorem ly_12_32 : u_lay RX12 TX12 32 ∈ wsG := mgG 933 (by decide +kernel) (by decide +kernel)
theorem cok12 : CO 12 RX12 TX12 33 tyX12 := ⟨rfl, rfl, by decide, fun w hw => by
    obtain ⟨k, hk, rfl⟩ := List.mem_map.mp hw
    have hk := List.mem_range.mp hk
    rcases (by omega : k = 0 ∨ k = 1 ∨ k = 2 ∨ k = 3 ∨ k = 4 ∨ k = 5 ∨ k = 6 ∨ k = 7 ∨ k = 8 ∨ k = 9 ∨ k = 10 ∨ k = 11 ∨ k = 12 ∨ k = 13 ∨ k = 14 ∨ k = 15 ∨ k = 16 ∨ k = 17 ∨ k = 18 ∨ k = 19 ∨ k = 20 ∨ k = 21 ∨ k = 22 ∨ k = 23 ∨ k = 24 ∨ k = 25 ∨ k = 26 ∨ k = 27 ∨ k = 28 ∨ k = 29 ∨ k = 30 ∨ k = 31 ∨ k = 32) with rfl | rfl | rfl | rfl | rfl | rfl | rfl | rfl | rfl | rfl | rfl | rfl | rfl | rfl | rfl | rfl | rfl | rfl | rfl | rfl | rfl | rfl | rfl | rfl | rfl | rfl | rfl | rfl | rfl | rfl | rfl | rfl | rfl
    · exact ly_12_0
    · exact ly_12_1
    · exact ly_12_2
    · exact ly_12_3
    · exact ly_12_4
    · exact ly_12_5
    · exact ly_12_6
    · exact ly_12_7
    · exact ly_12_8
    · exact ly_12_9
    · exact ly_12_10
    · exact ly_12_11
    · exact ly_12_12
    · exact ly_12_13
    · exact ly_12_14
    · exact ly_12_15
    · exact ly_12_16
    · exact ly_12_17
    · exact ly_12_18
    · exact ly_12_19
    · exact ly_12_20
    · exact ly_12_21
    · exact ly_12_22
    · exact ly_12_23
    · exact ly_12_24
    · exact ly_12_25
    · exact ly_12_26
    · exact ly_12_27
    · exact ly_12_28
    · exact ly_12_29
    · exact ly_12_30
    · exact ly_12_31
    · exact ly_12_32,
  tyX12_ok, nmX12, fun k hk => by
    rcases (by omega : k = 0 ∨ k = 1 ∨ k = 2 ∨ k = 3 ∨ k = 4 ∨ k = 5 ∨ k = 6 ∨ k = 7 ∨ k = 8 ∨ k = 9 ∨ k = 10 ∨ k = 11 ∨ k = 12 ∨ k = 13 ∨ k = 14 ∨ k = 15 ∨ k = 16 ∨ k = 17 ∨ k = 18 ∨ k = 19 ∨ k = 20 ∨ k = 21 ∨ k = 22 ∨ k = 23 ∨ k = 24 ∨ k = 25 ∨ k = 26 ∨ k = 27 ∨ k = 28 ∨ k = 29 ∨ k = 30 ∨ k = 31 ∨ k = 32) with rfl | rfl | rfl | rfl | rfl | rfl | rfl | rfl | rfl | rfl | rfl | rfl | rfl | rfl | rfl | rfl | rfl | rfl | rfl | rfl | rfl | rfl | rfl | rfl | rfl | rfl | rfl | rfl | rfl | rfl | rfl | rfl | rfl
    · exact Or.inr ⟨_, rfl⟩
    · exact rfl
    · exact rfl
    · exact rfl
    · exact rfl
    · exact rfl
    · exact Or.inr ⟨_, rfl⟩
    · exact Or.inr ⟨_, rfl⟩
    · exact Or.inr ⟨_, rfl⟩
    · exact Or.inr ⟨_, rfl⟩
    · exact Or.inr ⟨_, rfl⟩
    · exact Or.inr ⟨_, rfl⟩
    · exact Or.inr ⟨_, rfl⟩
    · exact Or.inr ⟨_, rfl⟩
    · exact rfl
    · exact rfl
    · exact rfl
    · exact rfl
    · exact Or.inr ⟨_, rfl⟩
    · exact Or.inr ⟨_, rfl⟩
    · exact rfl
    · exact Or.inr ⟨_, rfl⟩
    · exact rfl
    · exact Or.inr ⟨_, rfl⟩
    · exact Or.inr ⟨_, rfl⟩
    · exact Or.inr ⟨_, rfl⟩
    · exact Or.inr ⟨_, rfl⟩
    · exact Or.inr ⟨_, rfl⟩
    · exact rfl
    · exact rfl
    · exact Or.inr ⟨_, rfl⟩
    · exact Or.inr ⟨_, rfl⟩
    · exact rfl⟩
def iX0_init : MI := (yX0_init, cX0_init, 1, none, 0, 0)
theorem moX0_init : MO iX0_init 0 := ⟨by decide +kernel, mgG 134 (by decide +kernel) rfl, mgG 72 (by decide +kernel) rfl, ⟨by decide +kernel, by decide +kernel⟩, by decide +kernel, by decide⟩
def iX0_sleepy : MI := (yX0_sleepy, cX0_sleepy, 4, some .int, 0, 0)
theorem moX0_sleepy : MO iX0_sleepy 3 := ⟨by decide +kernel, mgG 578 (by decide +kernel) rfl, mgG 72 (by decide +kernel) rfl, ⟨by decide +kernel, by decide +kernel⟩, by decide +kernel, by decide⟩
def iX0_tires : MI := (yX0_tires, cX0_tires, 1, some .int, 0, 0)
theorem moX0_tires : MO iX0_tires 0 := ⟨by decide +kernel, mgG 610 (by decide +kernel) rfl, mgG 72 (by decide +kernel) rfl, ⟨by decide +kernel, by decide +kernel⟩, by decide +kernel, by decide⟩
def iX1_init : MI := (yX1_init, cX1_init, 1, none, 0, 0)
theorem moX1_init : MO iX1_init 0 := ⟨by decide +kernel, mgG 106 (by decide +kernel) rfl, mgG 68 (by decide +kernel) rfl, ⟨by decide +kernel, by decide +kernel⟩, by decide +kernel, by decide⟩
def iX1_sleepy : MI := (yX1_sleepy, cX1_sleepy, 5, some .int, 0, 0)
theorem moX1_sleepy : MO iX1_sleepy 3 := ⟨by decide +kernel, mgG 581 (by decide +kernel) rfl, mgG 68 (by decide +kernel) rfl, ⟨by decide +kernel, by decide +kernel⟩, by decide +kernel, by decide⟩
def iX2_init : MI := (yX2_init, cX2_init, 1, none, 0, 0)
theorem moX2_init : MO iX2_init 0 := ⟨by decide +kernel, mgG 120 (by decide +kernel) rfl, mgG 70 (by decide +kernel) rfl, ⟨by decide +kernel, by decide +kernel⟩, by decide +kernel, by decide⟩
def iX2_sleepy : MI := (yX2_sleepy, cX2_sleepy, 5, some .int, 0, 0)
theorem moX2_sleepy : MO iX2_sleepy 3 := ⟨by decide +kernel, mgG 588 (by decide +kernel) rfl, mgG 70 (by decide +kernel) rfl, ⟨by decide +kernel, by decide +kernel⟩, by decide +kernel, by decide⟩
def iX3_init : MI := (yX3_init, cX3_init, 2, none, 6, 148)
theorem moX3_init : MO iX3_init 1 := ⟨by decide +kernel, mgG 235 (by decide +kernel) rfl, mgG 75 (by decide +kernel) rfl, ⟨by decide +kernel, by decide +kernel⟩, by decide +kernel, by decide⟩
def iX3_run : MI := (yX3_run, cX3_run, 4, none, 0, 0)
theorem moX3_run : MO iX3_run 2 := ⟨by decide +kernel, mgG 647 (by decide +kernel) rfl, mgG 75 (by decide +kernel) rfl, ⟨by decide +kernel, by decide +kernel⟩, by decide +kernel, by decide⟩
def iX3_timesSteered : MI := (yX3_timesSteered, cX3_timesSteered, 5, some .int, 0, 0)
theorem moX3_timesSteered : MO iX3_timesSteered 2 := ⟨by decide +kernel, mgG 731 (by decide +kernel) rfl, mgG 75 (by decide +kernel) rfl, ⟨by decide +kernel, by decide +kernel⟩, by decide +kernel, by decide⟩
def iX4_init : MI := (yX4_init, cX4_init, 2, none, 3, 18)
theorem moX4_init : MO iX4_init 1 := ⟨by decide +kernel, mgG 148 (by decide +kernel) rfl, mgG 74 (by decide +kernel) rfl, ⟨by decide +kernel, by decide +kernel⟩, by decide +kernel, by decide⟩
def iX4_begin : MI := (yX4_begin, cX4_begin, 1, none, 0, 0)
theorem moX4_begin : MO iX4_begin 0 := ⟨by decide +kernel, mgG 362 (by decide +kernel) rfl, mgG 74 (by decide +kernel) rfl, ⟨by decide +kernel, by decide +kernel⟩, by decide +kernel, by decide⟩
def iX4_take : MI := (yX4_take, cX4_take, 2, none, 0, 0)
theorem moX4_take : MO iX4_take 1 := ⟨by decide +kernel, mgG 538 (by decide +kernel) rfl, mgG 74 (by decide +kernel) rfl, ⟨by decide +kernel, by decide +kernel⟩, by decide +kernel, by decide⟩
def iX4_sleepiness : MI := (yX4_sleepiness, cX4_sleepiness, 3, some .int, 0, 0)
theorem moX4_sleepiness : MO iX4_sleepiness 2 := ⟨by decide +kernel, mgG 571 (by decide +kernel) rfl, mgG 74 (by decide +kernel) rfl, ⟨by decide +kernel, by decide +kernel⟩, by decide +kernel, by decide⟩
def iX4_steerer : MI := (yX4_steerer, cX4_steerer, 6, some .int, 0, 0)
theorem moX4_steerer : MO iX4_steerer 1 := ⟨by decide +kernel, mgG 566 (by decide +kernel) rfl, mgG 74 (by decide +kernel) rfl, ⟨by decide +kernel, by decide +kernel⟩, by decide +kernel, by decide⟩
def iX4_go : MI := (yX4_go, cX4_go, 3, none, 0, 0)
theorem moX4_go : MO iX4_go 1 := ⟨by decide +kernel, mgG 602 (by decide +kernel) rfl, mgG 74 (by decide +kernel) rfl, ⟨by decide +kernel, by decide +kernel⟩, by decide +kernel, by decide⟩
def iX4_canSteer : MI := (yX4_canSteer, cX4_canSteer, 6, some .boolean, 0, 0)
theorem moX4_canSteer : MO iX4_canSteer 1 := ⟨by decide +kernel, mgG 687 (by decide +kernel) rfl, mgG 74 (by decide +kernel) rfl, ⟨by decide +kernel, by decide +kernel⟩, by decide +kernel, by decide⟩
def iX4_chances : MI := (yX4_chances, cX4_chances, 3, some .int, 0, 0)
theorem moX4_chances : MO iX4_chances 2 := ⟨by decide +kernel, mgG 768 (by decide +kernel) rfl, mgG 74 (by decide +kernel) rfl, ⟨by decide +kernel, by decide +kernel⟩, by decide +kernel, by decide⟩
def iX4_chancesOfOthers : MI := (yX4_chancesOfOthers, cX4_chancesOfOthers, 8, some .int, 0, 0)
theorem moX4_chancesOfOthers : MO iX4_chancesOfOthers 3 := ⟨by decide +kernel, mgG 772 (by decide +kernel) rfl, mgG 74 (by decide +kernel) rfl, ⟨by decide +kernel, by decide +kernel⟩, by decide +kernel, by decide⟩
def iX4_staysBehind : MI := (yX4_staysBehind, cX4_staysBehind, 4, some .boolean, 0, 0)
theorem moX4_staysBehind : MO iX4_staysBehind 4 := ⟨by decide +kernel, mgG 690 (by decide +kernel) rfl, mgG 74 (by decide +kernel) rfl, ⟨by decide +kernel, by decide +kernel⟩, by decide +kernel, by decide⟩
def iX4_pairRests : MI := (yX4_pairRests, cX4_pairRests, 7, some .boolean, 0, 0)
theorem moX4_pairRests : MO iX4_pairRests 3 := ⟨by decide +kernel, mgG 698 (by decide +kernel) rfl, mgG 74 (by decide +kernel) rfl, ⟨by decide +kernel, by decide +kernel⟩, by decide +kernel, by decide⟩
def iX4_steererByPair : MI := (yX4_steererByPair, cX4_steererByPair, 5, some .int, 0, 0)
theorem moX4_steererByPair : MO iX4_steererByPair 3 := ⟨by decide +kernel, mgG 702 (by decide +kernel) rfl, mgG 74 (by decide +kernel) rfl, ⟨by decide +kernel, by decide +kernel⟩, by decide +kernel, by decide⟩
def iX5_init : MI := (yX5_init, cX5_init, 1, none, 0, 0)
theorem moX5_init : MO iX5_init 0 := ⟨by decide +kernel, mgG 127 (by decide +kernel) rfl, mgG 71 (by decide +kernel) rfl, ⟨by decide +kernel, by decide +kernel⟩, by decide +kernel, by decide⟩
def iX5_sleepy : MI := (yX5_sleepy, cX5_sleepy, 5, some .int, 0, 0)
theorem moX5_sleepy : MO iX5_sleepy 3 := ⟨by decide +kernel, mgG 592 (by decide +kernel) rfl, mgG 71 (by decide +kernel) rfl, ⟨by decide +kernel, by decide +kernel⟩, by decide +kernel, by decide⟩
def iX6_init : MI := (yX6_init, cX6_init, 3, none, 23, 143)
theorem moX6_init : MO iX6_init 1 := ⟨by decide +kernel, mgG 256 (by decide +kernel) rfl, mgG 76 (by decide +kernel) rfl, ⟨by decide +kernel, by decide +kernel⟩, by decide +kernel, by decide⟩
def iX6_seek : MI := (yX6_seek, cX6_seek, 4, some .boolean, 0, 0)
theorem moX6_seek : MO iX6_seek 3 := ⟨by decide +kernel, mgG 662 (by decide +kernel) rfl, mgG 76 (by decide +kernel) rfl, ⟨by decide +kernel, by decide +kernel⟩, by decide +kernel, by decide⟩
def iX6_serve : MI := (yX6_serve, cX6_serve, 7, none, 0, 0)
theorem moX6_serve : MO iX6_serve 2 := ⟨by decide +kernel, mgG 668 (by decide +kernel) rfl, mgG 76 (by decide +kernel) rfl, ⟨by decide +kernel, by decide +kernel⟩, by decide +kernel, by decide⟩
def iX6_goOn : MI := (yX6_goOn, cX6_goOn, 4, none, 0, 0)
theorem moX6_goOn : MO iX6_goOn 3 := ⟨by decide +kernel, mgG 677 (by decide +kernel) rfl, mgG 76 (by decide +kernel) rfl, ⟨by decide +kernel, by decide +kernel⟩, by decide +kernel, by decide⟩
def iX7_init : MI := (yX7_init, cX7_init, 1, none, 0, 0)
theorem moX7_init : MO iX7_init 0 := ⟨by decide +kernel, mgG 99 (by decide +kernel) rfl, mgG 67 (by decide +kernel) rfl, ⟨by decide +kernel, by decide +kernel⟩, by decide +kernel, by decide⟩
def iX7_sleepy : MI := (yX7_sleepy, cX7_sleepy, 4, some .int, 0, 0)
theorem moX7_sleepy : MO iX7_sleepy 3 := ⟨by decide +kernel, mgG 598 (by decide +kernel) rfl, mgG 67 (by decide +kernel) rfl, ⟨by decide +kernel, by decide +kernel⟩, by decide +kernel, by decide⟩
def iX7_tires : MI := (yX7_tires, cX7_tires, 1, some .int, 0, 0)
theorem moX7_tires : MO iX7_tires 0 := ⟨by decide +kernel, mgG 619 (by decide +kernel) rfl, mgG 67 (by decide +kernel) rfl, ⟨by decide +kernel, by decide +kernel⟩, by decide +kernel, by decide⟩
def iX8_init : MI := (yX8_init, cX8_init, 1, none, 0, 0)
theorem moX8_init : MO iX8_init 0 := ⟨by decide +kernel, mgG 113 (by decide +kernel) rfl, mgG 69 (by decide +kernel) rfl, ⟨by decide +kernel, by decide +kernel⟩, by decide +kernel, by decide⟩
def iX8_sleepy : MI := (yX8_sleepy, cX8_sleepy, 5, some .int, 0, 0)
theorem moX8_sleepy : MO iX8_sleepy 3 := ⟨by decide +kernel, mgG 596 (by decide +kernel) rfl, mgG 69 (by decide +kernel) rfl, ⟨by decide +kernel, by decide +kernel⟩, by decide +kernel, by decide⟩
def iX8_tires : MI := (yX8_tires, cX8_tires, 1, some .int, 0, 0)
theorem moX8_tires : MO iX8_tires 0 := ⟨by decide +kernel, mgG 613 (by decide +kernel) rfl, mgG 69 (by decide +kernel) rfl, ⟨by decide +kernel, by decide +kernel⟩, by decide +kernel, by decide⟩
def iX9_init : MI := (yX9_init, cX9_init, 1, none, 1, 150)
theorem moX9_init : MO iX9_init 0 := ⟨by decide +kernel, mgG 285 (by decide +kernel) rfl, mgG 77 (by decide +kernel) rfl, ⟨by decide +kernel, by decide +kernel⟩, by decide +kernel, by decide⟩
def iX9_append : MI := (yX9_append, cX9_append, 2, none, 0, 0)
theorem moX9_append : MO iX9_append 1 := ⟨by decide +kernel, mgG 411 (by decide +kernel) rfl, mgG 77 (by decide +kernel) rfl, ⟨by decide +kernel, by decide +kernel⟩, by decide +kernel, by decide⟩
def iX9_parse : MI := (yX9_parse, cX9_parse, 3, some .int, 0, 0)
theorem moX9_parse : MO iX9_parse 1 := ⟨by decide +kernel, mgG 423 (by decide +kernel) rfl, mgG 77 (by decide +kernel) rfl, ⟨by decide +kernel, by decide +kernel⟩, by decide +kernel, by decide⟩
def iX9_parseItem : MI := (yX9_parseItem, cX9_parseItem, 2, none, 0, 0)
theorem moX9_parseItem : MO iX9_parseItem 1 := ⟨by decide +kernel, mgG 507 (by decide +kernel) rfl, mgG 77 (by decide +kernel) rfl, ⟨by decide +kernel, by decide +kernel⟩, by decide +kernel, by decide⟩
def iX9_parseRock : MI := (yX9_parseRock, cX9_parseRock, 4, none, 0, 0)
theorem moX9_parseRock : MO iX9_parseRock 2 := ⟨by decide +kernel, mgG 512 (by decide +kernel) rfl, mgG 77 (by decide +kernel) rfl, ⟨by decide +kernel, by decide +kernel⟩, by decide +kernel, by decide⟩
def iX9_parseHand : MI := (yX9_parseHand, cX9_parseHand, 6, none, 0, 0)
theorem moX9_parseHand : MO iX9_parseHand 2 := ⟨by decide +kernel, mgG 524 (by decide +kernel) rfl, mgG 77 (by decide +kernel) rfl, ⟨by decide +kernel, by decide +kernel⟩, by decide +kernel, by decide⟩
def iX9_takeNumberUpTo : MI := (yX9_takeNumberUpTo, cX9_takeNumberUpTo, 3, some .int, 0, 0)
theorem moX9_takeNumberUpTo : MO iX9_takeNumberUpTo 1 := ⟨by decide +kernel, mgG 528 (by decide +kernel) rfl, mgG 77 (by decide +kernel) rfl, ⟨by decide +kernel, by decide +kernel⟩, by decide +kernel, by decide⟩
def iX9_expectStop : MI := (yX9_expectStop, cX9_expectStop, 1, none, 0, 0)
theorem moX9_expectStop : MO iX9_expectStop 0 := ⟨by decide +kernel, mgG 499 (by decide +kernel) rfl, mgG 77 (by decide +kernel) rfl, ⟨by decide +kernel, by decide +kernel⟩, by decide +kernel, by decide⟩
def iX9_fail : MI := (yX9_fail, cX9_fail, 1, none, 0, 0)
theorem moX9_fail : MO iX9_fail 0 := ⟨by decide +kernel, mgG 503 (by decide +kernel) rfl, mgG 77 (by decide +kernel) rfl, ⟨by decide +kernel, by decide +kernel⟩, by decide +kernel, by decide⟩
def iX9_isNumberUpTo : MI := (yX9_isNumberUpTo, cX9_isNumberUpTo, 2, some .boolean, 0, 0)
theorem moX9_isNumberUpTo : MO iX9_isNumberUpTo 1 := ⟨by decide +kernel, mgG 516 (by decide +kernel) rfl, mgG 77 (by decide +kernel) rfl, ⟨by decide +kernel, by decide +kernel⟩, by decide +kernel, by decide⟩
def iX9_isWord : MI := (yX9_isWord, cX9_isWord, 3, some .boolean, 0, 0)
theorem moX9_isWord : MO iX9_isWord 1 := ⟨by decide +kernel, mgG 447 (by decide +kernel) rfl, mgG 77 (by decide +kernel) rfl, ⟨by decide +kernel, by decide +kernel⟩, by decide +kernel, by decide⟩
def iX9_advance : MI := (yX9_advance, cX9_advance, 1, none, 0, 0)
theorem moX9_advance : MO iX9_advance 0 := ⟨by decide +kernel, mgG 428 (by decide +kernel) rfl, mgG 77 (by decide +kernel) rfl, ⟨by decide +kernel, by decide +kernel⟩, by decide +kernel, by decide⟩
def iX9_advanceOverWord : MI := (yX9_advanceOverWord, cX9_advanceOverWord, 1, none, 0, 0)
theorem moX9_advanceOverWord : MO iX9_advanceOverWord 0 := ⟨by decide +kernel, mgG 435 (by decide +kernel) rfl, mgG 77 (by decide +kernel) rfl, ⟨by decide +kernel, by decide +kernel⟩, by decide +kernel, by decide⟩
def iX9_advanceOverNumber : MI := (yX9_advanceOverNumber, cX9_advanceOverNumber, 1, none, 0, 0)
theorem moX9_advanceOverNumber : MO iX9_advanceOverNumber 0 := ⟨by decide +kernel, mgG 442 (by decide +kernel) rfl, mgG 77 (by decide +kernel) rfl, ⟨by decide +kernel, by decide +kernel⟩, by decide +kernel, by decide⟩
def iX9_isLetter : MI := (yX9_isLetter, cX9_isLetter, 1, some .boolean, 0, 0)
theorem moX9_isLetter : MO iX9_isLetter 1 := ⟨by decide +kernel, mgG 431 (by decide +kernel) rfl, mgG 77 (by decide +kernel) rfl, ⟨by decide +kernel, by decide +kernel⟩, by decide +kernel, by decide⟩
def iX9_isFigure : MI := (yX9_isFigure, cX9_isFigure, 1, some .boolean, 0, 0)
theorem moX9_isFigure : MO iX9_isFigure 1 := ⟨by decide +kernel, mgG 438 (by decide +kernel) rfl, mgG 77 (by decide +kernel) rfl, ⟨by decide +kernel, by decide +kernel⟩, by decide +kernel, by decide⟩
def iX10_init : MI := (yX10_init, cX10_init, 3, none, 40, 260)
theorem moX10_init : MO iX10_init 1 := ⟨by decide +kernel, mgG 141 (by decide +kernel) rfl, mgG 73 (by decide +kernel) rfl, ⟨by decide +kernel, by decide +kernel⟩, by decide +kernel, by decide⟩
def iX10_begin : MI := (yX10_begin, cX10_begin, 1, none, 0, 0)
theorem moX10_begin : MO iX10_begin 0 := ⟨by decide +kernel, mgG 358 (by decide +kernel) rfl, mgG 73 (by decide +kernel) rfl, ⟨by decide +kernel, by decide +kernel⟩, by decide +kernel, by decide⟩
def iX10_take : MI := (yX10_take, cX10_take, 3, none, 0, 0)
theorem moX10_take : MO iX10_take 1 := ⟨by decide +kernel, mgG 534 (by decide +kernel) rfl, mgG 73 (by decide +kernel) rfl, ⟨by decide +kernel, by decide +kernel⟩, by decide +kernel, by decide⟩
def iX10_isRock : MI := (yX10_isRock, cX10_isRock, 3, some .boolean, 0, 0)
theorem moX10_isRock : MO iX10_isRock 1 := ⟨by decide +kernel, mgG 380 (by decide +kernel) rfl, mgG 73 (by decide +kernel) rfl, ⟨by decide +kernel, by decide +kernel⟩, by decide +kernel, by decide⟩
def iX10_addRock : MI := (yX10_addRock, cX10_addRock, 2, none, 0, 0)
theorem moX10_addRock : MO iX10_addRock 1 := ⟨by decide +kernel, mgG 392 (by decide +kernel) rfl, mgG 73 (by decide +kernel) rfl, ⟨by decide +kernel, by decide +kernel⟩, by decide +kernel, by decide⟩
def iX10_addHand : MI := (yX10_addHand, cX10_addHand, 5, none, 0, 0)
theorem moX10_addHand : MO iX10_addHand 3 := ⟨by decide +kernel, mgG 403 (by decide +kernel) rfl, mgG 73 (by decide +kernel) rfl, ⟨by decide +kernel, by decide +kernel⟩, by decide +kernel, by decide⟩
def iX10_addSight : MI := (yX10_addSight, cX10_addSight, 3, none, 0, 0)
theorem moX10_addSight : MO iX10_addSight 2 := ⟨by decide +kernel, mgG 711 (by decide +kernel) rfl, mgG 73 (by decide +kernel) rfl, ⟨by decide +kernel, by decide +kernel⟩, by decide +kernel, by decide⟩
def iX10_remember : MI := (yX10_remember, cX10_remember, 3, none, 0, 0)
theorem moX10_remember : MO iX10_remember 0 := ⟨by decide +kernel, mgG 558 (by decide +kernel) rfl, mgG 73 (by decide +kernel) rfl, ⟨by decide +kernel, by decide +kernel⟩, by decide +kernel, by decide⟩
def iX10_goBack : MI := (yX10_goBack, cX10_goBack, 1, some .boolean, 0, 0)
theorem moX10_goBack : MO iX10_goBack 0 := ⟨by decide +kernel, mgG 630 (by decide +kernel) rfl, mgG 73 (by decide +kernel) rfl, ⟨by decide +kernel, by decide +kernel⟩, by decide +kernel, by decide⟩
def iX10_digestOnto : MI := (yX10_digestOnto, cX10_digestOnto, 6, some .long, 0, 0)
theorem moX10_digestOnto : MO iX10_digestOnto 1 := ⟨by decide +kernel, mgG 823 (by decide +kernel) rfl, mgG 73 (by decide +kernel) rfl, ⟨by decide +kernel, by decide +kernel⟩, by decide +kernel, by decide⟩
def iX11_init : MI := (yX11_init, cX11_init, 3, none, 210, 1565)
theorem moX11_init : MO iX11_init 0 := ⟨by decide +kernel, mgG 90 (by decide +kernel) rfl, mgG 66 (by decide +kernel) rfl, ⟨by decide +kernel, by decide +kernel⟩, by decide +kernel, by decide⟩
def iX11_ship : MI := (yX11_ship, cX11_ship, 2, some .int, 0, 0)
theorem moX11_ship : MO iX11_ship 0 := ⟨by decide +kernel, mgG 354 (by decide +kernel) rfl, mgG 66 (by decide +kernel) rfl, ⟨by decide +kernel, by decide +kernel⟩, by decide +kernel, by decide⟩
def iX11_rock : MI := (yX11_rock, cX11_rock, 2, some .int, 0, 0)
theorem moX11_rock : MO iX11_rock 1 := ⟨by decide +kernel, mgG 366 (by decide +kernel) rfl, mgG 66 (by decide +kernel) rfl, ⟨by decide +kernel, by decide +kernel⟩, by decide +kernel, by decide⟩
def iX11_hand : MI := (yX11_hand, cX11_hand, 4, some .int, 0, 0)
theorem moX11_hand : MO iX11_hand 3 := ⟨by decide +kernel, mgG 396 (by decide +kernel) rfl, mgG 66 (by decide +kernel) rfl, ⟨by decide +kernel, by decide +kernel⟩, by decide +kernel, by decide⟩
def iX11_type : MI := (yX11_type, cX11_type, 2, some .int, 0, 0)
theorem moX11_type : MO iX11_type 1 := ⟨by decide +kernel, mgG 407 (by decide +kernel) rfl, mgG 66 (by decide +kernel) rfl, ⟨by decide +kernel, by decide +kernel⟩, by decide +kernel, by decide⟩
def iX11_clear : MI := (yX11_clear, cX11_clear, 2, some .int, 0, 0)
theorem moX11_clear : MO iX11_clear 0 := ⟨by decide +kernel, mgG 415 (by decide +kernel) rfl, mgG 66 (by decide +kernel) rfl, ⟨by decide +kernel, by decide +kernel⟩, by decide +kernel, by decide⟩
def iX11_read : MI := (yX11_read, cX11_read, 2, some .int, 0, 0)
theorem moX11_read : MO iX11_read 0 := ⟨by decide +kernel, mgG 419 (by decide +kernel) rfl, mgG 66 (by decide +kernel) rfl, ⟨by decide +kernel, by decide +kernel⟩, by decide +kernel, by decide⟩
def iX11_feed : MI := (yX11_feed, cX11_feed, 2, some .int, 0, 0)
theorem moX11_feed : MO iX11_feed 1 := ⟨by decide +kernel, mgG 547 (by decide +kernel) rfl, mgG 66 (by decide +kernel) rfl, ⟨by decide +kernel, by decide +kernel⟩, by decide +kernel, by decide⟩
def iX11_watch : MI := (yX11_watch, cX11_watch, 2, some .int, 0, 0)
theorem moX11_watch : MO iX11_watch 0 := ⟨by decide +kernel, mgG 562 (by decide +kernel) rfl, mgG 66 (by decide +kernel) rfl, ⟨by decide +kernel, by decide +kernel⟩, by decide +kernel, by decide⟩
def iX11_undo : MI := (yX11_undo, cX11_undo, 1, some .int, 0, 0)
theorem moX11_undo : MO iX11_undo 0 := ⟨by decide +kernel, mgG 626 (by decide +kernel) rfl, mgG 66 (by decide +kernel) rfl, ⟨by decide +kernel, by decide +kernel⟩, by decide +kernel, by decide⟩
def iX11_of : MI := (yX11_of, cX11_of, 4, some .int, 0, 0)
theorem moX11_of : MO iX11_of 2 := ⟨by decide +kernel, mgG 634 (by decide +kernel) rfl, mgG 66 (by decide +kernel) rfl, ⟨by decide +kernel, by decide +kernel⟩, by decide +kernel, by decide⟩
def iX11_now : MI := (yX11_now, cX11_now, 3, some .int, 0, 0)
theorem moX11_now : MO iX11_now 1 := ⟨by decide +kernel, mgG 639 (by decide +kernel) rfl, mgG 66 (by decide +kernel) rfl, ⟨by decide +kernel, by decide +kernel⟩, by decide +kernel, by decide⟩
def iX11_then : MI := (yX11_then, cX11_then, 3, some .int, 0, 0)
theorem moX11_then : MO iX11_then 2 := ⟨by decide +kernel, mgG 643 (by decide +kernel) rfl, mgG 66 (by decide +kernel) rfl, ⟨by decide +kernel, by decide +kernel⟩, by decide +kernel, by decide⟩
def iX11_strikes : MI := (yX11_strikes, cX11_strikes, 2, some .int, 0, 0)
theorem moX11_strikes : MO iX11_strikes 0 := ⟨by decide +kernel, mgG 654 (by decide +kernel) rfl, mgG 66 (by decide +kernel) rfl, ⟨by decide +kernel, by decide +kernel⟩, by decide +kernel, by decide⟩
def iX11_peas : MI := (yX11_peas, cX11_peas, 4, some .int, 0, 0)
theorem moX11_peas : MO iX11_peas 3 := ⟨by decide +kernel, mgG 658 (by decide +kernel) rfl, mgG 66 (by decide +kernel) rfl, ⟨by decide +kernel, by decide +kernel⟩, by decide +kernel, by decide⟩
def iX11_canNot : MI := (yX11_canNot, cX11_canNot, 4, some .int, 0, 0)
theorem moX11_canNot : MO iX11_canNot 1 := ⟨by decide +kernel, mgG 682 (by decide +kernel) rfl, mgG 66 (by decide +kernel) rfl, ⟨by decide +kernel, by decide +kernel⟩, by decide +kernel, by decide⟩
def iX11_eat : MI := (yX11_eat, cX11_eat, 5, some .int, 0, 0)
theorem moX11_eat : MO iX11_eat 2 := ⟨by decide +kernel, mgG 694 (by decide +kernel) rfl, mgG 66 (by decide +kernel) rfl, ⟨by decide +kernel, by decide +kernel⟩, by decide +kernel, by decide⟩
def iX11_seen : MI := (yX11_seen, cX11_seen, 3, some .int, 0, 0)
theorem moX11_seen : MO iX11_seen 2 := ⟨by decide +kernel, mgG 707 (by decide +kernel) rfl, mgG 66 (by decide +kernel) rfl, ⟨by decide +kernel, by decide +kernel⟩, by decide +kernel, by decide⟩
def iX11_forget : MI := (yX11_forget, cX11_forget, 2, some .int, 0, 0)
theorem moX11_forget : MO iX11_forget 0 := ⟨by decide +kernel, mgG 715 (by decide +kernel) rfl, mgG 66 (by decide +kernel) rfl, ⟨by decide +kernel, by decide +kernel⟩, by decide +kernel, by decide⟩
def iX11_nod : MI := (yX11_nod, cX11_nod, 2, some .int, 0, 0)
theorem moX11_nod : MO iX11_nod 1 := ⟨by decide +kernel, mgG 719 (by decide +kernel) rfl, mgG 66 (by decide +kernel) rfl, ⟨by decide +kernel, by decide +kernel⟩, by decide +kernel, by decide⟩
def iX11_is : MI := (yX11_is, cX11_is, 4, some .int, 0, 0)
theorem moX11_is : MO iX11_is 1 := ⟨by decide +kernel, mgG 735 (by decide +kernel) rfl, mgG 66 (by decide +kernel) rfl, ⟨by decide +kernel, by decide +kernel⟩, by decide +kernel, by decide⟩
def iX11_look : MI := (yX11_look, cX11_look, 7, some .int, 0, 0)
theorem moX11_look : MO iX11_look 1 := ⟨by decide +kernel, mgG 743 (by decide +kernel) rfl, mgG 66 (by decide +kernel) rfl, ⟨by decide +kernel, by decide +kernel⟩, by decide +kernel, by decide⟩
def iX11_pulled : MI := (yX11_pulled, cX11_pulled, 4, some .int, 0, 0)
theorem moX11_pulled : MO iX11_pulled 1 := ⟨by decide +kernel, mgG 753 (by decide +kernel) rfl, mgG 66 (by decide +kernel) rfl, ⟨by decide +kernel, by decide +kernel⟩, by decide +kernel, by decide⟩
def iX11_meet : MI := (yX11_meet, cX11_meet, 7, some .int, 0, 0)
theorem moX11_meet : MO iX11_meet 3 := ⟨by decide +kernel, mgG 757 (by decide +kernel) rfl, mgG 66 (by decide +kernel) rfl, ⟨by decide +kernel, by decide +kernel⟩, by decide +kernel, by decide⟩
def iX11_odds : MI := (yX11_odds, cX11_odds, 5, some .int, 0, 0)
theorem moX11_odds : MO iX11_odds 2 := ⟨by decide +kernel, mgG 764 (by decide +kernel) rfl, mgG 66 (by decide +kernel) rfl, ⟨by decide +kernel, by decide +kernel⟩, by decide +kernel, by decide⟩
def iX11_voyages : MI := (yX11_voyages, cX11_voyages, 7, some .int, 0, 0)
theorem moX11_voyages : MO iX11_voyages 2 := ⟨by decide +kernel, mgG 783 (by decide +kernel) rfl, mgG 66 (by decide +kernel) rfl, ⟨by decide +kernel, by decide +kernel⟩, by decide +kernel, by decide⟩
def iX11_part : MI := (yX11_part, cX11_part, 2, some .long, 0, 0)
theorem moX11_part : MO iX11_part 1 := ⟨by decide +kernel, mgG 793 (by decide +kernel) rfl, mgG 66 (by decide +kernel) rfl, ⟨by decide +kernel, by decide +kernel⟩, by decide +kernel, by decide⟩
def iX11_image : MI := (yX11_image, cX11_image, 2, some .int, 0, 0)
theorem moX11_image : MO iX11_image 1 := ⟨by decide +kernel, mgG 797 (by decide +kernel) rfl, mgG 66 (by decide +kernel) rfl, ⟨by decide +kernel, by decide +kernel⟩, by decide +kernel, by decide⟩
def iX11_from : MI := (yX11_from, cX11_from, 2, some .int, 0, 0)
theorem moX11_from : MO iX11_from 1 := ⟨by decide +kernel, mgG 801 (by decide +kernel) rfl, mgG 66 (by decide +kernel) rfl, ⟨by decide +kernel, by decide +kernel⟩, by decide +kernel, by decide⟩
def iX11_status : MI := (yX11_status, cX11_status, 2, some .int, 0, 0)
theorem moX11_status : MO iX11_status 1 := ⟨by decide +kernel, mgG 805 (by decide +kernel) rfl, mgG 66 (by decide +kernel) rfl, ⟨by decide +kernel, by decide +kernel⟩, by decide +kernel, by decide⟩
def iX11_count : MI := (yX11_count, cX11_count, 2, some .int, 0, 0)
theorem moX11_count : MO iX11_count 1 := ⟨by decide +kernel, mgG 809 (by decide +kernel) rfl, mgG 66 (by decide +kernel) rfl, ⟨by decide +kernel, by decide +kernel⟩, by decide +kernel, by decide⟩
def iX11_digest : MI := (yX11_digest, cX11_digest, 4, some .long, 0, 0)
theorem moX11_digest : MO iX11_digest 0 := ⟨by decide +kernel, mgG 817 (by decide +kernel) rfl, mgG 66 (by decide +kernel) rfl, ⟨by decide +kernel, by decide +kernel⟩, by decide +kernel, by decide⟩
def iX11_amount : MI := (yX11_amount, cX11_amount, 2, some .int, 0, 0)
theorem moX11_amount : MO iX11_amount 1 := ⟨by decide +kernel, mgG 813 (by decide +kernel) rfl, mgG 66 (by decide +kernel) rfl, ⟨by decide +kernel, by decide +kernel⟩, by decide +kernel, by decide⟩
def iX11_refuseBad : MI := (yX11_refuseBad, cX11_refuseBad, 2, some .int, 0, 0)
theorem moX11_refuseBad : MO iX11_refuseBad 1 := ⟨by decide +kernel, mgG 376 (by decide +kernel) rfl, mgG 66 (by decide +kernel) rfl, ⟨by decide +kernel, by decide +kernel⟩, by decide +kernel, by decide⟩
def iX11_refuseNo : MI := (yX11_refuseNo, cX11_refuseNo, 1, some .int, 0, 0)
theorem moX11_refuseNo : MO iX11_refuseNo 0 := ⟨by decide +kernel, mgG 384 (by decide +kernel) rfl, mgG 66 (by decide +kernel) rfl, ⟨by decide +kernel, by decide +kernel⟩, by decide +kernel, by decide⟩
def iX11_refuseFull : MI := (yX11_refuseFull, cX11_refuseFull, 1, some .int, 0, 0)
theorem moX11_refuseFull : MO iX11_refuseFull 0 := ⟨by decide +kernel, mgG 388 (by decide +kernel) rfl, mgG 66 (by decide +kernel) rfl, ⟨by decide +kernel, by decide +kernel⟩, by decide +kernel, by decide⟩
def iX11_isHand : MI := (yX11_isHand, cX11_isHand, 2, some .boolean, 0, 0)
theorem moX11_isHand : MO iX11_isHand 1 := ⟨by decide +kernel, mgG 551 (by decide +kernel) rfl, mgG 66 (by decide +kernel) rfl, ⟨by decide +kernel, by decide +kernel⟩, by decide +kernel, by decide⟩
def iX11_fittingNods : MI := (yX11_fittingNods, cX11_fittingNods, 4, some .int, 0, 0)
theorem moX11_fittingNods : MO iX11_fittingNods 1 := ⟨by decide +kernel, mgG 723 (by decide +kernel) rfl, mgG 66 (by decide +kernel) rfl, ⟨by decide +kernel, by decide +kernel⟩, by decide +kernel, by decide⟩
def iX11_fitsNods : MI := (yX11_fitsNods, cX11_fitsNods, 5, some .boolean, 0, 0)
theorem moX11_fitsNods : MO iX11_fitsNods 2 := ⟨by decide +kernel, mgG 727 (by decide +kernel) rfl, mgG 66 (by decide +kernel) rfl, ⟨by decide +kernel, by decide +kernel⟩, by decide +kernel, by decide⟩
def iX11_fitsPulled : MI := (yX11_fitsPulled, cX11_fitsPulled, 6, some .boolean, 0, 0)
theorem moX11_fitsPulled : MO iX11_fitsPulled 2 := ⟨by decide +kernel, mgG 739 (by decide +kernel) rfl, mgG 66 (by decide +kernel) rfl, ⟨by decide +kernel, by decide +kernel⟩, by decide +kernel, by decide⟩
def iX11_setFraction : MI := (yX11_setFraction, cX11_setFraction, 4, none, 0, 0)
theorem moX11_setFraction : MO iX11_setFraction 2 := ⟨by decide +kernel, mgG 776 (by decide +kernel) rfl, mgG 66 (by decide +kernel) rfl, ⟨by decide +kernel, by decide +kernel⟩, by decide +kernel, by decide⟩
def iX11_greatestDivisor : MI := (yX11_greatestDivisor, cX11_greatestDivisor, 6, some .int, 0, 0)
theorem moX11_greatestDivisor : MO iX11_greatestDivisor 2 := ⟨by decide +kernel, mgG 779 (by decide +kernel) rfl, mgG 66 (by decide +kernel) rfl, ⟨by decide +kernel, by decide +kernel⟩, by decide +kernel, by decide⟩
def iX11_isWithin : MI := (yX11_isWithin, cX11_isWithin, 3, some .boolean, 0, 0)
theorem moX11_isWithin : MO iX11_isWithin 3 := ⟨by decide +kernel, mgG 372 (by decide +kernel) rfl, mgG 66 (by decide +kernel) rfl, ⟨by decide +kernel, by decide +kernel⟩, by decide +kernel, by decide⟩
def iX11_isPlace : MI := (yX11_isPlace, cX11_isPlace, 1, some .boolean, 0, 0)
theorem moX11_isPlace : MO iX11_isPlace 1 := ⟨by decide +kernel, mgG 369 (by decide +kernel) rfl, mgG 66 (by decide +kernel) rfl, ⟨by decide +kernel, by decide +kernel⟩, by decide +kernel, by decide⟩
def iX11_isNods : MI := (yX11_isNods, cX11_isNods, 1, some .boolean, 0, 0)
theorem moX11_isNods : MO iX11_isNods 1 := ⟨by decide +kernel, mgG 399 (by decide +kernel) rfl, mgG 66 (by decide +kernel) rfl, ⟨by decide +kernel, by decide +kernel⟩, by decide +kernel, by decide⟩
def iX11_holds : MI := (yX11_holds, cX11_holds, 2, some .boolean, 0, 0)
theorem moX11_holds : MO iX11_holds 2 := ⟨by decide +kernel, mgG 554 (by decide +kernel) rfl, mgG 66 (by decide +kernel) rfl, ⟨by decide +kernel, by decide +kernel⟩, by decide +kernel, by decide⟩
def iX12_bad : MI := (yX12_bad, cX12_bad, 1, some .int, 0, 0)
theorem moX12_bad : MO iX12_bad 0 := ⟨by decide +kernel, mgG 950 (by decide +kernel) rfl, mgG 78 (by decide +kernel) rfl, ⟨by decide +kernel, by decide +kernel⟩, by decide +kernel, by decide⟩
def iX12_ten : MI := (yX12_ten, cX12_ten, 1, some .int, 0, 0)
theorem moX12_ten : MO iX12_ten 0 := ⟨by decide +kernel, mgG 1094 (by decide +kernel) rfl, mgG 78 (by decide +kernel) rfl, ⟨by decide +kernel, by decide +kernel⟩, by decide +kernel, by decide⟩
def iX12_no : MI := (yX12_no, cX12_no, 1, some .int, 0, 0)
theorem moX12_no : MO iX12_no 0 := ⟨by decide +kernel, mgG 958 (by decide +kernel) rfl, mgG 78 (by decide +kernel) rfl, ⟨by decide +kernel, by decide +kernel⟩, by decide +kernel, by decide⟩
def iX12_full : MI := (yX12_full, cX12_full, 1, some .int, 0, 0)
theorem moX12_full : MO iX12_full 0 := ⟨by decide +kernel, mgG 962 (by decide +kernel) rfl, mgG 78 (by decide +kernel) rfl, ⟨by decide +kernel, by decide +kernel⟩, by decide +kernel, by decide⟩
def iX12_in : MI := (yX12_in, cX12_in, 3, some .boolean, 0, 0)
theorem moX12_in : MO iX12_in 3 := ⟨by decide +kernel, mgG 946 (by decide +kernel) rfl, mgG 78 (by decide +kernel) rfl, ⟨by decide +kernel, by decide +kernel⟩, by decide +kernel, by decide⟩
def iX12_manyBad : MI := (yX12_manyBad, cX12_manyBad, 1, some .int, 0, 0)
theorem moX12_manyBad : MO iX12_manyBad 0 := ⟨by decide +kernel, mgG 1102 (by decide +kernel) rfl, mgG 78 (by decide +kernel) rfl, ⟨by decide +kernel, by decide +kernel⟩, by decide +kernel, by decide⟩
def iX12_has : MI := (yX12_has, cX12_has, 2, some .boolean, 0, 0)
theorem moX12_has : MO iX12_has 2 := ⟨by decide +kernel, mgG 1185 (by decide +kernel) rfl, mgG 78 (by decide +kernel) rfl, ⟨by decide +kernel, by decide +kernel⟩, by decide +kernel, by decide⟩
def iX12_init : MI := (yX12_init, cX12_init, 1, none, 19, 843)
theorem moX12_init : MO iX12_init 0 := ⟨by decide +kernel, mgG 830 (by decide +kernel) rfl, mgG 78 (by decide +kernel) rfl, ⟨by decide +kernel, by decide +kernel⟩, by decide +kernel, by decide⟩
def iX12_begin : MI := (yX12_begin, cX12_begin, 1, none, 0, 0)
theorem moX12_begin : MO iX12_begin 0 := ⟨by decide +kernel, mgG 835 (by decide +kernel) rfl, mgG 78 (by decide +kernel) rfl, ⟨by decide +kernel, by decide +kernel⟩, by decide +kernel, by decide⟩
def iX12_isHand : MI := (yX12_isHand, cX12_isHand, 2, some .boolean, 0, 0)
theorem moX12_isHand : MO iX12_isHand 1 := ⟨by decide +kernel, mgG 1048 (by decide +kernel) rfl, mgG 78 (by decide +kernel) rfl, ⟨by decide +kernel, by decide +kernel⟩, by decide +kernel, by decide⟩
def iX12_isRock : MI := (yX12_isRock, cX12_isRock, 4, some .boolean, 0, 0)
theorem moX12_isRock : MO iX12_isRock 1 := ⟨by decide +kernel, mgG 954 (by decide +kernel) rfl, mgG 78 (by decide +kernel) rfl, ⟨by decide +kernel, by decide +kernel⟩, by decide +kernel, by decide⟩
def iX12_ship : MI := (yX12_ship, cX12_ship, 2, some .int, 0, 0)
theorem moX12_ship : MO iX12_ship 0 := ⟨by decide +kernel, mgG 939 (by decide +kernel) rfl, mgG 78 (by decide +kernel) rfl, ⟨by decide +kernel, by decide +kernel⟩, by decide +kernel, by decide⟩
def iX12_addRock : MI := (yX12_addRock, cX12_addRock, 2, some .int, 0, 0)
theorem moX12_addRock : MO iX12_addRock 1 := ⟨by decide +kernel, mgG 966 (by decide +kernel) rfl, mgG 78 (by decide +kernel) rfl, ⟨by decide +kernel, by decide +kernel⟩, by decide +kernel, by decide⟩
def iX12_rock : MI := (yX12_rock, cX12_rock, 2, some .int, 0, 0)
theorem moX12_rock : MO iX12_rock 1 := ⟨by decide +kernel, mgG 943 (by decide +kernel) rfl, mgG 78 (by decide +kernel) rfl, ⟨by decide +kernel, by decide +kernel⟩, by decide +kernel, by decide⟩
def iX12_addHand : MI := (yX12_addHand, cX12_addHand, 4, some .int, 0, 0)
theorem moX12_addHand : MO iX12_addHand 3 := ⟨by decide +kernel, mgG 974 (by decide +kernel) rfl, mgG 78 (by decide +kernel) rfl, ⟨by decide +kernel, by decide +kernel⟩, by decide +kernel, by decide⟩
def iX12_hand : MI := (yX12_hand, cX12_hand, 4, some .int, 0, 0)
theorem moX12_hand : MO iX12_hand 3 := ⟨by decide +kernel, mgG 970 (by decide +kernel) rfl, mgG 78 (by decide +kernel) rfl, ⟨by decide +kernel, by decide +kernel⟩, by decide +kernel, by decide⟩
def iX12_type : MI := (yX12_type, cX12_type, 2, some .int, 0, 0)
theorem moX12_type : MO iX12_type 1 := ⟨by decide +kernel, mgG 978 (by decide +kernel) rfl, mgG 78 (by decide +kernel) rfl, ⟨by decide +kernel, by decide +kernel⟩, by decide +kernel, by decide⟩
def iX12_clear : MI := (yX12_clear, cX12_clear, 2, some .int, 0, 0)
theorem moX12_clear : MO iX12_clear 0 := ⟨by decide +kernel, mgG 982 (by decide +kernel) rfl, mgG 78 (by decide +kernel) rfl, ⟨by decide +kernel, by decide +kernel⟩, by decide +kernel, by decide⟩
def iX12_here : MI := (yX12_here, cX12_here, 1, some .int, 0, 0)
theorem moX12_here : MO iX12_here 0 := ⟨by decide +kernel, mgG 998 (by decide +kernel) rfl, mgG 78 (by decide +kernel) rfl, ⟨by decide +kernel, by decide +kernel⟩, by decide +kernel, by decide⟩
def iX12_skip : MI := (yX12_skip, cX12_skip, 1, none, 0, 0)
theorem moX12_skip : MO iX12_skip 0 := ⟨by decide +kernel, mgG 994 (by decide +kernel) rfl, mgG 78 (by decide +kernel) rfl, ⟨by decide +kernel, by decide +kernel⟩, by decide +kernel, by decide⟩
def iX12_isLetter : MI := (yX12_isLetter, cX12_isLetter, 1, some .boolean, 0, 0)
theorem moX12_isLetter : MO iX12_isLetter 1 := ⟨by decide +kernel, mgG 1013 (by decide +kernel) rfl, mgG 78 (by decide +kernel) rfl, ⟨by decide +kernel, by decide +kernel⟩, by decide +kernel, by decide⟩
def iX12_isFigure : MI := (yX12_isFigure, cX12_isFigure, 1, some .boolean, 0, 0)
theorem moX12_isFigure : MO iX12_isFigure 1 := ⟨by decide +kernel, mgG 1036 (by decide +kernel) rfl, mgG 78 (by decide +kernel) rfl, ⟨by decide +kernel, by decide +kernel⟩, by decide +kernel, by decide⟩
def iX12_wordSize : MI := (yX12_wordSize, cX12_wordSize, 2, some .int, 0, 0)
theorem moX12_wordSize : MO iX12_wordSize 0 := ⟨by decide +kernel, mgG 1010 (by decide +kernel) rfl, mgG 78 (by decide +kernel) rfl, ⟨by decide +kernel, by decide +kernel⟩, by decide +kernel, by decide⟩
def iX12_letter : MI := (yX12_letter, cX12_letter, 2, some .int, 0, 0)
theorem moX12_letter : MO iX12_letter 1 := ⟨by decide +kernel, mgG 1017 (by decide +kernel) rfl, mgG 78 (by decide +kernel) rfl, ⟨by decide +kernel, by decide +kernel⟩, by decide +kernel, by decide⟩
def iX12_spells : MI := (yX12_spells, cX12_spells, 5, some .boolean, 0, 0)
theorem moX12_spells : MO iX12_spells 4 := ⟨by decide +kernel, mgG 1006 (by decide +kernel) rfl, mgG 78 (by decide +kernel) rfl, ⟨by decide +kernel, by decide +kernel⟩, by decide +kernel, by decide⟩
def iX12_wordHere : MI := (yX12_wordHere, cX12_wordHere, 1, some .int, 0, 0)
theorem moX12_wordHere : MO iX12_wordHere 0 := ⟨by decide +kernel, mgG 1002 (by decide +kernel) rfl, mgG 78 (by decide +kernel) rfl, ⟨by decide +kernel, by decide +kernel⟩, by decide +kernel, by decide⟩
def iX12_number : MI := (yX12_number, cX12_number, 5, some .boolean, 0, 0)
theorem moX12_number : MO iX12_number 2 := ⟨by decide +kernel, mgG 1033 (by decide +kernel) rfl, mgG 78 (by decide +kernel) rfl, ⟨by decide +kernel, by decide +kernel⟩, by decide +kernel, by decide⟩
def iX12_ends : MI := (yX12_ends, cX12_ends, 1, some .boolean, 0, 0)
theorem moX12_ends : MO iX12_ends 0 := ⟨by decide +kernel, mgG 1021 (by decide +kernel) rfl, mgG 78 (by decide +kernel) rfl, ⟨by decide +kernel, by decide +kernel⟩, by decide +kernel, by decide⟩
def iX12_readsRock : MI := (yX12_readsRock, cX12_readsRock, 5, some .boolean, 0, 0)
theorem moX12_readsRock : MO iX12_readsRock 1 := ⟨by decide +kernel, mgG 1029 (by decide +kernel) rfl, mgG 78 (by decide +kernel) rfl, ⟨by decide +kernel, by decide +kernel⟩, by decide +kernel, by decide⟩
def iX12_readsHand : MI := (yX12_readsHand, cX12_readsHand, 3, some .boolean, 0, 0)
theorem moX12_readsHand : MO iX12_readsHand 1 := ⟨by decide +kernel, mgG 1040 (by decide +kernel) rfl, mgG 78 (by decide +kernel) rfl, ⟨by decide +kernel, by decide +kernel⟩, by decide +kernel, by decide⟩
def iX12_readsItem : MI := (yX12_readsItem, cX12_readsItem, 4, some .boolean, 0, 0)
theorem moX12_readsItem : MO iX12_readsItem 0 := ⟨by decide +kernel, mgG 1025 (by decide +kernel) rfl, mgG 78 (by decide +kernel) rfl, ⟨by decide +kernel, by decide +kernel⟩, by decide +kernel, by decide⟩
def iX12_readsShip : MI := (yX12_readsShip, cX12_readsShip, 2, some .int, 0, 0)
theorem moX12_readsShip : MO iX12_readsShip 0 := ⟨by decide +kernel, mgG 990 (by decide +kernel) rfl, mgG 78 (by decide +kernel) rfl, ⟨by decide +kernel, by decide +kernel⟩, by decide +kernel, by decide⟩
def iX12_read : MI := (yX12_read, cX12_read, 3, some .int, 0, 0)
theorem moX12_read : MO iX12_read 0 := ⟨by decide +kernel, mgG 986 (by decide +kernel) rfl, mgG 78 (by decide +kernel) rfl, ⟨by decide +kernel, by decide +kernel⟩, by decide +kernel, by decide⟩
def iX12_sleepyBy : MI := (yX12_sleepyBy, cX12_sleepyBy, 5, some .int, 0, 0)
theorem moX12_sleepyBy : MO iX12_sleepyBy 4 := ⟨by decide +kernel, mgG 1075 (by decide +kernel) rfl, mgG 78 (by decide +kernel) rfl, ⟨by decide +kernel, by decide +kernel⟩, by decide +kernel, by decide⟩
def iX12_sleepy : MI := (yX12_sleepy, cX12_sleepy, 2, some .int, 0, 0)
theorem moX12_sleepy : MO iX12_sleepy 1 := ⟨by decide +kernel, mgG 1072 (by decide +kernel) rfl, mgG 78 (by decide +kernel) rfl, ⟨by decide +kernel, by decide +kernel⟩, by decide +kernel, by decide⟩
def iX12_moreBy : MI := (yX12_moreBy, cX12_moreBy, 1, some .int, 0, 0)
theorem moX12_moreBy : MO iX12_moreBy 1 := ⟨by decide +kernel, mgG 1078 (by decide +kernel) rfl, mgG 78 (by decide +kernel) rfl, ⟨by decide +kernel, by decide +kernel⟩, by decide +kernel, by decide⟩
def iX12_steers : MI := (yX12_steers, cX12_steers, 5, some .int, 0, 0)
theorem moX12_steers : MO iX12_steers 0 := ⟨by decide +kernel, mgG 1068 (by decide +kernel) rfl, mgG 78 (by decide +kernel) rfl, ⟨by decide +kernel, by decide +kernel⟩, by decide +kernel, by decide⟩
def iX12_pass : MI := (yX12_pass, cX12_pass, 4, some .int, 0, 0)
theorem moX12_pass : MO iX12_pass 0 := ⟨by decide +kernel, mgG 1064 (by decide +kernel) rfl, mgG 78 (by decide +kernel) rfl, ⟨by decide +kernel, by decide +kernel⟩, by decide +kernel, by decide⟩
def iX12_lays : MI := (yX12_lays, cX12_lays, 4, none, 0, 0)
theorem moX12_lays : MO iX12_lays 2 := ⟨by decide +kernel, mgG 1056 (by decide +kernel) rfl, mgG 78 (by decide +kernel) rfl, ⟨by decide +kernel, by decide +kernel⟩, by decide +kernel, by decide⟩
def iX12_takes : MI := (yX12_takes, cX12_takes, 4, none, 0, 0)
theorem moX12_takes : MO iX12_takes 2 := ⟨by decide +kernel, mgG 1086 (by decide +kernel) rfl, mgG 78 (by decide +kernel) rfl, ⟨by decide +kernel, by decide +kernel⟩, by decide +kernel, by decide⟩
def iX12_notes : MI := (yX12_notes, cX12_notes, 2, none, 0, 0)
theorem moX12_notes : MO iX12_notes 0 := ⟨by decide +kernel, mgG 1052 (by decide +kernel) rfl, mgG 78 (by decide +kernel) rfl, ⟨by decide +kernel, by decide +kernel⟩, by decide +kernel, by decide⟩
def iX12_puts : MI := (yX12_puts, cX12_puts, 1, none, 0, 0)
theorem moX12_puts : MO iX12_puts 0 := ⟨by decide +kernel, mgG 1110 (by decide +kernel) rfl, mgG 78 (by decide +kernel) rfl, ⟨by decide +kernel, by decide +kernel⟩, by decide +kernel, by decide⟩
def iX12_back : MI := (yX12_back, cX12_back, 1, none, 0, 0)
theorem moX12_back : MO iX12_back 0 := ⟨by decide +kernel, mgG 1118 (by decide +kernel) rfl, mgG 78 (by decide +kernel) rfl, ⟨by decide +kernel, by decide +kernel⟩, by decide +kernel, by decide⟩
def iX12_feed : MI := (yX12_feed, cX12_feed, 2, some .int, 0, 0)
theorem moX12_feed : MO iX12_feed 1 := ⟨by decide +kernel, mgG 1044 (by decide +kernel) rfl, mgG 78 (by decide +kernel) rfl, ⟨by decide +kernel, by decide +kernel⟩, by decide +kernel, by decide⟩
def iX12_watch : MI := (yX12_watch, cX12_watch, 1, some .int, 0, 0)
theorem moX12_watch : MO iX12_watch 0 := ⟨by decide +kernel, mgG 1060 (by decide +kernel) rfl, mgG 78 (by decide +kernel) rfl, ⟨by decide +kernel, by decide +kernel⟩, by decide +kernel, by decide⟩
def iX12_undo : MI := (yX12_undo, cX12_undo, 1, some .int, 0, 0)
theorem moX12_undo : MO iX12_undo 0 := ⟨by decide +kernel, mgG 1082 (by decide +kernel) rfl, mgG 78 (by decide +kernel) rfl, ⟨by decide +kernel, by decide +kernel⟩, by decide +kernel, by decide⟩
def iX12_of : MI := (yX12_of, cX12_of, 3, some .int, 0, 0)
theorem moX12_of : MO iX12_of 2 := ⟨by decide +kernel, mgG 1090 (by decide +kernel) rfl, mgG 78 (by decide +kernel) rfl, ⟨by decide +kernel, by decide +kernel⟩, by decide +kernel, by decide⟩
def iX12_now : MI := (yX12_now, cX12_now, 2, some .int, 0, 0)
theorem moX12_now : MO iX12_now 1 := ⟨by decide +kernel, mgG 1098 (by decide +kernel) rfl, mgG 78 (by decide +kernel) rfl, ⟨by decide +kernel, by decide +kernel⟩, by decide +kernel, by decide⟩
def iX12_passes : MI := (yX12_passes, cX12_passes, 3, none, 0, 0)
theorem moX12_passes : MO iX12_passes 1 := ⟨by decide +kernel, mgG 1114 (by decide +kernel) rfl, mgG 78 (by decide +kernel) rfl, ⟨by decide +kernel, by decide +kernel⟩, by decide +kernel, by decide⟩
def iX12_then : MI := (yX12_then, cX12_then, 4, some .int, 0, 0)
theorem moX12_then : MO iX12_then 2 := ⟨by decide +kernel, mgG 1106 (by decide +kernel) rfl, mgG 78 (by decide +kernel) rfl, ⟨by decide +kernel, by decide +kernel⟩, by decide +kernel, by decide⟩
def iX12_strikes : MI := (yX12_strikes, cX12_strikes, 3, some .int, 0, 0)
theorem moX12_strikes : MO iX12_strikes 0 := ⟨by decide +kernel, mgG 1122 (by decide +kernel) rfl, mgG 78 (by decide +kernel) rfl, ⟨by decide +kernel, by decide +kernel⟩, by decide +kernel, by decide⟩
def iX12_fedBy : MI := (yX12_fedBy, cX12_fedBy, 6, some .int, 0, 0)
theorem moX12_fedBy : MO iX12_fedBy 2 := ⟨by decide +kernel, mgG 1130 (by decide +kernel) rfl, mgG 78 (by decide +kernel) rfl, ⟨by decide +kernel, by decide +kernel⟩, by decide +kernel, by decide⟩
def iX12_placeBy : MI := (yX12_placeBy, cX12_placeBy, 3, some .int, 0, 0)
theorem moX12_placeBy : MO iX12_placeBy 1 := ⟨by decide +kernel, mgG 1134 (by decide +kernel) rfl, mgG 78 (by decide +kernel) rfl, ⟨by decide +kernel, by decide +kernel⟩, by decide +kernel, by decide⟩
def iX12_peas : MI := (yX12_peas, cX12_peas, 9, some .int, 0, 0)
theorem moX12_peas : MO iX12_peas 3 := ⟨by decide +kernel, mgG 1126 (by decide +kernel) rfl, mgG 78 (by decide +kernel) rfl, ⟨by decide +kernel, by decide +kernel⟩, by decide +kernel, by decide⟩
def iX12_steersBy : MI := (yX12_steersBy, cX12_steersBy, 5, some .int, 0, 0)
theorem moX12_steersBy : MO iX12_steersBy 1 := ⟨by decide +kernel, mgG 1142 (by decide +kernel) rfl, mgG 78 (by decide +kernel) rfl, ⟨by decide +kernel, by decide +kernel⟩, by decide +kernel, by decide⟩
def iX12_canNot : MI := (yX12_canNot, cX12_canNot, 6, some .int, 0, 0)
theorem moX12_canNot : MO iX12_canNot 1 := ⟨by decide +kernel, mgG 1138 (by decide +kernel) rfl, mgG 78 (by decide +kernel) rfl, ⟨by decide +kernel, by decide +kernel⟩, by decide +kernel, by decide⟩
def iX12_eat : MI := (yX12_eat, cX12_eat, 10, some .int, 0, 0)
theorem moX12_eat : MO iX12_eat 2 := ⟨by decide +kernel, mgG 1146 (by decide +kernel) rfl, mgG 78 (by decide +kernel) rfl, ⟨by decide +kernel, by decide +kernel⟩, by decide +kernel, by decide⟩
def iX12_seen : MI := (yX12_seen, cX12_seen, 3, some .int, 0, 0)
theorem moX12_seen : MO iX12_seen 2 := ⟨by decide +kernel, mgG 1150 (by decide +kernel) rfl, mgG 78 (by decide +kernel) rfl, ⟨by decide +kernel, by decide +kernel⟩, by decide +kernel, by decide⟩
def iX12_forget : MI := (yX12_forget, cX12_forget, 2, some .int, 0, 0)
theorem moX12_forget : MO iX12_forget 0 := ⟨by decide +kernel, mgG 1154 (by decide +kernel) rfl, mgG 78 (by decide +kernel) rfl, ⟨by decide +kernel, by decide +kernel⟩, by decide +kernel, by decide⟩
def iX12_setWay : MI := (yX12_setWay, cX12_setWay, 2, none, 0, 0)
theorem moX12_setWay : MO iX12_setWay 0 := ⟨by decide +kernel, mgG 1166 (by decide +kernel) rfl, mgG 78 (by decide +kernel) rfl, ⟨by decide +kernel, by decide +kernel⟩, by decide +kernel, by decide⟩
def iX12_isSeen : MI := (yX12_isSeen, cX12_isSeen, 6, some .boolean, 0, 0)
theorem moX12_isSeen : MO iX12_isSeen 2 := ⟨by decide +kernel, mgG 1170 (by decide +kernel) rfl, mgG 78 (by decide +kernel) rfl, ⟨by decide +kernel, by decide +kernel⟩, by decide +kernel, by decide⟩
def iX12_nodSet : MI := (yX12_nodSet, cX12_nodSet, 5, some .int, 0, 0)
theorem moX12_nodSet : MO iX12_nodSet 1 := ⟨by decide +kernel, mgG 1162 (by decide +kernel) rfl, mgG 78 (by decide +kernel) rfl, ⟨by decide +kernel, by decide +kernel⟩, by decide +kernel, by decide⟩
def iX12_nod : MI := (yX12_nod, cX12_nod, 2, some .int, 0, 0)
theorem moX12_nod : MO iX12_nod 1 := ⟨by decide +kernel, mgG 1158 (by decide +kernel) rfl, mgG 78 (by decide +kernel) rfl, ⟨by decide +kernel, by decide +kernel⟩, by decide +kernel, by decide⟩
def iX12_is : MI := (yX12_is, cX12_is, 5, some .int, 0, 0)
theorem moX12_is : MO iX12_is 1 := ⟨by decide +kernel, mgG 1174 (by decide +kernel) rfl, mgG 78 (by decide +kernel) rfl, ⟨by decide +kernel, by decide +kernel⟩, by decide +kernel, by decide⟩
def iX12_alike : MI := (yX12_alike, cX12_alike, 7, some .int, 0, 0)
theorem moX12_alike : MO iX12_alike 2 := ⟨by decide +kernel, mgG 1182 (by decide +kernel) rfl, mgG 78 (by decide +kernel) rfl, ⟨by decide +kernel, by decide +kernel⟩, by decide +kernel, by decide⟩
def iX12_look : MI := (yX12_look, cX12_look, 6, some .int, 0, 0)
theorem moX12_look : MO iX12_look 1 := ⟨by decide +kernel, mgG 1178 (by decide +kernel) rfl, mgG 78 (by decide +kernel) rfl, ⟨by decide +kernel, by decide +kernel⟩, by decide +kernel, by decide⟩
def iX12_pulled : MI := (yX12_pulled, cX12_pulled, 4, some .int, 0, 0)
theorem moX12_pulled : MO iX12_pulled 1 := ⟨by decide +kernel, mgG 1189 (by decide +kernel) rfl, mgG 78 (by decide +kernel) rfl, ⟨by decide +kernel, by decide +kernel⟩, by decide +kernel, by decide⟩
def iX12_meet : MI := (yX12_meet, cX12_meet, 9, some .int, 0, 0)
theorem moX12_meet : MO iX12_meet 3 := ⟨by decide +kernel, mgG 1193 (by decide +kernel) rfl, mgG 78 (by decide +kernel) rfl, ⟨by decide +kernel, by decide +kernel⟩, by decide +kernel, by decide⟩
def iX12_lay : MI := (yX12_lay, cX12_lay, 11, none, 0, 0)
theorem moX12_lay : MO iX12_lay 2 := ⟨by decide +kernel, mgG 1202 (by decide +kernel) rfl, mgG 78 (by decide +kernel) rfl, ⟨by decide +kernel, by decide +kernel⟩, by decide +kernel, by decide⟩
def iX12_odds : MI := (yX12_odds, cX12_odds, 11, some .int, 0, 0)
theorem moX12_odds : MO iX12_odds 2 := ⟨by decide +kernel, mgG 1197 (by decide +kernel) rfl, mgG 78 (by decide +kernel) rfl, ⟨by decide +kernel, by decide +kernel⟩, by decide +kernel, by decide⟩
def iX12_voyages : MI := (yX12_voyages, cX12_voyages, 8, some .int, 0, 0)
theorem moX12_voyages : MO iX12_voyages 2 := ⟨by decide +kernel, mgG 1206 (by decide +kernel) rfl, mgG 78 (by decide +kernel) rfl, ⟨by decide +kernel, by decide +kernel⟩, by decide +kernel, by decide⟩
def iX12_part : MI := (yX12_part, cX12_part, 2, some .long, 0, 0)
theorem moX12_part : MO iX12_part 1 := ⟨by decide +kernel, mgG 1216 (by decide +kernel) rfl, mgG 78 (by decide +kernel) rfl, ⟨by decide +kernel, by decide +kernel⟩, by decide +kernel, by decide⟩
def iX12_image : MI := (yX12_image, cX12_image, 4, some .int, 0, 0)
theorem moX12_image : MO iX12_image 1 := ⟨by decide +kernel, mgG 1220 (by decide +kernel) rfl, mgG 78 (by decide +kernel) rfl, ⟨by decide +kernel, by decide +kernel⟩, by decide +kernel, by decide⟩

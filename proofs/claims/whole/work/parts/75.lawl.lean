/-! ===== the law: its script, its links ===== -/
section PWS
variable {G : GE} {I : MI} {d : Nat} {Post : Option Value → Mm → Prop} {pc : Nat} {ls st : List Value} {M : Mm} {nc ns : Nat}
theorem sx_size {G : GE} {s : State} (h : EnvOk G s) : (g_x G).1 < s.heap.size := by
  obtain ⟨scr, hc, -⟩ := h.2.2.2.2.2.1
  exact (Array.getElem?_eq_some_iff.mp hc).1
theorem PW_slen (hd : decode I.2.1 pc = .ok (.arraylength, 1)) (kk : PW G I d Post (pc + 1) ls (.int (nI (g_x G).2.1) :: st) M nc ns) : PW G I d Post pc ls (.ref (g_x G).1 :: st) M nc ns := by
  intro p l e s m args below meth c C H locs la hS hV hl
  have hE := C.2.2.2.2.2.2.2.2
  exact va_slen C.1 C.2.1 hE.2.2.2.2.2.1 (sx_size hE) (Nat.not_le.mpr hE.2.2.2.2.2.2) hV hd (kk p l e s m args below meth c C H locs la hS hV hl)
theorem PW_sld {i : Int32} {j : Nat} (hd : decode I.2.1 pc = .ok (.iaload, 1)) (hi : i = nI j) (hj : j < (g_x G).2.1) (hL : (g_x G).2.1 ≤ 256) (kk : PW G I d Post (pc + 1) ls (.int ((g_x G).2.2 j) :: st) M nc ns) : PW G I d Post pc ls (.int i :: .ref (g_x G).1 :: st) M nc ns := by
  intro p l e s m args below meth c C H locs la hS hV hl
  have hE := C.2.2.2.2.2.2.2.2
  subst hi
  refine va_sld C.1 C.2.1 hE.2.2.2.2.2.1 (sx_size hE) (Nat.not_le.mpr hE.2.2.2.2.2.2) hV (vin hj (by omega)) hd ?_
  rw [cln (by omega)]
  exact kk p l e s m args below meth c C H locs la hS hV hl
end PWS
/-- the law as a method of ours; its name's middle is left open -/
def iLw (nm : String) : MI := (⟨RL, nm, "([I)Z"⟩, cL_law, 4, some .boolean, 600000, 7302250)
theorem n4a (j k : Nat) {y : Int32} (hy : y = nI k) : nI (4 * j) + y = nI (4 * j + k) := by rw [hy, nI_add]
theorem nrL_7 : NR RL 7 11 13 := ⟨RX11, TX11, tyX11, cok11, mgG 86 (by decide +kernel) rfl, mgG 87 (by decide +kernel) rfl, mgG 66 (by decide +kernel) rfl⟩
theorem ctL_9 : CIn RL 9 iX11_init := ⟨rfl, rfl, mgG 89 (by decide +kernel) rfl, Or.inl (mgG 88 (by decide +kernel) rfl)⟩
theorem cvL_13 : CVi RL 13 iX11_ship 11 := ⟨_, rfl, by decide, mgG 351 (by decide +kernel) rfl, mgG 352 (by decide +kernel) rfl, mgG 353 (by decide +kernel) rfl⟩
theorem cvL_18 : CVi RL 18 iX11_rock 11 := ⟨_, rfl, by decide, mgG 363 (by decide +kernel) rfl, mgG 364 (by decide +kernel) rfl, mgG 365 (by decide +kernel) rfl⟩
theorem cvL_23 : CVi RL 23 iX11_hand 11 := ⟨_, rfl, by decide, mgG 393 (by decide +kernel) rfl, mgG 394 (by decide +kernel) rfl, mgG 395 (by decide +kernel) rfl⟩
theorem cvL_28 : CVi RL 28 iX11_type 11 := ⟨_, rfl, by decide, mgG 404 (by decide +kernel) rfl, mgG 405 (by decide +kernel) rfl, mgG 406 (by decide +kernel) rfl⟩
theorem cvL_32 : CVi RL 32 iX11_clear 11 := ⟨_, rfl, by decide, mgG 412 (by decide +kernel) rfl, mgG 413 (by decide +kernel) rfl, mgG 414 (by decide +kernel) rfl⟩
theorem cvL_36 : CVi RL 36 iX11_read 11 := ⟨_, rfl, by decide, mgG 416 (by decide +kernel) rfl, mgG 417 (by decide +kernel) rfl, mgG 418 (by decide +kernel) rfl⟩
theorem cvL_40 : CVi RL 40 iX11_feed 11 := ⟨_, rfl, by decide, mgG 544 (by decide +kernel) rfl, mgG 545 (by decide +kernel) rfl, mgG 546 (by decide +kernel) rfl⟩
theorem cvL_44 : CVi RL 44 iX11_watch 11 := ⟨_, rfl, by decide, mgG 559 (by decide +kernel) rfl, mgG 560 (by decide +kernel) rfl, mgG 561 (by decide +kernel) rfl⟩
theorem cvL_48 : CVi RL 48 iX11_undo 11 := ⟨_, rfl, by decide, mgG 623 (by decide +kernel) rfl, mgG 624 (by decide +kernel) rfl, mgG 625 (by decide +kernel) rfl⟩
theorem cvL_52 : CVi RL 52 iX11_of 11 := ⟨_, rfl, by decide, mgG 631 (by decide +kernel) rfl, mgG 632 (by decide +kernel) rfl, mgG 633 (by decide +kernel) rfl⟩
theorem cvL_57 : CVi RL 57 iX11_now 11 := ⟨_, rfl, by decide, mgG 636 (by decide +kernel) rfl, mgG 637 (by decide +kernel) rfl, mgG 638 (by decide +kernel) rfl⟩
theorem cvL_61 : CVi RL 61 iX11_then 11 := ⟨_, rfl, by decide, mgG 640 (by decide +kernel) rfl, mgG 641 (by decide +kernel) rfl, mgG 642 (by decide +kernel) rfl⟩
theorem cvL_65 : CVi RL 65 iX11_strikes 11 := ⟨_, rfl, by decide, mgG 651 (by decide +kernel) rfl, mgG 652 (by decide +kernel) rfl, mgG 653 (by decide +kernel) rfl⟩
theorem cvL_69 : CVi RL 69 iX11_peas 11 := ⟨_, rfl, by decide, mgG 655 (by decide +kernel) rfl, mgG 656 (by decide +kernel) rfl, mgG 657 (by decide +kernel) rfl⟩
theorem cvL_73 : CVi RL 73 iX11_canNot 11 := ⟨_, rfl, by decide, mgG 679 (by decide +kernel) rfl, mgG 680 (by decide +kernel) rfl, mgG 681 (by decide +kernel) rfl⟩
theorem cvL_77 : CVi RL 77 iX11_eat 11 := ⟨_, rfl, by decide, mgG 691 (by decide +kernel) rfl, mgG 692 (by decide +kernel) rfl, mgG 693 (by decide +kernel) rfl⟩
theorem cvL_81 : CVi RL 81 iX11_seen 11 := ⟨_, rfl, by decide, mgG 704 (by decide +kernel) rfl, mgG 705 (by decide +kernel) rfl, mgG 706 (by decide +kernel) rfl⟩
theorem cvL_85 : CVi RL 85 iX11_forget 11 := ⟨_, rfl, by decide, mgG 712 (by decide +kernel) rfl, mgG 713 (by decide +kernel) rfl, mgG 714 (by decide +kernel) rfl⟩
theorem cvL_89 : CVi RL 89 iX11_nod 11 := ⟨_, rfl, by decide, mgG 716 (by decide +kernel) rfl, mgG 717 (by decide +kernel) rfl, mgG 718 (by decide +kernel) rfl⟩
theorem cvL_93 : CVi RL 93 iX11_is 11 := ⟨_, rfl, by decide, mgG 732 (by decide +kernel) rfl, mgG 733 (by decide +kernel) rfl, mgG 734 (by decide +kernel) rfl⟩
theorem cvL_97 : CVi RL 97 iX11_look 11 := ⟨_, rfl, by decide, mgG 740 (by decide +kernel) rfl, mgG 741 (by decide +kernel) rfl, mgG 742 (by decide +kernel) rfl⟩
theorem cvL_101 : CVi RL 101 iX11_pulled 11 := ⟨_, rfl, by decide, mgG 750 (by decide +kernel) rfl, mgG 751 (by decide +kernel) rfl, mgG 752 (by decide +kernel) rfl⟩
theorem cvL_105 : CVi RL 105 iX11_meet 11 := ⟨_, rfl, by decide, mgG 754 (by decide +kernel) rfl, mgG 755 (by decide +kernel) rfl, mgG 756 (by decide +kernel) rfl⟩
theorem cvL_109 : CVi RL 109 iX11_odds 11 := ⟨_, rfl, by decide, mgG 761 (by decide +kernel) rfl, mgG 762 (by decide +kernel) rfl, mgG 763 (by decide +kernel) rfl⟩
theorem cvL_113 : CVi RL 113 iX11_voyages 11 := ⟨_, rfl, by decide, mgG 780 (by decide +kernel) rfl, mgG 781 (by decide +kernel) rfl, mgG 782 (by decide +kernel) rfl⟩
theorem cvL_117 : CVi RL 117 iX11_part 11 := ⟨_, rfl, by decide, mgG 790 (by decide +kernel) rfl, mgG 791 (by decide +kernel) rfl, mgG 792 (by decide +kernel) rfl⟩
theorem cvL_122 : CVi RL 122 iX11_image 11 := ⟨_, rfl, by decide, mgG 794 (by decide +kernel) rfl, mgG 795 (by decide +kernel) rfl, mgG 796 (by decide +kernel) rfl⟩
theorem cvL_126 : CVi RL 126 iX11_from 11 := ⟨_, rfl, by decide, mgG 798 (by decide +kernel) rfl, mgG 799 (by decide +kernel) rfl, mgG 800 (by decide +kernel) rfl⟩
theorem cvL_130 : CVi RL 130 iX11_status 11 := ⟨_, rfl, by decide, mgG 802 (by decide +kernel) rfl, mgG 803 (by decide +kernel) rfl, mgG 804 (by decide +kernel) rfl⟩
theorem cvL_134 : CVi RL 134 iX11_count 11 := ⟨_, rfl, by decide, mgG 806 (by decide +kernel) rfl, mgG 807 (by decide +kernel) rfl, mgG 808 (by decide +kernel) rfl⟩
theorem cvL_138 : CVi RL 138 iX11_digest 11 := ⟨_, rfl, by decide, mgG 814 (by decide +kernel) rfl, mgG 815 (by decide +kernel) rfl, mgG 816 (by decide +kernel) rfl⟩
theorem nrL_10 : NR RL 10 12 33 := ⟨RX12, TX12, tyX12, cok12, mgG 826 (by decide +kernel) rfl, mgG 827 (by decide +kernel) rfl, mgG 78 (by decide +kernel) rfl⟩
theorem ctL_12 : CIn RL 12 iX12_init := ⟨rfl, rfl, mgG 829 (by decide +kernel) rfl, Or.inl (mgG 828 (by decide +kernel) rfl)⟩
theorem cvL_17 : CVi RL 17 iX12_ship 12 := ⟨_, rfl, by decide, mgG 936 (by decide +kernel) rfl, mgG 937 (by decide +kernel) rfl, mgG 938 (by decide +kernel) rfl⟩
theorem cvL_22 : CVi RL 22 iX12_rock 12 := ⟨_, rfl, by decide, mgG 940 (by decide +kernel) rfl, mgG 941 (by decide +kernel) rfl, mgG 942 (by decide +kernel) rfl⟩
theorem cvL_27 : CVi RL 27 iX12_hand 12 := ⟨_, rfl, by decide, mgG 967 (by decide +kernel) rfl, mgG 968 (by decide +kernel) rfl, mgG 969 (by decide +kernel) rfl⟩
theorem cvL_31 : CVi RL 31 iX12_type 12 := ⟨_, rfl, by decide, mgG 975 (by decide +kernel) rfl, mgG 976 (by decide +kernel) rfl, mgG 977 (by decide +kernel) rfl⟩
theorem cvL_35 : CVi RL 35 iX12_clear 12 := ⟨_, rfl, by decide, mgG 979 (by decide +kernel) rfl, mgG 980 (by decide +kernel) rfl, mgG 981 (by decide +kernel) rfl⟩
theorem cvL_39 : CVi RL 39 iX12_read 12 := ⟨_, rfl, by decide, mgG 983 (by decide +kernel) rfl, mgG 984 (by decide +kernel) rfl, mgG 985 (by decide +kernel) rfl⟩
theorem cvL_43 : CVi RL 43 iX12_feed 12 := ⟨_, rfl, by decide, mgG 1041 (by decide +kernel) rfl, mgG 1042 (by decide +kernel) rfl, mgG 1043 (by decide +kernel) rfl⟩
theorem cvL_47 : CVi RL 47 iX12_watch 12 := ⟨_, rfl, by decide, mgG 1057 (by decide +kernel) rfl, mgG 1058 (by decide +kernel) rfl, mgG 1059 (by decide +kernel) rfl⟩
theorem cvL_51 : CVi RL 51 iX12_undo 12 := ⟨_, rfl, by decide, mgG 1079 (by decide +kernel) rfl, mgG 1080 (by decide +kernel) rfl, mgG 1081 (by decide +kernel) rfl⟩
theorem cvL_56 : CVi RL 56 iX12_of 12 := ⟨_, rfl, by decide, mgG 1087 (by decide +kernel) rfl, mgG 1088 (by decide +kernel) rfl, mgG 1089 (by decide +kernel) rfl⟩
theorem cvL_60 : CVi RL 60 iX12_now 12 := ⟨_, rfl, by decide, mgG 1095 (by decide +kernel) rfl, mgG 1096 (by decide +kernel) rfl, mgG 1097 (by decide +kernel) rfl⟩
theorem cvL_64 : CVi RL 64 iX12_then 12 := ⟨_, rfl, by decide, mgG 1103 (by decide +kernel) rfl, mgG 1104 (by decide +kernel) rfl, mgG 1105 (by decide +kernel) rfl⟩
theorem cvL_68 : CVi RL 68 iX12_strikes 12 := ⟨_, rfl, by decide, mgG 1119 (by decide +kernel) rfl, mgG 1120 (by decide +kernel) rfl, mgG 1121 (by decide +kernel) rfl⟩
theorem cvL_72 : CVi RL 72 iX12_peas 12 := ⟨_, rfl, by decide, mgG 1123 (by decide +kernel) rfl, mgG 1124 (by decide +kernel) rfl, mgG 1125 (by decide +kernel) rfl⟩
theorem cvL_76 : CVi RL 76 iX12_canNot 12 := ⟨_, rfl, by decide, mgG 1135 (by decide +kernel) rfl, mgG 1136 (by decide +kernel) rfl, mgG 1137 (by decide +kernel) rfl⟩
theorem cvL_80 : CVi RL 80 iX12_eat 12 := ⟨_, rfl, by decide, mgG 1143 (by decide +kernel) rfl, mgG 1144 (by decide +kernel) rfl, mgG 1145 (by decide +kernel) rfl⟩
theorem cvL_84 : CVi RL 84 iX12_seen 12 := ⟨_, rfl, by decide, mgG 1147 (by decide +kernel) rfl, mgG 1148 (by decide +kernel) rfl, mgG 1149 (by decide +kernel) rfl⟩
theorem cvL_88 : CVi RL 88 iX12_forget 12 := ⟨_, rfl, by decide, mgG 1151 (by decide +kernel) rfl, mgG 1152 (by decide +kernel) rfl, mgG 1153 (by decide +kernel) rfl⟩
theorem cvL_92 : CVi RL 92 iX12_nod 12 := ⟨_, rfl, by decide, mgG 1155 (by decide +kernel) rfl, mgG 1156 (by decide +kernel) rfl, mgG 1157 (by decide +kernel) rfl⟩
theorem cvL_96 : CVi RL 96 iX12_is 12 := ⟨_, rfl, by decide, mgG 1171 (by decide +kernel) rfl, mgG 1172 (by decide +kernel) rfl, mgG 1173 (by decide +kernel) rfl⟩
theorem cvL_100 : CVi RL 100 iX12_look 12 := ⟨_, rfl, by decide, mgG 1175 (by decide +kernel) rfl, mgG 1176 (by decide +kernel) rfl, mgG 1177 (by decide +kernel) rfl⟩
theorem cvL_104 : CVi RL 104 iX12_pulled 12 := ⟨_, rfl, by decide, mgG 1186 (by decide +kernel) rfl, mgG 1187 (by decide +kernel) rfl, mgG 1188 (by decide +kernel) rfl⟩
theorem cvL_108 : CVi RL 108 iX12_meet 12 := ⟨_, rfl, by decide, mgG 1190 (by decide +kernel) rfl, mgG 1191 (by decide +kernel) rfl, mgG 1192 (by decide +kernel) rfl⟩
theorem cvL_112 : CVi RL 112 iX12_odds 12 := ⟨_, rfl, by decide, mgG 1194 (by decide +kernel) rfl, mgG 1195 (by decide +kernel) rfl, mgG 1196 (by decide +kernel) rfl⟩
theorem cvL_116 : CVi RL 116 iX12_voyages 12 := ⟨_, rfl, by decide, mgG 1203 (by decide +kernel) rfl, mgG 1204 (by decide +kernel) rfl, mgG 1205 (by decide +kernel) rfl⟩
theorem cvL_121 : CVi RL 121 iX12_part 12 := ⟨_, rfl, by decide, mgG 1213 (by decide +kernel) rfl, mgG 1214 (by decide +kernel) rfl, mgG 1215 (by decide +kernel) rfl⟩
theorem cvL_125 : CVi RL 125 iX12_image 12 := ⟨_, rfl, by decide, mgG 1217 (by decide +kernel) rfl, mgG 1218 (by decide +kernel) rfl, mgG 1219 (by decide +kernel) rfl⟩
theorem cvL_129 : CVi RL 129 iX12_from 12 := ⟨_, rfl, by decide, mgG 1221 (by decide +kernel) rfl, mgG 1222 (by decide +kernel) rfl, mgG 1223 (by decide +kernel) rfl⟩
theorem cvL_133 : CVi RL 133 iX12_status 12 := ⟨_, rfl, by decide, mgG 1225 (by decide +kernel) rfl, mgG 1226 (by decide +kernel) rfl, mgG 1227 (by decide +kernel) rfl⟩
theorem cvL_137 : CVi RL 137 iX12_count 12 := ⟨_, rfl, by decide, mgG 1229 (by decide +kernel) rfl, mgG 1230 (by decide +kernel) rfl, mgG 1231 (by decide +kernel) rfl⟩
theorem cvL_142 : CVi RL 142 iX12_digest 12 := ⟨_, rfl, by decide, mgG 1237 (by decide +kernel) rfl, mgG 1238 (by decide +kernel) rfl, mgG 1239 (by decide +kernel) rfl⟩

theorem am_tyOK : ∀ ci, ci < 13 → ∀ k, k < am_sz ci → parseFieldDescriptor (am_tb ci k).2.2.1 = some (am_ty ci k) := by
  intro ci h
  rcases ci with _ | _ | _ | _ | _ | _ | _ | _ | _ | _ | _ | _ | _ | n
  · exact tyX0_ok
  · exact tyX1_ok
  · exact tyX2_ok
  · exact tyX3_ok
  · exact tyX4_ok
  · exact tyX5_ok
  · exact tyX6_ok
  · exact tyX7_ok
  · exact tyX8_ok
  · exact tyX9_ok
  · exact tyX10_ok
  · exact tyX11_ok
  · exact tyX12_ok
  · omega
theorem am_nmOK : ∀ ci, ci < 13 → ∀ a, a < am_sz ci → ∀ b, b < am_sz ci → a ≠ b → (am_tb ci a).2.1 ≠ (am_tb ci b).2.1 := by
  intro ci h
  rcases ci with _ | _ | _ | _ | _ | _ | _ | _ | _ | _ | _ | _ | _ | n
  · exact nmX0
  · exact nmX1
  · exact nmX2
  · exact nmX3
  · exact nmX4
  · exact nmX5
  · exact nmX6
  · exact nmX7
  · exact nmX8
  · exact nmX9
  · exact nmX10
  · exact nmX11
  · exact nmX12
  · omega
theorem am_clOK : ∀ ci, ci < 13 → vwCl[ci]? = some (am_on ci, am_tb ci, am_sz ci) := by
  intro ci h
  rcases ci with _ | _ | _ | _ | _ | _ | _ | _ | _ | _ | _ | _ | _ | n <;> first | rfl | omega
def am_lyI : List (List Nat) := [[1231, 1233, 1235, 1237], [2010, 2012, 2014], [1202, 1204, 1206, 1208, 1210, 1212, 1214, 1216], [1115, 1117, 1119, 1121, 1123, 1125, 1127, 1129, 1131, 1133, 1135, 1137, 1139, 1141], [2141, 2143, 2145, 2147], [1168, 1170, 1172, 1174, 1176, 1178, 1180, 1182, 1184], [6000, 6002, 6004, 6006, 6008, 6010, 6012, 6014, 6016, 6018, 6020, 6022, 6024], [2101, 2103, 2105, 2107, 2109, 2111, 2113, 2115, 2117, 2119, 2121, 2123, 2125, 2127], [2043, 2045, 2047, 2049, 2051, 2053, 2055, 2057, 2059, 2061, 2063, 2065, 2067, 2069], [2176, 2178, 2180, 2182, 2184, 2186, 2188, 2190, 2192], [1056, 1058, 1060, 1062, 1064], [2203, 2205, 2207, 2209, 2211, 2213, 2215, 2217], [7000, 7002, 7004, 7006, 7008, 7010, 7012, 7014, 7016, 7018, 7020, 7022, 7024, 7026, 7028, 7030, 7032, 7034, 7036, 7038, 7040, 7042, 7044, 7046, 7048, 7050, 7052, 7054, 7056, 7058, 7060, 7062, 7064, 7066, 7068, 7070, 7072, 7074, 7076, 7078, 7080, 7082, 7084, 7086, 7088, 7090, 7092, 7094, 7096, 7098, 7100, 7102, 7104, 7106, 7108, 7110, 7112, 7114, 7116, 7118, 7120, 7122, 7124, 7126, 7128, 7130, 7132, 7134, 7136, 7138, 7140, 7142, 7144, 7146, 7148, 7150, 7152, 7154]]
set_option maxRecDepth 100000 in
theorem am_lyC0 : ∀ k, k < am_sz 0 → am_at1 ((am_lyI.getD 0 []).getD k 0) (u_lay (am_on 0) (am_tb 0) k) = true := by decide +kernel
set_option maxRecDepth 100000 in
theorem am_lyC1 : ∀ k, k < am_sz 1 → am_at1 ((am_lyI.getD 1 []).getD k 0) (u_lay (am_on 1) (am_tb 1) k) = true := by decide +kernel
set_option maxRecDepth 100000 in
theorem am_lyC2 : ∀ k, k < am_sz 2 → am_at1 ((am_lyI.getD 2 []).getD k 0) (u_lay (am_on 2) (am_tb 2) k) = true := by decide +kernel
set_option maxRecDepth 100000 in
theorem am_lyC3 : ∀ k, k < am_sz 3 → am_at1 ((am_lyI.getD 3 []).getD k 0) (u_lay (am_on 3) (am_tb 3) k) = true := by decide +kernel
set_option maxRecDepth 100000 in
theorem am_lyC4 : ∀ k, k < am_sz 4 → am_at1 ((am_lyI.getD 4 []).getD k 0) (u_lay (am_on 4) (am_tb 4) k) = true := by decide +kernel
set_option maxRecDepth 100000 in
theorem am_lyC5 : ∀ k, k < am_sz 5 → am_at1 ((am_lyI.getD 5 []).getD k 0) (u_lay (am_on 5) (am_tb 5) k) = true := by decide +kernel
set_option maxRecDepth 100000 in
theorem am_lyC6 : ∀ k, k < am_sz 6 → am_at1 ((am_lyI.getD 6 []).getD k 0) (u_lay (am_on 6) (am_tb 6) k) = true := by decide +kernel
set_option maxRecDepth 100000 in
theorem am_lyC7 : ∀ k, k < am_sz 7 → am_at1 ((am_lyI.getD 7 []).getD k 0) (u_lay (am_on 7) (am_tb 7) k) = true := by decide +kernel
set_option maxRecDepth 100000 in
theorem am_lyC8 : ∀ k, k < am_sz 8 → am_at1 ((am_lyI.getD 8 []).getD k 0) (u_lay (am_on 8) (am_tb 8) k) = true := by decide +kernel
set_option maxRecDepth 100000 in
theorem am_lyC9 : ∀ k, k < am_sz 9 → am_at1 ((am_lyI.getD 9 []).getD k 0) (u_lay (am_on 9) (am_tb 9) k) = true := by decide +kernel
set_option maxRecDepth 100000 in
theorem am_lyC10 : ∀ k, k < am_sz 10 → am_at1 ((am_lyI.getD 10 []).getD k 0) (u_lay (am_on 10) (am_tb 10) k) = true := by decide +kernel
set_option maxRecDepth 100000 in
theorem am_lyC11 : ∀ k, k < am_sz 11 → am_at1 ((am_lyI.getD 11 []).getD k 0) (u_lay (am_on 11) (am_tb 11) k) = true := by decide +kernel
set_option maxRecDepth 100000 in
theorem am_lyC12 : ∀ k, k < am_sz 12 → am_at1 ((am_lyI.getD 12 []).getD k 0) (u_lay (am_on 12) (am_tb 12) k) = true := by decide +kernel
theorem am_lyC : ∀ ci, ci < 13 → ∀ k, k < am_sz ci → am_at1 ((am_lyI.getD ci []).getD k 0) (u_lay (am_on ci) (am_tb ci) k) = true := by
  intro ci h
  rcases ci with _ | _ | _ | _ | _ | _ | _ | _ | _ | _ | _ | _ | _ | n
  · exact am_lyC0
  · exact am_lyC1
  · exact am_lyC2
  · exact am_lyC3
  · exact am_lyC4
  · exact am_lyC5
  · exact am_lyC6
  · exact am_lyC7
  · exact am_lyC8
  · exact am_lyC9
  · exact am_lyC10
  · exact am_lyC11
  · exact am_lyC12
  · omega
theorem am_lyOK {ci : Nat} (h : ci < 13) : ∀ w ∈ u_ws (am_on ci) (am_tb ci) (am_sz ci), w ∈ am_W := by
  intro w hw
  obtain ⟨k, hk, rfl⟩ := List.mem_map.mp hw
  exact am_at1_in (am_lyC ci h k (List.mem_range.mp hk))

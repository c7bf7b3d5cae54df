/-! PART 07: class records; words of the tables by their places; names of the callees -/
theorem clX0 : mh_CL 0 RX0 TX0 10 tyX0 := ⟨rfl, tyX0_ok, nmX0, by decide +kernel⟩
theorem dfX0 : ∀ j, j < 10 → defaultValue (tyX0 j) = vp_V [.null, .null, .null, .int 0, .int 0, .int 0, .int 0, .int 0, .int 0, .int 0] j := by decide
theorem clX1 : mh_CL 1 RX1 TX1 5 tyX1 := ⟨rfl, tyX1_ok, nmX1, by decide +kernel⟩
theorem dfX1 : ∀ j, j < 5 → defaultValue (tyX1 j) = vp_V [.null, .null, .null, .null, .int 0] j := by decide
theorem clX2 : mh_CL 2 RX2 TX2 3 tyX2 := ⟨rfl, tyX2_ok, nmX2, by decide +kernel⟩
theorem dfX2 : ∀ j, j < 3 → defaultValue (tyX2 j) = vp_V [.null, .null, .int 0] j := by decide
theorem clX3 : mh_CL 3 RX3 TX3 4 tyX3 := ⟨rfl, tyX3_ok, nmX3, by decide +kernel⟩
theorem dfX3 : ∀ j, j < 4 → defaultValue (tyX3 j) = vp_V [.null, .null, .null, .null] j := by decide
theorem clX4 : mh_CL 4 RX4 TX4 3 tyX4 := ⟨rfl, tyX4_ok, nmX4, by decide +kernel⟩
theorem dfX4 : ∀ j, j < 3 → defaultValue (tyX4 j) = vp_V [.null, .int 0, .int 0] j := by decide
theorem clX5 : mh_CL 5 RX5 TX5 4 tyX5 := ⟨rfl, tyX5_ok, nmX5, by decide +kernel⟩
theorem dfX5 : ∀ j, j < 4 → defaultValue (tyX5 j) = vp_V [.null, .null, .int 0, .int 0] j := by decide
theorem clX6 : mh_CL 6 RX6 TX6 6 tyX6 := ⟨rfl, tyX6_ok, nmX6, by decide +kernel⟩
theorem dfX6 : ∀ j, j < 6 → defaultValue (tyX6 j) = vp_V [.int 0, .int 0, .int 0, .int 0, .int 0, .int 0] j := by decide
theorem clX7 : mh_CL 7 RX7 TX7 12 tyX7 := ⟨rfl, tyX7_ok, nmX7, by decide +kernel⟩
theorem dfX7 : ∀ j, j < 12 → defaultValue (tyX7 j) = vp_V [.null, .null, .int 0, .int 0, .int 0, .int 0, .int 0, .int 0, .int 0, .int 0, .int 0, .int 0] j := by decide
theorem clX8 : mh_CL 8 RX8 TX8 5 tyX8 := ⟨rfl, tyX8_ok, nmX8, by decide +kernel⟩
theorem dfX8 : ∀ j, j < 5 → defaultValue (tyX8 j) = vp_V [.int 0, .int 0, .null, .null, .int 0] j := by decide
theorem clX9 : mh_CL 9 RX9 TX9 11 tyX9 := ⟨rfl, tyX9_ok, nmX9, by decide +kernel⟩
theorem dfX9 : ∀ j, j < 11 → defaultValue (tyX9 j) = vp_V [.null, .null, .null, .null, .null, .null, .null, .null, .null, .int 0, .int 0] j := by decide
theorem clX10 : mh_CL 10 RX10 TX10 34 tyX10 := ⟨rfl, tyX10_ok, nmX10, by decide +kernel⟩
theorem dfX10 : ∀ j, j < 34 → defaultValue (tyX10 j) = vp_V [.null, .null, .null, .int 0, .null, .null, .null, .int 0, .int 0, .int 0, .int 0, .int 0, .int 0, .int 0, .null, .null, .null, .int 0, .int 0, .null, .int 0, .null, .null, .null, .null, .null, .null, .null, .null, .null, .null, .null, .null, .int 0] j := by decide

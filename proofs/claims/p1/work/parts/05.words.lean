theorem inG_X0 : ∀ w ∈ u_ws RX0 TX0 3, w ∈ kGW := List.forall_mem_cons.mpr ⟨kin1 (i := 192) rfl rfl, List.forall_mem_cons.mpr ⟨kin1 (i := 194) rfl rfl, List.forall_mem_cons.mpr ⟨kin1 (i := 196) rfl rfl, fun _ h => absurd h List.not_mem_nil⟩⟩⟩
theorem dfX0 : ∀ j, j < 3 → defaultValue (tyX0 j) = vp_V [.null, .int 0, .int 0] j := fun j hj => match j, hj with
  | 0, _ => rfl
  | 1, _ => rfl
  | 2, _ => rfl
  | q + 3, h => absurd h (by omega)
theorem inG_X1 : ∀ w ∈ u_ws RX1 TX1 1, w ∈ kGW := List.forall_mem_cons.mpr ⟨kin1 (i := 98) rfl rfl, fun _ h => absurd h List.not_mem_nil⟩
theorem dfX1 : ∀ j, j < 1 → defaultValue (tyX1 j) = vp_V [.null] j := fun j hj => match j, hj with
  | 0, _ => rfl
  | q + 1, h => absurd h (by omega)
theorem inG_X2 : ∀ w ∈ u_ws RX2 TX2 5, w ∈ kGW := List.forall_mem_cons.mpr ⟨kin2 (i := 15) rfl rfl, List.forall_mem_cons.mpr ⟨kin2 (i := 17) rfl rfl, List.forall_mem_cons.mpr ⟨kin2 (i := 19) rfl rfl, List.forall_mem_cons.mpr ⟨kin2 (i := 21) rfl rfl, List.forall_mem_cons.mpr ⟨kin2 (i := 23) rfl rfl, fun _ h => absurd h List.not_mem_nil⟩⟩⟩⟩⟩
theorem dfX2 : ∀ j, j < 5 → defaultValue (tyX2 j) = vp_V [.int 0, .int 0, .int 0, .null, .null] j := fun j hj => match j, hj with
  | 0, _ => rfl
  | 1, _ => rfl
  | 2, _ => rfl
  | 3, _ => rfl
  | 4, _ => rfl
  | q + 5, h => absurd h (by omega)
theorem inG_X3 : ∀ w ∈ u_ws RX3 TX3 1, w ∈ kGW := List.forall_mem_cons.mpr ⟨kin1 (i := 103) rfl rfl, fun _ h => absurd h List.not_mem_nil⟩
theorem dfX3 : ∀ j, j < 1 → defaultValue (tyX3 j) = vp_V [.null] j := fun j hj => match j, hj with
  | 0, _ => rfl
  | q + 1, h => absurd h (by omega)
theorem inG_X4 : ∀ w ∈ u_ws RX4 TX4 6, w ∈ kGW := List.forall_mem_cons.mpr ⟨kin1 (i := 166) rfl rfl, List.forall_mem_cons.mpr ⟨kin1 (i := 168) rfl rfl, List.forall_mem_cons.mpr ⟨kin1 (i := 170) rfl rfl, List.forall_mem_cons.mpr ⟨kin1 (i := 172) rfl rfl, List.forall_mem_cons.mpr ⟨kin1 (i := 174) rfl rfl, List.forall_mem_cons.mpr ⟨kin1 (i := 176) rfl rfl, fun _ h => absurd h List.not_mem_nil⟩⟩⟩⟩⟩⟩
theorem dfX4 : ∀ j, j < 6 → defaultValue (tyX4 j) = vp_V [.null, .null, .null, .int 0, .int 0, .int 0] j := fun j hj => match j, hj with
  | 0, _ => rfl
  | 1, _ => rfl
  | 2, _ => rfl
  | 3, _ => rfl
  | 4, _ => rfl
  | 5, _ => rfl
  | q + 6, h => absurd h (by omega)
theorem inG_X5 : ∀ w ∈ u_ws RX5 TX5 4, w ∈ kGW := List.forall_mem_cons.mpr ⟨kin1 (i := 143) rfl rfl, List.forall_mem_cons.mpr ⟨kin1 (i := 145) rfl rfl, List.forall_mem_cons.mpr ⟨kin1 (i := 147) rfl rfl, List.forall_mem_cons.mpr ⟨kin1 (i := 149) rfl rfl, fun _ h => absurd h List.not_mem_nil⟩⟩⟩⟩
theorem dfX5 : ∀ j, j < 4 → defaultValue (tyX5 j) = vp_V [.null, .null, .null, .int 0] j := fun j hj => match j, hj with
  | 0, _ => rfl
  | 1, _ => rfl
  | 2, _ => rfl
  | 3, _ => rfl
  | q + 4, h => absurd h (by omega)
theorem inG_X6 : ∀ w ∈ u_ws RX6 TX6 8, w ∈ kGW := List.forall_mem_cons.mpr ⟨kin1 (i := 223) rfl rfl, List.forall_mem_cons.mpr ⟨kin1 (i := 225) rfl rfl, List.forall_mem_cons.mpr ⟨kin1 (i := 227) rfl rfl, List.forall_mem_cons.mpr ⟨kin1 (i := 229) rfl rfl, List.forall_mem_cons.mpr ⟨kin1 (i := 231) rfl rfl, List.forall_mem_cons.mpr ⟨kin1 (i := 233) rfl rfl, List.forall_mem_cons.mpr ⟨kin1 (i := 235) rfl rfl, List.forall_mem_cons.mpr ⟨kin1 (i := 237) rfl rfl, fun _ h => absurd h List.not_mem_nil⟩⟩⟩⟩⟩⟩⟩⟩
theorem dfX6 : ∀ j, j < 8 → defaultValue (tyX6 j) = vp_V [.null, .null, .null, .int 0, .int 0, .null, .null, .null] j := fun j hj => match j, hj with
  | 0, _ => rfl
  | 1, _ => rfl
  | 2, _ => rfl
  | 3, _ => rfl
  | 4, _ => rfl
  | 5, _ => rfl
  | 6, _ => rfl
  | 7, _ => rfl
  | q + 8, h => absurd h (by omega)
theorem inG_X7 : ∀ w ∈ u_ws RX7 TX7 2, w ∈ kGW := List.forall_mem_cons.mpr ⟨kin3 (i := 94) rfl rfl, List.forall_mem_cons.mpr ⟨kin3 (i := 96) rfl rfl, fun _ h => absurd h List.not_mem_nil⟩⟩
theorem dfX7 : ∀ j, j < 2 → defaultValue (tyX7 j) = vp_V [.null, .int 0] j := fun j hj => match j, hj with
  | 0, _ => rfl
  | 1, _ => rfl
  | q + 2, h => absurd h (by omega)
theorem inG_X8 : ∀ w ∈ u_ws RX8 TX8 3, w ∈ kGW := List.forall_mem_cons.mpr ⟨kin1 (i := 115) rfl rfl, List.forall_mem_cons.mpr ⟨kin1 (i := 117) rfl rfl, List.forall_mem_cons.mpr ⟨kin1 (i := 119) rfl rfl, fun _ h => absurd h List.not_mem_nil⟩⟩⟩
theorem dfX8 : ∀ j, j < 3 → defaultValue (tyX8 j) = vp_V [.null, .int 0, .int 0] j := fun j hj => match j, hj with
  | 0, _ => rfl
  | 1, _ => rfl
  | 2, _ => rfl
  | q + 3, h => absurd h (by omega)
theorem inG_X9 : ∀ w ∈ u_ws RX9 TX9 3, w ∈ kGW := List.forall_mem_cons.mpr ⟨kin2 (i := 38) rfl rfl, List.forall_mem_cons.mpr ⟨kin2 (i := 40) rfl rfl, List.forall_mem_cons.mpr ⟨kin2 (i := 42) rfl rfl, fun _ h => absurd h List.not_mem_nil⟩⟩⟩
theorem dfX9 : ∀ j, j < 3 → defaultValue (tyX9 j) = vp_V [.int 0, .int 0, .null] j := fun j hj => match j, hj with
  | 0, _ => rfl
  | 1, _ => rfl
  | 2, _ => rfl
  | q + 3, h => absurd h (by omega)
theorem inG_X10 : ∀ w ∈ u_ws RX10 TX10 11, w ∈ kGW := List.forall_mem_cons.mpr ⟨kin1 (i := 55) rfl rfl, List.forall_mem_cons.mpr ⟨kin1 (i := 57) rfl rfl, List.forall_mem_cons.mpr ⟨kin1 (i := 59) rfl rfl, List.forall_mem_cons.mpr ⟨kin1 (i := 61) rfl rfl, List.forall_mem_cons.mpr ⟨kin1 (i := 63) rfl rfl, List.forall_mem_cons.mpr ⟨kin1 (i := 65) rfl rfl, List.forall_mem_cons.mpr ⟨kin1 (i := 67) rfl rfl, List.forall_mem_cons.mpr ⟨kin1 (i := 69) rfl rfl, List.forall_mem_cons.mpr ⟨kin1 (i := 71) rfl rfl, List.forall_mem_cons.mpr ⟨kin1 (i := 73) rfl rfl, List.forall_mem_cons.mpr ⟨kin1 (i := 75) rfl rfl, fun _ h => absurd h List.not_mem_nil⟩⟩⟩⟩⟩⟩⟩⟩⟩⟩⟩
theorem dfX10 : ∀ j, j < 11 → defaultValue (tyX10 j) = vp_V [.null, .int 0, .null, .null, .null, .int 0, .int 0, .int 0, .int 0, .int 0, .int 0] j := fun j hj => match j, hj with
  | 0, _ => rfl
  | 1, _ => rfl
  | 2, _ => rfl
  | 3, _ => rfl
  | 4, _ => rfl
  | 5, _ => rfl
  | 6, _ => rfl
  | 7, _ => rfl
  | 8, _ => rfl
  | 9, _ => rfl
  | 10, _ => rfl
  | q + 11, h => absurd h (by omega)
theorem inG_X11 : ∀ w ∈ u_ws RX11 TX11 11, w ∈ kGW := List.forall_mem_cons.mpr ⟨kin2 (i := 56) rfl rfl, List.forall_mem_cons.mpr ⟨kin2 (i := 58) rfl rfl, List.forall_mem_cons.mpr ⟨kin2 (i := 60) rfl rfl, List.forall_mem_cons.mpr ⟨kin2 (i := 62) rfl rfl, List.forall_mem_cons.mpr ⟨kin2 (i := 64) rfl rfl, List.forall_mem_cons.mpr ⟨kin2 (i := 66) rfl rfl, List.forall_mem_cons.mpr ⟨kin2 (i := 68) rfl rfl, List.forall_mem_cons.mpr ⟨kin2 (i := 70) rfl rfl, List.forall_mem_cons.mpr ⟨kin2 (i := 72) rfl rfl, List.forall_mem_cons.mpr ⟨kin2 (i := 74) rfl rfl, List.forall_mem_cons.mpr ⟨kin2 (i := 76) rfl rfl, fun _ h => absurd h List.not_mem_nil⟩⟩⟩⟩⟩⟩⟩⟩⟩⟩⟩
theorem dfX11 : ∀ j, j < 11 → defaultValue (tyX11 j) = vp_V [.null, .null, .null, .null, .int 0, .null, .null, .null, .null, .null, .null] j := fun j hj => match j, hj with
  | 0, _ => rfl
  | 1, _ => rfl
  | 2, _ => rfl
  | 3, _ => rfl
  | 4, _ => rfl
  | 5, _ => rfl
  | 6, _ => rfl
  | 7, _ => rfl
  | 8, _ => rfl
  | 9, _ => rfl
  | 10, _ => rfl
  | q + 11, h => absurd h (by omega)
theorem inG_X12 : ∀ w ∈ u_ws RX12 TX12 39, w ∈ kGW := List.forall_mem_cons.mpr ⟨kin5 (i := 7) rfl rfl, List.forall_mem_cons.mpr ⟨kin5 (i := 9) rfl rfl, List.forall_mem_cons.mpr ⟨kin5 (i := 11) rfl rfl, List.forall_mem_cons.mpr ⟨kin5 (i := 13) rfl rfl, List.forall_mem_cons.mpr ⟨kin5 (i := 15) rfl rfl, List.forall_mem_cons.mpr ⟨kin5 (i := 17) rfl rfl, List.forall_mem_cons.mpr ⟨kin5 (i := 19) rfl rfl, List.forall_mem_cons.mpr ⟨kin5 (i := 21) rfl rfl, List.forall_mem_cons.mpr ⟨kin5 (i := 23) rfl rfl, List.forall_mem_cons.mpr ⟨kin5 (i := 25) rfl rfl, List.forall_mem_cons.mpr ⟨kin5 (i := 27) rfl rfl, List.forall_mem_cons.mpr ⟨kin5 (i := 29) rfl rfl, List.forall_mem_cons.mpr ⟨kin5 (i := 31) rfl rfl, List.forall_mem_cons.mpr ⟨kin5 (i := 33) rfl rfl, List.forall_mem_cons.mpr ⟨kin5 (i := 35) rfl rfl, List.forall_mem_cons.mpr ⟨kin5 (i := 37) rfl rfl, List.forall_mem_cons.mpr ⟨kin5 (i := 39) rfl rfl, List.forall_mem_cons.mpr ⟨kin5 (i := 41) rfl rfl, List.forall_mem_cons.mpr ⟨kin5 (i := 43) rfl rfl, List.forall_mem_cons.mpr ⟨kin5 (i := 45) rfl rfl, List.forall_mem_cons.mpr ⟨kin5 (i := 47) rfl rfl, List.forall_mem_cons.mpr ⟨kin5 (i := 49) rfl rfl, List.forall_mem_cons.mpr ⟨kin5 (i := 51) rfl rfl, List.forall_mem_cons.mpr ⟨kin5 (i := 53) rfl rfl, List.forall_mem_cons.mpr ⟨kin5 (i := 55) rfl rfl, List.forall_mem_cons.mpr ⟨kin5 (i := 57) rfl rfl, List.forall_mem_cons.mpr ⟨kin5 (i := 59) rfl rfl, List.forall_mem_cons.mpr ⟨kin5 (i := 61) rfl rfl, List.forall_mem_cons.mpr ⟨kin5 (i := 63) rfl rfl, List.forall_mem_cons.mpr ⟨kin5 (i := 65) rfl rfl, List.forall_mem_cons.mpr ⟨kin5 (i := 67) rfl rfl, List.forall_mem_cons.mpr ⟨kin5 (i := 69) rfl rfl, List.forall_mem_cons.mpr ⟨kin5 (i := 71) rfl rfl, List.forall_mem_cons.mpr ⟨kin5 (i := 73) rfl rfl, List.forall_mem_cons.mpr ⟨kin5 (i := 75) rfl rfl, List.forall_mem_cons.mpr ⟨kin5 (i := 77) rfl rfl, List.forall_mem_cons.mpr ⟨kin5 (i := 79) rfl rfl, List.forall_mem_cons.mpr ⟨kin5 (i := 81) rfl rfl, List.forall_mem_cons.mpr ⟨kin5 (i := 83) rfl rfl, fun _ h => absurd h List.not_mem_nil⟩⟩⟩⟩⟩⟩⟩⟩⟩⟩⟩⟩⟩⟩⟩⟩⟩⟩⟩⟩⟩⟩⟩⟩⟩⟩⟩⟩⟩⟩⟩⟩⟩⟩⟩⟩⟩⟩⟩
theorem dfX12 : ∀ j, j < 39 → defaultValue (tyX12 j) = vp_V [.null, .int 0, .int 0, .null, .null, .null, .null, .null, .int 0, .int 0, .int 0, .int 0, .int 0, .int 0, .int 0, .null, .int 0, .null, .int 0, .null, .null, .int 0, .int 0, .int 0, .null, .null, .null, .int 0, .null, .null, .null, .null, .null, .null, .long 0, .null, .null, .null, .null] j := fun j hj => match j, hj with
  | 0, _ => rfl
  | 1, _ => rfl
  | 2, _ => rfl
  | 3, _ => rfl
  | 4, _ => rfl
  | 5, _ => rfl
  | 6, _ => rfl
  | 7, _ => rfl
  | 8, _ => rfl
  | 9, _ => rfl
  | 10, _ => rfl
  | 11, _ => rfl
  | 12, _ => rfl
  | 13, _ => rfl
  | 14, _ => rfl
  | 15, _ => rfl
  | 16, _ => rfl
  | 17, _ => rfl
  | 18, _ => rfl
  | 19, _ => rfl
  | 20, _ => rfl
  | 21, _ => rfl
  | 22, _ => rfl
  | 23, _ => rfl
  | 24, _ => rfl
  | 25, _ => rfl
  | 26, _ => rfl
  | 27, _ => rfl
  | 28, _ => rfl
  | 29, _ => rfl
  | 30, _ => rfl
  | 31, _ => rfl
  | 32, _ => rfl
  | 33, _ => rfl
  | 34, _ => rfl
  | 35, _ => rfl
  | 36, _ => rfl
  | 37, _ => rfl
  | 38, _ => rfl
  | q + 39, h => absurd h (by omega)

/-! ===== constructors: blanks, words, rooms ===== -/
abbrev bl_0 : List Value := [.long 0, .long 0]
theorem bl_0_ok : ∀ j, j < 2 → defaultValue (tyX0 j) = vp_V bl_0 j := by
  intro j hj
  match j, hj with
  | 0, _ => rfl
  | 1, _ => rfl
  | k + 2, h => exact absurd h (by omega)
theorem ins_0 : Cond.instantiable RX0 2 ∈ aw_ws := aw_mem 286 (by decide +kernel) (by decide +kernel)
theorem ini_0 : Cond.initialized RX0 ∈ aw_ws := aw_mem 69 (by decide +kernel) (by decide +kernel)
abbrev bl_1 : List Value := [.null, .null, .int 0, .int 0, .int 0, .int 0, .int 0]
theorem bl_1_ok : ∀ j, j < 7 → defaultValue (tyX1 j) = vp_V bl_1 j := by
  intro j hj
  match j, hj with
  | 0, _ => rfl
  | 1, _ => rfl
  | 2, _ => rfl
  | 3, _ => rfl
  | 4, _ => rfl
  | 5, _ => rfl
  | 6, _ => rfl
  | k + 7, h => exact absurd h (by omega)
theorem ins_1 : Cond.instantiable RX1 7 ∈ aw_ws := aw_mem 321 (by decide +kernel) (by decide +kernel)
theorem ini_1 : Cond.initialized RX1 ∈ aw_ws := aw_mem 71 (by decide +kernel) (by decide +kernel)
abbrev bl_2 : List Value := [.null, .int 0, .null, .int 0]
theorem bl_2_ok : ∀ j, j < 4 → defaultValue (tyX2 j) = vp_V bl_2 j := by
  intro j hj
  match j, hj with
  | 0, _ => rfl
  | 1, _ => rfl
  | 2, _ => rfl
  | 3, _ => rfl
  | k + 4, h => exact absurd h (by omega)
theorem ins_2 : Cond.instantiable RX2 4 ∈ aw_ws := aw_mem 300 (by decide +kernel) (by decide +kernel)
theorem ini_2 : Cond.initialized RX2 ∈ aw_ws := aw_mem 70 (by decide +kernel) (by decide +kernel)
abbrev bl_3 : List Value := [.int 0, .int 0, .int 0, .null, .null, .null, .null, .int 0, .int 0, .int 0, .int 0, .int 0, .int 0, .int 0, .int 0]
theorem bl_3_ok : ∀ j, j < 15 → defaultValue (tyX3 j) = vp_V bl_3 j := by
  intro j hj
  match j, hj with
  | 0, _ => rfl
  | 1, _ => rfl
  | 2, _ => rfl
  | 3, _ => rfl
  | 4, _ => rfl
  | 5, _ => rfl
  | 6, _ => rfl
  | 7, _ => rfl
  | 8, _ => rfl
  | 9, _ => rfl
  | 10, _ => rfl
  | 11, _ => rfl
  | 12, _ => rfl
  | 13, _ => rfl
  | 14, _ => rfl
  | k + 15, h => exact absurd h (by omega)
theorem ins_3 : Cond.instantiable RX3 15 ∈ aw_ws := aw_mem 107 (by decide +kernel) (by decide +kernel)
theorem ini_3 : Cond.initialized RX3 ∈ aw_ws := aw_mem 66 (by decide +kernel) (by decide +kernel)
abbrev bl_4 : List Value := [.null, .null, .null, .int 0, .int 0, .int 0, .int 0]
theorem bl_4_ok : ∀ j, j < 7 → defaultValue (tyX4 j) = vp_V bl_4 j := by
  intro j hj
  match j, hj with
  | 0, _ => rfl
  | 1, _ => rfl
  | 2, _ => rfl
  | 3, _ => rfl
  | 4, _ => rfl
  | 5, _ => rfl
  | 6, _ => rfl
  | k + 7, h => exact absurd h (by omega)
theorem ins_4 : Cond.instantiable RX4 7 ∈ aw_ws := aw_mem 378 (by decide +kernel) (by decide +kernel)
theorem ini_4 : Cond.initialized RX4 ∈ aw_ws := aw_mem 73 (by decide +kernel) (by decide +kernel)
abbrev bl_5 : List Value := [.null, .int 0, .int 0]
theorem bl_5_ok : ∀ j, j < 3 → defaultValue (tyX5 j) = vp_V bl_5 j := by
  intro j hj
  match j, hj with
  | 0, _ => rfl
  | 1, _ => rfl
  | 2, _ => rfl
  | k + 3, h => exact absurd h (by omega)
theorem ins_5 : Cond.instantiable RX5 3 ∈ aw_ws := aw_mem 89 (by decide +kernel) (by decide +kernel)
theorem ini_5 : Cond.initialized RX5 ∈ aw_ws := aw_mem 65 (by decide +kernel) (by decide +kernel)
abbrev bl_6 : List Value := [.int 0, .int 0, .int 0, .int 0, .int 0]
theorem bl_6_ok : ∀ j, j < 5 → defaultValue (tyX6 j) = vp_V bl_6 j := by
  intro j hj
  match j, hj with
  | 0, _ => rfl
  | 1, _ => rfl
  | 2, _ => rfl
  | 3, _ => rfl
  | 4, _ => rfl
  | k + 5, h => exact absurd h (by omega)
theorem ins_6 : Cond.instantiable RX6 5 ∈ aw_ws := aw_mem 204 (by decide +kernel) (by decide +kernel)
theorem ini_6 : Cond.initialized RX6 ∈ aw_ws := aw_mem 68 (by decide +kernel) (by decide +kernel)
abbrev bl_7 : List Value := [.null, .null, .null, .int 0, .int 0]
theorem bl_7_ok : ∀ j, j < 5 → defaultValue (tyX7 j) = vp_V bl_7 j := by
  intro j hj
  match j, hj with
  | 0, _ => rfl
  | 1, _ => rfl
  | 2, _ => rfl
  | 3, _ => rfl
  | 4, _ => rfl
  | k + 5, h => exact absurd h (by omega)
theorem ins_7 : Cond.instantiable RX7 5 ∈ aw_ws := aw_mem 354 (by decide +kernel) (by decide +kernel)
theorem ini_7 : Cond.initialized RX7 ∈ aw_ws := aw_mem 72 (by decide +kernel) (by decide +kernel)
abbrev bl_8 : List Value := [.null, .null, .null, .null]
theorem bl_8_ok : ∀ j, j < 4 → defaultValue (tyX8 j) = vp_V bl_8 j := by
  intro j hj
  match j, hj with
  | 0, _ => rfl
  | 1, _ => rfl
  | 2, _ => rfl
  | 3, _ => rfl
  | k + 4, h => exact absurd h (by omega)
theorem ins_8 : Cond.instantiable RX8 4 ∈ aw_ws := aw_mem 410 (by decide +kernel) (by decide +kernel)
theorem ini_8 : Cond.initialized RX8 ∈ aw_ws := aw_mem 74 (by decide +kernel) (by decide +kernel)
abbrev bl_9 : List Value := [.null, .int 0, .null, .null, .int 0, .int 0, .int 0, .int 0]
theorem bl_9_ok : ∀ j, j < 8 → defaultValue (tyX9 j) = vp_V bl_9 j := by
  intro j hj
  match j, hj with
  | 0, _ => rfl
  | 1, _ => rfl
  | 2, _ => rfl
  | 3, _ => rfl
  | 4, _ => rfl
  | 5, _ => rfl
  | 6, _ => rfl
  | 7, _ => rfl
  | k + 8, h => exact absurd h (by omega)
theorem ins_9 : Cond.instantiable RX9 8 ∈ aw_ws := aw_mem 194 (by decide +kernel) (by decide +kernel)
theorem ini_9 : Cond.initialized RX9 ∈ aw_ws := aw_mem 67 (by decide +kernel) (by decide +kernel)
abbrev bl_10 : List Value := [.null, .null, .null, .null, .null, .null, .null, .null, .null, .null]
theorem bl_10_ok : ∀ j, j < 10 → defaultValue (tyX10 j) = vp_V bl_10 j := by
  intro j hj
  match j, hj with
  | 0, _ => rfl
  | 1, _ => rfl
  | 2, _ => rfl
  | 3, _ => rfl
  | 4, _ => rfl
  | 5, _ => rfl
  | 6, _ => rfl
  | 7, _ => rfl
  | 8, _ => rfl
  | 9, _ => rfl
  | k + 10, h => exact absurd h (by omega)
theorem ins_10 : Cond.instantiable RX10 10 ∈ aw_ws := aw_mem 81 (by decide +kernel) (by decide +kernel)
theorem ini_10 : Cond.initialized RX10 ∈ aw_ws := aw_mem 64 (by decide +kernel) (by decide +kernel)
abbrev bl_11 : List Value := [.null, .int 0, .int 0, .int 0, .int 0, .int 0, .null, .null, .null, .null, .null, .null, .null, .null, .null, .null, .null, .null, .int 0, .int 0, .int 0, .null, .null, .null, .null, .null, .int 0, .int 0, .int 0, .int 0, .int 0, .null, .int 0, .int 0, .int 0, .int 0, .null, .null, .null, .null, .int 0, .int 0]
theorem bl_11_ok : ∀ j, j < 42 → defaultValue (tyX11 j) = vp_V bl_11 j := by
  intro j hj
  match j, hj with
  | 0, _ => rfl
  | 1, _ => rfl
  | 2, _ => rfl
  | 3, _ => rfl
  | 4, _ => rfl
  | 5, _ => rfl
  | 6, _ => rfl
  | 7, _ => rfl
  | 8, _ => rfl
  | 9, _ => rfl
  | 10, _ => rfl
  | 11, _ => rfl
  | 12, _ => rfl
  | 13, _ => rfl
  | 14, _ => rfl
  | 15, _ => rfl
  | 16, _ => rfl
  | 17, _ => rfl
  | 18, _ => rfl
  | 19, _ => rfl
  | 20, _ => rfl
  | 21, _ => rfl
  | 22, _ => rfl
  | 23, _ => rfl
  | 24, _ => rfl
  | 25, _ => rfl
  | 26, _ => rfl
  | 27, _ => rfl
  | 28, _ => rfl
  | 29, _ => rfl
  | 30, _ => rfl
  | 31, _ => rfl
  | 32, _ => rfl
  | 33, _ => rfl
  | 34, _ => rfl
  | 35, _ => rfl
  | 36, _ => rfl
  | 37, _ => rfl
  | 38, _ => rfl
  | 39, _ => rfl
  | 40, _ => rfl
  | 41, _ => rfl
  | k + 42, h => exact absurd h (by omega)
theorem ins_11 : Cond.instantiable RX11 42 ∈ aw_ws := aw_mem 967 (by decide +kernel) (by decide +kernel)
theorem ini_11 : Cond.initialized RX11 ∈ aw_ws := aw_mem 75 (by decide +kernel) (by decide +kernel)
theorem cl_X10_7 : Cond.classLink RX10 7 RX5 ∈ aw_ws := aw_mem 88 (by decide +kernel) (by decide +kernel)
theorem cl_X10_16 : Cond.classLink RX10 16 RX3 ∈ aw_ws := aw_mem 106 (by decide +kernel) (by decide +kernel)
theorem cl_X10_23 : Cond.classLink RX10 23 RX9 ∈ aw_ws := aw_mem 193 (by decide +kernel) (by decide +kernel)
theorem cl_X9_9 : Cond.classLink RX9 9 RX3 ∈ aw_ws := aw_mem 199 (by decide +kernel) (by decide +kernel)
theorem cl_X9_22 : Cond.classLink RX9 22 RX6 ∈ aw_ws := aw_mem 202 (by decide +kernel) (by decide +kernel)
theorem cl_X10_38 : Cond.classLink RX10 38 RX0 ∈ aw_ws := aw_mem 285 (by decide +kernel) (by decide +kernel)
theorem cl_X10_41 : Cond.classLink RX10 41 RX2 ∈ aw_ws := aw_mem 299 (by decide +kernel) (by decide +kernel)
theorem cl_X10_50 : Cond.classLink RX10 50 RX1 ∈ aw_ws := aw_mem 320 (by decide +kernel) (by decide +kernel)
theorem cl_X10_59 : Cond.classLink RX10 59 RX7 ∈ aw_ws := aw_mem 353 (by decide +kernel) (by decide +kernel)
theorem cl_X10_68 : Cond.classLink RX10 68 RX4 ∈ aw_ws := aw_mem 377 (by decide +kernel) (by decide +kernel)
theorem cl_X10_75 : Cond.classLink RX10 75 RX8 ∈ aw_ws := aw_mem 409 (by decide +kernel) (by decide +kernel)
theorem cl_X8_23 : Cond.classLink RX8 23 RX6 ∈ aw_ws := aw_mem 415 (by decide +kernel) (by decide +kernel)
theorem ov_Law : Cond.arrayOver (.object RX3) ∈ lw_tbl := List.mem_of_getElem? (i := 200) (by decide +kernel)
theorem ov_Piece : Cond.arrayOver (.object RX6) ∈ lw_tbl := List.mem_of_getElem? (i := 203) (by decide +kernel)
theorem ov_World : Cond.arrayOver (.object RX9) ∈ lw_tbl := List.mem_of_getElem? (i := 284) (by decide +kernel)
theorem fk {own C0 : String} {idx ci k N0 : Nat} {T0 : u_T} (hc0 : vwCl[ci]? = some (C0, T0, N0)) (hm : Cond.fieldLink own idx (T0 k).1 (T0 k).2.1 (T0 k).2.2.1 ∈ aw_ws) (ho : C0 = own) : ∀ (C : String) (T : u_T) (NN : Nat), vwCl[ci]? = some (C, T, NN) → Cond.fieldLink own idx (T k).1 (T k).2.1 (T k).2.2.1 ∈ aw_ws ∧ C = own := by
  intro C T NN hc
  cases hc0.symm.trans hc
  exact ⟨hm, ho⟩
theorem fk_X1_9 : ∀ (C : String) (T : u_T) (NN : Nat), vwCl[1]? = some (C, T, NN) → Cond.fieldLink RX1 9 (T 0).1 (T 0).2.1 (T 0).2.2.1 ∈ aw_ws ∧ C = RX1 := fk (T0 := TX1) (N0 := 7) rfl (aw_mem 326 (by decide +kernel) (by decide +kernel)) rfl
theorem fk_X1_15 : ∀ (C : String) (T : u_T) (NN : Nat), vwCl[1]? = some (C, T, NN) → Cond.fieldLink RX1 15 (T 1).1 (T 1).2.1 (T 1).2.2.1 ∈ aw_ws ∧ C = RX1 := fk (T0 := TX1) (N0 := 7) rfl (aw_mem 327 (by decide +kernel) (by decide +kernel)) rfl
theorem fk_X2_9 : ∀ (C : String) (T : u_T) (NN : Nat), vwCl[2]? = some (C, T, NN) → Cond.fieldLink RX2 9 (T 0).1 (T 0).2.1 (T 0).2.2.1 ∈ aw_ws ∧ C = RX2 := fk (T0 := TX2) (N0 := 4) rfl (aw_mem 305 (by decide +kernel) (by decide +kernel)) rfl
theorem fk_X2_15 : ∀ (C : String) (T : u_T) (NN : Nat), vwCl[2]? = some (C, T, NN) → Cond.fieldLink RX2 15 (T 2).1 (T 2).2.1 (T 2).2.2.1 ∈ aw_ws ∧ C = RX2 := fk (T0 := TX2) (N0 := 4) rfl (aw_mem 307 (by decide +kernel) (by decide +kernel)) rfl
theorem fk_X3_9 : ∀ (C : String) (T : u_T) (NN : Nat), vwCl[3]? = some (C, T, NN) → Cond.fieldLink RX3 9 (T 3).1 (T 3).2.1 (T 3).2.2.1 ∈ aw_ws ∧ C = RX3 := fk (T0 := TX3) (N0 := 15) rfl (aw_mem 121 (by decide +kernel) (by decide +kernel)) rfl
theorem fk_X3_15 : ∀ (C : String) (T : u_T) (NN : Nat), vwCl[3]? = some (C, T, NN) → Cond.fieldLink RX3 15 (T 4).1 (T 4).2.1 (T 4).2.2.1 ∈ aw_ws ∧ C = RX3 := fk (T0 := TX3) (N0 := 15) rfl (aw_mem 123 (by decide +kernel) (by decide +kernel)) rfl
theorem fk_X3_18 : ∀ (C : String) (T : u_T) (NN : Nat), vwCl[3]? = some (C, T, NN) → Cond.fieldLink RX3 18 (T 5).1 (T 5).2.1 (T 5).2.2.1 ∈ aw_ws ∧ C = RX3 := fk (T0 := TX3) (N0 := 15) rfl (aw_mem 125 (by decide +kernel) (by decide +kernel)) rfl
theorem fk_X3_21 : ∀ (C : String) (T : u_T) (NN : Nat), vwCl[3]? = some (C, T, NN) → Cond.fieldLink RX3 21 (T 6).1 (T 6).2.1 (T 6).2.2.1 ∈ aw_ws ∧ C = RX3 := fk (T0 := TX3) (N0 := 15) rfl (aw_mem 126 (by decide +kernel) (by decide +kernel)) rfl
theorem fk_X4_9 : ∀ (C : String) (T : u_T) (NN : Nat), vwCl[4]? = some (C, T, NN) → Cond.fieldLink RX4 9 (T 0).1 (T 0).2.1 (T 0).2.2.1 ∈ aw_ws ∧ C = RX4 := fk (T0 := TX4) (N0 := 7) rfl (aw_mem 383 (by decide +kernel) (by decide +kernel)) rfl
theorem fk_X4_15 : ∀ (C : String) (T : u_T) (NN : Nat), vwCl[4]? = some (C, T, NN) → Cond.fieldLink RX4 15 (T 1).1 (T 1).2.1 (T 1).2.2.1 ∈ aw_ws ∧ C = RX4 := fk (T0 := TX4) (N0 := 7) rfl (aw_mem 384 (by decide +kernel) (by decide +kernel)) rfl
theorem fk_X4_19 : ∀ (C : String) (T : u_T) (NN : Nat), vwCl[4]? = some (C, T, NN) → Cond.fieldLink RX4 19 (T 2).1 (T 2).2.1 (T 2).2.2.1 ∈ aw_ws ∧ C = RX4 := fk (T0 := TX4) (N0 := 7) rfl (aw_mem 385 (by decide +kernel) (by decide +kernel)) rfl
theorem fk_X5_9 : ∀ (C : String) (T : u_T) (NN : Nat), vwCl[5]? = some (C, T, NN) → Cond.fieldLink RX5 9 (T 0).1 (T 0).2.1 (T 0).2.2.1 ∈ aw_ws ∧ C = RX5 := fk (T0 := TX5) (N0 := 3) rfl (aw_mem 94 (by decide +kernel) (by decide +kernel)) rfl
theorem fk_X7_9 : ∀ (C : String) (T : u_T) (NN : Nat), vwCl[7]? = some (C, T, NN) → Cond.fieldLink RX7 9 (T 0).1 (T 0).2.1 (T 0).2.2.1 ∈ aw_ws ∧ C = RX7 := fk (T0 := TX7) (N0 := 5) rfl (aw_mem 359 (by decide +kernel) (by decide +kernel)) rfl
theorem fk_X7_15 : ∀ (C : String) (T : u_T) (NN : Nat), vwCl[7]? = some (C, T, NN) → Cond.fieldLink RX7 15 (T 1).1 (T 1).2.1 (T 1).2.2.1 ∈ aw_ws ∧ C = RX7 := fk (T0 := TX7) (N0 := 5) rfl (aw_mem 360 (by decide +kernel) (by decide +kernel)) rfl
theorem fk_X7_19 : ∀ (C : String) (T : u_T) (NN : Nat), vwCl[7]? = some (C, T, NN) → Cond.fieldLink RX7 19 (T 2).1 (T 2).2.1 (T 2).2.2.1 ∈ aw_ws ∧ C = RX7 := fk (T0 := TX7) (N0 := 5) rfl (aw_mem 361 (by decide +kernel) (by decide +kernel)) rfl
theorem fk_X8_9 : ∀ (C : String) (T : u_T) (NN : Nat), vwCl[8]? = some (C, T, NN) → Cond.fieldLink RX8 9 (T 0).1 (T 0).2.1 (T 0).2.2.1 ∈ aw_ws ∧ C = RX8 := fk (T0 := TX8) (N0 := 4) rfl (aw_mem 417 (by decide +kernel) (by decide +kernel)) rfl
theorem fk_X8_15 : ∀ (C : String) (T : u_T) (NN : Nat), vwCl[8]? = some (C, T, NN) → Cond.fieldLink RX8 15 (T 1).1 (T 1).2.1 (T 1).2.2.1 ∈ aw_ws ∧ C = RX8 := fk (T0 := TX8) (N0 := 4) rfl (aw_mem 418 (by decide +kernel) (by decide +kernel)) rfl
theorem fk_X8_19 : ∀ (C : String) (T : u_T) (NN : Nat), vwCl[8]? = some (C, T, NN) → Cond.fieldLink RX8 19 (T 2).1 (T 2).2.1 (T 2).2.2.1 ∈ aw_ws ∧ C = RX8 := fk (T0 := TX8) (N0 := 4) rfl (aw_mem 419 (by decide +kernel) (by decide +kernel)) rfl
theorem fk_X8_26 : ∀ (C : String) (T : u_T) (NN : Nat), vwCl[8]? = some (C, T, NN) → Cond.fieldLink RX8 26 (T 3).1 (T 3).2.1 (T 3).2.2.1 ∈ aw_ws ∧ C = RX8 := fk (T0 := TX8) (N0 := 4) rfl (aw_mem 420 (by decide +kernel) (by decide +kernel)) rfl
theorem fk_X9_11 : ∀ (C : String) (T : u_T) (NN : Nat), vwCl[9]? = some (C, T, NN) → Cond.fieldLink RX9 11 (T 0).1 (T 0).2.1 (T 0).2.2.1 ∈ aw_ws ∧ C = RX9 := fk (T0 := TX9) (N0 := 8) rfl (aw_mem 237 (by decide +kernel) (by decide +kernel)) rfl
theorem fk_X9_18 : ∀ (C : String) (T : u_T) (NN : Nat), vwCl[9]? = some (C, T, NN) → Cond.fieldLink RX9 18 (T 2).1 (T 2).2.1 (T 2).2.2.1 ∈ aw_ws ∧ C = RX9 := fk (T0 := TX9) (N0 := 8) rfl (aw_mem 247 (by decide +kernel) (by decide +kernel)) rfl
theorem fk_X9_24 : ∀ (C : String) (T : u_T) (NN : Nat), vwCl[9]? = some (C, T, NN) → Cond.fieldLink RX9 24 (T 3).1 (T 3).2.1 (T 3).2.2.1 ∈ aw_ws ∧ C = RX9 := fk (T0 := TX9) (N0 := 8) rfl (aw_mem 248 (by decide +kernel) (by decide +kernel)) rfl
theorem fk_X10_10 : ∀ (C : String) (T : u_T) (NN : Nat), vwCl[10]? = some (C, T, NN) → Cond.fieldLink RX10 10 (T 0).1 (T 0).2.1 (T 0).2.2.1 ∈ aw_ws ∧ C = RX10 := fk (T0 := TX10) (N0 := 10) rfl (aw_mem 430 (by decide +kernel) (by decide +kernel)) rfl
theorem fk_X10_19 : ∀ (C : String) (T : u_T) (NN : Nat), vwCl[10]? = some (C, T, NN) → Cond.fieldLink RX10 19 (T 1).1 (T 1).2.1 (T 1).2.2.1 ∈ aw_ws ∧ C = RX10 := fk (T0 := TX10) (N0 := 10) rfl (aw_mem 431 (by decide +kernel) (by decide +kernel)) rfl
theorem fk_X10_26 : ∀ (C : String) (T : u_T) (NN : Nat), vwCl[10]? = some (C, T, NN) → Cond.fieldLink RX10 26 (T 2).1 (T 2).2.1 (T 2).2.2.1 ∈ aw_ws ∧ C = RX10 := fk (T0 := TX10) (N0 := 10) rfl (aw_mem 432 (by decide +kernel) (by decide +kernel)) rfl
theorem fk_X10_30 : ∀ (C : String) (T : u_T) (NN : Nat), vwCl[10]? = some (C, T, NN) → Cond.fieldLink RX10 30 (T 3).1 (T 3).2.1 (T 3).2.2.1 ∈ aw_ws ∧ C = RX10 := fk (T0 := TX10) (N0 := 10) rfl (aw_mem 433 (by decide +kernel) (by decide +kernel)) rfl
theorem fk_X10_34 : ∀ (C : String) (T : u_T) (NN : Nat), vwCl[10]? = some (C, T, NN) → Cond.fieldLink RX10 34 (T 4).1 (T 4).2.1 (T 4).2.2.1 ∈ aw_ws ∧ C = RX10 := fk (T0 := TX10) (N0 := 10) rfl (aw_mem 434 (by decide +kernel) (by decide +kernel)) rfl
theorem fk_X10_46 : ∀ (C : String) (T : u_T) (NN : Nat), vwCl[10]? = some (C, T, NN) → Cond.fieldLink RX10 46 (T 5).1 (T 5).2.1 (T 5).2.2.1 ∈ aw_ws ∧ C = RX10 := fk (T0 := TX10) (N0 := 10) rfl (aw_mem 435 (by decide +kernel) (by decide +kernel)) rfl
theorem fk_X10_55 : ∀ (C : String) (T : u_T) (NN : Nat), vwCl[10]? = some (C, T, NN) → Cond.fieldLink RX10 55 (T 6).1 (T 6).2.1 (T 6).2.2.1 ∈ aw_ws ∧ C = RX10 := fk (T0 := TX10) (N0 := 10) rfl (aw_mem 436 (by decide +kernel) (by decide +kernel)) rfl
theorem fk_X10_64 : ∀ (C : String) (T : u_T) (NN : Nat), vwCl[10]? = some (C, T, NN) → Cond.fieldLink RX10 64 (T 7).1 (T 7).2.1 (T 7).2.2.1 ∈ aw_ws ∧ C = RX10 := fk (T0 := TX10) (N0 := 10) rfl (aw_mem 437 (by decide +kernel) (by decide +kernel)) rfl
theorem fk_X10_71 : ∀ (C : String) (T : u_T) (NN : Nat), vwCl[10]? = some (C, T, NN) → Cond.fieldLink RX10 71 (T 8).1 (T 8).2.1 (T 8).2.2.1 ∈ aw_ws ∧ C = RX10 := fk (T0 := TX10) (N0 := 10) rfl (aw_mem 438 (by decide +kernel) (by decide +kernel)) rfl
theorem fk_X10_78 : ∀ (C : String) (T : u_T) (NN : Nat), vwCl[10]? = some (C, T, NN) → Cond.fieldLink RX10 78 (T 9).1 (T 9).2.1 (T 9).2.2.1 ∈ aw_ws ∧ C = RX10 := fk (T0 := TX10) (N0 := 10) rfl (aw_mem 439 (by decide +kernel) (by decide +kernel)) rfl
theorem fk_X11_7 : ∀ (C : String) (T : u_T) (NN : Nat), vwCl[11]? = some (C, T, NN) → Cond.fieldLink RX11 7 (T 0).1 (T 0).2.1 (T 0).2.2.1 ∈ aw_ws ∧ C = RX11 := fk (T0 := TX11) (N0 := 42) rfl (aw_mem 972 (by decide +kernel) (by decide +kernel)) rfl
theorem fk_X11_13 : ∀ (C : String) (T : u_T) (NN : Nat), vwCl[11]? = some (C, T, NN) → Cond.fieldLink RX11 13 (T 6).1 (T 6).2.1 (T 6).2.2.1 ∈ aw_ws ∧ C = RX11 := fk (T0 := TX11) (N0 := 42) rfl (aw_mem 978 (by decide +kernel) (by decide +kernel)) rfl
theorem fk_X11_16 : ∀ (C : String) (T : u_T) (NN : Nat), vwCl[11]? = some (C, T, NN) → Cond.fieldLink RX11 16 (T 7).1 (T 7).2.1 (T 7).2.2.1 ∈ aw_ws ∧ C = RX11 := fk (T0 := TX11) (N0 := 42) rfl (aw_mem 979 (by decide +kernel) (by decide +kernel)) rfl
theorem fk_X11_19 : ∀ (C : String) (T : u_T) (NN : Nat), vwCl[11]? = some (C, T, NN) → Cond.fieldLink RX11 19 (T 8).1 (T 8).2.1 (T 8).2.2.1 ∈ aw_ws ∧ C = RX11 := fk (T0 := TX11) (N0 := 42) rfl (aw_mem 980 (by decide +kernel) (by decide +kernel)) rfl
theorem fk_X11_22 : ∀ (C : String) (T : u_T) (NN : Nat), vwCl[11]? = some (C, T, NN) → Cond.fieldLink RX11 22 (T 9).1 (T 9).2.1 (T 9).2.2.1 ∈ aw_ws ∧ C = RX11 := fk (T0 := TX11) (N0 := 42) rfl (aw_mem 981 (by decide +kernel) (by decide +kernel)) rfl
theorem fk_X11_25 : ∀ (C : String) (T : u_T) (NN : Nat), vwCl[11]? = some (C, T, NN) → Cond.fieldLink RX11 25 (T 10).1 (T 10).2.1 (T 10).2.2.1 ∈ aw_ws ∧ C = RX11 := fk (T0 := TX11) (N0 := 42) rfl (aw_mem 982 (by decide +kernel) (by decide +kernel)) rfl
theorem fk_X11_28 : ∀ (C : String) (T : u_T) (NN : Nat), vwCl[11]? = some (C, T, NN) → Cond.fieldLink RX11 28 (T 11).1 (T 11).2.1 (T 11).2.2.1 ∈ aw_ws ∧ C = RX11 := fk (T0 := TX11) (N0 := 42) rfl (aw_mem 983 (by decide +kernel) (by decide +kernel)) rfl
theorem fk_X11_31 : ∀ (C : String) (T : u_T) (NN : Nat), vwCl[11]? = some (C, T, NN) → Cond.fieldLink RX11 31 (T 12).1 (T 12).2.1 (T 12).2.2.1 ∈ aw_ws ∧ C = RX11 := fk (T0 := TX11) (N0 := 42) rfl (aw_mem 984 (by decide +kernel) (by decide +kernel)) rfl
theorem fk_X11_34 : ∀ (C : String) (T : u_T) (NN : Nat), vwCl[11]? = some (C, T, NN) → Cond.fieldLink RX11 34 (T 13).1 (T 13).2.1 (T 13).2.2.1 ∈ aw_ws ∧ C = RX11 := fk (T0 := TX11) (N0 := 42) rfl (aw_mem 985 (by decide +kernel) (by decide +kernel)) rfl
theorem fk_X11_37 : ∀ (C : String) (T : u_T) (NN : Nat), vwCl[11]? = some (C, T, NN) → Cond.fieldLink RX11 37 (T 14).1 (T 14).2.1 (T 14).2.2.1 ∈ aw_ws ∧ C = RX11 := fk (T0 := TX11) (N0 := 42) rfl (aw_mem 986 (by decide +kernel) (by decide +kernel)) rfl
theorem fk_X11_40 : ∀ (C : String) (T : u_T) (NN : Nat), vwCl[11]? = some (C, T, NN) → Cond.fieldLink RX11 40 (T 15).1 (T 15).2.1 (T 15).2.2.1 ∈ aw_ws ∧ C = RX11 := fk (T0 := TX11) (N0 := 42) rfl (aw_mem 987 (by decide +kernel) (by decide +kernel)) rfl
theorem fk_X11_43 : ∀ (C : String) (T : u_T) (NN : Nat), vwCl[11]? = some (C, T, NN) → Cond.fieldLink RX11 43 (T 16).1 (T 16).2.1 (T 16).2.2.1 ∈ aw_ws ∧ C = RX11 := fk (T0 := TX11) (N0 := 42) rfl (aw_mem 988 (by decide +kernel) (by decide +kernel)) rfl
theorem fk_X11_46 : ∀ (C : String) (T : u_T) (NN : Nat), vwCl[11]? = some (C, T, NN) → Cond.fieldLink RX11 46 (T 17).1 (T 17).2.1 (T 17).2.2.1 ∈ aw_ws ∧ C = RX11 := fk (T0 := TX11) (N0 := 42) rfl (aw_mem 989 (by decide +kernel) (by decide +kernel)) rfl
theorem fk_X11_49 : ∀ (C : String) (T : u_T) (NN : Nat), vwCl[11]? = some (C, T, NN) → Cond.fieldLink RX11 49 (T 20).1 (T 20).2.1 (T 20).2.2.1 ∈ aw_ws ∧ C = RX11 := fk (T0 := TX11) (N0 := 42) rfl (aw_mem 992 (by decide +kernel) (by decide +kernel)) rfl
theorem fk_X11_53 : ∀ (C : String) (T : u_T) (NN : Nat), vwCl[11]? = some (C, T, NN) → Cond.fieldLink RX11 53 (T 21).1 (T 21).2.1 (T 21).2.2.1 ∈ aw_ws ∧ C = RX11 := fk (T0 := TX11) (N0 := 42) rfl (aw_mem 993 (by decide +kernel) (by decide +kernel)) rfl
theorem fk_X11_56 : ∀ (C : String) (T : u_T) (NN : Nat), vwCl[11]? = some (C, T, NN) → Cond.fieldLink RX11 56 (T 22).1 (T 22).2.1 (T 22).2.2.1 ∈ aw_ws ∧ C = RX11 := fk (T0 := TX11) (N0 := 42) rfl (aw_mem 994 (by decide +kernel) (by decide +kernel)) rfl
theorem fk_X11_59 : ∀ (C : String) (T : u_T) (NN : Nat), vwCl[11]? = some (C, T, NN) → Cond.fieldLink RX11 59 (T 23).1 (T 23).2.1 (T 23).2.2.1 ∈ aw_ws ∧ C = RX11 := fk (T0 := TX11) (N0 := 42) rfl (aw_mem 995 (by decide +kernel) (by decide +kernel)) rfl
theorem fk_X11_62 : ∀ (C : String) (T : u_T) (NN : Nat), vwCl[11]? = some (C, T, NN) → Cond.fieldLink RX11 62 (T 24).1 (T 24).2.1 (T 24).2.2.1 ∈ aw_ws ∧ C = RX11 := fk (T0 := TX11) (N0 := 42) rfl (aw_mem 996 (by decide +kernel) (by decide +kernel)) rfl
theorem fk_X11_65 : ∀ (C : String) (T : u_T) (NN : Nat), vwCl[11]? = some (C, T, NN) → Cond.fieldLink RX11 65 (T 25).1 (T 25).2.1 (T 25).2.2.1 ∈ aw_ws ∧ C = RX11 := fk (T0 := TX11) (N0 := 42) rfl (aw_mem 997 (by decide +kernel) (by decide +kernel)) rfl
theorem fk_X11_68 : ∀ (C : String) (T : u_T) (NN : Nat), vwCl[11]? = some (C, T, NN) → Cond.fieldLink RX11 68 (T 31).1 (T 31).2.1 (T 31).2.2.1 ∈ aw_ws ∧ C = RX11 := fk (T0 := TX11) (N0 := 42) rfl (aw_mem 1003 (by decide +kernel) (by decide +kernel)) rfl
theorem fk_X11_71 : ∀ (C : String) (T : u_T) (NN : Nat), vwCl[11]? = some (C, T, NN) → Cond.fieldLink RX11 71 (T 36).1 (T 36).2.1 (T 36).2.2.1 ∈ aw_ws ∧ C = RX11 := fk (T0 := TX11) (N0 := 42) rfl (aw_mem 1008 (by decide +kernel) (by decide +kernel)) rfl
theorem fk_X11_75 : ∀ (C : String) (T : u_T) (NN : Nat), vwCl[11]? = some (C, T, NN) → Cond.fieldLink RX11 75 (T 37).1 (T 37).2.1 (T 37).2.2.1 ∈ aw_ws ∧ C = RX11 := fk (T0 := TX11) (N0 := 42) rfl (aw_mem 1009 (by decide +kernel) (by decide +kernel)) rfl
theorem fk_X11_78 : ∀ (C : String) (T : u_T) (NN : Nat), vwCl[11]? = some (C, T, NN) → Cond.fieldLink RX11 78 (T 38).1 (T 38).2.1 (T 38).2.2.1 ∈ aw_ws ∧ C = RX11 := fk (T0 := TX11) (N0 := 42) rfl (aw_mem 1010 (by decide +kernel) (by decide +kernel)) rfl
theorem fk_X11_81 : ∀ (C : String) (T : u_T) (NN : Nat), vwCl[11]? = some (C, T, NN) → Cond.fieldLink RX11 81 (T 39).1 (T 39).2.1 (T 39).2.2.1 ∈ aw_ws ∧ C = RX11 := fk (T0 := TX11) (N0 := 42) rfl (aw_mem 1011 (by decide +kernel) (by decide +kernel)) rfl
abbrev rn_X0 : Room := { frames := 1, cells := 0, slots := 0, locals := 20 }
abbrev rn_X1 : Room := { frames := 1, cells := 0, slots := 0, locals := 20 }
abbrev rn_X2 : Room := { frames := 1, cells := 1, slots := 8, locals := 20 }
abbrev rn_X3 : Room := { frames := 1, cells := 4, slots := 76, locals := 20 }
abbrev rn_X4 : Room := { frames := 1, cells := 1, slots := 8, locals := 20 }
abbrev rn_X5 : Room := { frames := 1, cells := 1, slots := 60, locals := 20 }
abbrev rn_X6 : Room := { frames := 1, cells := 0, slots := 0, locals := 20 }
abbrev rn_X7 : Room := { frames := 1, cells := 0, slots := 0, locals := 20 }
abbrev rn_X8 : Room := { frames := 2, cells := 1, slots := 5, locals := 40 }
abbrev rn_X9 : Room := { frames := 2, cells := 51, slots := 792, locals := 40 }
abbrev rn_X10 : Room := { frames := 3, cells := 174, slots := 2608, locals := 63 }
abbrev rn_X11 : Room := { frames := 1, cells := 23, slots := 1201, locals := 20 }

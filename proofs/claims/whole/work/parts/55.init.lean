abbrev zf0 : List Value := [.int (iV 0), .int (iV 0), .int (iV 0), .int (iV 0), .int (iV 0)]
abbrev zf1 : List Value := [.null, .null, .null, .int (iV 0), .int (iV 0)]
abbrev zf2 : List Value := [.null, .int (iV 0), .int (iV 0), .int (iV 0), .int (iV 0)]
abbrev zf3 : List Value := [.null, .int (iV 0), .int (iV 0)]
abbrev zf4 : List Value := [.null, .int (iV 0)]
abbrev zf5 : List Value := [.null, .int (iV 0)]
abbrev zf6 : List Value := [.null, .null, .int (iV 0), .null, .null, .null, .null, .null]
abbrev zf7 : List Value := [.null, .null, .null, .int (iV 0), .null, .null, .null, .int (iV 0), .int (iV 0), .int (iV 0), .int (iV 0), .int (iV 0), .int (iV 0), .null, .null, .null, .null, .null, .int (iV 0), .int (iV 0), .null, .null, .null, .null]
theorem zd0 : ∀ j, j < 5 → defaultValue (tyX0 j) = vp_V zf0 j := by decide +kernel
theorem zd1 : ∀ j, j < 5 → defaultValue (tyX1 j) = vp_V zf1 j := by decide +kernel
theorem zd2 : ∀ j, j < 5 → defaultValue (tyX2 j) = vp_V zf2 j := by decide +kernel
theorem zd3 : ∀ j, j < 3 → defaultValue (tyX3 j) = vp_V zf3 j := by decide +kernel
theorem zd4 : ∀ j, j < 2 → defaultValue (tyX4 j) = vp_V zf4 j := by decide +kernel
theorem zd5 : ∀ j, j < 2 → defaultValue (tyX5 j) = vp_V zf5 j := by decide +kernel
theorem zd6 : ∀ j, j < 8 → defaultValue (tyX6 j) = vp_V zf6 j := by decide +kernel
theorem zd7 : ∀ j, j < 24 → defaultValue (tyX7 j) = vp_V zf7 j := by decide +kernel
theorem ne_X1_27 : Cond.methodLinkNest RX1 27 yX0_init "FugueNotes" ∈ mNest := List.mem_filter.mpr ⟨List.mem_of_getElem? (i := 114) (by decide +kernel), rfl⟩
/-- what the constructors make -/
def shA (q : Nat) (_ : Nat) : va_W := [(q, .inr (0, zf0))]
def shT (G : mG) (ci N q b : Nat) : va_W := [(q, .inr (ci, [.ref b, .int (iV 0)])), (b, .inl (G.2.2.1 0, N, .inl (fun _ => iV 0)))]
def shS (G : mG) (q b : Nat) : va_W := [(q, .inr (3, [.ref b, .int (iV 0), .int (iV 0)])), (b, .inl (G.2.2.1 1, 40, .inr (.inl (fun _ => 0))))]
def shC (q t : Nat) (_ : Nat) : va_W := [(q, .inr (2, [.ref t, .int (iV 0), .int (iV 0), .int (iV 0), .int (iV 0)]))]
def shF (G : mG) (q : Nat) (g : Nat → Nat) : va_W := [(q, .inr (1, [.ref (g 1), .ref (g 3), .ref (g 5), .int (iV 0), .int (iV 0)])), (g 1, .inr (5, [.ref (g 2), .int (iV 0)])), (g 2, .inl (G.2.2.1 0, 12, .inl (fun _ => iV 0))), (g 3, .inr (5, [.ref (g 4), .int (iV 0)])), (g 4, .inl (G.2.2.1 0, 12, .inl (fun _ => iV 0))), (g 5, .inl (G.2.2.1 2, 8, .inr (.inr (.inr (.inr (fun j => some (g (6 + j)))))))), (g 6, .inr (0, zf0)), (g 7, .inr (0, zf0)), (g 8, .inr (0, zf0)), (g 9, .inr (0, zf0)), (g 10, .inr (0, zf0)), (g 11, .inr (0, zf0)), (g 12, .inr (0, zf0)), (g 13, .inr (0, zf0))]
def shX (G : mG) (q : Nat) (a : Nat → Nat → Nat) : va_W := (q, .inr (6, [.ref (a 0 1), .ref (a 0 2), .int (iV 0), .ref (a 0 3), .ref (a 0 4), .ref (a 0 6), .ref (a 0 7), .ref (a 0 16)])) :: (shF G (a 0 1) (a 1) ++ (shF G (a 0 2) (a 2) ++ (shF G (a 0 3) (a 3) ++ (shT G 4 120 (a 0 4) (a 0 5) ++ ([(a 0 6, .inr (2, [.ref (a 0 4), .int (iV 0), .int (iV 0), .int (iV 0), .int (iV 0)])), (a 0 7, .inl (G.2.2.1 3, 4, .inr (.inr (.inr (.inr (fun j => some (a 0 (8 + 2 * j))))))))] ++ (shS G (a 0 8) (a 0 9) ++ (shS G (a 0 10) (a 0 11) ++ (shS G (a 0 12) (a 0 13) ++ (shS G (a 0 14) (a 0 15) ++ [(a 0 16, .inl (G.2.2.1 0, 7, .inl (fun _ => iV 0)))])))))))))
def shM (G : mG) (q : Nat) (a : Nat → Nat) : va_W := [(q, .inr (7, [.ref (a 1), .ref (a 2), .ref (a 3), .int (iV 0), .ref (a 4), .ref (a 5), .ref (a 6), .int (iV 0), .int (iV 0), .int (iV 0), .int (iV 0), .int (iV 0), .int (iV 0), .ref (a 7), .ref (a 8), .ref (a 9), .ref (a 10), .ref (a 11), .int (iV 0), .int (iV 0), .ref (a 12), .ref (a 13), .ref (a 14), .ref (a 15)])), (a 1, .inl (G.2.2.1 0, 68, .inl (fun _ => iV 0))), (a 2, .inl (G.2.2.1 0, 68, .inl (fun _ => iV 0))), (a 3, .inl (G.2.2.1 0, 68, .inl (fun _ => iV 0))), (a 4, .inl (G.2.2.1 0, 8, .inl (fun _ => iV 0))), (a 5, .inl (G.2.2.1 0, 12, .inl (fun _ => iV 0))), (a 6, .inl (G.2.2.1 0, 120, .inl (fun _ => iV 0))), (a 7, .inl (G.2.2.1 4, 6, .inr (.inr (.inr (.inr (fun j => some (G.1 (100 + j)))))))), (a 8, .inl (G.2.2.1 0, 120, .inl (fun _ => iV 0))), (a 9, .inl (G.2.2.1 0, 120, .inl (fun _ => iV 0))), (a 10, .inl (G.2.2.1 0, 120, .inl (fun _ => iV 0))), (a 11, .inl (G.2.2.1 1, 120, .inr (.inl (fun _ => 0)))), (a 12, .inl (G.2.2.1 0, 4, .inl (fun _ => iV 0))), (a 13, .inl (G.2.2.1 0, 4, .inl (fun _ => iV 0))), (a 14, .inl (G.2.2.1 1, 160, .inr (.inl (fun _ => 0)))), (a 15, .inl (G.2.2.1 1, 40, .inr (.inl (fun _ => 0))))]
theorem no_X0 : Cond.methodLink RX0 3 Lib.objectInit ∈ mTb := mTb_in (List.mem_of_getElem? (i := 117) (by decide +kernel)) rfl
set_option maxHeartbeats 4000000 in
set_option maxRecDepth 100000 in
theorem n_X0_init {G : mG} (h0 : Nat) : nM G yX0_init cX0_init 1 1 0 0 [.ref h0] [(h0, .inr (0, zf0))] Nat (shA h0) := by
  refine nM.of (by decide +kernel) (Nat.le_of_ble_eq_true rfl) ?_
  intro X A Q hend
  refine nw_aload 0 dX0_init_0 rfl ?_
  refine nw_obj dX0_init_1 no_X0 (by decide) (by decide) ?_
  exact hend _ _ 0 _ _ dX0_init_4 (by decide) (by decide)
theorem no_X5 : Cond.methodLink RX5 3 Lib.objectInit ∈ mTb := mTb_in (List.mem_of_getElem? (i := 97) (by decide +kernel)) rfl
theorem np_X5_9 : nP RX5 9 5 0 true (tyX5 0) := ⟨RX5, TX5, 2, kcX5, by decide, mTb_in (List.mem_of_getElem? (i := 98) (by decide +kernel)) rfl, rfl, rfl, by decide +kernel⟩
theorem np_X5_15 : nP RX5 15 5 1 false .int := ⟨RX5, TX5, 2, kcX5, by decide, mTb_in (List.mem_of_getElem? (i := 100) (by decide +kernel)) rfl, rfl, rfl, by decide +kernel⟩
set_option maxHeartbeats 4000000 in
set_option maxRecDepth 100000 in
theorem n_X5_init {G : mG} (h0 : Nat) : nM G yX5_init cX5_init 1 1 1 12 [.ref h0] [(h0, .inr (5, zf5))] Nat (shT G 5 12 h0) := by
  refine nM.of (by decide +kernel) (Nat.le_of_ble_eq_true rfl) ?_
  intro X A Q hend
  refine nw_aload 0 dX5_init_0 rfl ?_
  refine nw_obj dX5_init_1 no_X5 (by decide) (by decide) ?_
  refine nw_aload 0 dX5_init_4 rfl ?_
  refine nw_bipush dX5_init_5 (by decide +kernel) ?_
  refine nw_newI 12 dX5_init_7 rfl (by decide) (by decide) (by decide) (fun q1 => ?_)
  refine nw_put 0 ((h0, .inr (5, [.ref q1, .int (iV 0)])) :: (([] : va_W) ++ [(q1, .inl (G.2.2.1 0, 12, .inl (fun _ => iV 0)))])) dX5_init_9 np_X5_9 rfl (by first | rfl | decide +kernel) (by first | rfl | decide +kernel) rfl (Nat.le_of_ble_eq_true rfl) rfl ?_
  refine nw_aload 0 dX5_init_12 rfl ?_
  refine nw_iconst dX5_init_13 ?_
  refine nw_put 0 ((h0, .inr (5, [.ref q1, .int (iV 0)])) :: (([] : va_W) ++ [(q1, .inl (G.2.2.1 0, 12, .inl (fun _ => iV 0)))])) dX5_init_14 np_X5_15 rfl (by first | rfl | decide +kernel) (by first | rfl | decide +kernel) rfl (Nat.le_of_ble_eq_true rfl) rfl ?_
  exact hend _ _ q1 _ _ dX5_init_17 (by decide) (by decide)
theorem no_X4 : Cond.methodLink RX4 3 Lib.objectInit ∈ mTb := mTb_in (List.mem_of_getElem? (i := 168) (by decide +kernel)) rfl
theorem np_X4_9 : nP RX4 9 4 0 true (tyX4 0) := ⟨RX4, TX4, 2, kcX4, by decide, mTb_in (List.mem_of_getElem? (i := 169) (by decide +kernel)) rfl, rfl, rfl, by decide +kernel⟩
theorem np_X4_15 : nP RX4 15 4 1 false .int := ⟨RX4, TX4, 2, kcX4, by decide, mTb_in (List.mem_of_getElem? (i := 170) (by decide +kernel)) rfl, rfl, rfl, by decide +kernel⟩
set_option maxHeartbeats 4000000 in
set_option maxRecDepth 100000 in
theorem n_X4_init {G : mG} (h0 : Nat) : nM G yX4_init cX4_init 1 1 1 120 [.ref h0] [(h0, .inr (4, zf4))] Nat (shT G 4 120 h0) := by
  refine nM.of (by decide +kernel) (Nat.le_of_ble_eq_true rfl) ?_
  intro X A Q hend
  refine nw_aload 0 dX4_init_0 rfl ?_
  refine nw_obj dX4_init_1 no_X4 (by decide) (by decide) ?_
  refine nw_aload 0 dX4_init_4 rfl ?_
  refine nw_bipush dX4_init_5 (by decide +kernel) ?_
  refine nw_newI 120 dX4_init_7 rfl (by decide) (by decide) (by decide) (fun q1 => ?_)
  refine nw_put 0 ((h0, .inr (4, [.ref q1, .int (iV 0)])) :: (([] : va_W) ++ [(q1, .inl (G.2.2.1 0, 120, .inl (fun _ => iV 0)))])) dX4_init_9 np_X4_9 rfl (by first | rfl | decide +kernel) (by first | rfl | decide +kernel) rfl (Nat.le_of_ble_eq_true rfl) rfl ?_
  refine nw_aload 0 dX4_init_12 rfl ?_
  refine nw_iconst dX4_init_13 ?_
  refine nw_put 0 ((h0, .inr (4, [.ref q1, .int (iV 0)])) :: (([] : va_W) ++ [(q1, .inl (G.2.2.1 0, 120, .inl (fun _ => iV 0)))])) dX4_init_14 np_X4_15 rfl (by first | rfl | decide +kernel) (by first | rfl | decide +kernel) rfl (Nat.le_of_ble_eq_true rfl) rfl ?_
  exact hend _ _ q1 _ _ dX4_init_17 (by decide) (by decide)
theorem no_X3 : Cond.methodLink RX3 3 Lib.objectInit ∈ mTb := mTb_in (List.mem_of_getElem? (i := 206) (by decide +kernel)) rfl
theorem np_X3_9 : nP RX3 9 3 0 true (tyX3 0) := ⟨RX3, TX3, 3, kcX3, by decide, mTb_in (List.mem_of_getElem? (i := 207) (by decide +kernel)) rfl, rfl, rfl, by decide +kernel⟩
theorem np_X3_15 : nP RX3 15 3 1 false .int := ⟨RX3, TX3, 3, kcX3, by decide, mTb_in (List.mem_of_getElem? (i := 209) (by decide +kernel)) rfl, rfl, rfl, by decide +kernel⟩
theorem np_X3_19 : nP RX3 19 3 2 false .int := ⟨RX3, TX3, 3, kcX3, by decide, mTb_in (List.mem_of_getElem? (i := 211) (by decide +kernel)) rfl, rfl, rfl, by decide +kernel⟩
set_option maxHeartbeats 4000000 in
set_option maxRecDepth 100000 in
theorem n_X3_init {G : mG} (h0 : Nat) : nM G yX3_init cX3_init 1 1 1 40 [.ref h0] [(h0, .inr (3, zf3))] Nat (shS G h0) := by
  refine nM.of (by decide +kernel) (Nat.le_of_ble_eq_true rfl) ?_
  intro X A Q hend
  refine nw_aload 0 dX3_init_0 rfl ?_
  refine nw_obj dX3_init_1 no_X3 (by decide) (by decide) ?_
  refine nw_aload 0 dX3_init_4 rfl ?_
  refine nw_bipush dX3_init_5 (by decide +kernel) ?_
  refine nw_newL 40 dX3_init_7 rfl (by decide) (by decide) (by decide) (fun q1 => ?_)
  refine nw_put 0 ((h0, .inr (3, [.ref q1, .int (iV 0), .int (iV 0)])) :: (([] : va_W) ++ [(q1, .inl (G.2.2.1 1, 40, .inr (.inl (fun _ => 0))))])) dX3_init_9 np_X3_9 rfl (by first | rfl | decide +kernel) (by first | rfl | decide +kernel) rfl (Nat.le_of_ble_eq_true rfl) rfl ?_
  refine nw_aload 0 dX3_init_12 rfl ?_
  refine nw_iconst dX3_init_13 ?_
  refine nw_put 0 ((h0, .inr (3, [.ref q1, .int (iV 0), .int (iV 0)])) :: (([] : va_W) ++ [(q1, .inl (G.2.2.1 1, 40, .inr (.inl (fun _ => 0))))])) dX3_init_14 np_X3_15 rfl (by first | rfl | decide +kernel) (by first | rfl | decide +kernel) rfl (Nat.le_of_ble_eq_true rfl) rfl ?_
  refine nw_aload 0 dX3_init_17 rfl ?_
  refine nw_iconst dX3_init_18 ?_
  refine nw_put 0 ((h0, .inr (3, [.ref q1, .int (iV 0), .int (iV 0)])) :: (([] : va_W) ++ [(q1, .inl (G.2.2.1 1, 40, .inr (.inl (fun _ => 0))))])) dX3_init_19 np_X3_19 rfl (by first | rfl | decide +kernel) (by first | rfl | decide +kernel) rfl (Nat.le_of_ble_eq_true rfl) rfl ?_
  exact hend _ _ q1 _ _ dX3_init_22 (by decide) (by decide)
theorem no_X2 : Cond.methodLink RX2 3 Lib.objectInit ∈ mTb := mTb_in (List.mem_of_getElem? (i := 183) (by decide +kernel)) rfl
theorem np_X2_9 : nP RX2 9 2 0 true (tyX2 0) := ⟨RX2, TX2, 5, kcX2, by decide, mTb_in (List.mem_of_getElem? (i := 184) (by decide +kernel)) rfl, rfl, rfl, by decide +kernel⟩
theorem np_X2_15 : nP RX2 15 2 1 false .int := ⟨RX2, TX2, 5, kcX2, by decide, mTb_in (List.mem_of_getElem? (i := 185) (by decide +kernel)) rfl, rfl, rfl, by decide +kernel⟩
theorem np_X2_19 : nP RX2 19 2 2 false .int := ⟨RX2, TX2, 5, kcX2, by decide, mTb_in (List.mem_of_getElem? (i := 186) (by decide +kernel)) rfl, rfl, rfl, by decide +kernel⟩
theorem np_X2_22 : nP RX2 22 2 3 false .int := ⟨RX2, TX2, 5, kcX2, by decide, mTb_in (List.mem_of_getElem? (i := 187) (by decide +kernel)) rfl, rfl, rfl, by decide +kernel⟩
theorem np_X2_25 : nP RX2 25 2 4 false .int := ⟨RX2, TX2, 5, kcX2, by decide, mTb_in (List.mem_of_getElem? (i := 188) (by decide +kernel)) rfl, rfl, rfl, by decide +kernel⟩
set_option maxHeartbeats 4000000 in
set_option maxRecDepth 100000 in
theorem n_X2_init {G : mG} (h0 : Nat) (t0 : Nat) : nM G yX2_init cX2_init 2 1 0 0 [.ref h0, .ref t0] [(h0, .inr (2, zf2))] Nat (shC h0 t0) := by
  refine nM.of (by decide +kernel) (Nat.le_of_ble_eq_true rfl) ?_
  intro X A Q hend
  refine nw_aload 0 dX2_init_0 rfl ?_
  refine nw_obj dX2_init_1 no_X2 (by decide) (by decide) ?_
  refine nw_aload 0 dX2_init_4 rfl ?_
  refine nw_aload 1 dX2_init_5 rfl ?_
  refine nw_put 0 ((h0, .inr (2, [.ref t0, .int (iV 0), .int (iV 0), .int (iV 0), .int (iV 0)])) :: ([] : va_W)) dX2_init_6 np_X2_9 rfl (by first | rfl | decide +kernel) (by first | rfl | decide +kernel) rfl (Nat.le_of_ble_eq_true rfl) rfl ?_
  refine nw_aload 0 dX2_init_9 rfl ?_
  refine nw_iconst dX2_init_10 ?_
  refine nw_put 0 ((h0, .inr (2, [.ref t0, .int (iV 0), .int (iV 0), .int (iV 0), .int (iV 0)])) :: ([] : va_W)) dX2_init_11 np_X2_15 rfl (by first | rfl | decide +kernel) (by first | rfl | decide +kernel) rfl (Nat.le_of_ble_eq_true rfl) rfl ?_
  refine nw_aload 0 dX2_init_14 rfl ?_
  refine nw_iconst dX2_init_15 ?_
  refine nw_put 0 ((h0, .inr (2, [.ref t0, .int (iV 0), .int (iV 0), .int (iV 0), .int (iV 0)])) :: ([] : va_W)) dX2_init_16 np_X2_19 rfl (by first | rfl | decide +kernel) (by first | rfl | decide +kernel) rfl (Nat.le_of_ble_eq_true rfl) rfl ?_
  refine nw_aload 0 dX2_init_19 rfl ?_
  refine nw_iconst dX2_init_20 ?_
  refine nw_put 0 ((h0, .inr (2, [.ref t0, .int (iV 0), .int (iV 0), .int (iV 0), .int (iV 0)])) :: ([] : va_W)) dX2_init_21 np_X2_22 rfl (by first | rfl | decide +kernel) (by first | rfl | decide +kernel) rfl (Nat.le_of_ble_eq_true rfl) rfl ?_
  refine nw_aload 0 dX2_init_24 rfl ?_
  refine nw_iconst dX2_init_25 ?_
  refine nw_put 0 ((h0, .inr (2, [.ref t0, .int (iV 0), .int (iV 0), .int (iV 0), .int (iV 0)])) :: ([] : va_W)) dX2_init_26 np_X2_25 rfl (by first | rfl | decide +kernel) (by first | rfl | decide +kernel) rfl (Nat.le_of_ble_eq_true rfl) rfl ?_
  exact hend _ _ 0 _ _ dX2_init_29 (by decide) (by decide)
theorem no_X1 : Cond.methodLink RX1 3 Lib.objectInit ∈ mTb := mTb_in (List.mem_of_getElem? (i := 91) (by decide +kernel)) rfl
theorem nn_X1_9 : nN RX1 9 5 2 zf5 := ⟨RX5, TX5, tyX5, rfl, inX5, tyX5_ok, zd5, mTb_in (List.mem_of_getElem? (i := 92) (by decide +kernel)) rfl, mTb_in (List.mem_of_getElem? (i := 93) (by decide +kernel)) rfl, mTb_in (List.mem_of_getElem? (i := 65) (by decide +kernel)) rfl⟩
theorem nk_X5_init : nI_ yX5_init cX5_init 1 0 := ⟨mTb_in (List.mem_of_getElem? (i := 95) (by decide +kernel)) rfl, mTb_in (List.mem_of_getElem? (i := 65) (by decide +kernel)) rfl, mTb_in (List.mem_of_getElem? (i := 96) (by decide +kernel)) rfl, rfl, by decide +kernel, by decide +kernel, by decide +kernel⟩
theorem np_X1_12 : nP RX1 12 1 0 true (tyX1 0) := ⟨RX1, TX1, 5, kcX1, by decide, mTb_in (List.mem_of_getElem? (i := 144) (by decide +kernel)) rfl, rfl, rfl, by decide +kernel⟩
theorem np_X1_18 : nP RX1 18 1 1 true (tyX1 1) := ⟨RX1, TX1, 5, kcX1, by decide, mTb_in (List.mem_of_getElem? (i := 145) (by decide +kernel)) rfl, rfl, rfl, by decide +kernel⟩
theorem nc_X1_21 : Cond.classLink RX1 21 RX0 ∈ mTb := mTb_in (List.mem_of_getElem? (i := 111) (by decide +kernel)) rfl
theorem np_X1_23 : nP RX1 23 1 2 true (tyX1 2) := ⟨RX1, TX1, 5, kcX1, by decide, mTb_in (List.mem_of_getElem? (i := 146) (by decide +kernel)) rfl, rfl, rfl, by decide +kernel⟩
theorem nn_X1_21 : nN RX1 21 0 5 zf0 := ⟨RX0, TX0, tyX0, rfl, inX0, tyX0_ok, zd0, mTb_in (List.mem_of_getElem? (i := 111) (by decide +kernel)) rfl, mTb_in (List.mem_of_getElem? (i := 113) (by decide +kernel)) rfl, mTb_in (List.mem_of_getElem? (i := 66) (by decide +kernel)) rfl⟩
theorem nk_X0_init : nI_ yX0_init cX0_init 1 0 := ⟨mTb_in (List.mem_of_getElem? (i := 115) (by decide +kernel)) rfl, mTb_in (List.mem_of_getElem? (i := 66) (by decide +kernel)) rfl, mTb_in (List.mem_of_getElem? (i := 116) (by decide +kernel)) rfl, rfl, by decide +kernel, by decide +kernel, by decide +kernel⟩
theorem np_X1_28 : nP RX1 28 1 3 false .int := ⟨RX1, TX1, 5, kcX1, by decide, mTb_in (List.mem_of_getElem? (i := 148) (by decide +kernel)) rfl, rfl, rfl, by decide +kernel⟩
theorem np_X1_32 : nP RX1 32 1 4 false .int := ⟨RX1, TX1, 5, kcX1, by decide, mTb_in (List.mem_of_getElem? (i := 150) (by decide +kernel)) rfl, rfl, rfl, by decide +kernel⟩
set_option maxHeartbeats 4000000 in
set_option maxRecDepth 100000 in
theorem n_X1_init {G : mG} (h0 : Nat) : nM G yX1_init cX1_init 2 2 13 76 [.ref h0] [(h0, .inr (1, zf1))] (Nat → Nat) (shF G h0) := by
  refine nM.of (by decide +kernel) (Nat.le_of_ble_eq_true rfl) ?_
  intro X A Q hend
  refine nw_aload 0 dX1_init_0 rfl ?_
  refine nw_obj dX1_init_1 no_X1 (by decide) (by decide) ?_
  refine nw_aload 0 dX1_init_4 rfl ?_
  refine nw_new dX1_init_5 nn_X1_9 (by decide) (by decide) (fun q1 => ?_)
  refine nw_dup dX1_init_8 rfl ?_
  refine nw_init (as := []) dX1_init_9 ml_X1_11 nk_X5_init (by decide) (n_X5_init q1) rfl rfl (Nat.le_of_ble_eq_true rfl) ⟨by decide, by decide⟩ (fun a2 => ?_)
  refine nw_put 0 ((h0, .inr (1, [.ref q1, .null, .null, .int (iV 0), .int (iV 0)])) :: (([] : va_W) ++ shT G 5 12 q1 a2)) dX1_init_12 np_X1_12 rfl (by first | rfl | decide +kernel) (by first | rfl | decide +kernel) rfl (Nat.le_of_ble_eq_true rfl) rfl ?_
  refine nw_aload 0 dX1_init_15 rfl ?_
  refine nw_new dX1_init_16 nn_X1_9 (by decide) (by decide) (fun q3 => ?_)
  refine nw_dup dX1_init_19 rfl ?_
  refine nw_init (as := []) dX1_init_20 ml_X1_11 nk_X5_init (by decide) (n_X5_init q3) rfl rfl (Nat.le_of_ble_eq_true rfl) ⟨by decide, by decide⟩ (fun a4 => ?_)
  refine nw_put 0 ((h0, .inr (1, [.ref q1, .ref q3, .null, .int (iV 0), .int (iV 0)])) :: ((([] : va_W) ++ shT G 5 12 q1 a2) ++ shT G 5 12 q3 a4)) dX1_init_23 np_X1_18 rfl (by first | rfl | decide +kernel) (by first | rfl | decide +kernel) rfl (Nat.le_of_ble_eq_true rfl) rfl ?_
  refine nw_aload 0 dX1_init_26 rfl ?_
  refine nw_bipush dX1_init_27 (by decide +kernel) ?_
  refine nw_newQ 8 2 dX1_init_29 nc_X1_21 (fun s h => h.2.2.1) rfl rfl (by decide) (by decide) (by decide) (fun q5 => ?_)
  refine nw_put 0 ((h0, .inr (1, [.ref q1, .ref q3, .ref q5, .int (iV 0), .int (iV 0)])) :: (((([] : va_W) ++ shT G 5 12 q1 a2) ++ shT G 5 12 q3 a4) ++ [(q5, .inl (G.2.2.1 2, 8, .inr (.inr (.inr (.inr (fun _ => none))))))])) dX1_init_32 np_X1_23 rfl (by first | rfl | decide +kernel) (by first | rfl | decide +kernel) rfl (Nat.le_of_ble_eq_true rfl) rfl ?_
  refine nw_iconst dX1_init_35 ?_
  refine nw_istore [(1, .int (iV 0)), (0, .ref h0)] dX1_init_36 (by decide) rfl ?_
  refine nw_iload 0 dX1_init_37 rfl ?_
  refine nw_bipush dX1_init_38 (by decide +kernel) ?_
  refine nw_geN 62 dX1_init_40 (by decide) (by decide +kernel) ?_
  refine nw_aload 1 dX1_init_43 rfl ?_
  refine nw_get 0 dX1_init_44 gs_X1_23 rfl rfl ?_
  refine nw_iload 0 dX1_init_47 rfl ?_
  refine nw_new dX1_init_48 nn_X1_21 (by decide) (by decide) (fun q6 => ?_)
  refine nw_dup dX1_init_51 rfl ?_
  refine nw_initN (as := []) dX1_init_52 ne_X1_27 nk_X0_init (by decide) (n_X0_init q6) rfl rfl (Nat.le_of_ble_eq_true rfl) ⟨by decide, by decide⟩ (fun a7 => ?_)
  refine nw_astQ (r := (RX0, TX0, 5)) 5 2 6 0 0 ((h0, .inr (1, [.ref q1, .ref q3, .ref q5, .int (iV 0), .int (iV 0)])) :: ((((([] : va_W) ++ shT G 5 12 q1 a2) ++ shT G 5 12 q3 a4) ++ [(q5, .inl (G.2.2.1 2, 8, .inr (.inr (.inr (.inr (va_up (fun _ => none) 0 (some (q6))))))))]) ++ shA q6 a7)) dX1_init_55 rfl rfl rfl rfl rfl (by decide) (by decide) rfl ?_
  refine nw_iinc (z := 0) (z' := 1) 0 [(1, .int (iV 1)), (0, .ref h0)] dX1_init_56 rfl (by decide) (by decide) rfl ?_
  refine nw_goto 37 dX1_init_59 (by decide) ?_
  refine nw_iload 0 dX1_init_37 rfl ?_
  refine nw_bipush dX1_init_38 (by decide +kernel) ?_
  refine nw_geN 62 dX1_init_40 (by decide) (by decide +kernel) ?_
  refine nw_aload 1 dX1_init_43 rfl ?_
  refine nw_get 0 dX1_init_44 gs_X1_23 rfl rfl ?_
  refine nw_iload 0 dX1_init_47 rfl ?_
  refine nw_new dX1_init_48 nn_X1_21 (by decide) (by decide) (fun q8 => ?_)
  refine nw_dup dX1_init_51 rfl ?_
  refine nw_initN (as := []) dX1_init_52 ne_X1_27 nk_X0_init (by decide) (n_X0_init q8) rfl rfl (Nat.le_of_ble_eq_true rfl) ⟨by decide, by decide⟩ (fun a9 => ?_)
  refine nw_astQ (r := (RX0, TX0, 5)) 5 2 7 0 1 ((h0, .inr (1, [.ref q1, .ref q3, .ref q5, .int (iV 0), .int (iV 0)])) :: (((((([] : va_W) ++ shT G 5 12 q1 a2) ++ shT G 5 12 q3 a4) ++ [(q5, .inl (G.2.2.1 2, 8, .inr (.inr (.inr (.inr (va_up (va_up (fun _ => none) 0 (some (q6))) 1 (some (q8))))))))]) ++ shA q6 a7) ++ shA q8 a9)) dX1_init_55 rfl rfl rfl rfl rfl (by decide) (by decide) rfl ?_
  refine nw_iinc (z := 1) (z' := 2) 0 [(1, .int (iV 2)), (0, .ref h0)] dX1_init_56 rfl (by decide) (by decide) rfl ?_
  refine nw_goto 37 dX1_init_59 (by decide) ?_
  refine nw_iload 0 dX1_init_37 rfl ?_
  refine nw_bipush dX1_init_38 (by decide +kernel) ?_
  refine nw_geN 62 dX1_init_40 (by decide) (by decide +kernel) ?_
  refine nw_aload 1 dX1_init_43 rfl ?_
  refine nw_get 0 dX1_init_44 gs_X1_23 rfl rfl ?_
  refine nw_iload 0 dX1_init_47 rfl ?_
  refine nw_new dX1_init_48 nn_X1_21 (by decide) (by decide) (fun q10 => ?_)
  refine nw_dup dX1_init_51 rfl ?_
  refine nw_initN (as := []) dX1_init_52 ne_X1_27 nk_X0_init (by decide) (n_X0_init q10) rfl rfl (Nat.le_of_ble_eq_true rfl) ⟨by decide, by decide⟩ (fun a11 => ?_)
  refine nw_astQ (r := (RX0, TX0, 5)) 5 2 8 0 2 ((h0, .inr (1, [.ref q1, .ref q3, .ref q5, .int (iV 0), .int (iV 0)])) :: ((((((([] : va_W) ++ shT G 5 12 q1 a2) ++ shT G 5 12 q3 a4) ++ [(q5, .inl (G.2.2.1 2, 8, .inr (.inr (.inr (.inr (va_up (va_up (va_up (fun _ => none) 0 (some (q6))) 1 (some (q8))) 2 (some (q10))))))))]) ++ shA q6 a7) ++ shA q8 a9) ++ shA q10 a11)) dX1_init_55 rfl rfl rfl rfl rfl (by decide) (by decide) rfl ?_
  refine nw_iinc (z := 2) (z' := 3) 0 [(1, .int (iV 3)), (0, .ref h0)] dX1_init_56 rfl (by decide) (by decide) rfl ?_
  refine nw_goto 37 dX1_init_59 (by decide) ?_
  refine nw_iload 0 dX1_init_37 rfl ?_
  refine nw_bipush dX1_init_38 (by decide +kernel) ?_
  refine nw_geN 62 dX1_init_40 (by decide) (by decide +kernel) ?_
  refine nw_aload 1 dX1_init_43 rfl ?_
  refine nw_get 0 dX1_init_44 gs_X1_23 rfl rfl ?_
  refine nw_iload 0 dX1_init_47 rfl ?_
  refine nw_new dX1_init_48 nn_X1_21 (by decide) (by decide) (fun q12 => ?_)
  refine nw_dup dX1_init_51 rfl ?_
  refine nw_initN (as := []) dX1_init_52 ne_X1_27 nk_X0_init (by decide) (n_X0_init q12) rfl rfl (Nat.le_of_ble_eq_true rfl) ⟨by decide, by decide⟩ (fun a13 => ?_)
  refine nw_astQ (r := (RX0, TX0, 5)) 5 2 9 0 3 ((h0, .inr (1, [.ref q1, .ref q3, .ref q5, .int (iV 0), .int (iV 0)])) :: (((((((([] : va_W) ++ shT G 5 12 q1 a2) ++ shT G 5 12 q3 a4) ++ [(q5, .inl (G.2.2.1 2, 8, .inr (.inr (.inr (.inr (va_up (va_up (va_up (va_up (fun _ => none) 0 (some (q6))) 1 (some (q8))) 2 (some (q10))) 3 (some (q12))))))))]) ++ shA q6 a7) ++ shA q8 a9) ++ shA q10 a11) ++ shA q12 a13)) dX1_init_55 rfl rfl rfl rfl rfl (by decide) (by decide) rfl ?_
  refine nw_iinc (z := 3) (z' := 4) 0 [(1, .int (iV 4)), (0, .ref h0)] dX1_init_56 rfl (by decide) (by decide) rfl ?_
  refine nw_goto 37 dX1_init_59 (by decide) ?_
  refine nw_iload 0 dX1_init_37 rfl ?_
  refine nw_bipush dX1_init_38 (by decide +kernel) ?_
  refine nw_geN 62 dX1_init_40 (by decide) (by decide +kernel) ?_
  refine nw_aload 1 dX1_init_43 rfl ?_
  refine nw_get 0 dX1_init_44 gs_X1_23 rfl rfl ?_
  refine nw_iload 0 dX1_init_47 rfl ?_
  refine nw_new dX1_init_48 nn_X1_21 (by decide) (by decide) (fun q14 => ?_)
  refine nw_dup dX1_init_51 rfl ?_
  refine nw_initN (as := []) dX1_init_52 ne_X1_27 nk_X0_init (by decide) (n_X0_init q14) rfl rfl (Nat.le_of_ble_eq_true rfl) ⟨by decide, by decide⟩ (fun a15 => ?_)
  refine nw_astQ (r := (RX0, TX0, 5)) 5 2 10 0 4 ((h0, .inr (1, [.ref q1, .ref q3, .ref q5, .int (iV 0), .int (iV 0)])) :: ((((((((([] : va_W) ++ shT G 5 12 q1 a2) ++ shT G 5 12 q3 a4) ++ [(q5, .inl (G.2.2.1 2, 8, .inr (.inr (.inr (.inr (va_up (va_up (va_up (va_up (va_up (fun _ => none) 0 (some (q6))) 1 (some (q8))) 2 (some (q10))) 3 (some (q12))) 4 (some (q14))))))))]) ++ shA q6 a7) ++ shA q8 a9) ++ shA q10 a11) ++ shA q12 a13) ++ shA q14 a15)) dX1_init_55 rfl rfl rfl rfl rfl (by decide) (by decide) rfl ?_
  refine nw_iinc (z := 4) (z' := 5) 0 [(1, .int (iV 5)), (0, .ref h0)] dX1_init_56 rfl (by decide) (by decide) rfl ?_
  refine nw_goto 37 dX1_init_59 (by decide) ?_
  refine nw_iload 0 dX1_init_37 rfl ?_
  refine nw_bipush dX1_init_38 (by decide +kernel) ?_
  refine nw_geN 62 dX1_init_40 (by decide) (by decide +kernel) ?_
  refine nw_aload 1 dX1_init_43 rfl ?_
  refine nw_get 0 dX1_init_44 gs_X1_23 rfl rfl ?_
  refine nw_iload 0 dX1_init_47 rfl ?_
  refine nw_new dX1_init_48 nn_X1_21 (by decide) (by decide) (fun q16 => ?_)
  refine nw_dup dX1_init_51 rfl ?_
  refine nw_initN (as := []) dX1_init_52 ne_X1_27 nk_X0_init (by decide) (n_X0_init q16) rfl rfl (Nat.le_of_ble_eq_true rfl) ⟨by decide, by decide⟩ (fun a17 => ?_)
  refine nw_astQ (r := (RX0, TX0, 5)) 5 2 11 0 5 ((h0, .inr (1, [.ref q1, .ref q3, .ref q5, .int (iV 0), .int (iV 0)])) :: (((((((((([] : va_W) ++ shT G 5 12 q1 a2) ++ shT G 5 12 q3 a4) ++ [(q5, .inl (G.2.2.1 2, 8, .inr (.inr (.inr (.inr (va_up (va_up (va_up (va_up (va_up (va_up (fun _ => none) 0 (some (q6))) 1 (some (q8))) 2 (some (q10))) 3 (some (q12))) 4 (some (q14))) 5 (some (q16))))))))]) ++ shA q6 a7) ++ shA q8 a9) ++ shA q10 a11) ++ shA q12 a13) ++ shA q14 a15) ++ shA q16 a17)) dX1_init_55 rfl rfl rfl rfl rfl (by decide) (by decide) rfl ?_
  refine nw_iinc (z := 5) (z' := 6) 0 [(1, .int (iV 6)), (0, .ref h0)] dX1_init_56 rfl (by decide) (by decide) rfl ?_
  refine nw_goto 37 dX1_init_59 (by decide) ?_
  refine nw_iload 0 dX1_init_37 rfl ?_
  refine nw_bipush dX1_init_38 (by decide +kernel) ?_
  refine nw_geN 62 dX1_init_40 (by decide) (by decide +kernel) ?_
  refine nw_aload 1 dX1_init_43 rfl ?_
  refine nw_get 0 dX1_init_44 gs_X1_23 rfl rfl ?_
  refine nw_iload 0 dX1_init_47 rfl ?_
  refine nw_new dX1_init_48 nn_X1_21 (by decide) (by decide) (fun q18 => ?_)
  refine nw_dup dX1_init_51 rfl ?_
  refine nw_initN (as := []) dX1_init_52 ne_X1_27 nk_X0_init (by decide) (n_X0_init q18) rfl rfl (Nat.le_of_ble_eq_true rfl) ⟨by decide, by decide⟩ (fun a19 => ?_)
  refine nw_astQ (r := (RX0, TX0, 5)) 5 2 12 0 6 ((h0, .inr (1, [.ref q1, .ref q3, .ref q5, .int (iV 0), .int (iV 0)])) :: ((((((((((([] : va_W) ++ shT G 5 12 q1 a2) ++ shT G 5 12 q3 a4) ++ [(q5, .inl (G.2.2.1 2, 8, .inr (.inr (.inr (.inr (va_up (va_up (va_up (va_up (va_up (va_up (va_up (fun _ => none) 0 (some (q6))) 1 (some (q8))) 2 (some (q10))) 3 (some (q12))) 4 (some (q14))) 5 (some (q16))) 6 (some (q18))))))))]) ++ shA q6 a7) ++ shA q8 a9) ++ shA q10 a11) ++ shA q12 a13) ++ shA q14 a15) ++ shA q16 a17) ++ shA q18 a19)) dX1_init_55 rfl rfl rfl rfl rfl (by decide) (by decide) rfl ?_
  refine nw_iinc (z := 6) (z' := 7) 0 [(1, .int (iV 7)), (0, .ref h0)] dX1_init_56 rfl (by decide) (by decide) rfl ?_
  refine nw_goto 37 dX1_init_59 (by decide) ?_
  refine nw_iload 0 dX1_init_37 rfl ?_
  refine nw_bipush dX1_init_38 (by decide +kernel) ?_
  refine nw_geN 62 dX1_init_40 (by decide) (by decide +kernel) ?_
  refine nw_aload 1 dX1_init_43 rfl ?_
  refine nw_get 0 dX1_init_44 gs_X1_23 rfl rfl ?_
  refine nw_iload 0 dX1_init_47 rfl ?_
  refine nw_new dX1_init_48 nn_X1_21 (by decide) (by decide) (fun q20 => ?_)
  refine nw_dup dX1_init_51 rfl ?_
  refine nw_initN (as := []) dX1_init_52 ne_X1_27 nk_X0_init (by decide) (n_X0_init q20) rfl rfl (Nat.le_of_ble_eq_true rfl) ⟨by decide, by decide⟩ (fun a21 => ?_)
  refine nw_astQ (r := (RX0, TX0, 5)) 5 2 13 0 7 ((h0, .inr (1, [.ref q1, .ref q3, .ref q5, .int (iV 0), .int (iV 0)])) :: (((((((((((([] : va_W) ++ shT G 5 12 q1 a2) ++ shT G 5 12 q3 a4) ++ [(q5, .inl (G.2.2.1 2, 8, .inr (.inr (.inr (.inr (va_up (va_up (va_up (va_up (va_up (va_up (va_up (va_up (fun _ => none) 0 (some (q6))) 1 (some (q8))) 2 (some (q10))) 3 (some (q12))) 4 (some (q14))) 5 (some (q16))) 6 (some (q18))) 7 (some (q20))))))))]) ++ shA q6 a7) ++ shA q8 a9) ++ shA q10 a11) ++ shA q12 a13) ++ shA q14 a15) ++ shA q16 a17) ++ shA q18 a19) ++ shA q20 a21)) dX1_init_55 rfl rfl rfl rfl rfl (by decide) (by decide) rfl ?_
  refine nw_iinc (z := 7) (z' := 8) 0 [(1, .int (iV 8)), (0, .ref h0)] dX1_init_56 rfl (by decide) (by decide) rfl ?_
  refine nw_goto 37 dX1_init_59 (by decide) ?_
  refine nw_iload 0 dX1_init_37 rfl ?_
  refine nw_bipush dX1_init_38 (by decide +kernel) ?_
  refine nw_geT 62 dX1_init_40 (by decide) (by decide +kernel) ?_
  refine nw_aload 1 dX1_init_62 rfl ?_
  refine nw_iconst dX1_init_63 ?_
  refine nw_put 0 ((h0, .inr (1, [.ref q1, .ref q3, .ref q5, .int (iV 0), .int (iV 0)])) :: (((((((((((([] : va_W) ++ shT G 5 12 q1 a2) ++ shT G 5 12 q3 a4) ++ [(q5, .inl (G.2.2.1 2, 8, .inr (.inr (.inr (.inr (va_up (va_up (va_up (va_up (va_up (va_up (va_up (va_up (fun _ => none) 0 (some (q6))) 1 (some (q8))) 2 (some (q10))) 3 (some (q12))) 4 (some (q14))) 5 (some (q16))) 6 (some (q18))) 7 (some (q20))))))))]) ++ shA q6 a7) ++ shA q8 a9) ++ shA q10 a11) ++ shA q12 a13) ++ shA q14 a15) ++ shA q16 a17) ++ shA q18 a19) ++ shA q20 a21)) dX1_init_64 np_X1_28 rfl (by first | rfl | decide +kernel) (by first | rfl | decide +kernel) rfl (Nat.le_of_ble_eq_true rfl) rfl ?_
  refine nw_aload 1 dX1_init_67 rfl ?_
  refine nw_iconst dX1_init_68 ?_
  refine nw_put 0 ((h0, .inr (1, [.ref q1, .ref q3, .ref q5, .int (iV 0), .int (iV 0)])) :: (((((((((((([] : va_W) ++ shT G 5 12 q1 a2) ++ shT G 5 12 q3 a4) ++ [(q5, .inl (G.2.2.1 2, 8, .inr (.inr (.inr (.inr (va_up (va_up (va_up (va_up (va_up (va_up (va_up (va_up (fun _ => none) 0 (some (q6))) 1 (some (q8))) 2 (some (q10))) 3 (some (q12))) 4 (some (q14))) 5 (some (q16))) 6 (some (q18))) 7 (some (q20))))))))]) ++ shA q6 a7) ++ shA q8 a9) ++ shA q10 a11) ++ shA q12 a13) ++ shA q14 a15) ++ shA q16 a17) ++ shA q18 a19) ++ shA q20 a21)) dX1_init_69 np_X1_32 rfl (by first | rfl | decide +kernel) (by first | rfl | decide +kernel) rfl (Nat.le_of_ble_eq_true rfl) rfl ?_
  refine nw_refs 5 (fun j => some ((fun i => ([h0, q1, a2, q3, a4, q5, q6, q8, q10, q12, q14, q16, q18, q20] : List Nat).getD i 0) (6 + j))) ((h0, .inr (1, [.ref q1, .ref q3, .ref q5, .int (iV 0), .int (iV 0)])) :: (((((((((((([] : va_W) ++ shT G 5 12 q1 a2) ++ shT G 5 12 q3 a4) ++ [(q5, .inl (G.2.2.1 2, 8, .inr (.inr (.inr (.inr (fun j => some ((fun i => ([h0, q1, a2, q3, a4, q5, q6, q8, q10, q12, q14, q16, q18, q20] : List Nat).getD i 0) (6 + j))))))))]) ++ shA q6 a7) ++ shA q8 a9) ++ shA q10 a11) ++ shA q12 a13) ++ shA q14 a15) ++ shA q16 a17) ++ shA q18 a19) ++ shA q20 a21)) rfl (fun j hj => by rcases (show j = 0 ∨ j = 1 ∨ j = 2 ∨ j = 3 ∨ j = 4 ∨ j = 5 ∨ j = 6 ∨ j = 7 by omega) with rfl | rfl | rfl | rfl | rfl | rfl | rfl | rfl <;> rfl) rfl ?_
  exact hend _ _ (fun i => ([h0, q1, a2, q3, a4, q5, q6, q8, q10, q12, q14, q16, q18, q20] : List Nat).getD i 0) _ _ dX1_init_72 (by decide) (by decide)

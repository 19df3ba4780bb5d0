theorem no_X6 : Cond.methodLink RX6 1 Lib.objectInit ∈ mTb := mTb_in (List.mem_of_getElem? (i := 83) (by decide +kernel)) rfl
theorem nn_X6_7 : nN RX6 7 1 5 zf1 := ⟨RX1, TX1, tyX1, rfl, inX1, tyX1_ok, zd1, mTb_in (List.mem_of_getElem? (i := 86) (by decide +kernel)) rfl, mTb_in (List.mem_of_getElem? (i := 87) (by decide +kernel)) rfl, mTb_in (List.mem_of_getElem? (i := 64) (by decide +kernel)) rfl⟩
theorem nk_X1_init : nI_ yX1_init cX1_init 2 0 := ⟨mTb_in (List.mem_of_getElem? (i := 89) (by decide +kernel)) rfl, mTb_in (List.mem_of_getElem? (i := 64) (by decide +kernel)) rfl, mTb_in (List.mem_of_getElem? (i := 90) (by decide +kernel)) rfl, rfl, by decide +kernel, by decide +kernel, by decide +kernel⟩
theorem np_X6_10 : nP RX6 10 6 0 true (tyX6 0) := ⟨RX6, TX6, 8, kcX6, by decide, mTb_in (List.mem_of_getElem? (i := 221) (by decide +kernel)) rfl, rfl, rfl, by decide +kernel⟩
theorem np_X6_16 : nP RX6 16 6 1 true (tyX6 1) := ⟨RX6, TX6, 8, kcX6, by decide, mTb_in (List.mem_of_getElem? (i := 222) (by decide +kernel)) rfl, rfl, rfl, by decide +kernel⟩
theorem np_X6_19 : nP RX6 19 6 2 false .boolean := ⟨RX6, TX6, 8, kcX6, by decide, mTb_in (List.mem_of_getElem? (i := 223) (by decide +kernel)) rfl, rfl, rfl, by decide +kernel⟩
theorem np_X6_23 : nP RX6 23 6 3 true (tyX6 3) := ⟨RX6, TX6, 8, kcX6, by decide, mTb_in (List.mem_of_getElem? (i := 224) (by decide +kernel)) rfl, rfl, rfl, by decide +kernel⟩
theorem nn_X6_26 : nN RX6 26 4 2 zf4 := ⟨RX4, TX4, tyX4, rfl, inX4, tyX4_ok, zd4, mTb_in (List.mem_of_getElem? (i := 163) (by decide +kernel)) rfl, mTb_in (List.mem_of_getElem? (i := 164) (by decide +kernel)) rfl, mTb_in (List.mem_of_getElem? (i := 67) (by decide +kernel)) rfl⟩
theorem nk_X4_init : nI_ yX4_init cX4_init 1 0 := ⟨mTb_in (List.mem_of_getElem? (i := 166) (by decide +kernel)) rfl, mTb_in (List.mem_of_getElem? (i := 67) (by decide +kernel)) rfl, mTb_in (List.mem_of_getElem? (i := 167) (by decide +kernel)) rfl, rfl, by decide +kernel, by decide +kernel, by decide +kernel⟩
theorem np_X6_29 : nP RX6 29 6 4 true (tyX6 4) := ⟨RX6, TX6, 8, kcX6, by decide, mTb_in (List.mem_of_getElem? (i := 225) (by decide +kernel)) rfl, rfl, rfl, by decide +kernel⟩
theorem nn_X6_33 : nN RX6 33 2 5 zf2 := ⟨RX2, TX2, tyX2, rfl, inX2, tyX2_ok, zd2, mTb_in (List.mem_of_getElem? (i := 178) (by decide +kernel)) rfl, mTb_in (List.mem_of_getElem? (i := 179) (by decide +kernel)) rfl, mTb_in (List.mem_of_getElem? (i := 68) (by decide +kernel)) rfl⟩
theorem nk_X2_init : nI_ yX2_init cX2_init 2 1 := ⟨mTb_in (List.mem_of_getElem? (i := 181) (by decide +kernel)) rfl, mTb_in (List.mem_of_getElem? (i := 68) (by decide +kernel)) rfl, mTb_in (List.mem_of_getElem? (i := 182) (by decide +kernel)) rfl, rfl, by decide +kernel, by decide +kernel, by decide +kernel⟩
theorem np_X6_38 : nP RX6 38 6 5 true (tyX6 5) := ⟨RX6, TX6, 8, kcX6, by decide, mTb_in (List.mem_of_getElem? (i := 226) (by decide +kernel)) rfl, rfl, rfl, by decide +kernel⟩
theorem nc_X6_42 : Cond.classLink RX6 42 RX3 ∈ mTb := mTb_in (List.mem_of_getElem? (i := 200) (by decide +kernel)) rfl
theorem np_X6_44 : nP RX6 44 6 6 true (tyX6 6) := ⟨RX6, TX6, 8, kcX6, by decide, mTb_in (List.mem_of_getElem? (i := 227) (by decide +kernel)) rfl, rfl, rfl, by decide +kernel⟩
theorem nn_X6_42 : nN RX6 42 3 3 zf3 := ⟨RX3, TX3, tyX3, rfl, inX3, tyX3_ok, zd3, mTb_in (List.mem_of_getElem? (i := 200) (by decide +kernel)) rfl, mTb_in (List.mem_of_getElem? (i := 202) (by decide +kernel)) rfl, mTb_in (List.mem_of_getElem? (i := 69) (by decide +kernel)) rfl⟩
theorem nk_X3_init : nI_ yX3_init cX3_init 1 0 := ⟨mTb_in (List.mem_of_getElem? (i := 204) (by decide +kernel)) rfl, mTb_in (List.mem_of_getElem? (i := 69) (by decide +kernel)) rfl, mTb_in (List.mem_of_getElem? (i := 205) (by decide +kernel)) rfl, rfl, by decide +kernel, by decide +kernel, by decide +kernel⟩
theorem np_X6_49 : nP RX6 49 6 7 true (tyX6 7) := ⟨RX6, TX6, 8, kcX6, by decide, mTb_in (List.mem_of_getElem? (i := 228) (by decide +kernel)) rfl, rfl, rfl, by decide +kernel⟩
set_option maxHeartbeats 4000000 in
set_option maxRecDepth 100000 in
theorem n_X6_init {G : mG} (h0 : Nat) : nM G yX6_init cX6_init 2 3 55 553 [.ref h0] [(h0, .inr (6, zf6))] (Nat → Nat → Nat) (shX G h0) := by
  refine nM.of (by decide +kernel) (Nat.le_of_ble_eq_true rfl) ?_
  intro X A Q hend
  refine nw_aload 0 dX6_init_0 rfl ?_
  refine nw_obj dX6_init_1 no_X6 (by decide) (by decide) ?_
  refine nw_aload 0 dX6_init_4 rfl ?_
  refine nw_new dX6_init_5 nn_X6_7 (by decide) (by decide) (fun q1 => ?_)
  refine nw_dup dX6_init_8 rfl ?_
  refine nw_init (as := []) dX6_init_9 ml_X6_9 nk_X1_init (by decide) (n_X1_init q1) rfl rfl (Nat.le_of_ble_eq_true rfl) ⟨by decide, by decide⟩ (fun a2 => ?_)
  refine nw_put 0 ((h0, .inr (6, [.ref q1, .null, .int (iV 0), .null, .null, .null, .null, .null])) :: (([] : va_W) ++ shF G q1 a2)) dX6_init_12 np_X6_10 rfl (by first | rfl | decide +kernel) (by first | rfl | decide +kernel) rfl (Nat.le_of_ble_eq_true rfl) rfl ?_
  refine nw_aload 0 dX6_init_15 rfl ?_
  refine nw_new dX6_init_16 nn_X6_7 (by decide) (by decide) (fun q3 => ?_)
  refine nw_dup dX6_init_19 rfl ?_
  refine nw_init (as := []) dX6_init_20 ml_X6_9 nk_X1_init (by decide) (n_X1_init q3) rfl rfl (Nat.le_of_ble_eq_true rfl) ⟨by decide, by decide⟩ (fun a4 => ?_)
  refine nw_put 0 ((h0, .inr (6, [.ref q1, .ref q3, .int (iV 0), .null, .null, .null, .null, .null])) :: ((([] : va_W) ++ shF G q1 a2) ++ shF G q3 a4)) dX6_init_23 np_X6_16 rfl (by first | rfl | decide +kernel) (by first | rfl | decide +kernel) rfl (Nat.le_of_ble_eq_true rfl) rfl ?_
  refine nw_aload 0 dX6_init_26 rfl ?_
  refine nw_iconst dX6_init_27 ?_
  refine nw_put 0 ((h0, .inr (6, [.ref q1, .ref q3, .int (iV 0), .null, .null, .null, .null, .null])) :: ((([] : va_W) ++ shF G q1 a2) ++ shF G q3 a4)) dX6_init_28 np_X6_19 rfl (by first | rfl | decide +kernel) (by first | rfl | decide +kernel) rfl (Nat.le_of_ble_eq_true rfl) rfl ?_
  refine nw_aload 0 dX6_init_31 rfl ?_
  refine nw_new dX6_init_32 nn_X6_7 (by decide) (by decide) (fun q5 => ?_)
  refine nw_dup dX6_init_35 rfl ?_
  refine nw_init (as := []) dX6_init_36 ml_X6_9 nk_X1_init (by decide) (n_X1_init q5) rfl rfl (Nat.le_of_ble_eq_true rfl) ⟨by decide, by decide⟩ (fun a6 => ?_)
  refine nw_put 0 ((h0, .inr (6, [.ref q1, .ref q3, .int (iV 0), .ref q5, .null, .null, .null, .null])) :: (((([] : va_W) ++ shF G q1 a2) ++ shF G q3 a4) ++ shF G q5 a6)) dX6_init_39 np_X6_23 rfl (by first | rfl | decide +kernel) (by first | rfl | decide +kernel) rfl (Nat.le_of_ble_eq_true rfl) rfl ?_
  refine nw_aload 0 dX6_init_42 rfl ?_
  refine nw_new dX6_init_43 nn_X6_26 (by decide) (by decide) (fun q7 => ?_)
  refine nw_dup dX6_init_46 rfl ?_
  refine nw_init (as := []) dX6_init_47 ml_X6_28 nk_X4_init (by decide) (n_X4_init q7) rfl rfl (Nat.le_of_ble_eq_true rfl) ⟨by decide, by decide⟩ (fun a8 => ?_)
  refine nw_put 0 ((h0, .inr (6, [.ref q1, .ref q3, .int (iV 0), .ref q5, .ref q7, .null, .null, .null])) :: ((((([] : va_W) ++ shF G q1 a2) ++ shF G q3 a4) ++ shF G q5 a6) ++ shT G 4 120 q7 a8)) dX6_init_50 np_X6_29 rfl (by first | rfl | decide +kernel) (by first | rfl | decide +kernel) rfl (Nat.le_of_ble_eq_true rfl) rfl ?_
  refine nw_aload 0 dX6_init_53 rfl ?_
  refine nw_new dX6_init_54 nn_X6_33 (by decide) (by decide) (fun q9 => ?_)
  refine nw_dup dX6_init_57 rfl ?_
  refine nw_aload 0 dX6_init_58 rfl ?_
  refine nw_get 0 dX6_init_59 gs_X6_29 rfl rfl ?_
  refine nw_init (as := [.ref q7]) dX6_init_62 ml_X6_35 nk_X2_init (by decide) (n_X2_init q9 q7) rfl rfl (Nat.le_of_ble_eq_true rfl) ⟨by decide, by decide⟩ (fun a10 => ?_)
  refine nw_put 0 ((h0, .inr (6, [.ref q1, .ref q3, .int (iV 0), .ref q5, .ref q7, .ref q9, .null, .null])) :: (((((([] : va_W) ++ shF G q1 a2) ++ shF G q3 a4) ++ shF G q5 a6) ++ shT G 4 120 q7 a8) ++ shC q9 q7 a10)) dX6_init_65 np_X6_38 rfl (by first | rfl | decide +kernel) (by first | rfl | decide +kernel) rfl (Nat.le_of_ble_eq_true rfl) rfl ?_
  refine nw_aload 0 dX6_init_68 rfl ?_
  refine nw_iconst dX6_init_69 ?_
  refine nw_newQ 4 3 dX6_init_70 nc_X6_42 (fun s h => h.2.2.2.1) rfl rfl (by decide) (by decide) (by decide) (fun q11 => ?_)
  refine nw_put 0 ((h0, .inr (6, [.ref q1, .ref q3, .int (iV 0), .ref q5, .ref q7, .ref q9, .ref q11, .null])) :: ((((((([] : va_W) ++ shF G q1 a2) ++ shF G q3 a4) ++ shF G q5 a6) ++ shT G 4 120 q7 a8) ++ shC q9 q7 a10) ++ [(q11, .inl (G.2.2.1 3, 4, .inr (.inr (.inr (.inr (fun _ => none))))))])) dX6_init_73 np_X6_44 rfl (by first | rfl | decide +kernel) (by first | rfl | decide +kernel) rfl (Nat.le_of_ble_eq_true rfl) rfl ?_
  refine nw_iconst dX6_init_76 ?_
  refine nw_istore [(1, .int (iV 0)), (0, .ref h0)] dX6_init_77 (by decide) rfl ?_
  refine nw_iload 0 dX6_init_78 rfl ?_
  refine nw_iconst dX6_init_79 ?_
  refine nw_geN 102 dX6_init_80 (by decide) (by decide +kernel) ?_
  refine nw_aload 1 dX6_init_83 rfl ?_
  refine nw_get 0 dX6_init_84 gs_X6_44 rfl rfl ?_
  refine nw_iload 0 dX6_init_87 rfl ?_
  refine nw_new dX6_init_88 nn_X6_42 (by decide) (by decide) (fun q12 => ?_)
  refine nw_dup dX6_init_91 rfl ?_
  refine nw_init (as := []) dX6_init_92 ml_X6_48 nk_X3_init (by decide) (n_X3_init q12) rfl rfl (Nat.le_of_ble_eq_true rfl) ⟨by decide, by decide⟩ (fun a13 => ?_)
  refine nw_astQ (r := (RX3, TX3, 3)) 46 3 47 3 0 ((h0, .inr (6, [.ref q1, .ref q3, .int (iV 0), .ref q5, .ref q7, .ref q9, .ref q11, .null])) :: (((((((([] : va_W) ++ shF G q1 a2) ++ shF G q3 a4) ++ shF G q5 a6) ++ shT G 4 120 q7 a8) ++ shC q9 q7 a10) ++ [(q11, .inl (G.2.2.1 3, 4, .inr (.inr (.inr (.inr (va_up (fun _ => none) 0 (some (q12))))))))]) ++ shS G q12 a13)) dX6_init_95 rfl rfl rfl rfl rfl (by decide) (by decide) rfl ?_
  refine nw_iinc (z := 0) (z' := 1) 0 [(1, .int (iV 1)), (0, .ref h0)] dX6_init_96 rfl (by decide) (by decide) rfl ?_
  refine nw_goto 78 dX6_init_99 (by decide) ?_
  refine nw_iload 0 dX6_init_78 rfl ?_
  refine nw_iconst dX6_init_79 ?_
  refine nw_geN 102 dX6_init_80 (by decide) (by decide +kernel) ?_
  refine nw_aload 1 dX6_init_83 rfl ?_
  refine nw_get 0 dX6_init_84 gs_X6_44 rfl rfl ?_
  refine nw_iload 0 dX6_init_87 rfl ?_
  refine nw_new dX6_init_88 nn_X6_42 (by decide) (by decide) (fun q14 => ?_)
  refine nw_dup dX6_init_91 rfl ?_
  refine nw_init (as := []) dX6_init_92 ml_X6_48 nk_X3_init (by decide) (n_X3_init q14) rfl rfl (Nat.le_of_ble_eq_true rfl) ⟨by decide, by decide⟩ (fun a15 => ?_)
  refine nw_astQ (r := (RX3, TX3, 3)) 46 3 49 3 1 ((h0, .inr (6, [.ref q1, .ref q3, .int (iV 0), .ref q5, .ref q7, .ref q9, .ref q11, .null])) :: ((((((((([] : va_W) ++ shF G q1 a2) ++ shF G q3 a4) ++ shF G q5 a6) ++ shT G 4 120 q7 a8) ++ shC q9 q7 a10) ++ [(q11, .inl (G.2.2.1 3, 4, .inr (.inr (.inr (.inr (va_up (va_up (fun _ => none) 0 (some (q12))) 1 (some (q14))))))))]) ++ shS G q12 a13) ++ shS G q14 a15)) dX6_init_95 rfl rfl rfl rfl rfl (by decide) (by decide) rfl ?_
  refine nw_iinc (z := 1) (z' := 2) 0 [(1, .int (iV 2)), (0, .ref h0)] dX6_init_96 rfl (by decide) (by decide) rfl ?_
  refine nw_goto 78 dX6_init_99 (by decide) ?_
  refine nw_iload 0 dX6_init_78 rfl ?_
  refine nw_iconst dX6_init_79 ?_
  refine nw_geN 102 dX6_init_80 (by decide) (by decide +kernel) ?_
  refine nw_aload 1 dX6_init_83 rfl ?_
  refine nw_get 0 dX6_init_84 gs_X6_44 rfl rfl ?_
  refine nw_iload 0 dX6_init_87 rfl ?_
  refine nw_new dX6_init_88 nn_X6_42 (by decide) (by decide) (fun q16 => ?_)
  refine nw_dup dX6_init_91 rfl ?_
  refine nw_init (as := []) dX6_init_92 ml_X6_48 nk_X3_init (by decide) (n_X3_init q16) rfl rfl (Nat.le_of_ble_eq_true rfl) ⟨by decide, by decide⟩ (fun a17 => ?_)
  refine nw_astQ (r := (RX3, TX3, 3)) 46 3 51 3 2 ((h0, .inr (6, [.ref q1, .ref q3, .int (iV 0), .ref q5, .ref q7, .ref q9, .ref q11, .null])) :: (((((((((([] : va_W) ++ shF G q1 a2) ++ shF G q3 a4) ++ shF G q5 a6) ++ shT G 4 120 q7 a8) ++ shC q9 q7 a10) ++ [(q11, .inl (G.2.2.1 3, 4, .inr (.inr (.inr (.inr (va_up (va_up (va_up (fun _ => none) 0 (some (q12))) 1 (some (q14))) 2 (some (q16))))))))]) ++ shS G q12 a13) ++ shS G q14 a15) ++ shS G q16 a17)) dX6_init_95 rfl rfl rfl rfl rfl (by decide) (by decide) rfl ?_
  refine nw_iinc (z := 2) (z' := 3) 0 [(1, .int (iV 3)), (0, .ref h0)] dX6_init_96 rfl (by decide) (by decide) rfl ?_
  refine nw_goto 78 dX6_init_99 (by decide) ?_
  refine nw_iload 0 dX6_init_78 rfl ?_
  refine nw_iconst dX6_init_79 ?_
  refine nw_geN 102 dX6_init_80 (by decide) (by decide +kernel) ?_
  refine nw_aload 1 dX6_init_83 rfl ?_
  refine nw_get 0 dX6_init_84 gs_X6_44 rfl rfl ?_
  refine nw_iload 0 dX6_init_87 rfl ?_
  refine nw_new dX6_init_88 nn_X6_42 (by decide) (by decide) (fun q18 => ?_)
  refine nw_dup dX6_init_91 rfl ?_
  refine nw_init (as := []) dX6_init_92 ml_X6_48 nk_X3_init (by decide) (n_X3_init q18) rfl rfl (Nat.le_of_ble_eq_true rfl) ⟨by decide, by decide⟩ (fun a19 => ?_)
  refine nw_astQ (r := (RX3, TX3, 3)) 46 3 53 3 3 ((h0, .inr (6, [.ref q1, .ref q3, .int (iV 0), .ref q5, .ref q7, .ref q9, .ref q11, .null])) :: ((((((((((([] : va_W) ++ shF G q1 a2) ++ shF G q3 a4) ++ shF G q5 a6) ++ shT G 4 120 q7 a8) ++ shC q9 q7 a10) ++ [(q11, .inl (G.2.2.1 3, 4, .inr (.inr (.inr (.inr (va_up (va_up (va_up (va_up (fun _ => none) 0 (some (q12))) 1 (some (q14))) 2 (some (q16))) 3 (some (q18))))))))]) ++ shS G q12 a13) ++ shS G q14 a15) ++ shS G q16 a17) ++ shS G q18 a19)) dX6_init_95 rfl rfl rfl rfl rfl (by decide) (by decide) rfl ?_
  refine nw_iinc (z := 3) (z' := 4) 0 [(1, .int (iV 4)), (0, .ref h0)] dX6_init_96 rfl (by decide) (by decide) rfl ?_
  refine nw_goto 78 dX6_init_99 (by decide) ?_
  refine nw_iload 0 dX6_init_78 rfl ?_
  refine nw_iconst dX6_init_79 ?_
  refine nw_geT 102 dX6_init_80 (by decide) (by decide +kernel) ?_
  refine nw_aload 1 dX6_init_102 rfl ?_
  refine nw_bipush dX6_init_103 (by decide +kernel) ?_
  refine nw_newI 7 dX6_init_105 rfl (by decide) (by decide) (by decide) (fun q20 => ?_)
  refine nw_put 0 ((h0, .inr (6, [.ref q1, .ref q3, .int (iV 0), .ref q5, .ref q7, .ref q9, .ref q11, .ref q20])) :: (((((((((((([] : va_W) ++ shF G q1 a2) ++ shF G q3 a4) ++ shF G q5 a6) ++ shT G 4 120 q7 a8) ++ shC q9 q7 a10) ++ [(q11, .inl (G.2.2.1 3, 4, .inr (.inr (.inr (.inr (va_up (va_up (va_up (va_up (fun _ => none) 0 (some (q12))) 1 (some (q14))) 2 (some (q16))) 3 (some (q18))))))))]) ++ shS G q12 a13) ++ shS G q14 a15) ++ shS G q16 a17) ++ shS G q18 a19) ++ [(q20, .inl (G.2.2.1 0, 7, .inl (fun _ => iV 0)))])) dX6_init_107 np_X6_49 rfl (by first | rfl | decide +kernel) (by first | rfl | decide +kernel) rfl (Nat.le_of_ble_eq_true rfl) rfl ?_
  refine nw_refs 46 (fun j => some ((fun i => ([fun j => ([h0, q1, q3, q5, q7, a8, q9, q11, q12, a13, q14, a15, q16, a17, q18, a19, q20] : List Nat).getD j 0, a2, a4, a6] : List (Nat → Nat)).getD i (fun _ => 0)) 0 (8 + 2 * j))) ((h0, .inr (6, [.ref q1, .ref q3, .int (iV 0), .ref q5, .ref q7, .ref q9, .ref q11, .ref q20])) :: (((((((((((([] : va_W) ++ shF G q1 a2) ++ shF G q3 a4) ++ shF G q5 a6) ++ shT G 4 120 q7 a8) ++ shC q9 q7 a10) ++ [(q11, .inl (G.2.2.1 3, 4, .inr (.inr (.inr (.inr (fun j => some ((fun i => ([fun j => ([h0, q1, q3, q5, q7, a8, q9, q11, q12, a13, q14, a15, q16, a17, q18, a19, q20] : List Nat).getD j 0, a2, a4, a6] : List (Nat → Nat)).getD i (fun _ => 0)) 0 (8 + 2 * j))))))))]) ++ shS G q12 a13) ++ shS G q14 a15) ++ shS G q16 a17) ++ shS G q18 a19) ++ [(q20, .inl (G.2.2.1 0, 7, .inl (fun _ => iV 0)))])) rfl (fun j hj => by rcases (show j = 0 ∨ j = 1 ∨ j = 2 ∨ j = 3 by omega) with rfl | rfl | rfl | rfl <;> rfl) rfl ?_
  exact hend _ _ (fun i => ([fun j => ([h0, q1, q3, q5, q7, a8, q9, q11, q12, a13, q14, a15, q16, a17, q18, a19, q20] : List Nat).getD j 0, a2, a4, a6] : List (Nat → Nat)).getD i (fun _ => 0)) _ _ dX6_init_110 (by decide) (by decide)

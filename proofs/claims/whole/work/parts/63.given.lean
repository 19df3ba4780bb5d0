/-! ===== what the start gives: classes, array classes, texts, the three statics ===== -/
def gT (i : Nat) : Term := .string "FugueNotes$Scribe" (([102, 92, 94, 96, 98, 100, 78, 80, 82, 35] : List Nat).getD i 0)
def gFl : List Cond := flatC (Jvm.Cond.and given_1 narrow_1)
theorem g_ln : ∀ i : Nat, i < 10 → sLen.getD i 0 < 2 ^ 31 := by decide +kernel
theorem g_ex : ∀ i : Nat, i < 10 → Cond.exactly (gT i) "java/lang/String" ∈ gFl := by decide +kernel
theorem g_co : ∀ i : Nat, i < 10 → Cond.eq (.field (gT i) "java/lang/String" "coder" "B") (.int 0) ∈ gFl := by decide +kernel
theorem g_ar : ∀ i : Nat, i < 10 → Cond.arrayOf (.field (gT i) "java/lang/String" "value" "[B") .byte ∈ gFl := by decide +kernel
theorem g_le : ∀ i : Nat, i < 10 → Cond.eq (.length (.field (gT i) "java/lang/String" "value" "[B")) (.int (Int32.ofNat (sLen.getD i 0))) ∈ gFl := by decide +kernel
theorem g_el : ∀ i : Nat, i < 10 → ∀ j : Nat, j < sLen.getD i 0 → Cond.eq (.elem (.field (gT i) "java/lang/String" "value" "[B") (.int (Int32.ofNat j))) (.int ((sByt.getD i []).getD j 0)) ∈ gFl := by decide +kernel
theorem g_ne_0_1 : Cond.not (Cond.eq (gT 1) (gT 0)) ∈ gFl := List.mem_of_getElem? (i := 114) (by decide +kernel)
theorem g_ne_0_2 : Cond.not (Cond.eq (gT 2) (gT 0)) ∈ gFl := List.mem_of_getElem? (i := 115) (by decide +kernel)
theorem g_ne_0_3 : Cond.not (Cond.eq (gT 3) (gT 0)) ∈ gFl := List.mem_of_getElem? (i := 116) (by decide +kernel)
theorem g_ne_0_4 : Cond.not (Cond.eq (gT 4) (gT 0)) ∈ gFl := List.mem_of_getElem? (i := 117) (by decide +kernel)
theorem g_ne_0_5 : Cond.not (Cond.eq (gT 5) (gT 0)) ∈ gFl := List.mem_of_getElem? (i := 118) (by decide +kernel)
theorem g_ne_0_6 : Cond.not (Cond.eq (gT 0) (gT 6)) ∈ gFl := List.mem_of_getElem? (i := 131) (by decide +kernel)
theorem g_ne_0_7 : Cond.not (Cond.eq (gT 0) (gT 7)) ∈ gFl := List.mem_of_getElem? (i := 145) (by decide +kernel)
theorem g_ne_0_8 : Cond.not (Cond.eq (gT 0) (gT 8)) ∈ gFl := List.mem_of_getElem? (i := 161) (by decide +kernel)
theorem g_ne_0_9 : Cond.not (Cond.eq (gT 9) (gT 0)) ∈ gFl := List.mem_of_getElem? (i := 113) (by decide +kernel)
theorem g_ne_1_2 : Cond.not (Cond.eq (gT 1) (gT 2)) ∈ gFl := List.mem_of_getElem? (i := 62) (by decide +kernel)
theorem g_ne_1_3 : Cond.not (Cond.eq (gT 1) (gT 3)) ∈ gFl := List.mem_of_getElem? (i := 73) (by decide +kernel)
theorem g_ne_1_4 : Cond.not (Cond.eq (gT 1) (gT 4)) ∈ gFl := List.mem_of_getElem? (i := 85) (by decide +kernel)
theorem g_ne_1_5 : Cond.not (Cond.eq (gT 1) (gT 5)) ∈ gFl := List.mem_of_getElem? (i := 98) (by decide +kernel)
theorem g_ne_1_6 : Cond.not (Cond.eq (gT 1) (gT 6)) ∈ gFl := List.mem_of_getElem? (i := 126) (by decide +kernel)
theorem g_ne_1_7 : Cond.not (Cond.eq (gT 1) (gT 7)) ∈ gFl := List.mem_of_getElem? (i := 140) (by decide +kernel)
theorem g_ne_1_8 : Cond.not (Cond.eq (gT 1) (gT 8)) ∈ gFl := List.mem_of_getElem? (i := 156) (by decide +kernel)
theorem g_ne_1_9 : Cond.not (Cond.eq (gT 9) (gT 1)) ∈ gFl := List.mem_of_getElem? (i := 52) (by decide +kernel)
theorem g_ne_2_3 : Cond.not (Cond.eq (gT 2) (gT 3)) ∈ gFl := List.mem_of_getElem? (i := 74) (by decide +kernel)
theorem g_ne_2_4 : Cond.not (Cond.eq (gT 2) (gT 4)) ∈ gFl := List.mem_of_getElem? (i := 86) (by decide +kernel)
theorem g_ne_2_5 : Cond.not (Cond.eq (gT 2) (gT 5)) ∈ gFl := List.mem_of_getElem? (i := 99) (by decide +kernel)
theorem g_ne_2_6 : Cond.not (Cond.eq (gT 2) (gT 6)) ∈ gFl := List.mem_of_getElem? (i := 127) (by decide +kernel)
theorem g_ne_2_7 : Cond.not (Cond.eq (gT 2) (gT 7)) ∈ gFl := List.mem_of_getElem? (i := 141) (by decide +kernel)
theorem g_ne_2_8 : Cond.not (Cond.eq (gT 2) (gT 8)) ∈ gFl := List.mem_of_getElem? (i := 157) (by decide +kernel)
theorem g_ne_2_9 : Cond.not (Cond.eq (gT 9) (gT 2)) ∈ gFl := List.mem_of_getElem? (i := 61) (by decide +kernel)
theorem g_ne_3_4 : Cond.not (Cond.eq (gT 3) (gT 4)) ∈ gFl := List.mem_of_getElem? (i := 87) (by decide +kernel)
theorem g_ne_3_5 : Cond.not (Cond.eq (gT 3) (gT 5)) ∈ gFl := List.mem_of_getElem? (i := 100) (by decide +kernel)
theorem g_ne_3_6 : Cond.not (Cond.eq (gT 3) (gT 6)) ∈ gFl := List.mem_of_getElem? (i := 128) (by decide +kernel)
theorem g_ne_3_7 : Cond.not (Cond.eq (gT 3) (gT 7)) ∈ gFl := List.mem_of_getElem? (i := 142) (by decide +kernel)
theorem g_ne_3_8 : Cond.not (Cond.eq (gT 3) (gT 8)) ∈ gFl := List.mem_of_getElem? (i := 158) (by decide +kernel)
theorem g_ne_3_9 : Cond.not (Cond.eq (gT 9) (gT 3)) ∈ gFl := List.mem_of_getElem? (i := 72) (by decide +kernel)
theorem g_ne_4_5 : Cond.not (Cond.eq (gT 4) (gT 5)) ∈ gFl := List.mem_of_getElem? (i := 101) (by decide +kernel)
theorem g_ne_4_6 : Cond.not (Cond.eq (gT 4) (gT 6)) ∈ gFl := List.mem_of_getElem? (i := 129) (by decide +kernel)
theorem g_ne_4_7 : Cond.not (Cond.eq (gT 4) (gT 7)) ∈ gFl := List.mem_of_getElem? (i := 143) (by decide +kernel)
theorem g_ne_4_8 : Cond.not (Cond.eq (gT 4) (gT 8)) ∈ gFl := List.mem_of_getElem? (i := 159) (by decide +kernel)
theorem g_ne_4_9 : Cond.not (Cond.eq (gT 9) (gT 4)) ∈ gFl := List.mem_of_getElem? (i := 84) (by decide +kernel)
theorem g_ne_5_6 : Cond.not (Cond.eq (gT 5) (gT 6)) ∈ gFl := List.mem_of_getElem? (i := 130) (by decide +kernel)
theorem g_ne_5_7 : Cond.not (Cond.eq (gT 5) (gT 7)) ∈ gFl := List.mem_of_getElem? (i := 144) (by decide +kernel)
theorem g_ne_5_8 : Cond.not (Cond.eq (gT 5) (gT 8)) ∈ gFl := List.mem_of_getElem? (i := 160) (by decide +kernel)
theorem g_ne_5_9 : Cond.not (Cond.eq (gT 9) (gT 5)) ∈ gFl := List.mem_of_getElem? (i := 97) (by decide +kernel)
theorem g_ne_6_7 : Cond.not (Cond.eq (gT 6) (gT 7)) ∈ gFl := List.mem_of_getElem? (i := 146) (by decide +kernel)
theorem g_ne_6_8 : Cond.not (Cond.eq (gT 6) (gT 8)) ∈ gFl := List.mem_of_getElem? (i := 162) (by decide +kernel)
theorem g_ne_6_9 : Cond.not (Cond.eq (gT 9) (gT 6)) ∈ gFl := List.mem_of_getElem? (i := 125) (by decide +kernel)
theorem g_ne_7_8 : Cond.not (Cond.eq (gT 7) (gT 8)) ∈ gFl := List.mem_of_getElem? (i := 163) (by decide +kernel)
theorem g_ne_7_9 : Cond.not (Cond.eq (gT 9) (gT 7)) ∈ gFl := List.mem_of_getElem? (i := 139) (by decide +kernel)
theorem g_ne_8_9 : Cond.not (Cond.eq (gT 9) (gT 8)) ∈ gFl := List.mem_of_getElem? (i := 155) (by decide +kernel)
theorem g_ne : ∀ i : Nat, i < 10 → ∀ j : Nat, j < 10 → i ≠ j → Cond.not (Cond.eq (gT i) (gT j)) ∈ gFl ∨ Cond.not (Cond.eq (gT j) (gT i)) ∈ gFl := by
  intro i hi j hj hij
  match i, hi, j, hj, hij with
  | 0, _, 0, _, h => exact absurd rfl h
  | 0, _, 1, _, _ => exact Or.inr g_ne_0_1
  | 0, _, 2, _, _ => exact Or.inr g_ne_0_2
  | 0, _, 3, _, _ => exact Or.inr g_ne_0_3
  | 0, _, 4, _, _ => exact Or.inr g_ne_0_4
  | 0, _, 5, _, _ => exact Or.inr g_ne_0_5
  | 0, _, 6, _, _ => exact Or.inl g_ne_0_6
  | 0, _, 7, _, _ => exact Or.inl g_ne_0_7
  | 0, _, 8, _, _ => exact Or.inl g_ne_0_8
  | 0, _, 9, _, _ => exact Or.inr g_ne_0_9
  | 1, _, 0, _, _ => exact Or.inl g_ne_0_1
  | 1, _, 1, _, h => exact absurd rfl h
  | 1, _, 2, _, _ => exact Or.inl g_ne_1_2
  | 1, _, 3, _, _ => exact Or.inl g_ne_1_3
  | 1, _, 4, _, _ => exact Or.inl g_ne_1_4
  | 1, _, 5, _, _ => exact Or.inl g_ne_1_5
  | 1, _, 6, _, _ => exact Or.inl g_ne_1_6
  | 1, _, 7, _, _ => exact Or.inl g_ne_1_7
  | 1, _, 8, _, _ => exact Or.inl g_ne_1_8
  | 1, _, 9, _, _ => exact Or.inr g_ne_1_9
  | 2, _, 0, _, _ => exact Or.inl g_ne_0_2
  | 2, _, 1, _, _ => exact Or.inr g_ne_1_2
  | 2, _, 2, _, h => exact absurd rfl h
  | 2, _, 3, _, _ => exact Or.inl g_ne_2_3
  | 2, _, 4, _, _ => exact Or.inl g_ne_2_4
  | 2, _, 5, _, _ => exact Or.inl g_ne_2_5
  | 2, _, 6, _, _ => exact Or.inl g_ne_2_6
  | 2, _, 7, _, _ => exact Or.inl g_ne_2_7
  | 2, _, 8, _, _ => exact Or.inl g_ne_2_8
  | 2, _, 9, _, _ => exact Or.inr g_ne_2_9
  | 3, _, 0, _, _ => exact Or.inl g_ne_0_3
  | 3, _, 1, _, _ => exact Or.inr g_ne_1_3
  | 3, _, 2, _, _ => exact Or.inr g_ne_2_3
  | 3, _, 3, _, h => exact absurd rfl h
  | 3, _, 4, _, _ => exact Or.inl g_ne_3_4
  | 3, _, 5, _, _ => exact Or.inl g_ne_3_5
  | 3, _, 6, _, _ => exact Or.inl g_ne_3_6
  | 3, _, 7, _, _ => exact Or.inl g_ne_3_7
  | 3, _, 8, _, _ => exact Or.inl g_ne_3_8
  | 3, _, 9, _, _ => exact Or.inr g_ne_3_9
  | 4, _, 0, _, _ => exact Or.inl g_ne_0_4
  | 4, _, 1, _, _ => exact Or.inr g_ne_1_4
  | 4, _, 2, _, _ => exact Or.inr g_ne_2_4
  | 4, _, 3, _, _ => exact Or.inr g_ne_3_4
  | 4, _, 4, _, h => exact absurd rfl h
  | 4, _, 5, _, _ => exact Or.inl g_ne_4_5
  | 4, _, 6, _, _ => exact Or.inl g_ne_4_6
  | 4, _, 7, _, _ => exact Or.inl g_ne_4_7
  | 4, _, 8, _, _ => exact Or.inl g_ne_4_8
  | 4, _, 9, _, _ => exact Or.inr g_ne_4_9
  | 5, _, 0, _, _ => exact Or.inl g_ne_0_5
  | 5, _, 1, _, _ => exact Or.inr g_ne_1_5
  | 5, _, 2, _, _ => exact Or.inr g_ne_2_5
  | 5, _, 3, _, _ => exact Or.inr g_ne_3_5
  | 5, _, 4, _, _ => exact Or.inr g_ne_4_5
  | 5, _, 5, _, h => exact absurd rfl h
  | 5, _, 6, _, _ => exact Or.inl g_ne_5_6
  | 5, _, 7, _, _ => exact Or.inl g_ne_5_7
  | 5, _, 8, _, _ => exact Or.inl g_ne_5_8
  | 5, _, 9, _, _ => exact Or.inr g_ne_5_9
  | 6, _, 0, _, _ => exact Or.inr g_ne_0_6
  | 6, _, 1, _, _ => exact Or.inr g_ne_1_6
  | 6, _, 2, _, _ => exact Or.inr g_ne_2_6
  | 6, _, 3, _, _ => exact Or.inr g_ne_3_6
  | 6, _, 4, _, _ => exact Or.inr g_ne_4_6
  | 6, _, 5, _, _ => exact Or.inr g_ne_5_6
  | 6, _, 6, _, h => exact absurd rfl h
  | 6, _, 7, _, _ => exact Or.inl g_ne_6_7
  | 6, _, 8, _, _ => exact Or.inl g_ne_6_8
  | 6, _, 9, _, _ => exact Or.inr g_ne_6_9
  | 7, _, 0, _, _ => exact Or.inr g_ne_0_7
  | 7, _, 1, _, _ => exact Or.inr g_ne_1_7
  | 7, _, 2, _, _ => exact Or.inr g_ne_2_7
  | 7, _, 3, _, _ => exact Or.inr g_ne_3_7
  | 7, _, 4, _, _ => exact Or.inr g_ne_4_7
  | 7, _, 5, _, _ => exact Or.inr g_ne_5_7
  | 7, _, 6, _, _ => exact Or.inr g_ne_6_7
  | 7, _, 7, _, h => exact absurd rfl h
  | 7, _, 8, _, _ => exact Or.inl g_ne_7_8
  | 7, _, 9, _, _ => exact Or.inr g_ne_7_9
  | 8, _, 0, _, _ => exact Or.inr g_ne_0_8
  | 8, _, 1, _, _ => exact Or.inr g_ne_1_8
  | 8, _, 2, _, _ => exact Or.inr g_ne_2_8
  | 8, _, 3, _, _ => exact Or.inr g_ne_3_8
  | 8, _, 4, _, _ => exact Or.inr g_ne_4_8
  | 8, _, 5, _, _ => exact Or.inr g_ne_5_8
  | 8, _, 6, _, _ => exact Or.inr g_ne_6_8
  | 8, _, 7, _, _ => exact Or.inr g_ne_7_8
  | 8, _, 8, _, h => exact absurd rfl h
  | 8, _, 9, _, _ => exact Or.inr g_ne_8_9
  | 9, _, 0, _, _ => exact Or.inl g_ne_0_9
  | 9, _, 1, _, _ => exact Or.inl g_ne_1_9
  | 9, _, 2, _, _ => exact Or.inl g_ne_2_9
  | 9, _, 3, _, _ => exact Or.inl g_ne_3_9
  | 9, _, 4, _, _ => exact Or.inl g_ne_4_9
  | 9, _, 5, _, _ => exact Or.inl g_ne_5_9
  | 9, _, 6, _, _ => exact Or.inl g_ne_6_9
  | 9, _, 7, _, _ => exact Or.inl g_ne_7_9
  | 9, _, 8, _, _ => exact Or.inl g_ne_8_9
  | 9, _, 9, _, h => exact absurd rfl h
  | i + 10, h, _, _, _ => exact absurd h (by omega)
  | _, _, j + 10, h, _ => exact absurd h (by omega)
theorem g_rf : ∀ q ∈ sRefs, q.2.2.2 < 10 ∧ Cond.stringRef q.1 q.2.1 q.2.2.1 ∈ lw_tbl ∧ (Term.string q.1 q.2.1 = gT q.2.2.2 ∨ Cond.eq (gT q.2.2.2) (Term.string q.1 q.2.1) ∈ gFl) := by decide +kernel
theorem g_ab : Cond.arrayOf (.static "FugueNotes" "ABOVE" "[I") .int ∈ gFl := by decide +kernel
theorem g_al : Cond.eq (.length (.static "FugueNotes" "ABOVE" "[I")) (.int (Int32.ofNat 6)) ∈ gFl := by decide +kernel
theorem g_ae : ∀ j : Nat, j < 6 → Cond.eq (.elem (.static "FugueNotes" "ABOVE" "[I") (.int (Int32.ofNat j))) (.int (sAbove.getD j 0)) ∈ gFl := by decide +kernel
theorem g_cs : Cond.eq (.static "java/lang/String" "COMPACT_STRINGS" "Z") (.int 1) ∈ gFl := by decide +kernel
theorem g_sf : Cond.isRef (.static "jdk/internal/util/Preconditions" "SIOOBE_FORMATTER" "Ljava/util/function/BiFunction;") ∈ gFl := by decide +kernel
theorem g_l1 : Cond.laysStatic "FugueNotes" "ABOVE" "[I" ∈ lw_tbl := List.mem_of_getElem? (i := 388) (by decide +kernel)
theorem g_l2 : Cond.laysStatic "java/lang/String" "COMPACT_STRINGS" "Z" ∈ lw_tbl := List.mem_of_getElem? (i := 601) (by decide +kernel)
theorem g_l3 : Cond.laysStatic "jdk/internal/util/Preconditions" "SIOOBE_FORMATTER" "Ljava/util/function/BiFunction;" ∈ lw_tbl := List.mem_of_getElem? (i := 617) (by decide +kernel)
theorem g_i1 : Cond.initialized "FugueNotes" ∈ lw_tbl := List.mem_of_getElem? (i := 63) (by decide +kernel)
theorem g_i2 : Cond.initialized "java/lang/String" ∈ lw_tbl := List.mem_of_getElem? (i := 73) (by decide +kernel)
theorem g_i3 : Cond.initialized "jdk/internal/util/Preconditions" ∈ lw_tbl := List.mem_of_getElem? (i := 75) (by decide +kernel)
theorem g_o1 : Cond.arrayOver (.object "FugueNotes$Attache") ∈ lw_tbl := List.mem_of_getElem? (i := 112) (by decide +kernel)
theorem g_o2 : Cond.arrayOver (.object "FugueNotes$Sheet") ∈ lw_tbl := List.mem_of_getElem? (i := 201) (by decide +kernel)
theorem g_o3 : Cond.arrayOver (.object "java/lang/String") ∈ lw_tbl := List.mem_of_getElem? (i := 781) (by decide +kernel)
theorem g_n0 : Cond.instantiable RX0 5 ∈ mTb := mTb_in (List.mem_of_getElem? (i := 113) (by decide +kernel)) rfl
theorem g_n1 : Cond.instantiable RX1 5 ∈ mTb := mTb_in (List.mem_of_getElem? (i := 87) (by decide +kernel)) rfl
theorem g_n2 : Cond.instantiable RX2 5 ∈ mTb := mTb_in (List.mem_of_getElem? (i := 179) (by decide +kernel)) rfl
theorem g_n3 : Cond.instantiable RX3 3 ∈ mTb := mTb_in (List.mem_of_getElem? (i := 202) (by decide +kernel)) rfl
theorem g_n4 : Cond.instantiable RX4 2 ∈ mTb := mTb_in (List.mem_of_getElem? (i := 164) (by decide +kernel)) rfl
theorem g_n5 : Cond.instantiable RX5 2 ∈ mTb := mTb_in (List.mem_of_getElem? (i := 93) (by decide +kernel)) rfl
theorem g_n6 : Cond.instantiable RX6 8 ∈ mTb := mTb_in (List.mem_of_getElem? (i := 79) (by decide +kernel)) rfl
theorem g_n7 : Cond.instantiable RX7 24 ∈ mTb := mTb_in (List.mem_of_getElem? (i := 775) (by decide +kernel)) rfl
theorem g_cls {args : Array Value} {s : State} (hts : ∀ w ∈ mTb, w.before args s = true) : ∃ D : va_G, ∀ (c : Nat) (q : vw_C), vwCl[c]? = some q → u_Kn s q.1 q.2.1 q.2.2 (D.1 c) (D.2 c) := by
  obtain ⟨c0, i0, k0⟩ := u_known (C := RX0) (T := TX0) (N := 5) hts inX0 (hts _ g_n0)
  obtain ⟨c1, i1, k1⟩ := u_known (C := RX1) (T := TX1) (N := 5) hts inX1 (hts _ g_n1)
  obtain ⟨c2, i2, k2⟩ := u_known (C := RX2) (T := TX2) (N := 5) hts inX2 (hts _ g_n2)
  obtain ⟨c3, i3, k3⟩ := u_known (C := RX3) (T := TX3) (N := 3) hts inX3 (hts _ g_n3)
  obtain ⟨c4, i4, k4⟩ := u_known (C := RX4) (T := TX4) (N := 2) hts inX4 (hts _ g_n4)
  obtain ⟨c5, i5, k5⟩ := u_known (C := RX5) (T := TX5) (N := 2) hts inX5 (hts _ g_n5)
  obtain ⟨c6, i6, k6⟩ := u_known (C := RX6) (T := TX6) (N := 8) hts inX6 (hts _ g_n6)
  obtain ⟨c7, i7, k7⟩ := u_known (C := RX7) (T := TX7) (N := 24) hts inX7 (hts _ g_n7)
  refine ⟨(fun k => ([c0, c1, c2, c3, c4, c5, c6, c7] : List ClassId).getD k c0, fun k => ([i0, i1, i2, i3, i4, i5, i6, i7] : List (Nat → Nat)).getD k i0), fun c q hq => ?_⟩
  match c, hq with
  | 0, hq => cases hq; exact k0
  | 1, hq => cases hq; exact k1
  | 2, hq => cases hq; exact k2
  | 3, hq => cases hq; exact k3
  | 4, hq => cases hq; exact k4
  | 5, hq => cases hq; exact k5
  | 6, hq => cases hq; exact k6
  | 7, hq => cases hq; exact k7
  | c + 8, hq => simp [vwCl] at hq
theorem g_arrP {args : Array Value} {s : State} {ty : FieldType} (h : (Cond.arrayClass ty).before args s = true) : ∃ cA : ClassId, ArrOfT s cA ty ∧ s.vm.findClass ("[" ++ ty.toString) = some cA := by
  obtain ⟨c, k, comp, h1, h2, h3⟩ := Cond.arrayClass_spec h
  exact ⟨c, fun n z => ⟨fun k h => (by cases h), k, h2, comp, h3⟩, h1⟩
theorem g_arrO {args : Array Value} {s : State} {C : String} (h : (Cond.arrayOver (.object C)).before args s = true) : ∃ cA : ClassId, ArrOfT s cA (.object C) ∧ va_RA s cA (.object C) := by
  obtain ⟨comp, c, k, h1, h2, h3, h4, h5⟩ := Cond.arrayOver_spec h
  exact ⟨c, fun n z => ⟨fun k h => (by cases h), k, h3, comp, h4⟩, k, comp, h3, h4, h1, h5⟩
theorem vk_S.congr {N : Nat} {len : List Nat} {byt : List (List Int32)} {adK adV adK' adV' : Nat → Nat} {A : Nat → Prop} {U : State} {H : Heap} (h : vk_S N len byt adK adV A U H) (h1 : ∀ i, i < N → adK' i = adK i) (h2 : ∀ i, i < N → adV' i = adV i) : vk_S N len byt adK' adV' A U H :=
  ⟨fun i hi => by rw [h1 i hi, h2 i hi]; exact h.1 i hi, fun i j hi hj e => h.2 i j hi hj (by rw [← h1 i hi, ← h1 j hj]; exact e)⟩
def gZ (g : Nat → Nat) (A : Nat → Prop) (s : State) : Prop := va_Z "FugueNotes" "ABOVE" "[I" (.ref (g 120)) A s s.heap ∧ va_T .int (g 120) 6 (fun j => .int (sAbove.getD j 0)) A s s.heap ∧ va_Z "java/lang/String" "COMPACT_STRINGS" "Z" (.int 1) A s s.heap ∧ (va_Z "jdk/internal/util/Preconditions" "SIOOBE_FORMATTER" "Ljava/util/function/BiFunction;" (.ref (g 121)) A s s.heap ∨ va_Z "jdk/internal/util/Preconditions" "SIOOBE_FORMATTER" "Ljava/util/function/BiFunction;" .null A s s.heap)
set_option maxHeartbeats 4000000 in
set_option maxRecDepth 100000 in
theorem lw_given {p : Program} {s : State} {m : MethodId} {meth : Method} {c : Code} {b L : Nat} {xs : Nat → Int32} (C0 : lw_At p s m meth c b L xs) : ∃ (D : va_G) (cA : Nat → ClassId) (g : Nat → Nat), (∀ l : Launch, nE (g, D, cA, fun _ => 0, l) (fun q : Nat => s.heap.size ≤ q) s) ∧ gZ g (fun q : Nat => s.heap.size ≤ q) s := by
  obtain ⟨hx, hb, hr, hml, hown, hts0, hX, hbl, hlocks, hgv⟩ := id C0
  have hts := lw_mTb hts0
  have hfl : ∀ w ∈ gFl, w.before #[Value.ref b] s = true := flat_of_before _ hgv
  have hA : ∀ a : Nat, a < s.heap.size → ¬ (fun q : Nat => s.heap.size ≤ q) a := fun a h => Nat.not_le.mpr h
  obtain ⟨D, hD⟩ := g_cls hts
  obtain ⟨a0, p0, r0⟩ := g_arrP (hts _ ac_i)
  obtain ⟨a1, p1, r1⟩ := g_arrP (hts _ ac_l)
  obtain ⟨a2, p2, r2⟩ := g_arrO (hts0 _ g_o1)
  obtain ⟨a3, p3, r3⟩ := g_arrO (hts0 _ g_o2)
  obtain ⟨a4, p4, r4⟩ := g_arrO (hts0 _ g_o3)
  obtain ⟨adK, adV, hvs, hev⟩ := vk_Sof (args := #[Value.ref b]) (s := s) (N := 10) (tm := gT) (len := sLen) (byt := sByt) g_ln (fun i hi => hfl _ (g_ex i hi)) (fun i hi => hfl _ (g_co i hi)) (fun i hi => hfl _ (g_ar i hi)) (fun i hi => hfl _ (g_le i hi)) (fun i hi j hj => hfl _ (g_el i hi j hj)) (fun i j hi hj hij => (g_ne i hi j hj hij).imp (hfl _) (hfl _)) hA
  obtain ⟨tA, hta, hTA⟩ := va_Tof (args := #[Value.ref b]) (s := s) (tm := .static "FugueNotes" "ABOVE" "[I") (ty := .int) (N := 6) (f := fun j => .int (sAbove.getD j 0)) (by decide) (hfl _ g_ab) (va_eqt (hfl _ g_al)) (fun j hj => va_eqt (hfl _ (g_ae j hj))) hA
  obtain ⟨vf, hvf, hvr⟩ := Cond.isRef_spec (hfl _ g_sf)
  have key : ∀ fm : Nat, (va_Z "jdk/internal/util/Preconditions" "SIOOBE_FORMATTER" "Ljava/util/function/BiFunction;" (.ref fm) (fun q : Nat => s.heap.size ≤ q) s s.heap ∨ va_Z "jdk/internal/util/Preconditions" "SIOOBE_FORMATTER" "Ljava/util/function/BiFunction;" .null (fun q : Nat => s.heap.size ≤ q) s s.heap) → ∃ (D : va_G) (cA : Nat → ClassId) (g : Nat → Nat), (∀ l : Launch, nE (g, D, cA, fun _ => 0, l) (fun q : Nat => s.heap.size ≤ q) s) ∧ gZ g (fun q : Nat => s.heap.size ≤ q) s := by
    intro fm hfm
    refine ⟨D, fun k => ([a0, a1, a2, a3, a4] : List ClassId).getD k a0, fun k => if k < 110 then adK (k - 100) else if k < 120 then adV (k - 110) else if k = 120 then tA else fm, fun l => ⟨⟨hD, fun k q hk => ?_⟩, fun w hw => va_Nw.of (A := #[Value.ref b]) ?_ (hts0 w (List.mem_filter.mp hw).1), va_AO.of (hts0 _ g_o1), va_AO.of (hts0 _ g_o2), va_AO.of (hts0 _ g_o3), fun q hq => ?_, ?_⟩, va_Zof (hts0 _ g_l1) (hts0 _ g_i1) hta hA, hTA, va_Zof (hts0 _ g_l2) (hts0 _ g_i2) (va_eqt (hfl _ g_cs)) hA, hfm⟩
    · match k, hk with
      | 0, hk => cases hk; exact ⟨p0, r0⟩
      | 1, hk => cases hk; exact ⟨p1, r1⟩
      | 2, hk => cases hk; exact ⟨p2, r2⟩
      | 3, hk => cases hk; exact ⟨p3, r3⟩
      | 4, hk => cases hk; exact ⟨p4, r4⟩
      | k + 5, hk => simp [mTys] at hk
    · have h9 := (List.mem_filter.mp hw).2
      cases w <;> first | rfl | cases h9
    · obtain ⟨q1, q2, q3⟩ := g_rf q hq
      have e1 : (if 100 + q.2.2.2 < 110 then adK (100 + q.2.2.2 - 100) else if 100 + q.2.2.2 < 120 then adV (100 + q.2.2.2 - 110) else if 100 + q.2.2.2 = 120 then tA else fm) = adK q.2.2.2 := by
        rw [if_pos (by omega), Nat.add_sub_cancel_left]
      show vk_R q.1 q.2.1 q.2.2.1 (if 100 + q.2.2.2 < 110 then adK (100 + q.2.2.2 - 100) else if 100 + q.2.2.2 < 120 then adV (100 + q.2.2.2 - 110) else if 100 + q.2.2.2 = 120 then tA else fm) s
      rw [e1]
      refine vk_R.of (A := #[Value.ref b]) (hts0 _ q2) ?_
      rcases q3 with h | h
      · rw [h]; exact hev _ q1
      · exact va_eqR (hfl _ h) (hev _ q1)
    · refine hvs.congr (fun i hi => ?_) (fun i hi => ?_)
      · show (if 100 + i < 110 then adK (100 + i - 100) else if 100 + i < 120 then adV (100 + i - 110) else if 100 + i = 120 then tA else fm) = adK i
        rw [if_pos (by omega), Nat.add_sub_cancel_left]
      · show (if 110 + i < 110 then adK (110 + i - 100) else if 110 + i < 120 then adV (110 + i - 110) else if 110 + i = 120 then tA else fm) = adV i
        rw [if_neg (by omega), if_pos (by omega), Nat.add_sub_cancel_left]
  cases vf with
  | ref fm => exact key fm (Or.inl (va_Zof (hts0 _ g_l3) (hts0 _ g_i3) hvf hA))
  | null => exact key 0 (Or.inr (va_Zof (hts0 _ g_l3) (hts0 _ g_i3) hvf hA))
  | _ => cases hvr

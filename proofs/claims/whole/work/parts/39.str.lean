/-! ===== texts ===== -/
theorem fl_val : Cond.fieldLink RJ0 9 "java/lang/String" "value" "[B" ∈ mTb := mTb_in (List.mem_of_getElem? (i := 1225) (by decide +kernel)) rfl
theorem fl_cod : Cond.fieldLink RJ0 15 "java/lang/String" "coder" "B" ∈ mTb := mTb_in (List.mem_of_getElem? (i := 1226) (by decide +kernel)) rfl
theorem fl_cmp : Cond.fieldLink RJ0 38 "java/lang/String" "COMPACT_STRINGS" "Z" ∈ mTb := mTb_in (List.mem_of_getElem? (i := 600) (by decide +kernel)) rfl
theorem fl_fmt : Cond.fieldLink RJ0 1053 "jdk/internal/util/Preconditions" "SIOOBE_FORMATTER" "Ljava/util/function/BiFunction;" ∈ mTb := mTb_in (List.mem_of_getElem? (i := 616) (by decide +kernel)) rfl
def sLI (i : Nat) : Int := ((sLen.getD i 0 : Nat) : Int)
def sBI (i : Nat) (z : Int) : Int := ((sByt.getD i []).getD z.toNat 0).toInt
theorem mw_ldcSw {X : mX} {cc : ByteArray} {nL : Nat} {rt : Option FieldType} {d : Nat} {G : mG} {Q : Option Value → mMem → Prop} {pc : Nat} {lv : List (Option Value)} {st : List Value} {μ : mMem} {own : String} {idx i : Nat} {tx : String} (hd : decode cc pc = .ok (.ldc_w idx, 3)) (hw : (own, idx, tx, i) ∈ sRefs) (kk : mW X cc nL rt own d G Q (pc + 3) lv (.ref (100 + i) :: st) μ) : mW X cc nL rt own d G Q pc lv st μ := by
  obtain ⟨p, e, R, s, m, args, below, meth, c⟩ := X
  intro hC H locs ls hP hS hl
  obtain ⟨hx, hb', hml, hrt, hown, hlocks, rfl, hts, hE⟩ := id hC
  have hZ := hE.2.2.1.2.1 _ hw
  have k := kk hC H locs ls hP hS hl
  intro T hT X
  obtain ⟨t, a1, b1⟩ := k T hT X
  exact ⟨t, X.ldcStringW hx hown (text := tx) (a := G.1 (100 + i)) hZ.1 hZ.2 (g := F0 m pc ls (st.map (cv G))) rfl (by rw [hb']; exact hd) t a1, b1⟩
theorem mw_strV {X : mX} {cc : ByteArray} {nL : Nat} {rt : Option FieldType} {d : Nat} {G : mG} {Q : Option Value → mMem → Prop} {pc : Nat} {lv : List (Option Value)} {st : List Value} {μ : mMem} {i : Nat} (hi : i < 10) (hd : decode cc pc = .ok (.getfield 9, 3)) (kk : mW X cc nL rt RJ0 d G Q (pc + 3) lv (.ref (110 + i) :: st) μ) : mW X cc nL rt RJ0 d G Q pc lv (.ref (100 + i) :: st) μ := by
  obtain ⟨p, e, R, s, m, args, below, meth, c⟩ := X
  intro hC H locs ls hP hS hl
  obtain ⟨hx, hb', hml, hrt, hown, hlocks, rfl, hts, hE⟩ := id hC
  exact vk_getf hx hb' (hE.2.2.1.1.1 i hi).2.2.1 hS hown (hts _ fl_val) (fun _ h9 => h9) hd (kk hC H locs ls hP hS hl)
theorem mw_strC {X : mX} {cc : ByteArray} {nL : Nat} {rt : Option FieldType} {d : Nat} {G : mG} {Q : Option Value → mMem → Prop} {pc : Nat} {lv : List (Option Value)} {st : List Value} {μ : mMem} {i : Nat} (hi : i < 10) (hd : decode cc pc = .ok (.getfield 15, 3)) (kk : mW X cc nL rt RJ0 d G Q (pc + 3) lv (.int (iV 0) :: st) μ) : mW X cc nL rt RJ0 d G Q pc lv (.ref (100 + i) :: st) μ := by
  obtain ⟨p, e, R, s, m, args, below, meth, c⟩ := X
  intro hC H locs ls hP hS hl
  obtain ⟨hx, hb', hml, hrt, hown, hlocks, rfl, hts, hE⟩ := id hC
  exact vk_getf hx hb' (hE.2.2.1.1.1 i hi).2.1 hS hown (hts _ fl_cod) (fun _ h9 => h9) hd (kk hC H locs ls hP hS hl)
theorem mw_cmp {X : mX} {cc : ByteArray} {nL : Nat} {rt : Option FieldType} {d : Nat} {G : mG} {Q : Option Value → mMem → Prop} {pc : Nat} {lv : List (Option Value)} {st : List Value} {μ : mMem} (hd : decode cc pc = .ok (.getstatic 38, 3)) (kk : mW X cc nL rt RJ0 d G Q (pc + 3) lv (.int (iV 1) :: st) μ) : mW X cc nL rt RJ0 d G Q pc lv st μ := by
  obtain ⟨p, e, R, s, m, args, below, meth, c⟩ := X
  intro hC H locs ls hP hS hl
  obtain ⟨hx, hb', hml, hrt, hown, hlocks, rfl, hts, hE⟩ := id hC
  exact va_gets hx hb' hE.2.2.1.2.2.2.2.1 hS hown (hts _ fl_cmp) (fun _ h9 => h9) hd (kk hC H locs ls hP hS hl)
theorem mw_fmt {X : mX} {cc : ByteArray} {nL : Nat} {rt : Option FieldType} {d : Nat} {G : mG} {Q : Option Value → mMem → Prop} {pc : Nat} {lv : List (Option Value)} {st : List Value} {μ : mMem} (hd : decode cc pc = .ok (.getstatic 1053, 3)) (kk : ∀ x : Value, x = .ref 121 ∨ x = .null → mW X cc nL rt RJ0 d G Q (pc + 3) lv (x :: st) μ) : mW X cc nL rt RJ0 d G Q pc lv st μ := by
  obtain ⟨p, e, R, s, m, args, below, meth, c⟩ := X
  intro hC H locs ls hP hS hl
  obtain ⟨hx, hb', hml, hrt, hown, hlocks, rfl, hts, hE⟩ := id hC
  rcases hE.2.2.1.2.2.2.2.2 with h | h
  · exact va_gets hx hb' h hS hown (hts _ fl_fmt) (fun _ h9 => h9) hd (kk (.ref 121) (Or.inl rfl) hC H locs ls hP hS hl)
  · exact va_gets hx hb' h hS hown (hts _ fl_fmt) (fun _ h9 => h9) hd (kk .null (Or.inr rfl) hC H locs ls hP hS hl)
theorem mw_strL {X : mX} {cc : ByteArray} {nL : Nat} {rt : Option FieldType} {d : Nat} {G : mG} {Q : Option Value → mMem → Prop} {pc : Nat} {lv : List (Option Value)} {st : List Value} {μ : mMem} {own : String} {i : Nat} (hi : i < 10) (hd : decode cc pc = .ok (.arraylength, 1)) (kk : mW X cc nL rt own d G Q (pc + 1) lv (.int (iV (sLI i)) :: st) μ) : mW X cc nL rt own d G Q pc lv (.ref (110 + i) :: st) μ := by
  obtain ⟨p, e, R, s, m, args, below, meth, c⟩ := X
  intro hC H locs ls hP hS hl
  obtain ⟨hx, hb', hml, hrt, hown, hlocks, rfl, hts, hE⟩ := id hC
  exact va_tlen hx hb' (hE.2.2.1.1.1 i hi).2.2.2 hS (v := iV (sLI i)) (by unfold sLI; exact (iV_nat _).symm) hd (kk hC H locs ls hP hS hl)
theorem mw_strB {X : mX} {cc : ByteArray} {nL : Nat} {rt : Option FieldType} {d : Nat} {G : mG} {Q : Option Value → mMem → Prop} {pc : Nat} {lv : List (Option Value)} {st : List Value} {μ : mMem} {own : String} {i : Nat} {z : Int} (hi : i < 10) (hz : 0 ≤ z ∧ z < sLI i) (hd : decode cc pc = .ok (.baload, 1)) (kk : mW X cc nL rt own d G Q (pc + 1) lv (.int (iV (sBI i z)) :: st) μ) : mW X cc nL rt own d G Q pc lv (.int (iV z) :: .ref (110 + i) :: st) μ := by
  obtain ⟨p, e, R, s, m, args, below, meth, c⟩ := X
  intro hC H locs ls hP hS hl
  obtain ⟨hx, hb', hml, hrt, hown, hlocks, rfl, hts, hE⟩ := id hC
  have hb7 : ∀ i : Nat, i < 10 → sLen.getD i 0 ≤ 7 := by decide +kernel
  have h7 := hb7 i hi
  have hz2 := hz.2
  unfold sLI at hz2
  refine va_tb hx hb' (hE.2.2.1.1.1 i hi).2.2.2 hS (iV_in (by omega) (by omega)) (v := .int (iV (sBI i z))) ?_ hd (kk hC H locs ls hP hS hl)
  show Value.int ((sByt.getD i []).getD (iV z).toNatClampNeg 0) = _
  rw [iV_clamp (by omega)]
  unfold sBI
  rw [iV_of]
theorem mw_callT {X : mX} {cc : ByteArray} {nL : Nat} {rt : Option FieldType} {d : Nat} {G : mG} {Q : Option Value → mMem → Prop} {pc : Nat} {lv : List (Option Value)} {st : List Value} {μ : mMem} {own : String} {idx : Nat} {y : MethodName} {cc' : ByteArray} {nL' : Nat} {rt' : Option FieldType} {d' n : Nat} {i : Nat} {as rest : List Value} {Q' : Option Value → mMem → Prop} (hd : decode cc pc = .ok (.invokevirtual idx, 3)) (hw : Cond.methodLink own idx y ∈ mTb) (hs : sMv y cc' nL' rt' n) (hD : d' + 1 ≤ d ∧ 8 + (nL' + 11) + 37 * d' ≤ 37 * d) (hi : i < 10) (hy : y.cls = RJ0) (hn : as.length = n) (hst : as.reverse ++ .ref (100 + i) :: rest = st) (hr : (rest.map fun v => v.category).sum ≤ 8) (hM : mM G y cc' nL' rt' d' (.ref (100 + i) :: as) μ Q')
    (kk : ∀ (r : Option Value) (μ' : mMem), Q' r μ' → mW X cc nL rt own d G Q (pc + 3) lv (r.toList ++ rest) μ') : mW X cc nL rt own d G Q pc lv st μ := by
  obtain ⟨p, e, R, s, m, args, below, meth, c⟩ := X
  intro hC H locs ls hP hS hl
  obtain ⟨hx, hb, hml, hrt, hown, hlocks, rfl, hts, hE⟩ := id hC
  subst hst
  obtain ⟨g1, g2, g3, g4, g5, g6, g7⟩ := hs
  have hcb : CallB (mRm d) s args own idx y cc' nL' rt' (Cond.code y cc' nL' rt' :: mTb) (mRm d') 0 0 n := callB_of n hts (goodIn_cons g4) rfl rfl rfl (hts _ g3) (hts _ hw) ⟨g5, g6, g7⟩ hD
  refine mw_back (rest := rest) (va_runV (As := as.map (cv G)) (rest := rest.map (cv G)) (b := G.1 (100 + i)) (C := y.cls) ⟨hx, hb, hml, hown, hts⟩ hM ⟨hcb, hts _ g1, hts _ g2⟩ ⟨mBlind, by rw [hy]; exact vk_recv (adK := fun i => G.1 (100 + i)) (i := i) hE.2.2.1.1 hi hS, fun U hU hW => ⟨rfl, hE.moved hW (fun a h1 h2 => by rw [hU]; exact hS.2.1 a h1 h2), by rw [hU]; exact hP⟩⟩ rfl (by rw [List.length_map]; exact hn) hl.1 ?_ ?_ hd ⟨Nat.le_refl 0, Nat.le_refl 0⟩) hS (fun r μ' H1 locs1 hq hH hS1 => kk r μ' hq hC H1 locs1 ls hH hS1 hl)
  · show List.map (cv G) (as.reverse ++ .ref (100 + i) :: rest) = _
    rw [List.map_append, List.map_reverse]
    rfl
  · exact lv_room (by rw [mw_cat]; exact hr)
theorem mw_Tpi {X : mX} {cc : ByteArray} {nL : Nat} {rt : Option FieldType} {d : Nat} {G : mG} {Q : Option Value → mMem → Prop} {pc : Nat} {lv : List (Option Value)} {st : List Value} {μ : mMem} {own : String} {idx : Nat} {y : MethodName} {cc' : ByteArray} {nL' : Nat} {rt' : Option FieldType} {d' n : Nat} {i : Nat} {as rest : List Value} {z : Int} {μ' : mMem} (hd : decode cc pc = .ok (.invokevirtual idx, 3)) (hw : Cond.methodLink own idx y ∈ mTb) (hs : sMv y cc' nL' rt' n) (hD : d' + 1 ≤ d ∧ 8 + (nL' + 11) + 37 * d' ≤ 37 * d) (hi : i < 10) (hy : y.cls = RJ0) (hn : as.length = n) (hst : as.reverse ++ .ref (100 + i) :: rest = st) (hr : (rest.map fun v => v.category).sum ≤ 8) (hM : mM G y cc' nL' rt' d' (.ref (100 + i) :: as) μ (pI z μ'))
    (kk : mW X cc nL rt own d G Q (pc + 3) lv (.int (iV z) :: rest) μ') : mW X cc nL rt own d G Q pc lv st μ := mw_callT hd hw hs hD hi hy hn hst hr hM (fun r m h => by obtain ⟨rfl, rfl⟩ := h; exact kk)
theorem s_tab : ∀ i : Nat, i < 10 → (0 < sLI i ∧ sLI i ≤ 7) ∧ bShr (sLI i) 0 = sLI i := by decide +kernel
theorem b_tab : ∀ i : Nat, i < 10 → ∀ j : Nat, j < 7 → j < sLen.getD i 0 → (97 ≤ sBI i (j : Int) ∧ sBI i (j : Int) ≤ 122) ∧ ((iV (bAnd (sBI i (j : Int)) 255)).toUInt32 % 65536).toInt32.toInt = sBI i (j : Int) ∧ narrow .char (.int (iV (sBI i (j : Int)))) = .int (iV (sBI i (j : Int))) := by decide +kernel
theorem b_at {i : Nat} (hi : i < 10) {z : Int} (hz : 0 ≤ z ∧ z < sLI i) : (97 ≤ sBI i z ∧ sBI i z ≤ 122) ∧ ((iV (bAnd (sBI i z) 255)).toUInt32 % 65536).toInt32.toInt = sBI i z ∧ narrow .char (.int (iV (sBI i z))) = .int (iV (sBI i z)) := by
  have h := s_tab i hi
  have hz2 := hz.2
  unfold sLI at hz2
  have := b_tab i hi z.toNat (by omega) (by omega)
  rw [show ((z.toNat : Nat) : Int) = z by omega] at this
  exact this
set_option maxHeartbeats 4000000 in
set_option maxRecDepth 100000 in
theorem c_coder {G : mG} {μ : mMem} {i : Nat} (hi : i < 10) : mM G yJ0_coder_7d493 cJ0_coder_7d493 1 (some .byte) 0 [.ref (100 + i)] μ (pI 0 μ) := by
  refine mM.of (lv := [some (.ref (100 + i))]) 0 (by decide +kernel) (Nat.le_of_ble_eq_true rfl) rfl ?_
  intro X
  refine mw_cmp dJ0_coder_7d493_0 ?_
  refine mw_if_eq (tgt := 13) dJ0_coder_7d493_3 (by decide) (by omega) (fun c_3 => ?_) (fun c_3 => ?_)
  · exact absurd c_3 (by decide)
  · refine mw_aload_n dJ0_coder_7d493_6 rfl ?_
    refine mw_strC hi dJ0_coder_7d493_7 ?_
    refine mw_goto (tgt := 14) dJ0_coder_7d493_10 (by decide) ?_
    refine mw_zret dJ0_coder_7d493_14 rfl (by decide +kernel) ?_
    exact ⟨rfl, rfl⟩
set_option maxHeartbeats 4000000 in
set_option maxRecDepth 100000 in
theorem c_latin {G : mG} {μ : mMem} {i : Nat} (hi : i < 10) : mM G yJ0_isLatin1_aae02 cJ0_isLatin1_aae02 1 (some .boolean) 0 [.ref (100 + i)] μ (pI 1 μ) := by
  refine mM.of (lv := [some (.ref (100 + i))]) 0 (by decide +kernel) (Nat.le_of_ble_eq_true rfl) rfl ?_
  intro X
  refine mw_cmp dJ0_isLatin1_aae02_0 ?_
  refine mw_if_eq (tgt := 17) dJ0_isLatin1_aae02_3 (by decide) (by omega) (fun c_3 => ?_) (fun c_3 => ?_)
  · exact absurd c_3 (by decide)
  · refine mw_aload_n dJ0_isLatin1_aae02_6 rfl ?_
    refine mw_strC hi dJ0_isLatin1_aae02_7 ?_
    refine mw_if_ne (tgt := 17) dJ0_isLatin1_aae02_10 (by decide) (by omega) (fun c_10 => ?_) (fun c_10 => ?_)
    · exact absurd rfl c_10
    · refine mw_iconst dJ0_isLatin1_aae02_13 ?_
      refine mw_goto (tgt := 18) dJ0_isLatin1_aae02_14 (by decide) ?_
      refine mw_zret dJ0_isLatin1_aae02_18 rfl (by decide +kernel) ?_
      exact ⟨rfl, rfl⟩
set_option maxHeartbeats 4000000 in
set_option maxRecDepth 100000 in
theorem c_len {G : mG} {μ : mMem} {i : Nat} (hi : i < 10) : mM G yJ0_length_8abf5 cJ0_length_8abf5 1 (some .int) 1 [.ref (100 + i)] μ (pI (sLI i) μ) := by
  refine mM.of (lv := [some (.ref (100 + i))]) 0 (by decide +kernel) (Nat.le_of_ble_eq_true rfl) rfl ?_
  intro X
  refine mw_aload_n dJ0_length_8abf5_0 rfl ?_
  refine mw_strV hi dJ0_length_8abf5_1 ?_
  refine mw_strL hi dJ0_length_8abf5_4 ?_
  refine mw_aload_n dJ0_length_8abf5_5 rfl ?_
  refine mw_Tpi dJ0_length_8abf5_6 ml_J0_335 ok_J0_coder_7d493 (by decide) hi rfl rfl rfl (Nat.le_of_ble_eq_true rfl) (c_coder hi) ?_
  refine mw_ishr dJ0_length_8abf5_9 ?_
  rw [(s_tab i hi).2]
  refine mw_iret dJ0_length_8abf5_10 rfl ?_
  exact ⟨rfl, rfl⟩
set_option maxHeartbeats 4000000 in
set_option maxRecDepth 100000 in
theorem c_pre1 {G : mG} {μ : mMem} {z n : Int} (hz : 0 ≤ z ∧ z < n) (hn : n ≤ 1000) : mM G yJ3_checkIndex_8e157 cJ3_checkIndex_8e157 3 (some .int) 0 [.int (iV z), .int (iV n), .ref 121] μ (pI z μ) := by
  refine mM.of (lv := [some (.int (iV z)), some (.int (iV n)), some (.ref 121)]) 0 (by decide +kernel) (Nat.le_of_ble_eq_true rfl) rfl ?_
  intro X
  refine mw_iload_n dJ3_checkIndex_8e157_0 rfl ?_
  refine mw_if_lt (tgt := 9) dJ3_checkIndex_8e157_1 (by decide) (by omega) (fun c_1 => ?_) (fun c_1 => ?_)
  · exact absurd hz.1 (by omega)
  · refine mw_iload_n dJ3_checkIndex_8e157_4 rfl ?_
    refine mw_iload_n dJ3_checkIndex_8e157_5 rfl ?_
    refine mw_icmp_lt (tgt := 16) dJ3_checkIndex_8e157_6 (by decide) (by omega) (by omega) (fun c_6 => ?_) (fun c_6 => ?_)
    · refine mw_iload_n dJ3_checkIndex_8e157_16 rfl ?_
      refine mw_iret dJ3_checkIndex_8e157_17 rfl ?_
      exact ⟨rfl, rfl⟩
    · exact absurd hz.2 (by omega)
set_option maxHeartbeats 4000000 in
set_option maxRecDepth 100000 in
theorem c_pre2 {G : mG} {μ : mMem} {z n : Int} (hz : 0 ≤ z ∧ z < n) (hn : n ≤ 1000) : mM G yJ3_checkIndex_8e157 cJ3_checkIndex_8e157 3 (some .int) 0 [.int (iV z), .int (iV n), .null] μ (pI z μ) := by
  refine mM.of (lv := [some (.int (iV z)), some (.int (iV n)), some (.null)]) 0 (by decide +kernel) (Nat.le_of_ble_eq_true rfl) rfl ?_
  intro X
  refine mw_iload_n dJ3_checkIndex_8e157_0 rfl ?_
  refine mw_if_lt (tgt := 9) dJ3_checkIndex_8e157_1 (by decide) (by omega) (fun c_1 => ?_) (fun c_1 => ?_)
  · exact absurd hz.1 (by omega)
  · refine mw_iload_n dJ3_checkIndex_8e157_4 rfl ?_
    refine mw_iload_n dJ3_checkIndex_8e157_5 rfl ?_
    refine mw_icmp_lt (tgt := 16) dJ3_checkIndex_8e157_6 (by decide) (by omega) (by omega) (fun c_6 => ?_) (fun c_6 => ?_)
    · refine mw_iload_n dJ3_checkIndex_8e157_16 rfl ?_
      refine mw_iret dJ3_checkIndex_8e157_17 rfl ?_
      exact ⟨rfl, rfl⟩
    · exact absurd hz.2 (by omega)
theorem c_pre {G : mG} {μ : mMem} {z n : Int} {x : Value} (hx : x = .ref 121 ∨ x = .null) (hz : 0 ≤ z ∧ z < n) (hn : n ≤ 1000) : mM G yJ3_checkIndex_8e157 cJ3_checkIndex_8e157 3 (some .int) 0 [.int (iV z), .int (iV n), x] μ (pI z μ) := by
  rcases hx with rfl | rfl
  · exact c_pre1 hz hn
  · exact c_pre2 hz hn
set_option maxHeartbeats 4000000 in
set_option maxRecDepth 100000 in
theorem c_chk {G : mG} {μ : mMem} {z n : Int} (hz : 0 ≤ z ∧ z < n) (hn : n ≤ 1000) : mM G yJ0_checkIndex_df160 cJ0_checkIndex_df160 2 none 1 [.int (iV z), .int (iV n)] μ (pV μ) := by
  refine mM.of (lv := [some (.int (iV z)), some (.int (iV n))]) 0 (by decide +kernel) (Nat.le_of_ble_eq_true rfl) rfl ?_
  intro X
  refine mw_iload_n dJ0_checkIndex_df160_0 rfl ?_
  refine mw_iload_n dJ0_checkIndex_df160_1 rfl ?_
  refine mw_fmt dJ0_checkIndex_df160_2 (fun x hx => ?_)
  refine mw_Spi dJ0_checkIndex_df160_5 ml_J0_1059 ok_J3_checkIndex_8e157 (by decide) rfl rfl (Nat.le_of_ble_eq_true rfl) (c_pre hx hz hn) ?_
  refine mw_pop dJ0_checkIndex_df160_8 rfl ?_
  refine mw_vret dJ0_checkIndex_df160_9 rfl ?_
  exact ⟨rfl, rfl⟩
set_option maxHeartbeats 4000000 in
set_option maxRecDepth 100000 in
theorem c_latAt {G : mG} {μ : mMem} {i : Nat} (hi : i < 10) {z : Int} (hz : 0 ≤ z ∧ z < sLI i) : mM G yJ1_charAt_3b067 cJ1_charAt_3b067 2 (some .char) 2 [.ref (110 + i), .int (iV z)] μ (pI (sBI i z) μ) := by
  have hL := (s_tab i hi).1
  have hB := b_at hi hz
  refine mM.of (lv := [some (.ref (110 + i)), some (.int (iV z))]) 0 (by decide +kernel) (Nat.le_of_ble_eq_true rfl) rfl ?_
  intro X
  refine mw_iload_n dJ1_charAt_3b067_0 rfl ?_
  refine mw_aload_n dJ1_charAt_3b067_1 rfl ?_
  refine mw_strL hi dJ1_charAt_3b067_2 ?_
  refine mw_Spv dJ1_charAt_3b067_3 ml_J1_9 ok_J0_checkIndex_df160 (by decide) rfl rfl (Nat.le_of_ble_eq_true rfl) (c_chk hz (by omega)) ?_
  refine mw_aload_n dJ1_charAt_3b067_6 rfl ?_
  refine mw_iload_n dJ1_charAt_3b067_7 rfl ?_
  refine mw_strB hi hz dJ1_charAt_3b067_8 ?_
  refine mw_sipush dJ1_charAt_3b067_9 (by decide +kernel) ?_
  refine mw_iand dJ1_charAt_3b067_12 ?_
  refine mw_i2c dJ1_charAt_3b067_13 ?_
  rw [hB.2.1]
  refine mw_zret dJ1_charAt_3b067_14 rfl hB.2.2 ?_
  exact ⟨rfl, rfl⟩
set_option maxHeartbeats 4000000 in
set_option maxRecDepth 100000 in
theorem c_charAt {G : mG} {μ : mMem} {i : Nat} (hi : i < 10) {z : Int} (hz : 0 ≤ z ∧ z < sLI i) : mM G yJ0_charAt_5068e cJ0_charAt_5068e 2 (some .char) 4 [.ref (100 + i), .int (iV z)] μ (pI (sBI i z) μ) := by
  have hB := b_at hi hz
  refine mM.of (lv := [some (.ref (100 + i)), some (.int (iV z))]) 0 (by decide +kernel) (Nat.le_of_ble_eq_true rfl) rfl ?_
  intro X
  refine mw_aload_n dJ0_charAt_5068e_0 rfl ?_
  refine mw_Tpi dJ0_charAt_5068e_1 ml_J0_492 ok_J0_isLatin1_aae02 (by decide) hi rfl rfl rfl (Nat.le_of_ble_eq_true rfl) (c_latin hi) ?_
  refine mw_if_eq (tgt := 16) dJ0_charAt_5068e_4 (by decide) (by omega) (fun c_4 => ?_) (fun c_4 => ?_)
  · exact absurd c_4 (by decide)
  · refine mw_aload_n dJ0_charAt_5068e_7 rfl ?_
    refine mw_strV hi dJ0_charAt_5068e_8 ?_
    refine mw_iload_n dJ0_charAt_5068e_11 rfl ?_
    refine mw_Spi dJ0_charAt_5068e_12 ml_J0_495 ok_J1_charAt_3b067 (by decide) rfl rfl (Nat.le_of_ble_eq_true rfl) (c_latAt hi hz) ?_
    refine mw_zret dJ0_charAt_5068e_15 rfl hB.2.2 ?_
    exact ⟨rfl, rfl⟩

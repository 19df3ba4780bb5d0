set_option maxHeartbeats 4000000 in
set_option maxRecDepth 100000 in
/-- one turn of the law's loop -/
theorem law_turn {X : lX} {G : mG} {i : Int} {μ : mMem} (hi : lB X i) (hB : BOTH μ) (kk : ∀ m : mMem, BOTH m → lW X G 1311 i [] m) : lW X G 27 i [] μ := by
  obtain ⟨p, e, s, m, below, meth, c, b, L, xs⟩ := X
  intro h1 h2 h3 H locs ls hP hS hl
  have hi' : 0 ≤ i ∧ i + 6 ≤ (L : Int) ∧ L ≤ 3072 := hi
  obtain ⟨hx, hb, hr, hml, hown, hts, hX, hbl, hlocks, hgv⟩ := id h1
  refine lv_aload_n hx hb dL_law_27 rfl (lv_at hl 0 rfl) ?_
  refine lv_iload_n hx hb dL_law_28 rfl (lv_at hl 3 rfl) ?_
  refine va_sld hx hb hX hbl (A := fun q : Nat => s.heap.size ≤ q) (Nat.not_le.mpr hbl) hS (iV_in (by omega) (by omega)) dL_law_29 ?_
  refine lv_bipush (v := 63) hx hb dL_law_30 (by decide +kernel) ?_
  refine lv_iand hx hb dL_law_32 ?_
  generalize xs (iV i).toNatClampNeg &&& 63 = v
  rcases (show (v.toInt < 0 ∨ 35 < v.toInt) ∨ v.toInt = 0 ∨ v.toInt = 1 ∨ v.toInt = 2 ∨ v.toInt = 3 ∨ v.toInt = 4 ∨ v.toInt = 5 ∨ v.toInt = 6 ∨ v.toInt = 7 ∨ v.toInt = 8 ∨ v.toInt = 9 ∨ v.toInt = 10 ∨ v.toInt = 11 ∨ v.toInt = 12 ∨ v.toInt = 13 ∨ v.toInt = 14 ∨ v.toInt = 15 ∨ v.toInt = 16 ∨ v.toInt = 17 ∨ v.toInt = 18 ∨ v.toInt = 19 ∨ v.toInt = 20 ∨ v.toInt = 21 ∨ v.toInt = 22 ∨ v.toInt = 23 ∨ v.toInt = 24 ∨ v.toInt = 25 ∨ v.toInt = 26 ∨ v.toInt = 27 ∨ v.toInt = 28 ∨ v.toInt = 29 ∨ v.toInt = 30 ∨ v.toInt = 31 ∨ v.toInt = 32 ∨ v.toInt = 33 ∨ v.toInt = 34 ∨ v.toInt = 35 by omega) with hv | hv | hv | hv | hv | hv | hv | hv | hv | hv | hv | hv | hv | hv | hv | hv | hv | hv | hv | hv | hv | hv | hv | hv | hv | hv | hv | hv | hv | hv | hv | hv | hv | hv | hv | hv | hv
  · exact lv_tableOut (tgt := 1311) hx hb dL_law_33 hv (by decide) (kk μ hB h1 h2 h3 H locs ls hP hS hl)
  · exact lv_tableIn (off := 159) (tgt := 192) hx hb dL_law_33 (by rw [hv]; decide) (by rw [hv]; decide) (by rw [hv]; rfl) (by decide) (lc_tune hi hB kk h1 h2 h3 H locs ls hP hS hl)
  · exact lv_tableIn (off := 232) (tgt := 265) hx hb dL_law_33 (by rw [hv]; decide) (by rw [hv]; decide) (by rw [hv]; rfl) (by decide) (lc_tone hi hB kk h1 h2 h3 H locs ls hP hS hl)
  · exact lv_tableIn (off := 265) (tgt := 298) hx hb dL_law_33 (by rw [hv]; decide) (by rw [hv]; decide) (by rw [hv]; rfl) (by decide) (lc_side hi hB kk h1 h2 h3 H locs ls hP hS hl)
  · exact lv_tableIn (off := 298) (tgt := 331) hx hb dL_law_33 (by rw [hv]; decide) (by rw [hv]; decide) (by rw [hv]; rfl) (by decide) (lc_attache hi hB kk h1 h2 h3 H locs ls hP hS hl)
  · exact lv_tableIn (off := 331) (tgt := 364) hx hb dL_law_33 (by rw [hv]; decide) (by rw [hv]; decide) (by rw [hv]; rfl) (by decide) (lc_of hi hB kk h1 h2 h3 H locs ls hP hS hl)
  · exact lv_tableIn (off := 364) (tgt := 397) hx hb dL_law_33 (by rw [hv]; decide) (by rw [hv]; decide) (by rw [hv]; rfl) (by decide) (lc_answer hi hB kk h1 h2 h3 H locs ls hP hS hl)
  · exact lv_tableIn (off := 397) (tgt := 430) hx hb dL_law_33 (by rw [hv]; decide) (by rw [hv]; decide) (by rw [hv]; rfl) (by decide) (lc_set hi hB kk h1 h2 h3 H locs ls hP hS hl)
  · exact lv_tableIn (off := 440) (tgt := 473) hx hb dL_law_33 (by rw [hv]; decide) (by rw [hv]; decide) (by rw [hv]; rfl) (by decide) (lc_turn hi hB kk h1 h2 h3 H locs ls hP hS hl)
  · exact lv_tableIn (off := 473) (tgt := 506) hx hb dL_law_33 (by rw [hv]; decide) (by rw [hv]; decide) (by rw [hv]; rfl) (by decide) (lc_as hi hB kk h1 h2 h3 H locs ls hP hS hl)
  · exact lv_tableIn (off := 506) (tgt := 539) hx hb dL_law_33 (by rw [hv]; decide) (by rw [hv]; decide) (by rw [hv]; rfl) (by decide) (lc_days hi hB kk h1 h2 h3 H locs ls hP hS hl)
  · exact lv_tableIn (off := 529) (tgt := 562) hx hb dL_law_33 (by rw [hv]; decide) (by rw [hv]; decide) (by rw [hv]; rfl) (by decide) (lc_now hi hB kk h1 h2 h3 H locs ls hP hS hl)
  · exact lv_tableIn (off := 552) (tgt := 585) hx hb dL_law_33 (by rw [hv]; decide) (by rw [hv]; decide) (by rw [hv]; rfl) (by decide) (lc_on hi hB kk h1 h2 h3 H locs ls hP hS hl)
  · exact lv_tableIn (off := 595) (tgt := 628) hx hb dL_law_33 (by rw [hv]; decide) (by rw [hv]; decide) (by rw [hv]; rfl) (by decide) (lc_tension hi hB kk h1 h2 h3 H locs ls hP hS hl)
  · exact lv_tableIn (off := 628) (tgt := 661) hx hb dL_law_33 (by rw [hv]; decide) (by rw [hv]; decide) (by rw [hv]; rfl) (by decide) (lc_home hi hB kk h1 h2 h3 H locs ls hP hS hl)
  · exact lv_tableIn (off := 651) (tgt := 684) hx hb dL_law_33 (by rw [hv]; decide) (by rw [hv]; decide) (by rw [hv]; rfl) (by decide) (lc_alike hi hB kk h1 h2 h3 H locs ls hP hS hl)
  · exact lv_tableIn (off := 664) (tgt := 697) hx hb dL_law_33 (by rw [hv]; decide) (by rw [hv]; decide) (by rw [hv]; rfl) (by decide) (lc_again hi hB kk h1 h2 h3 H locs ls hP hS hl)
  · exact lv_tableIn (off := 687) (tgt := 720) hx hb dL_law_33 (by rw [hv]; decide) (by rw [hv]; decide) (by rw [hv]; rfl) (by decide) (lc_key hi hB kk h1 h2 h3 H locs ls hP hS hl)
  · exact lv_tableIn (off := 710) (tgt := 743) hx hb dL_law_33 (by rw [hv]; decide) (by rw [hv]; decide) (by rw [hv]; rfl) (by decide) (lc_kind hi hB kk h1 h2 h3 H locs ls hP hS hl)
  · exact lv_tableIn (off := 733) (tgt := 766) hx hb dL_law_33 (by rw [hv]; decide) (by rw [hv]; decide) (by rw [hv]; rfl) (by decide) (lc_blot hi hB kk h1 h2 h3 H locs ls hP hS hl)
  · exact lv_tableIn (off := 766) (tgt := 799) hx hb dL_law_33 (by rw [hv]; decide) (by rw [hv]; decide) (by rw [hv]; rfl) (by decide) (lc_calm hi hB kk h1 h2 h3 H locs ls hP hS hl)
  · exact lv_tableIn (off := 809) (tgt := 842) hx hb dL_law_33 (by rw [hv]; decide) (by rw [hv]; decide) (by rw [hv]; rfl) (by decide) (lc_swap hi hB kk h1 h2 h3 H locs ls hP hS hl)
  · exact lv_tableIn (off := 822) (tgt := 855) hx hb dL_law_33 (by rw [hv]; decide) (by rw [hv]; decide) (by rw [hv]; rfl) (by decide) (lc_keys hi hB kk h1 h2 h3 H locs ls hP hS hl)
  · exact lv_tableIn (off := 855) (tgt := 888) hx hb dL_law_33 (by rw [hv]; decide) (by rw [hv]; decide) (by rw [hv]; rfl) (by decide) (lc_feed hi hB kk h1 h2 h3 H locs ls hP hS hl)
  · exact lv_tableIn (off := 888) (tgt := 921) hx hb dL_law_33 (by rw [hv]; decide) (by rw [hv]; decide) (by rw [hv]; rfl) (by decide) (lc_wipe hi hB kk h1 h2 h3 H locs ls hP hS hl)
  · exact lv_tableIn (off := 901) (tgt := 934) hx hb dL_law_33 (by rw [hv]; decide) (by rw [hv]; decide) (by rw [hv]; rfl) (by decide) (lc_affair hi hB kk h1 h2 h3 H locs ls hP hS hl)
  · exact lv_tableIn (off := 914) (tgt := 947) hx hb dL_law_33 (by rw [hv]; decide) (by rw [hv]; decide) (by rw [hv]; rfl) (by decide) (lc_sheet hi hB kk h1 h2 h3 H locs ls hP hS hl)
  · exact lv_tableIn (off := 957) (tgt := 990) hx hb dL_law_33 (by rw [hv]; decide) (by rw [hv]; decide) (by rw [hv]; rfl) (by decide) (lc_write hi hB kk h1 h2 h3 H locs ls hP hS hl)
  · exact lv_tableIn (off := 1031) (tgt := 1064) hx hb dL_law_33 (by rw [hv]; decide) (by rw [hv]; decide) (by rw [hv]; rfl) (by decide) (lc_copy hi hB kk h1 h2 h3 H locs ls hP hS hl)
  · exact lv_tableIn (off := 1094) (tgt := 1127) hx hb dL_law_33 (by rw [hv]; decide) (by rw [hv]; decide) (by rw [hv]; rfl) (by decide) (lc_lays hi hB kk h1 h2 h3 H locs ls hP hS hl)
  · exact lv_tableIn (off := 1127) (tgt := 1160) hx hb dL_law_33 (by rw [hv]; decide) (by rw [hv]; decide) (by rw [hv]; rfl) (by decide) (lc_book hi hB kk h1 h2 h3 H locs ls hP hS hl)
  · exact lv_tableIn (off := 1160) (tgt := 1193) hx hb dL_law_33 (by rw [hv]; decide) (by rw [hv]; decide) (by rw [hv]; rfl) (by decide) (lc_read hi hB kk h1 h2 h3 H locs ls hP hS hl)
  · exact lv_tableIn (off := 1193) (tgt := 1226) hx hb dL_law_33 (by rw [hv]; decide) (by rw [hv]; decide) (by rw [hv]; rfl) (by decide) (lc_image hi hB kk h1 h2 h3 H locs ls hP hS hl)
  · exact lv_tableIn (off := 1206) (tgt := 1239) hx hb dL_law_33 (by rw [hv]; decide) (by rw [hv]; decide) (by rw [hv]; rfl) (by decide) (lc_undo hi hB kk h1 h2 h3 H locs ls hP hS hl)
  · exact lv_tableIn (off := 1219) (tgt := 1252) hx hb dL_law_33 (by rw [hv]; decide) (by rw [hv]; decide) (by rw [hv]; rfl) (by decide) (lc_tear hi hB kk h1 h2 h3 H locs ls hP hS hl)
  · exact lv_tableIn (off := 1232) (tgt := 1265) hx hb dL_law_33 (by rw [hv]; decide) (by rw [hv]; decide) (by rw [hv]; rfl) (by decide) (lc_count hi hB kk h1 h2 h3 H locs ls hP hS hl)
  · exact lv_tableIn (off := 1255) (tgt := 1288) hx hb dL_law_33 (by rw [hv]; decide) (by rw [hv]; decide) (by rw [hv]; rfl) (by decide) (lc_status hi hB kk h1 h2 h3 H locs ls hP hS hl)
set_option maxHeartbeats 4000000 in
set_option maxRecDepth 100000 in
/-- the law's loop -/
theorem law_loop {X : lX} {G : mG} (hL : X.2.2.2.2.2.2.2.2.1 ≤ 3072) : ∀ (n : Nat) (i : Int) (μ : mMem), 0 ≤ i → i ≤ 3078 → (X.2.2.2.2.2.2.2.2.1 : Int) + 7 ≤ i + 6 * n → BOTH μ → lW X G 18 i [] μ := by
  intro n
  induction n with
  | zero =>
    intro i μ h0 h9 hn hB
    obtain ⟨p, e, s, m, below, meth, c, b, L, xs⟩ := X
    have hL' : L ≤ 3072 := hL
    have hn' : (L : Int) + 7 ≤ i + 6 * ((0 : Nat) : Int) := hn
    intro h1 h2 h3 H locs ls hP hS hl
    obtain ⟨hx, hb, hr, hml, hown, hts, hX, hbl, hlocks, hgv⟩ := id h1
    refine lv_iload_n hx hb dL_law_18 rfl (lv_at hl 3 rfl) ?_
    refine lv_aload_n hx hb dL_law_19 rfl (lv_at hl 0 rfl) ?_
    refine va_slen hx hb hX hbl (A := fun q : Nat => s.heap.size ≤ q) (Nat.not_le.mpr hbl) hS dL_law_20 ?_
    refine lv_bipush (v := iV 6) hx hb dL_law_21 (by decide +kernel) ?_
    refine lv_isub hx hb dL_law_23 ?_
    rw [show Int32.ofNat L = iV (L : Int) from (iV_nat L).symm, iV_sub]
    refine lv_icmp_gt (tgt := 1317) hx hb dL_law_24 (by decide) (fun _ => ?_) (fun q => absurd ((iV_lt (by omega) (by omega)).mpr (by omega)) q)
    refine lv_iconst (v := 1) hx hb dL_law_1317 (by decide) ?_
    exact va_forget (fun q hq => hS.2.2 q hq) (lw_ret hx hb hr hlocks dL_law_1318)
  | succ n ih =>
    intro i μ h0 h9 hn hB
    obtain ⟨p, e, s, m, below, meth, c, b, L, xs⟩ := X
    have hL' : L ≤ 3072 := hL
    have hn' : (L : Int) + 7 ≤ i + 6 * ((n + 1 : Nat) : Int) := hn
    intro h1 h2 h3 H locs ls hP hS hl
    obtain ⟨hx, hb, hr, hml, hown, hts, hX, hbl, hlocks, hgv⟩ := id h1
    refine lv_iload_n hx hb dL_law_18 rfl (lv_at hl 3 rfl) ?_
    refine lv_aload_n hx hb dL_law_19 rfl (lv_at hl 0 rfl) ?_
    refine va_slen hx hb hX hbl (A := fun q : Nat => s.heap.size ≤ q) (Nat.not_le.mpr hbl) hS dL_law_20 ?_
    refine lv_bipush (v := iV 6) hx hb dL_law_21 (by decide +kernel) ?_
    refine lv_isub hx hb dL_law_23 ?_
    rw [show Int32.ofNat L = iV (L : Int) from (iV_nat L).symm, iV_sub]
    refine lv_icmp_gt (tgt := 1317) hx hb dL_law_24 (by decide) (fun _ => ?_) (fun q => ?_)
    · refine lv_iconst (v := 1) hx hb dL_law_1317 (by decide) ?_
      exact va_forget (fun q hq => hS.2.2 q hq) (lw_ret hx hb hr hlocks dL_law_1318)
    · have hle : i + 6 ≤ (L : Int) := by
        rw [iV_lt (by omega) (by omega)] at q
        omega
      refine law_turn (X := (p, e, s, m, below, meth, c, b, L, xs)) ⟨h0, hle, hL'⟩ hB (fun m2 hB2 => ?_) h1 h2 h3 H locs ls hP hS hl
      intro h1 h2 h3 H locs ls hP hS hl
      refine lv_iinc (v := iV (i + 6)) (lv' := [(3, .int (iV (i + 6))), (0, .ref b), (1, .ref (G.1 0)), (2, .ref (G.1 56))]) hx hb dL_law_1311 hl (k := 3) rfl (by show iV i + iV 6 = _; rw [iV_add]) (by decide) rfl (fun ls hl => ?_)
      refine lv_goto (tgt := 18) hx hb dL_law_1314 (by decide) ?_
      exact ih (i + 6) m2 (by omega) (by omega) (by omega) hB2 h1 h2 h3 H locs ls hP hS (lv_sub hl [1, 2, 3, 0] rfl)

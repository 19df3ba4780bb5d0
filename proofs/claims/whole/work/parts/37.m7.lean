theorem MR.num_at {μ : mMem} {st : aS} (h : MR μ st) {j : Int} (h0 : 0 ≤ j) (h1 : j < 160) : μ.2 70 j = st.2 j := by
  have := (h.2.2.2.2.2.2.2 (j / 40) (by omega) (by omega)).2.2 (j % 40) (by omega) (by omega)
  rw [show 40 * (j / 40) + j % 40 = j by omega] at this
  exact this
theorem MR.num {μ m : mMem} {st : aS} {N : Int → Int64} (h : MR μ st) (h57 : ROW m 57 (st.1 0)) (hk : ∀ c : Nat, c ≠ 57 → c ≠ 59 → c ≠ 61 → m.1 c = μ.1 c) (hn : ∀ j : Int, 0 ≤ j → j < 160 → m.2 70 j = N j) : MR m (st.1, N) := by
  obtain ⟨h1, h2, h3, h4, h5, h6, h7, h8⟩ := h
  refine ⟨h57, fun j q1 q2 => ?_, ?_, ?_, fun i q1 q2 => ?_, fun j q1 q2 => ?_, ?_, fun s q1 q2 => ⟨?_, ?_, fun i q3 q4 => hn _ (by omega) (by omega)⟩⟩
  · rw [hk _ (by omega) (by omega) (by omega)]; exact h2 j q1 q2
  · rw [hk _ (by omega) (by omega) (by omega)]; exact h3
  · rw [hk _ (by omega) (by omega) (by omega)]; exact h4
  · rw [hk _ (by omega) (by omega) (by omega)]; exact h5 i q1 q2
  · rw [hk _ (by omega) (by omega) (by omega)]; exact h6 j q1 q2
  · rw [hk _ (by omega) (by omega) (by omega)]; exact h7
  · rw [hk _ (by omega) (by omega) (by omega)]; exact (h8 s q1 q2).1
  · rw [hk _ (by omega) (by omega) (by omega)]; exact (h8 s q1 q2).2.1
def lkI (st : aS) (s g : Int) : Int := if fltS st s = 0 then (if g = 0 then -1000000001 else 0) else fltS st s
theorem lk_2 (st : aS) (s d : Int) : lkI st s (wiI d 0 1) = flt2 st s d := by
  unfold lkI flt2 wiI
  by_cases h : 0 ≤ d ∧ d ≤ 1
  · rw [if_pos h, if_pos h, if_neg (show ¬ (1 : Int) = 0 by decide)]
  · rw [if_neg h, if_neg h, if_pos (show (0 : Int) = 0 from rfl)]
theorem i64_add {a n : Int} (ha : -2147483648 ≤ a ∧ a ≤ 2147483647) (hn : -2147483648 ≤ n ∧ n ≤ 2147483647) : ((iV a).toInt64 + (iV n).toInt64).toInt = a + n := by
  rw [Int64.toInt_add, Int32.toInt_toInt64, Int32.toInt_toInt64, iV_toInt ha, iV_toInt hn]
  exact Int.bmod_eq_of_le (by omega) (by omega)
theorem i64_of32 {a : Int} (ha : -2147483648 ≤ a ∧ a ≤ 2147483647) : ((iV a).toInt64).toInt = a := by rw [Int32.toInt_toInt64, iV_toInt ha]
theorem i64_gt {a n z : Int} (ha : -2147483648 ≤ a ∧ a ≤ 2147483647) (hn : -2147483648 ≤ n ∧ n ≤ 2147483647) (hz : -2147483648 ≤ z ∧ z ≤ 2147483647) : (iV z).toInt64 < (iV a).toInt64 + (iV n).toInt64 ↔ z < a + n := by
  rw [Int64.lt_iff_toInt_lt, i64_add ha hn, i64_of32 hz]
theorem cpar {a n z : Int} (ha : 0 ≤ a) (hn : 0 ≤ n) (h : ¬ z < a + n) : 0 ≤ a ∧ 0 ≤ n ∧ n ≤ z ∧ a ≤ z - n := ⟨ha, hn, by omega, by omega⟩
theorem and_0 : iV 0 = 0 := iV_0
set_option maxHeartbeats 4000000 in
set_option maxRecDepth 100000 in
theorem c_M_lacks {G : mG} {μ : mMem} {st : aS} (hX : MR μ st) (hI : SI st) {s g : Int} (hs_ : -2147483648 ≤ s ∧ s ≤ 2147483647) (hg_ : -2147483648 ≤ g ∧ g ≤ 2147483647) : mM G yX7_lacks cX7_lacks 3 (some .int) 2 [.ref 56, .int (iV s), .int (iV g)] μ (pI (lkI st s g) μ) := by
  obtain ⟨hR, hK, hkp, htl, htb, hfd, hfs, hsh⟩ := id hX
  have hFI := hI.1
  have hn := hFI.2.1
  have h0 := hFI.1
  have h99 := hI.2.1
  refine mM.of (lv := [some (.ref 56), some (.int (iV s)), some (.int (iV g))]) 0 (by decide +kernel) (Nat.le_of_ble_eq_true rfl) rfl ?_
  intro X
  refine mw_iload_n dX7_lacks_0 rfl ?_
  refine mw_Spi dX7_lacks_1 ml_X7_294 ok_X7_isSheet (by decide) rfl rfl (Nat.le_of_ble_eq_true rfl) (c_M_isSheet (by omega)) ?_
  refine mw_if_ne (tgt := 12) dX7_lacks_4 (by decide) (wi_bd _ _ _) (fun c_4 => ?_) (fun c_4 => ?_)
  · have d_4 := wi_1 c_4
    have esh := hsh s (by omega) (by omega)
    have hsI := hI.2.2.2.2.2.2.2 s (by omega) (by omega)
    refine mw_aload_n dX7_lacks_12 rfl ?_
    refine mw_gr_7_20 dX7_lacks_13 gs_X7_59 (by first | rfl | assumption) ?_
    refine mw_iload_n dX7_lacks_16 rfl ?_
    refine mw_iald 4 dX7_lacks_17 (by first | rfl | assumption) (by first | rfl | assumption) (by omega) ?_
    rw [esh.1]
    refine mw_if_ne (tgt := 27) dX7_lacks_18 (by decide) (by omega) (fun c_18 => ?_) (fun c_18 => ?_)
    · refine mw_iload_n dX7_lacks_27 rfl ?_
      refine mw_if_eq (tgt := 35) dX7_lacks_28 (by decide) (by omega) (fun c_28 => ?_) (fun c_28 => ?_)
      · refine mw_ldc dX7_lacks_35 ct_X7_71 ?_
        refine mw_iret dX7_lacks_37 rfl ?_
        exact ⟨by unfold lkI fltS; rw [if_pos d_4, if_neg c_18, if_pos rfl, if_pos c_28], rfl⟩
      · refine mw_iconst dX7_lacks_31 ?_
        refine mw_goto (tgt := 37) dX7_lacks_32 (by decide) ?_
        refine mw_iret dX7_lacks_37 rfl ?_
        exact ⟨by unfold lkI fltS; rw [if_pos d_4, if_neg c_18, if_pos rfl, if_neg c_28], rfl⟩
    · refine mw_ldcw dX7_lacks_21 ct_X7_298 ?_
      refine mw_goto (tgt := 37) dX7_lacks_24 (by decide) ?_
      refine mw_iret dX7_lacks_37 rfl ?_
      exact ⟨by unfold lkI fltS; rw [if_pos d_4, if_pos c_18, if_neg (by decide)], rfl⟩
  · have d_4 := wi_0 c_4
    refine mw_ldc dX7_lacks_7 ct_X7_71 ?_
    refine mw_goto (tgt := 37) dX7_lacks_9 (by decide) ?_
    refine mw_iret dX7_lacks_37 rfl ?_
    exact ⟨by unfold lkI fltS; rw [if_neg d_4, if_neg (by decide)], rfl⟩
set_option maxHeartbeats 4000000 in
set_option maxRecDepth 100000 in
theorem c_M_cutTo {G : mG} {μ : mMem} {x : Int64} {b : Int} (hb_ : -2147483648 ≤ b ∧ b ≤ 2147483647) : mM G yX7_cutTo cX7_cutTo 3 (some .long) 0 [.long x, .int (iV b)] μ (pL (cutL x b) μ) := by
  refine mM.of (lv := [some (.long x), none, some (.int (iV b))]) 0 (by decide +kernel) (Nat.le_of_ble_eq_true rfl) rfl ?_
  intro X
  refine mw_iload_n dX7_cutTo_0 rfl ?_
  refine mw_bipush dX7_cutTo_1 (by decide +kernel) ?_
  refine mw_icmp_ne (tgt := 13) dX7_cutTo_3 (by decide) (by omega) (by omega) (fun c_3 => ?_) (fun c_3 => ?_)
  · refine mw_iload_n dX7_cutTo_13 rfl ?_
    refine mw_bipush dX7_cutTo_14 (by decide +kernel) ?_
    refine mw_icmp_ne (tgt := 26) dX7_cutTo_16 (by decide) (by omega) (by omega) (fun c_16 => ?_) (fun c_16 => ?_)
    · refine mw_lload_n dX7_cutTo_26 rfl ?_
      refine mw_lret dX7_cutTo_27 rfl ?_
      exact ⟨by unfold cutL; rw [if_neg c_3, if_neg c_16], rfl⟩
    · refine mw_lload_n dX7_cutTo_19 rfl ?_
      refine mw_l2i dX7_cutTo_20 ?_
      refine mw_i2s dX7_cutTo_21 ?_
      refine mw_i2l dX7_cutTo_22 ?_
      refine mw_goto (tgt := 27) dX7_cutTo_23 (by decide) ?_
      refine mw_lret dX7_cutTo_27 rfl ?_
      exact ⟨by unfold cutL; rw [if_neg c_3, if_pos c_16], rfl⟩
  · refine mw_lload_n dX7_cutTo_6 rfl ?_
    refine mw_l2i dX7_cutTo_7 ?_
    refine mw_i2b dX7_cutTo_8 ?_
    refine mw_i2l dX7_cutTo_9 ?_
    refine mw_goto (tgt := 27) dX7_cutTo_10 (by decide) ?_
    refine mw_lret dX7_cutTo_27 rfl ?_
    exact ⟨by unfold cutL; rw [if_pos c_3], rfl⟩
set_option maxHeartbeats 4000000 in
set_option maxRecDepth 100000 in
theorem c_M_sheet {G : mG} {μ : mMem} {st : aS} (hX : MR μ st) (hI : SI st) {s b n : Int} (hs_ : -2147483648 ≤ s ∧ s ≤ 2147483647) (hb_ : -2147483648 ≤ b ∧ b ≤ 2147483647) (hn_ : -2147483648 ≤ n ∧ n ≤ 2147483647) : mM G yX7_sheet cX7_sheet 5 (some .int) 2 [.ref 56, .int (iV s), .int (iV b), .int (iV n)] μ (qM μ (sp_sheet st s b n)) := by
  obtain ⟨hR, hK, hkp, htl, htb, hfd, hfs, hsh⟩ := id hX
  have hFI := hI.1
  have hn := hFI.2.1
  have h0 := hFI.1
  have h99 := hI.2.1
  refine mM.of (lv := [some (.ref 56), some (.int (iV s)), some (.int (iV b)), some (.int (iV n)), none]) 1 (by decide +kernel) (Nat.le_of_ble_eq_true rfl) rfl ?_
  intro X
  have lp : ∀ (n_ : Nat) (i z : Int) (m : mMem), (0 ≤ s ∧ s ≤ 3) → ((b = 0 ∨ b = 8 ∨ b = 16 ∨ b = 64)) → (0 ≤ n ∧ n ≤ 40) → (0 ≤ i) → (i ≤ 40) → (41 ≤ i + n_) → (z = (if b = 0 then 0 else n)) → (m.1 = (u1 (u1 μ 68 s b) 69 s z).1) → (∀ c : Nat, c ≠ 70 → m.2 c = μ.2 c) → (∀ j : Int, 0 ≤ j → j < 160 → m.2 70 j = if 40 * s ≤ j ∧ j < 40 * s + i then 0 else st.2 j) → mW X cX7_sheet 5 (some .int) yX7_sheet.cls 2 G (qM μ (sp_sheet st s b n)) 86 [some (.ref 56), some (.int (iV s)), some (.int (iV b)), some (.int (iV n)), some (.int (iV i))] [] m := by
    intro n_
    induction n_ with
    | zero =>
      intro i z m hs hb hn2 h1 h2 h3 hz h4 h5 h6
      omega
    | succ n_ ih =>
      intro i z m hs hb hn2 h1 h2 h3 hz h4 h5 h6
      refine mw_iload dX7_sheet_86 rfl ?_
      refine mw_bipush dX7_sheet_88 (by decide +kernel) ?_
      refine mw_icmp_ge (tgt := 112) dX7_sheet_90 (by decide) (by omega) (by omega) (fun c_90 => ?_) (fun c_90 => ?_)
      · refine mw_aload_n dX7_sheet_112 rfl ?_
        refine mw_gr_7_21 dX7_sheet_113 gs_X7_62 (by first | rfl | assumption) ?_
        refine mw_iload_n dX7_sheet_116 rfl ?_
        refine mw_iald 4 dX7_sheet_117 (by first | rfl | assumption) (by first | rfl | assumption) (by omega) ?_
        rw [h4, u1_s]
        refine mw_iret dX7_sheet_118 rfl ?_
        refine ⟨_, rfl, ?_⟩
        unfold sp_sheet
        rw [if_pos ⟨hs, hb⟩, if_neg (by omega), if_neg (by omega)]
        have e1 : ∀ c : Nat, c ≠ 68 → c ≠ 69 → m.1 c = μ.1 c := fun c q1 q2 => by rw [h4]; funext j; rw [u1_o (by omega), u1_o (by omega)]
        refine ⟨hz, ⟨fun j q1 q2 => ?_, fun j q1 q2 => ?_, ?_, ?_, fun j q1 q2 => ?_, fun j q1 q2 => ?_, ?_, fun t q1 q2 => ⟨?_, ?_, fun j q3 q4 => ?_⟩⟩, fun c hc => ⟨e1 c (by omega) (by omega), h5 c (by omega)⟩⟩
        · rw [e1 _ (by omega) (by omega)]; exact hR j q1 q2
        · rw [e1 _ (by omega) (by omega)]; exact hK j q1 q2
        · rw [e1 _ (by omega) (by omega)]; exact hkp
        · rw [e1 _ (by omega) (by omega)]; exact htl
        · rw [e1 _ (by omega) (by omega)]; exact htb j q1 q2
        · rw [e1 _ (by omega) (by omega)]; exact hfd j q1 q2
        · rw [e1 _ (by omega) (by omega)]; exact hfs
        · show _ = (sU (sU st 5 (upF (st.1 5) s b)) 6 (upF (st.1 6) s (if b = 0 then 0 else n))).1 5 t
          rw [sU_o (by omega), sU_s, h4, u1_o (by omega)]
          by_cases e : t = s
          · rw [e, u1_s, upF_s]
          · rw [u1_o (by omega), upF_o e]
            exact (hsh t q1 q2).1
        · show _ = (sU (sU st 5 (upF (st.1 5) s b)) 6 (upF (st.1 6) s (if b = 0 then 0 else n))).1 6 t
          rw [sU_s, h4]
          by_cases e : t = s
          · rw [e, u1_s, upF_s]
            exact hz
          · rw [u1_o (by omega), u1_o (by omega), upF_o e]
            exact (hsh t q1 q2).2.1
        · rw [h6 _ (by omega) (by omega)]
          show _ = if 40 * s ≤ 40 * t + j ∧ 40 * t + j < 40 * s + 40 then 0 else st.2 (40 * t + j)
          by_cases e : 40 * s ≤ 40 * t + j ∧ 40 * t + j < 40 * s + 40
          · rw [if_pos e, if_pos (by omega)]
          · rw [if_neg e, if_neg (by omega)]
      · refine mw_aload_n dX7_sheet_93 rfl ?_
        refine mw_gr_7_22 dX7_sheet_94 gs_X7_65 (by first | rfl | assumption) ?_
        refine mw_bipush dX7_sheet_97 (by decide +kernel) ?_
        refine mw_iload_n dX7_sheet_99 rfl ?_
        refine mw_imul dX7_sheet_100 ?_
        refine mw_iload dX7_sheet_101 rfl ?_
        refine mw_iadd dX7_sheet_103 ?_
        refine mw_lconst dX7_sheet_104 rfl ?_
        refine mw_last 160 dX7_sheet_105 (by first | rfl | assumption) (by first | rfl | assumption) (by omega) ?_
        refine mw_ii4 dX7_sheet_106 (by decide) rfl ?_
        refine mw_goto (tgt := 86) dX7_sheet_109 (by decide) ?_
        refine ih _ _ _ hs hb hn2 (by omega) (by omega) (by omega) hz h4 (fun c q => ?_) (fun j q1 q2 => ?_)
        · rw [← h5 c q]
          funext j
          rw [u2_o (by omega)]
        · by_cases e : j = 40 * s + i
          · rw [e, u2_s, if_pos (by omega)]
            rfl
          · rw [u2_o (by omega), h6 j q1 q2]
            by_cases e2 : 40 * s ≤ j ∧ j < 40 * s + i
            · rw [if_pos e2, if_pos (by omega)]
            · rw [if_neg e2, if_neg (by omega)]
  refine mw_iload_n dX7_sheet_0 rfl ?_
  refine mw_Spi dX7_sheet_1 ml_X7_294 ok_X7_isSheet (by decide) rfl rfl (Nat.le_of_ble_eq_true rfl) (c_M_isSheet (by omega)) ?_
  refine mw_if_eq (tgt := 29) dX7_sheet_4 (by decide) (wi_bd _ _ _) (fun c_4 => ?_) (fun c_4 => ?_)
  · have d_4 := wi_0 c_4
    refine mw_aload_n dX7_sheet_29 rfl ?_
    refine mw_ldc dX7_sheet_30 ct_X7_71 ?_
    refine mw_Vi (ci := 7) dX7_sheet_32 ml_X7_77 ok_X7_finding (by decide) (by first | rfl | assumption) (by decide) rfl rfl rfl (Nat.le_of_ble_eq_true rfl) (c_M_find hX hI 0 (by decide) (by decide)) (fun z_32 m_32 h_32 => ?_)
    refine mw_iret dX7_sheet_35 rfl ?_
    refine ⟨_, rfl, ?_⟩
    unfold sp_sheet
    rw [if_neg (by omega)]
    exact h_32
  · have d_4 := wi_1 c_4
    refine mw_iload_n dX7_sheet_7 rfl ?_
    refine mw_if_eq (tgt := 36) dX7_sheet_8 (by decide) (by omega) (fun c_8 => ?_) (fun c_8 => ?_)
    · refine mw_iload_n dX7_sheet_36 rfl ?_
      refine mw_if_ge (tgt := 48) dX7_sheet_37 (by decide) (by omega) (fun c_37 => ?_) (fun c_37 => ?_)
      · refine mw_iload_n dX7_sheet_48 rfl ?_
        refine mw_bipush dX7_sheet_49 (by decide +kernel) ?_
        refine mw_icmp_le (tgt := 61) dX7_sheet_51 (by decide) (by omega) (by omega) (fun c_51 => ?_) (fun c_51 => ?_)
        · refine mw_aload_n dX7_sheet_61 rfl ?_
          refine mw_gr_7_20 dX7_sheet_62 gs_X7_59 (by first | rfl | assumption) ?_
          refine mw_iload_n dX7_sheet_65 rfl ?_
          refine mw_iload_n dX7_sheet_66 rfl ?_
          refine mw_iast 4 dX7_sheet_67 (by first | rfl | assumption) (by first | rfl | assumption) (by omega) ?_
          refine mw_aload_n dX7_sheet_68 rfl ?_
          refine mw_gr_7_21 dX7_sheet_69 gs_X7_62 (by first | rfl | assumption) ?_
          refine mw_iload_n dX7_sheet_72 rfl ?_
          refine mw_iload_n dX7_sheet_73 rfl ?_
          refine mw_if_ne (tgt := 81) dX7_sheet_74 (by decide) (by omega) (fun c_74 => ?_) (fun c_74 => ?_)
          · refine mw_iload_n dX7_sheet_81 rfl ?_
            refine mw_iast 4 dX7_sheet_82 (by first | rfl | assumption) (by first | rfl | assumption) (by omega) ?_
            refine mw_iconst dX7_sheet_83 ?_
            refine mw_is4 dX7_sheet_84 (by decide) rfl ?_
            refine lp 41 _ _ _ (by omega) (by omega) (by omega) (by omega) (by omega) (by omega) (by first | (exfalso; omega) | rw [if_neg (by omega)] | rw [if_pos (by omega)]) rfl (fun c q => rfl) (fun j q1 q2 => ?_)
            rw [if_neg (by omega)]
            exact hX.num_at q1 q2
          · refine mw_iconst dX7_sheet_77 ?_
            refine mw_goto (tgt := 82) dX7_sheet_78 (by decide) ?_
            refine mw_iast 4 dX7_sheet_82 (by first | rfl | assumption) (by first | rfl | assumption) (by omega) ?_
            refine mw_iconst dX7_sheet_83 ?_
            refine mw_is4 dX7_sheet_84 (by decide) rfl ?_
            refine lp 41 _ _ _ (by omega) (by omega) (by omega) (by omega) (by omega) (by omega) (by first | (exfalso; omega) | rw [if_neg (by omega)] | rw [if_pos (by omega)]) rfl (fun c q => rfl) (fun j q1 q2 => ?_)
            rw [if_neg (by omega)]
            exact hX.num_at q1 q2
        · refine mw_aload_n dX7_sheet_54 rfl ?_
          refine mw_ldc dX7_sheet_55 ct_X7_71 ?_
          refine mw_Vi (ci := 7) dX7_sheet_57 ml_X7_77 ok_X7_finding (by decide) (by first | rfl | assumption) (by decide) rfl rfl rfl (Nat.le_of_ble_eq_true rfl) (c_M_find hX hI 0 (by decide) (by decide)) (fun z_57 m_57 h_57 => ?_)
          refine mw_iret dX7_sheet_60 rfl ?_
          refine ⟨_, rfl, ?_⟩
          unfold sp_sheet
          rw [if_pos (by omega), if_neg (by omega), if_pos (by omega)]
          exact h_57
      · refine mw_aload_n dX7_sheet_40 rfl ?_
        refine mw_ldcw dX7_sheet_41 ct_X7_297 ?_
        refine mw_Vi (ci := 7) dX7_sheet_44 ml_X7_77 ok_X7_finding (by decide) (by first | rfl | assumption) (by decide) rfl rfl rfl (Nat.le_of_ble_eq_true rfl) (c_M_find hX hI 6 (by decide) (by decide)) (fun z_44 m_44 h_44 => ?_)
        refine mw_iret dX7_sheet_47 rfl ?_
        refine ⟨_, rfl, ?_⟩
        unfold sp_sheet
        rw [if_pos (by omega), if_pos (by omega)]
        exact h_44
    · refine mw_iload_n dX7_sheet_11 rfl ?_
      refine mw_bipush dX7_sheet_12 (by decide +kernel) ?_
      refine mw_icmp_eq (tgt := 36) dX7_sheet_14 (by decide) (by omega) (by omega) (fun c_14 => ?_) (fun c_14 => ?_)
      · refine mw_iload_n dX7_sheet_36 rfl ?_
        refine mw_if_ge (tgt := 48) dX7_sheet_37 (by decide) (by omega) (fun c_37 => ?_) (fun c_37 => ?_)
        · refine mw_iload_n dX7_sheet_48 rfl ?_
          refine mw_bipush dX7_sheet_49 (by decide +kernel) ?_
          refine mw_icmp_le (tgt := 61) dX7_sheet_51 (by decide) (by omega) (by omega) (fun c_51 => ?_) (fun c_51 => ?_)
          · refine mw_aload_n dX7_sheet_61 rfl ?_
            refine mw_gr_7_20 dX7_sheet_62 gs_X7_59 (by first | rfl | assumption) ?_
            refine mw_iload_n dX7_sheet_65 rfl ?_
            refine mw_iload_n dX7_sheet_66 rfl ?_
            refine mw_iast 4 dX7_sheet_67 (by first | rfl | assumption) (by first | rfl | assumption) (by omega) ?_
            refine mw_aload_n dX7_sheet_68 rfl ?_
            refine mw_gr_7_21 dX7_sheet_69 gs_X7_62 (by first | rfl | assumption) ?_
            refine mw_iload_n dX7_sheet_72 rfl ?_
            refine mw_iload_n dX7_sheet_73 rfl ?_
            refine mw_if_ne (tgt := 81) dX7_sheet_74 (by decide) (by omega) (fun c_74 => ?_) (fun c_74 => ?_)
            · refine mw_iload_n dX7_sheet_81 rfl ?_
              refine mw_iast 4 dX7_sheet_82 (by first | rfl | assumption) (by first | rfl | assumption) (by omega) ?_
              refine mw_iconst dX7_sheet_83 ?_
              refine mw_is4 dX7_sheet_84 (by decide) rfl ?_
              refine lp 41 _ _ _ (by omega) (by omega) (by omega) (by omega) (by omega) (by omega) (by first | (exfalso; omega) | rw [if_neg (by omega)] | rw [if_pos (by omega)]) rfl (fun c q => rfl) (fun j q1 q2 => ?_)
              rw [if_neg (by omega)]
              exact hX.num_at q1 q2
            · refine mw_iconst dX7_sheet_77 ?_
              refine mw_goto (tgt := 82) dX7_sheet_78 (by decide) ?_
              refine mw_iast 4 dX7_sheet_82 (by first | rfl | assumption) (by first | rfl | assumption) (by omega) ?_
              refine mw_iconst dX7_sheet_83 ?_
              refine mw_is4 dX7_sheet_84 (by decide) rfl ?_
              refine lp 41 _ _ _ (by omega) (by omega) (by omega) (by omega) (by omega) (by omega) (by first | (exfalso; omega) | rw [if_neg (by omega)] | rw [if_pos (by omega)]) rfl (fun c q => rfl) (fun j q1 q2 => ?_)
              rw [if_neg (by omega)]
              exact hX.num_at q1 q2
          · refine mw_aload_n dX7_sheet_54 rfl ?_
            refine mw_ldc dX7_sheet_55 ct_X7_71 ?_
            refine mw_Vi (ci := 7) dX7_sheet_57 ml_X7_77 ok_X7_finding (by decide) (by first | rfl | assumption) (by decide) rfl rfl rfl (Nat.le_of_ble_eq_true rfl) (c_M_find hX hI 0 (by decide) (by decide)) (fun z_57 m_57 h_57 => ?_)
            refine mw_iret dX7_sheet_60 rfl ?_
            refine ⟨_, rfl, ?_⟩
            unfold sp_sheet
            rw [if_pos (by omega), if_neg (by omega), if_pos (by omega)]
            exact h_57
        · refine mw_aload_n dX7_sheet_40 rfl ?_
          refine mw_ldcw dX7_sheet_41 ct_X7_297 ?_
          refine mw_Vi (ci := 7) dX7_sheet_44 ml_X7_77 ok_X7_finding (by decide) (by first | rfl | assumption) (by decide) rfl rfl rfl (Nat.le_of_ble_eq_true rfl) (c_M_find hX hI 6 (by decide) (by decide)) (fun z_44 m_44 h_44 => ?_)
          refine mw_iret dX7_sheet_47 rfl ?_
          refine ⟨_, rfl, ?_⟩
          unfold sp_sheet
          rw [if_pos (by omega), if_pos (by omega)]
          exact h_44
      · refine mw_iload_n dX7_sheet_17 rfl ?_
        refine mw_bipush dX7_sheet_18 (by decide +kernel) ?_
        refine mw_icmp_eq (tgt := 36) dX7_sheet_20 (by decide) (by omega) (by omega) (fun c_20 => ?_) (fun c_20 => ?_)
        · refine mw_iload_n dX7_sheet_36 rfl ?_
          refine mw_if_ge (tgt := 48) dX7_sheet_37 (by decide) (by omega) (fun c_37 => ?_) (fun c_37 => ?_)
          · refine mw_iload_n dX7_sheet_48 rfl ?_
            refine mw_bipush dX7_sheet_49 (by decide +kernel) ?_
            refine mw_icmp_le (tgt := 61) dX7_sheet_51 (by decide) (by omega) (by omega) (fun c_51 => ?_) (fun c_51 => ?_)
            · refine mw_aload_n dX7_sheet_61 rfl ?_
              refine mw_gr_7_20 dX7_sheet_62 gs_X7_59 (by first | rfl | assumption) ?_
              refine mw_iload_n dX7_sheet_65 rfl ?_
              refine mw_iload_n dX7_sheet_66 rfl ?_
              refine mw_iast 4 dX7_sheet_67 (by first | rfl | assumption) (by first | rfl | assumption) (by omega) ?_
              refine mw_aload_n dX7_sheet_68 rfl ?_
              refine mw_gr_7_21 dX7_sheet_69 gs_X7_62 (by first | rfl | assumption) ?_
              refine mw_iload_n dX7_sheet_72 rfl ?_
              refine mw_iload_n dX7_sheet_73 rfl ?_
              refine mw_if_ne (tgt := 81) dX7_sheet_74 (by decide) (by omega) (fun c_74 => ?_) (fun c_74 => ?_)
              · refine mw_iload_n dX7_sheet_81 rfl ?_
                refine mw_iast 4 dX7_sheet_82 (by first | rfl | assumption) (by first | rfl | assumption) (by omega) ?_
                refine mw_iconst dX7_sheet_83 ?_
                refine mw_is4 dX7_sheet_84 (by decide) rfl ?_
                refine lp 41 _ _ _ (by omega) (by omega) (by omega) (by omega) (by omega) (by omega) (by first | (exfalso; omega) | rw [if_neg (by omega)] | rw [if_pos (by omega)]) rfl (fun c q => rfl) (fun j q1 q2 => ?_)
                rw [if_neg (by omega)]
                exact hX.num_at q1 q2
              · refine mw_iconst dX7_sheet_77 ?_
                refine mw_goto (tgt := 82) dX7_sheet_78 (by decide) ?_
                refine mw_iast 4 dX7_sheet_82 (by first | rfl | assumption) (by first | rfl | assumption) (by omega) ?_
                refine mw_iconst dX7_sheet_83 ?_
                refine mw_is4 dX7_sheet_84 (by decide) rfl ?_
                refine lp 41 _ _ _ (by omega) (by omega) (by omega) (by omega) (by omega) (by omega) (by first | (exfalso; omega) | rw [if_neg (by omega)] | rw [if_pos (by omega)]) rfl (fun c q => rfl) (fun j q1 q2 => ?_)
                rw [if_neg (by omega)]
                exact hX.num_at q1 q2
            · refine mw_aload_n dX7_sheet_54 rfl ?_
              refine mw_ldc dX7_sheet_55 ct_X7_71 ?_
              refine mw_Vi (ci := 7) dX7_sheet_57 ml_X7_77 ok_X7_finding (by decide) (by first | rfl | assumption) (by decide) rfl rfl rfl (Nat.le_of_ble_eq_true rfl) (c_M_find hX hI 0 (by decide) (by decide)) (fun z_57 m_57 h_57 => ?_)
              refine mw_iret dX7_sheet_60 rfl ?_
              refine ⟨_, rfl, ?_⟩
              unfold sp_sheet
              rw [if_pos (by omega), if_neg (by omega), if_pos (by omega)]
              exact h_57
          · refine mw_aload_n dX7_sheet_40 rfl ?_
            refine mw_ldcw dX7_sheet_41 ct_X7_297 ?_
            refine mw_Vi (ci := 7) dX7_sheet_44 ml_X7_77 ok_X7_finding (by decide) (by first | rfl | assumption) (by decide) rfl rfl rfl (Nat.le_of_ble_eq_true rfl) (c_M_find hX hI 6 (by decide) (by decide)) (fun z_44 m_44 h_44 => ?_)
            refine mw_iret dX7_sheet_47 rfl ?_
            refine ⟨_, rfl, ?_⟩
            unfold sp_sheet
            rw [if_pos (by omega), if_pos (by omega)]
            exact h_44
        · refine mw_iload_n dX7_sheet_23 rfl ?_
          refine mw_bipush dX7_sheet_24 (by decide +kernel) ?_
          refine mw_icmp_eq (tgt := 36) dX7_sheet_26 (by decide) (by omega) (by omega) (fun c_26 => ?_) (fun c_26 => ?_)
          · refine mw_iload_n dX7_sheet_36 rfl ?_
            refine mw_if_ge (tgt := 48) dX7_sheet_37 (by decide) (by omega) (fun c_37 => ?_) (fun c_37 => ?_)
            · refine mw_iload_n dX7_sheet_48 rfl ?_
              refine mw_bipush dX7_sheet_49 (by decide +kernel) ?_
              refine mw_icmp_le (tgt := 61) dX7_sheet_51 (by decide) (by omega) (by omega) (fun c_51 => ?_) (fun c_51 => ?_)
              · refine mw_aload_n dX7_sheet_61 rfl ?_
                refine mw_gr_7_20 dX7_sheet_62 gs_X7_59 (by first | rfl | assumption) ?_
                refine mw_iload_n dX7_sheet_65 rfl ?_
                refine mw_iload_n dX7_sheet_66 rfl ?_
                refine mw_iast 4 dX7_sheet_67 (by first | rfl | assumption) (by first | rfl | assumption) (by omega) ?_
                refine mw_aload_n dX7_sheet_68 rfl ?_
                refine mw_gr_7_21 dX7_sheet_69 gs_X7_62 (by first | rfl | assumption) ?_
                refine mw_iload_n dX7_sheet_72 rfl ?_
                refine mw_iload_n dX7_sheet_73 rfl ?_
                refine mw_if_ne (tgt := 81) dX7_sheet_74 (by decide) (by omega) (fun c_74 => ?_) (fun c_74 => ?_)
                · refine mw_iload_n dX7_sheet_81 rfl ?_
                  refine mw_iast 4 dX7_sheet_82 (by first | rfl | assumption) (by first | rfl | assumption) (by omega) ?_
                  refine mw_iconst dX7_sheet_83 ?_
                  refine mw_is4 dX7_sheet_84 (by decide) rfl ?_
                  refine lp 41 _ _ _ (by omega) (by omega) (by omega) (by omega) (by omega) (by omega) (by first | (exfalso; omega) | rw [if_neg (by omega)] | rw [if_pos (by omega)]) rfl (fun c q => rfl) (fun j q1 q2 => ?_)
                  rw [if_neg (by omega)]
                  exact hX.num_at q1 q2
                · refine mw_iconst dX7_sheet_77 ?_
                  refine mw_goto (tgt := 82) dX7_sheet_78 (by decide) ?_
                  refine mw_iast 4 dX7_sheet_82 (by first | rfl | assumption) (by first | rfl | assumption) (by omega) ?_
                  refine mw_iconst dX7_sheet_83 ?_
                  refine mw_is4 dX7_sheet_84 (by decide) rfl ?_
                  refine lp 41 _ _ _ (by omega) (by omega) (by omega) (by omega) (by omega) (by omega) (by first | (exfalso; omega) | rw [if_neg (by omega)] | rw [if_pos (by omega)]) rfl (fun c q => rfl) (fun j q1 q2 => ?_)
                  rw [if_neg (by omega)]
                  exact hX.num_at q1 q2
              · refine mw_aload_n dX7_sheet_54 rfl ?_
                refine mw_ldc dX7_sheet_55 ct_X7_71 ?_
                refine mw_Vi (ci := 7) dX7_sheet_57 ml_X7_77 ok_X7_finding (by decide) (by first | rfl | assumption) (by decide) rfl rfl rfl (Nat.le_of_ble_eq_true rfl) (c_M_find hX hI 0 (by decide) (by decide)) (fun z_57 m_57 h_57 => ?_)
                refine mw_iret dX7_sheet_60 rfl ?_
                refine ⟨_, rfl, ?_⟩
                unfold sp_sheet
                rw [if_pos (by omega), if_neg (by omega), if_pos (by omega)]
                exact h_57
            · refine mw_aload_n dX7_sheet_40 rfl ?_
              refine mw_ldcw dX7_sheet_41 ct_X7_297 ?_
              refine mw_Vi (ci := 7) dX7_sheet_44 ml_X7_77 ok_X7_finding (by decide) (by first | rfl | assumption) (by decide) rfl rfl rfl (Nat.le_of_ble_eq_true rfl) (c_M_find hX hI 6 (by decide) (by decide)) (fun z_44 m_44 h_44 => ?_)
              refine mw_iret dX7_sheet_47 rfl ?_
              refine ⟨_, rfl, ?_⟩
              unfold sp_sheet
              rw [if_pos (by omega), if_pos (by omega)]
              exact h_44
          · refine mw_aload_n dX7_sheet_29 rfl ?_
            refine mw_ldc dX7_sheet_30 ct_X7_71 ?_
            refine mw_Vi (ci := 7) dX7_sheet_32 ml_X7_77 ok_X7_finding (by decide) (by first | rfl | assumption) (by decide) rfl rfl rfl (Nat.le_of_ble_eq_true rfl) (c_M_find hX hI 0 (by decide) (by decide)) (fun z_32 m_32 h_32 => ?_)
            refine mw_iret dX7_sheet_35 rfl ?_
            refine ⟨_, rfl, ?_⟩
            unfold sp_sheet
            rw [if_neg (by omega)]
            exact h_32
set_option maxHeartbeats 4000000 in
set_option maxRecDepth 100000 in
theorem c_M_write {G : mG} {μ : mMem} {st : aS} (hX : MR μ st) (hI : SI st) {s i : Int} {x : Int64} (hs_ : -2147483648 ≤ s ∧ s ≤ 2147483647) (hi_ : -2147483648 ≤ i ∧ i ≤ 2147483647) : mM G yX7_write cX7_write 7 (some .long) 2 [.ref 56, .int (iV s), .int (iV i), .long x] μ (qMl μ (sp_write st s i x)) := by
  obtain ⟨hR, hK, hkp, htl, htb, hfd, hfs, hsh⟩ := id hX
  have hFI := hI.1
  have hn := hFI.2.1
  have h0 := hFI.1
  have h99 := hI.2.1
  refine mM.of (lv := [some (.ref 56), some (.int (iV s)), some (.int (iV i)), some (.long x), none, none, none]) 2 (by decide +kernel) (Nat.le_of_ble_eq_true rfl) rfl ?_
  intro X
  refine mw_iload_n dX7_write_0 rfl ?_
  refine mw_Spi dX7_write_1 ml_X7_294 ok_X7_isSheet (by decide) rfl rfl (Nat.le_of_ble_eq_true rfl) (c_M_isSheet (by omega)) ?_
  refine mw_if_ne (tgt := 15) dX7_write_4 (by decide) (wi_bd _ _ _) (fun c_4 => ?_) (fun c_4 => ?_)
  · have d_4 := wi_1 c_4
    have esh := hsh s (by omega) (by omega)
    have hsI := hI.2.2.2.2.2.2.2 s (by omega) (by omega)
    refine mw_aload_n dX7_write_15 rfl ?_
    refine mw_gr_7_20 dX7_write_16 gs_X7_59 (by first | rfl | assumption) ?_
    refine mw_iload_n dX7_write_19 rfl ?_
    refine mw_iald 4 dX7_write_20 (by first | rfl | assumption) (by first | rfl | assumption) (by omega) ?_
    rw [esh.1]
    refine mw_if_ne (tgt := 33) dX7_write_21 (by decide) (by omega) (fun c_21 => ?_) (fun c_21 => ?_)
    · have hf2 : fltS st s = 0 := by unfold fltS; rw [if_pos d_4, if_neg c_21]
      refine mw_iload_n dX7_write_33 rfl ?_
      refine mw_iconst dX7_write_34 ?_
      refine mw_aload_n dX7_write_35 rfl ?_
      refine mw_gr_7_21 dX7_write_36 gs_X7_62 (by first | rfl | assumption) ?_
      refine mw_iload_n dX7_write_39 rfl ?_
      refine mw_iald 4 dX7_write_40 (by first | rfl | assumption) (by first | rfl | assumption) (by omega) ?_
      rw [esh.2.1]
      refine mw_iconst dX7_write_41 ?_
      refine mw_isub dX7_write_42 ?_
      refine mw_Spi dX7_write_43 ml_X7_81 ok_X7_within (by decide) rfl rfl (Nat.le_of_ble_eq_true rfl) (c_M_within (by omega) (by omega) (by omega)) ?_
      refine mw_if_ne (tgt := 57) dX7_write_46 (by decide) (wi_bd _ _ _) (fun c_46 => ?_) (fun c_46 => ?_)
      · have d_46 := wi_1 c_46
        refine mw_aload_n dX7_write_57 rfl ?_
        refine mw_gr_7_22 dX7_write_58 gs_X7_65 (by first | rfl | assumption) ?_
        refine mw_bipush dX7_write_61 (by decide +kernel) ?_
        refine mw_iload_n dX7_write_63 rfl ?_
        refine mw_imul dX7_write_64 ?_
        refine mw_iload_n dX7_write_65 rfl ?_
        refine mw_iadd dX7_write_66 ?_
        refine mw_lald 160 dX7_write_67 (by first | rfl | assumption) (by first | rfl | assumption) (by omega) ?_
        rw [hX.num_at (by omega) (by omega)]
        refine mw_ls5 dX7_write_68 (by decide) rfl ?_
        refine mw_aload_n dX7_write_70 rfl ?_
        refine mw_gr_7_22 dX7_write_71 gs_X7_65 (by first | rfl | assumption) ?_
        refine mw_bipush dX7_write_74 (by decide +kernel) ?_
        refine mw_iload_n dX7_write_76 rfl ?_
        refine mw_imul dX7_write_77 ?_
        refine mw_iload_n dX7_write_78 rfl ?_
        refine mw_iadd dX7_write_79 ?_
        refine mw_lload_n dX7_write_80 rfl ?_
        refine mw_aload_n dX7_write_81 rfl ?_
        refine mw_gr_7_20 dX7_write_82 gs_X7_59 (by first | rfl | assumption) ?_
        refine mw_iload_n dX7_write_85 rfl ?_
        refine mw_iald 4 dX7_write_86 (by first | rfl | assumption) (by first | rfl | assumption) (by omega) ?_
        rw [esh.1]
        refine mw_Spl dX7_write_87 ml_X7_299 ok_X7_cutTo (by decide) rfl rfl (Nat.le_of_ble_eq_true rfl) (c_M_cutTo (by omega)) ?_
        refine mw_last 160 dX7_write_90 (by first | rfl | assumption) (by first | rfl | assumption) (by omega) ?_
        refine mw_lload dX7_write_91 rfl ?_
        refine mw_lret dX7_write_93 rfl ?_
        refine ⟨_, rfl, ?_⟩
        unfold sp_write
        rw [if_pos hf2, if_pos d_46]
        refine ⟨rfl, hX.num (fun j q1 q2 => hR j q1 q2) (fun c _ _ _ => rfl) (fun j q1 q2 => ?_), mf_u2 (by omega)⟩
        unfold upN
        by_cases e : j = 40 * s + i
        · rw [e, u2_s, if_pos rfl]
        · rw [u2_o (by omega), if_neg e]
          exact hX.num_at q1 q2
      · have d_46 := wi_0 c_46
        refine mw_aload_n dX7_write_49 rfl ?_
        refine mw_ldc dX7_write_50 ct_X7_71 ?_
        refine mw_Vi (ci := 7) dX7_write_52 ml_X7_77 ok_X7_finding (by decide) (by first | rfl | assumption) (by decide) rfl rfl rfl (Nat.le_of_ble_eq_true rfl) (c_M_find hX hI 0 (by decide) (by decide)) (fun z_52 m_52 h_52 => ?_)
        refine mw_i2l dX7_write_55 ?_
        refine mw_lret dX7_write_56 rfl ?_
        refine ⟨_, rfl, ?_⟩
        unfold sp_write
        rw [if_pos hf2, if_neg d_46]
        exact ⟨by rw [h_52.1]; rfl, h_52.2⟩
    · have hf1 : fltS st s = -1000000006 := by unfold fltS; rw [if_pos d_4, if_pos c_21]
      refine mw_aload_n dX7_write_24 rfl ?_
      refine mw_ldcw dX7_write_25 ct_X7_298 ?_
      refine mw_Vi (ci := 7) dX7_write_28 ml_X7_77 ok_X7_finding (by decide) (by first | rfl | assumption) (by decide) rfl rfl rfl (Nat.le_of_ble_eq_true rfl) (c_M_find hX hI 5 (by decide) (by decide)) (fun z_28 m_28 h_28 => ?_)
      refine mw_i2l dX7_write_31 ?_
      refine mw_lret dX7_write_32 rfl ?_
      refine ⟨_, rfl, ?_⟩
      unfold sp_write
      rw [if_neg (by omega), hf1]
      exact ⟨by rw [h_28.1]; rfl, h_28.2⟩
  · have d_4 := wi_0 c_4
    have hf0 : fltS st s = -1000000001 := by unfold fltS; rw [if_neg d_4]
    refine mw_aload_n dX7_write_7 rfl ?_
    refine mw_ldc dX7_write_8 ct_X7_71 ?_
    refine mw_Vi (ci := 7) dX7_write_10 ml_X7_77 ok_X7_finding (by decide) (by first | rfl | assumption) (by decide) rfl rfl rfl (Nat.le_of_ble_eq_true rfl) (c_M_find hX hI 0 (by decide) (by decide)) (fun z_10 m_10 h_10 => ?_)
    refine mw_i2l dX7_write_13 ?_
    refine mw_lret dX7_write_14 rfl ?_
    refine ⟨_, rfl, ?_⟩
    unfold sp_write
    rw [if_neg (by omega), hf0]
    exact ⟨by rw [h_10.1]; rfl, h_10.2⟩
set_option maxHeartbeats 4000000 in
set_option maxRecDepth 100000 in
theorem c_M_copy {G : mG} {μ : mMem} {st : aS} (hX : MR μ st) (hI : SI st) {s a t b n : Int} (hs_ : -2147483648 ≤ s ∧ s ≤ 2147483647) (ha_ : -2147483648 ≤ a ∧ a ≤ 2147483647) (ht_ : -2147483648 ≤ t ∧ t ≤ 2147483647) (hb_ : -2147483648 ≤ b ∧ b ≤ 2147483647) (hn_ : -2147483648 ≤ n ∧ n ≤ 2147483647) : mM G yX7_copy cX7_copy 7 (some .int) 2 [.ref 56, .int (iV s), .int (iV a), .int (iV t), .int (iV b), .int (iV n)] μ (qM μ (sp_copy st s a t b n)) := by
  obtain ⟨hR, hK, hkp, htl, htb, hfd, hfs, hsh⟩ := id hX
  have hFI := hI.1
  have hn := hFI.2.1
  have h0 := hFI.1
  have h99 := hI.2.1
  refine mM.of (lv := [some (.ref 56), some (.int (iV s)), some (.int (iV a)), some (.int (iV t)), some (.int (iV b)), some (.int (iV n)), none]) 1 (by decide +kernel) (Nat.le_of_ble_eq_true rfl) rfl ?_
  intro X
  have l2 : ∀ (n_ : Nat) (i : Int) (m : mMem), (0 ≤ s ∧ s ≤ 3) → (0 ≤ t ∧ t ≤ 3) → (¬ (st.1 5 s = 0 ∨ st.1 5 t = 0)) → (st.1 5 s = st.1 5 t) → ((0 ≤ a ∧ 0 ≤ n ∧ n ≤ st.1 6 s ∧ a ≤ st.1 6 s - n) ∧ (0 ≤ b ∧ 0 ≤ n ∧ n ≤ st.1 6 t ∧ b ≤ st.1 6 t - n)) → (0 ≤ i) → (i ≤ n) → (41 ≤ i + n_) → (m.1 = μ.1) → (∀ c : Nat, c < 56 → m.2 c = μ.2 c) → (∀ j : Int, 0 ≤ j → j < 160 → m.2 70 j = (fun j => if 40 * t + b ≤ j ∧ j < 40 * t + b + i then st.2 (40 * s + a + (j - (40 * t + b))) else st.2 j) j) → (∀ j : Int, 0 ≤ j → j < n → m.2 71 j = st.2 (40 * s + a + j)) → mW X cX7_copy 7 (some .int) yX7_copy.cls 2 G (qM μ (sp_copy st s a t b n)) 165 [some (.ref 56), some (.int (iV s)), some (.int (iV a)), some (.int (iV t)), some (.int (iV b)), some (.int (iV n)), some (.int (iV i))] [] m := by
    intro n_
    induction n_ with
    | zero =>
      intro i m hs ht hw hk2 hp h1 h2 h3 h4 h5 h6 h7
      have hsI := hI.2.2.2.2.2.2.2 s (by omega) (by omega)
      have htI := hI.2.2.2.2.2.2.2 t (by omega) (by omega)
      omega
    | succ n_ ih =>
      intro i m hs ht hw hk2 hp h1 h2 h3 h4 h5 h6 h7
      have hsI := hI.2.2.2.2.2.2.2 s (by omega) (by omega)
      have htI := hI.2.2.2.2.2.2.2 t (by omega) (by omega)
      refine mw_iload dX7_copy_165 rfl ?_
      refine mw_iload dX7_copy_167 rfl ?_
      refine mw_icmp_ge (tgt := 200) dX7_copy_169 (by decide) (by omega) (by omega) (fun c_169 => ?_) (fun c_169 => ?_)
      · refine mw_iload dX7_copy_200 rfl ?_
        refine mw_iret dX7_copy_202 rfl ?_
        refine ⟨_, rfl, ?_⟩
        unfold sp_copy
        rw [if_pos ⟨hs, ht⟩, if_neg hw, if_pos hk2, if_pos hp]
        refine ⟨rfl, hX.num (fun j q1 q2 => by rw [h4]; exact hR j q1 q2) (fun c _ _ _ => by rw [h4]) (fun j q1 q2 => ?_), fun c hc => ⟨by rw [h4], h5 c hc⟩⟩
        rw [h6 j q1 q2, show i = n by omega]
      · refine mw_aload_n dX7_copy_172 rfl ?_
        refine mw_gr_7_22 dX7_copy_173 gs_X7_65 (by first | rfl | assumption) ?_
        refine mw_bipush dX7_copy_176 (by decide +kernel) ?_
        refine mw_iload_n dX7_copy_178 rfl ?_
        refine mw_imul dX7_copy_179 ?_
        refine mw_iload dX7_copy_180 rfl ?_
        refine mw_iadd dX7_copy_182 ?_
        refine mw_iload dX7_copy_183 rfl ?_
        refine mw_iadd dX7_copy_185 ?_
        refine mw_aload_n dX7_copy_186 rfl ?_
        refine mw_gr_7_23 dX7_copy_187 gs_X7_68 (by first | rfl | assumption) ?_
        refine mw_iload dX7_copy_190 rfl ?_
        refine mw_lald 40 dX7_copy_192 (by first | rfl | assumption) (by first | rfl | assumption) (by omega) ?_
        rw [h7 i (by omega) (by omega)]
        refine mw_last 160 dX7_copy_193 (by first | rfl | assumption) (by first | rfl | assumption) (by omega) ?_
        refine mw_ii6 dX7_copy_194 (by decide) rfl ?_
        refine mw_goto (tgt := 165) dX7_copy_197 (by decide) ?_
        refine ih _ _ hs ht hw hk2 hp (by omega) (by omega) (by omega) h4 (fun c q => ?_) (fun j q1 q2 => ?_) (fun j q1 q2 => by rw [u2_o (by omega)]; exact h7 j q1 q2)
        · rw [← h5 c q]
          funext j
          rw [u2_o (by omega)]
        · dsimp only
          by_cases e : j = 40 * t + b + i
          · rw [e, u2_s, if_pos (by omega), show 40 * t + b + i - (40 * t + b) = i by omega]
          · rw [u2_o (by omega), h6 j q1 q2]
            dsimp only
            by_cases e2 : 40 * t + b ≤ j ∧ j < 40 * t + b + i
            · rw [if_pos e2, if_pos (by omega)]
            · rw [if_neg e2, if_neg (by omega)]
  have l1 : ∀ (n_ : Nat) (i : Int) (m : mMem), (0 ≤ s ∧ s ≤ 3) → (0 ≤ t ∧ t ≤ 3) → (¬ (st.1 5 s = 0 ∨ st.1 5 t = 0)) → (st.1 5 s = st.1 5 t) → ((0 ≤ a ∧ 0 ≤ n ∧ n ≤ st.1 6 s ∧ a ≤ st.1 6 s - n) ∧ (0 ≤ b ∧ 0 ≤ n ∧ n ≤ st.1 6 t ∧ b ≤ st.1 6 t - n)) → (0 ≤ i) → (i ≤ n) → (41 ≤ i + n_) → (m.1 = μ.1) → (∀ c : Nat, c ≠ 71 → m.2 c = μ.2 c) → (∀ j : Int, 0 ≤ j → j < i → m.2 71 j = st.2 (40 * s + a + j)) → mW X cX7_copy 7 (some .int) yX7_copy.cls 2 G (qM μ (sp_copy st s a t b n)) 128 [some (.ref 56), some (.int (iV s)), some (.int (iV a)), some (.int (iV t)), some (.int (iV b)), some (.int (iV n)), some (.int (iV i))] [] m := by
    intro n_
    induction n_ with
    | zero =>
      intro i m hs ht hw hk2 hp h1 h2 h3 h4 h5 h7
      have hsI := hI.2.2.2.2.2.2.2 s (by omega) (by omega)
      have htI := hI.2.2.2.2.2.2.2 t (by omega) (by omega)
      omega
    | succ n_ ih =>
      intro i m hs ht hw hk2 hp h1 h2 h3 h4 h5 h7
      have hsI := hI.2.2.2.2.2.2.2 s (by omega) (by omega)
      have htI := hI.2.2.2.2.2.2.2 t (by omega) (by omega)
      refine mw_iload dX7_copy_128 rfl ?_
      refine mw_iload dX7_copy_130 rfl ?_
      refine mw_icmp_ge (tgt := 162) dX7_copy_132 (by decide) (by omega) (by omega) (fun c_132 => ?_) (fun c_132 => ?_)
      · refine mw_iconst dX7_copy_162 ?_
        refine mw_is6 dX7_copy_163 (by decide) rfl ?_
        exact l2 41 _ _ hs ht hw hk2 hp (by omega) (by omega) (by omega) h4 (fun c q => h5 c (by omega)) (fun j q1 q2 => by rw [h5 _ (by omega), hX.num_at q1 q2]; exact (if_neg (by omega)).symm) (fun j q1 q2 => h7 j q1 (by omega))
      · refine mw_aload_n dX7_copy_135 rfl ?_
        refine mw_gr_7_23 dX7_copy_136 gs_X7_68 (by first | rfl | assumption) ?_
        refine mw_iload dX7_copy_139 rfl ?_
        refine mw_aload_n dX7_copy_141 rfl ?_
        refine mw_gr_7_22 dX7_copy_142 gs_X7_65 (by first | rfl | assumption) ?_
        refine mw_bipush dX7_copy_145 (by decide +kernel) ?_
        refine mw_iload_n dX7_copy_147 rfl ?_
        refine mw_imul dX7_copy_148 ?_
        refine mw_iload_n dX7_copy_149 rfl ?_
        refine mw_iadd dX7_copy_150 ?_
        refine mw_iload dX7_copy_151 rfl ?_
        refine mw_iadd dX7_copy_153 ?_
        refine mw_lald 160 dX7_copy_154 (by first | rfl | assumption) (by first | rfl | assumption) (by omega) ?_
        rw [h5 _ (by omega), hX.num_at (by omega) (by omega)]
        refine mw_last 40 dX7_copy_155 (by first | rfl | assumption) (by first | rfl | assumption) (by omega) ?_
        refine mw_ii6 dX7_copy_156 (by decide) rfl ?_
        refine mw_goto (tgt := 128) dX7_copy_159 (by decide) ?_
        refine ih _ _ hs ht hw hk2 hp (by omega) (by omega) (by omega) h4 (fun c q => ?_) (fun j q1 q2 => ?_)
        · rw [← h5 c q]
          funext j
          rw [u2_o (by omega)]
        · by_cases e : j = i
          · rw [e, u2_s]
          · rw [u2_o (by omega)]
            exact h7 j q1 (by omega)
  refine mw_iload_n dX7_copy_0 rfl ?_
  refine mw_Spi dX7_copy_1 ml_X7_294 ok_X7_isSheet (by decide) rfl rfl (Nat.le_of_ble_eq_true rfl) (c_M_isSheet (by omega)) ?_
  refine mw_if_eq (tgt := 14) dX7_copy_4 (by decide) (wi_bd _ _ _) (fun c_4 => ?_) (fun c_4 => ?_)
  · have d_4 := wi_0 c_4
    refine mw_aload_n dX7_copy_14 rfl ?_
    refine mw_ldc dX7_copy_15 ct_X7_71 ?_
    refine mw_Vi (ci := 7) dX7_copy_17 ml_X7_77 ok_X7_finding (by decide) (by first | rfl | assumption) (by decide) rfl rfl rfl (Nat.le_of_ble_eq_true rfl) (c_M_find hX hI 0 (by decide) (by decide)) (fun z_17 m_17 h_17 => ?_)
    refine mw_iret dX7_copy_20 rfl ?_
    refine ⟨_, rfl, ?_⟩
    unfold sp_copy
    rw [if_neg (by omega)]
    exact h_17
  · have d_4 := wi_1 c_4
    refine mw_iload_n dX7_copy_7 rfl ?_
    refine mw_Spi dX7_copy_8 ml_X7_294 ok_X7_isSheet (by decide) rfl rfl (Nat.le_of_ble_eq_true rfl) (c_M_isSheet (by omega)) ?_
    refine mw_if_ne (tgt := 21) dX7_copy_11 (by decide) (wi_bd _ _ _) (fun c_11 => ?_) (fun c_11 => ?_)
    · have d_11 := wi_1 c_11
      have esh := hsh s (by omega) (by omega)
      have hsI := hI.2.2.2.2.2.2.2 s (by omega) (by omega)
      have esh2 := hsh t (by omega) (by omega)
      have htI := hI.2.2.2.2.2.2.2 t (by omega) (by omega)
      refine mw_aload_n dX7_copy_21 rfl ?_
      refine mw_gr_7_20 dX7_copy_22 gs_X7_59 (by first | rfl | assumption) ?_
      refine mw_iload_n dX7_copy_25 rfl ?_
      refine mw_iald 4 dX7_copy_26 (by first | rfl | assumption) (by first | rfl | assumption) (by omega) ?_
      rw [esh.1]
      refine mw_if_eq (tgt := 39) dX7_copy_27 (by decide) (by omega) (fun c_27 => ?_) (fun c_27 => ?_)
      · refine mw_aload_n dX7_copy_39 rfl ?_
        refine mw_ldcw dX7_copy_40 ct_X7_298 ?_
        refine mw_Vi (ci := 7) dX7_copy_43 ml_X7_77 ok_X7_finding (by decide) (by first | rfl | assumption) (by decide) rfl rfl rfl (Nat.le_of_ble_eq_true rfl) (c_M_find hX hI 5 (by decide) (by decide)) (fun z_43 m_43 h_43 => ?_)
        refine mw_iret dX7_copy_46 rfl ?_
        refine ⟨_, rfl, ?_⟩
        unfold sp_copy
        rw [if_pos (by omega), if_pos (by omega)]
        exact h_43
      · refine mw_aload_n dX7_copy_30 rfl ?_
        refine mw_gr_7_20 dX7_copy_31 gs_X7_59 (by first | rfl | assumption) ?_
        refine mw_iload_n dX7_copy_34 rfl ?_
        refine mw_iald 4 dX7_copy_35 (by first | rfl | assumption) (by first | rfl | assumption) (by omega) ?_
        rw [esh2.1]
        refine mw_if_ne (tgt := 47) dX7_copy_36 (by decide) (by omega) (fun c_36 => ?_) (fun c_36 => ?_)
        · refine mw_aload_n dX7_copy_47 rfl ?_
          refine mw_gr_7_20 dX7_copy_48 gs_X7_59 (by first | rfl | assumption) ?_
          refine mw_iload_n dX7_copy_51 rfl ?_
          refine mw_iald 4 dX7_copy_52 (by first | rfl | assumption) (by first | rfl | assumption) (by omega) ?_
          rw [esh.1]
          refine mw_aload_n dX7_copy_53 rfl ?_
          refine mw_gr_7_20 dX7_copy_54 gs_X7_59 (by first | rfl | assumption) ?_
          refine mw_iload_n dX7_copy_57 rfl ?_
          refine mw_iald 4 dX7_copy_58 (by first | rfl | assumption) (by first | rfl | assumption) (by omega) ?_
          rw [esh2.1]
          refine mw_icmp_eq (tgt := 69) dX7_copy_59 (by decide) (by omega) (by omega) (fun c_59 => ?_) (fun c_59 => ?_)
          · refine mw_iload_n dX7_copy_69 rfl ?_
            refine mw_if_lt (tgt := 118) dX7_copy_70 (by decide) (by omega) (fun c_70 => ?_) (fun c_70 => ?_)
            · refine mw_aload_n dX7_copy_118 rfl ?_
              refine mw_ldc dX7_copy_119 ct_X7_71 ?_
              refine mw_Vi (ci := 7) dX7_copy_121 ml_X7_77 ok_X7_finding (by decide) (by first | rfl | assumption) (by decide) rfl rfl rfl (Nat.le_of_ble_eq_true rfl) (c_M_find hX hI 0 (by decide) (by decide)) (fun z_121 m_121 h_121 => ?_)
              refine mw_iret dX7_copy_124 rfl ?_
              refine ⟨_, rfl, ?_⟩
              unfold sp_copy
              rw [if_pos (by omega), if_neg (by omega), if_pos c_59, if_neg (by omega)]
              exact h_121
            · refine mw_iload dX7_copy_73 rfl ?_
              refine mw_if_lt (tgt := 118) dX7_copy_75 (by decide) (by omega) (fun c_75 => ?_) (fun c_75 => ?_)
              · refine mw_aload_n dX7_copy_118 rfl ?_
                refine mw_ldc dX7_copy_119 ct_X7_71 ?_
                refine mw_Vi (ci := 7) dX7_copy_121 ml_X7_77 ok_X7_finding (by decide) (by first | rfl | assumption) (by decide) rfl rfl rfl (Nat.le_of_ble_eq_true rfl) (c_M_find hX hI 0 (by decide) (by decide)) (fun z_121 m_121 h_121 => ?_)
                refine mw_iret dX7_copy_124 rfl ?_
                refine ⟨_, rfl, ?_⟩
                unfold sp_copy
                rw [if_pos (by omega), if_neg (by omega), if_pos c_59, if_neg (by omega)]
                exact h_121
              · refine mw_iload dX7_copy_78 rfl ?_
                refine mw_if_lt (tgt := 118) dX7_copy_80 (by decide) (by omega) (fun c_80 => ?_) (fun c_80 => ?_)
                · refine mw_aload_n dX7_copy_118 rfl ?_
                  refine mw_ldc dX7_copy_119 ct_X7_71 ?_
                  refine mw_Vi (ci := 7) dX7_copy_121 ml_X7_77 ok_X7_finding (by decide) (by first | rfl | assumption) (by decide) rfl rfl rfl (Nat.le_of_ble_eq_true rfl) (c_M_find hX hI 0 (by decide) (by decide)) (fun z_121 m_121 h_121 => ?_)
                  refine mw_iret dX7_copy_124 rfl ?_
                  refine ⟨_, rfl, ?_⟩
                  unfold sp_copy
                  rw [if_pos (by omega), if_neg (by omega), if_pos c_59, if_neg (by omega)]
                  exact h_121
                · refine mw_iload_n dX7_copy_83 rfl ?_
                  refine mw_i2l dX7_copy_84 ?_
                  refine mw_iload dX7_copy_85 rfl ?_
                  refine mw_i2l dX7_copy_87 ?_
                  refine mw_ladd dX7_copy_88 ?_
                  refine mw_aload_n dX7_copy_89 rfl ?_
                  refine mw_gr_7_21 dX7_copy_90 gs_X7_62 (by first | rfl | assumption) ?_
                  refine mw_iload_n dX7_copy_93 rfl ?_
                  refine mw_iald 4 dX7_copy_94 (by first | rfl | assumption) (by first | rfl | assumption) (by omega) ?_
                  rw [esh.2.1]
                  refine mw_i2l dX7_copy_95 ?_
                  refine mw_lcmp dX7_copy_96 ?_
                  refine mw_ifR_gt (tgt := 118) dX7_copy_97 (by decide)  (fun c_97 => ?_) (fun c_97 => ?_)
                  · rw [lg_cmp_gt, i64_gt (by omega) (by omega) (by omega)] at c_97
                    refine mw_aload_n dX7_copy_118 rfl ?_
                    refine mw_ldc dX7_copy_119 ct_X7_71 ?_
                    refine mw_Vi (ci := 7) dX7_copy_121 ml_X7_77 ok_X7_finding (by decide) (by first | rfl | assumption) (by decide) rfl rfl rfl (Nat.le_of_ble_eq_true rfl) (c_M_find hX hI 0 (by decide) (by decide)) (fun z_121 m_121 h_121 => ?_)
                    refine mw_iret dX7_copy_124 rfl ?_
                    refine ⟨_, rfl, ?_⟩
                    unfold sp_copy
                    rw [if_pos (by omega), if_neg (by omega), if_pos c_59, if_neg (by omega)]
                    exact h_121
                  · rw [lg_cmp_gt, i64_gt (by omega) (by omega) (by omega)] at c_97
                    refine mw_iload dX7_copy_100 rfl ?_
                    refine mw_i2l dX7_copy_102 ?_
                    refine mw_iload dX7_copy_103 rfl ?_
                    refine mw_i2l dX7_copy_105 ?_
                    refine mw_ladd dX7_copy_106 ?_
                    refine mw_aload_n dX7_copy_107 rfl ?_
                    refine mw_gr_7_21 dX7_copy_108 gs_X7_62 (by first | rfl | assumption) ?_
                    refine mw_iload_n dX7_copy_111 rfl ?_
                    refine mw_iald 4 dX7_copy_112 (by first | rfl | assumption) (by first | rfl | assumption) (by omega) ?_
                    rw [esh2.2.1]
                    refine mw_i2l dX7_copy_113 ?_
                    refine mw_lcmp dX7_copy_114 ?_
                    refine mw_ifR_le (tgt := 125) dX7_copy_115 (by decide)  (fun c_115 => ?_) (fun c_115 => ?_)
                    · rw [lg_cmp_le, ← Int64.not_lt, i64_gt (by omega) (by omega) (by omega)] at c_115
                      refine mw_iconst dX7_copy_125 ?_
                      refine mw_is6 dX7_copy_126 (by decide) rfl ?_
                      exact l1 41 _ _ (by omega) (by omega) (by omega) c_59 ⟨cpar (by omega) (by omega) c_97, cpar (by omega) (by omega) c_115⟩ (by omega) (by omega) (by omega) rfl (fun c q => rfl) (fun j q1 q2 => by omega)
                    · rw [lg_cmp_le, Int64.not_le, i64_gt (by omega) (by omega) (by omega)] at c_115
                      refine mw_aload_n dX7_copy_118 rfl ?_
                      refine mw_ldc dX7_copy_119 ct_X7_71 ?_
                      refine mw_Vi (ci := 7) dX7_copy_121 ml_X7_77 ok_X7_finding (by decide) (by first | rfl | assumption) (by decide) rfl rfl rfl (Nat.le_of_ble_eq_true rfl) (c_M_find hX hI 0 (by decide) (by decide)) (fun z_121 m_121 h_121 => ?_)
                      refine mw_iret dX7_copy_124 rfl ?_
                      refine ⟨_, rfl, ?_⟩
                      unfold sp_copy
                      rw [if_pos (by omega), if_neg (by omega), if_pos c_59, if_neg (by omega)]
                      exact h_121
          · refine mw_aload_n dX7_copy_62 rfl ?_
            refine mw_ldc dX7_copy_63 ct_X7_164 ?_
            refine mw_Vi (ci := 7) dX7_copy_65 ml_X7_77 ok_X7_finding (by decide) (by first | rfl | assumption) (by decide) rfl rfl rfl (Nat.le_of_ble_eq_true rfl) (c_M_find hX hI 2 (by decide) (by decide)) (fun z_65 m_65 h_65 => ?_)
            refine mw_iret dX7_copy_68 rfl ?_
            refine ⟨_, rfl, ?_⟩
            unfold sp_copy
            rw [if_pos (by omega), if_neg (by omega), if_neg c_59]
            exact h_65
        · refine mw_aload_n dX7_copy_39 rfl ?_
          refine mw_ldcw dX7_copy_40 ct_X7_298 ?_
          refine mw_Vi (ci := 7) dX7_copy_43 ml_X7_77 ok_X7_finding (by decide) (by first | rfl | assumption) (by decide) rfl rfl rfl (Nat.le_of_ble_eq_true rfl) (c_M_find hX hI 5 (by decide) (by decide)) (fun z_43 m_43 h_43 => ?_)
          refine mw_iret dX7_copy_46 rfl ?_
          refine ⟨_, rfl, ?_⟩
          unfold sp_copy
          rw [if_pos (by omega), if_pos (by omega)]
          exact h_43
    · have d_11 := wi_0 c_11
      refine mw_aload_n dX7_copy_14 rfl ?_
      refine mw_ldc dX7_copy_15 ct_X7_71 ?_
      refine mw_Vi (ci := 7) dX7_copy_17 ml_X7_77 ok_X7_finding (by decide) (by first | rfl | assumption) (by decide) rfl rfl rfl (Nat.le_of_ble_eq_true rfl) (c_M_find hX hI 0 (by decide) (by decide)) (fun z_17 m_17 h_17 => ?_)
      refine mw_iret dX7_copy_20 rfl ?_
      refine ⟨_, rfl, ?_⟩
      unfold sp_copy
      rw [if_neg (by omega)]
      exact h_17

set_option maxHeartbeats 4000000 in
set_option maxRecDepth 100000 in
theorem c_M_lays {G : mG} {μ : mMem} {st : aS} (hX : MR μ st) (hI : SI st) {s d : Int} (hs_ : -2147483648 ≤ s ∧ s ≤ 2147483647) (hd_ : -2147483648 ≤ d ∧ d ≤ 2147483647) : mM G yX7_lays cX7_lays 5 (some .int) 3 [.ref 56, .int (iV s), .int (iV d)] μ (qM μ (sp_lays st s d)) := by
  obtain ⟨hR, hK, hkp, htl, htb, hfd, hfs, hsh⟩ := id hX
  have hFI := hI.1
  have hn := hFI.2.1
  have h0 := hFI.1
  have h99 := hI.2.1
  have hc := flt2_c st s d
  have hly := lyN_r (numT st s) (st.1 6 s) 12 0
  refine mM.of (lv := [some (.ref 56), some (.int (iV s)), some (.int (iV d)), none, none]) 2 (by decide +kernel) (Nat.le_of_ble_eq_true rfl) rfl ?_
  intro X
  have lp : ∀ (n_ : Nat) (i : Int) (m : mMem), (flt2 st s d = 0) → (0 ≤ i) → (i ≤ 12) → (13 ≤ i + n_) → (DY μ m) → (ROW m 57 (fun j => if 4 + 12 * d ≤ j ∧ j < 4 + 12 * d + i then (numT st s (j - (4 + 12 * d))).toInt32.toInt else st.1 0 j)) → (lyN (numT st s) (st.1 6 s) (12 - i).toNat i = lyN (numT st s) (st.1 6 s) 12 0) → mW X cX7_lays 5 (some .int) yX7_lays.cls 3 G (qM μ (sp_lays st s d)) 23 [some (.ref 56), some (.int (iV s)), some (.int (iV d)), some (.int (iV 0)), some (.int (iV i))] [] m := by
    intro n_
    induction n_ with
    | zero =>
      intro i m hfl h1 h2 h3 h4 h6 h8
      omega
    | succ n_ ih =>
      intro i m hfl h1 h2 h3 h4 h6 h8
      have f2 := flt2_0 hfl
      have f1 := flt_0 f2.1
      have esh := hsh s (by omega) (by omega)
      have hsI := hI.2.2.2.2.2.2.2 s (by omega) (by omega)
      have hq := hsI.2.1
      refine mw_iload dX7_lays_23 rfl ?_
      refine mw_aload_n dX7_lays_25 rfl ?_
      refine mw_gr_7_21 dX7_lays_26 gs_X7_62 (by first | rfl | assumption) ?_
      refine mw_iload_n dX7_lays_29 rfl ?_
      refine mw_iald 4 dX7_lays_30 (by first | rfl | assumption) (by first | rfl | assumption) (by omega) ?_
      rw [h4.1 _ (by omega) (by omega), esh.2.1]
      refine mw_icmp_ge (tgt := 92) dX7_lays_31 (by decide) (by omega) (by omega) (fun c_31 => ?_) (fun c_31 => ?_)
      · refine mw_aload_n dX7_lays_92 rfl ?_
        refine mw_gr_7_0 dX7_lays_93 gs_X7_9 (by first | rfl | assumption) ?_
        refine mw_iconst dX7_lays_96 ?_
        refine mw_iload_n dX7_lays_97 rfl ?_
        refine mw_iadd dX7_lays_98 ?_
        refine mw_iload dX7_lays_99 rfl ?_
        refine mw_iast 68 dX7_lays_101 (by first | rfl | assumption) (by first | rfl | assumption) (by omega) ?_
        refine mw_iload dX7_lays_102 rfl ?_
        refine mw_iret dX7_lays_104 rfl ?_
        have e8 : i = lyN (numT st s) (st.1 6 s) 12 0 := by
          rw [← h8]
          by_cases e12 : i = 12
          · rw [e12]
            rfl
          · rw [show (12 - i).toNat = (12 - (i + 1)).toNat + 1 by omega, lyN, if_neg (by omega)]
        refine ⟨_, rfl, ?_⟩
        unfold sp_lays
        rw [if_pos hfl, ← e8]
        refine ⟨rfl, hX.row ((h6.up (2 + d) i).eq (fun j q1 q2 => ?_)) (h4.tr DY.st).dr, (h4.tr DY.st).mf⟩
        unfold setT
        by_cases e1 : 4 + 12 * d ≤ j ∧ j < 4 + 12 * d + i
        · rw [upF_o (by omega), if_pos (by omega), if_pos e1]
        · rw [if_neg e1]
          by_cases e2 : j = 2 + d
          · rw [if_pos e2, e2, upF_s]
          · rw [if_neg e2, upF_o e2, if_neg (by omega)]
      · refine mw_iload dX7_lays_34 rfl ?_
        refine mw_bipush dX7_lays_36 (by decide +kernel) ?_
        refine mw_icmp_ge (tgt := 92) dX7_lays_38 (by decide) (by omega) (by omega) (fun c_38 => ?_) (fun c_38 => ?_)
        · refine mw_aload_n dX7_lays_92 rfl ?_
          refine mw_gr_7_0 dX7_lays_93 gs_X7_9 (by first | rfl | assumption) ?_
          refine mw_iconst dX7_lays_96 ?_
          refine mw_iload_n dX7_lays_97 rfl ?_
          refine mw_iadd dX7_lays_98 ?_
          refine mw_iload dX7_lays_99 rfl ?_
          refine mw_iast 68 dX7_lays_101 (by first | rfl | assumption) (by first | rfl | assumption) (by omega) ?_
          refine mw_iload dX7_lays_102 rfl ?_
          refine mw_iret dX7_lays_104 rfl ?_
          have e8 : i = lyN (numT st s) (st.1 6 s) 12 0 := by
            rw [← h8, show (12 - i).toNat = 0 by omega]
            rfl
          refine ⟨_, rfl, ?_⟩
          unfold sp_lays
          rw [if_pos hfl, ← e8]
          refine ⟨rfl, hX.row ((h6.up (2 + d) i).eq (fun j q1 q2 => ?_)) (h4.tr DY.st).dr, (h4.tr DY.st).mf⟩
          unfold setT
          by_cases e1 : 4 + 12 * d ≤ j ∧ j < 4 + 12 * d + i
          · rw [upF_o (by omega), if_pos (by omega), if_pos e1]
          · rw [if_neg e1]
            by_cases e2 : j = 2 + d
            · rw [if_pos e2, e2, upF_s]
            · rw [if_neg e2, upF_o e2, if_neg (by omega)]
        · rw [show (12 - i).toNat = (12 - (i + 1)).toNat + 1 by omega, lyN] at h8
          refine mw_aload_n dX7_lays_41 rfl ?_
          refine mw_gr_7_22 dX7_lays_42 gs_X7_65 (by first | rfl | assumption) ?_
          refine mw_bipush dX7_lays_45 (by decide +kernel) ?_
          refine mw_iload_n dX7_lays_47 rfl ?_
          refine mw_imul dX7_lays_48 ?_
          refine mw_iload dX7_lays_49 rfl ?_
          refine mw_iadd dX7_lays_51 ?_
          refine mw_lald 160 dX7_lays_52 (by first | rfl | assumption) (by first | rfl | assumption) (by omega) ?_
          rw [h4.2, hX.num_at (by omega) (by omega), show st.2 (40 * s + i) = numT st s i from rfl]
          refine mw_Spi dX7_lays_53 ml_X7_276 ok_X7_isTone (by decide) rfl rfl (Nat.le_of_ble_eq_true rfl) (c_M_isTone) ?_
          refine mw_if_eq (tgt := 92) dX7_lays_56 (by decide) (by split <;> omega) (fun c_56 => ?_) (fun c_56 => ?_)
          · have g : ¬ (0 ≤ numT st s i ∧ numT st s i < 12) := fun q => by rw [if_pos q] at c_56; exact absurd c_56 (by decide)
            rw [if_neg (fun q => g q.2)] at h8
            refine mw_aload_n dX7_lays_92 rfl ?_
            refine mw_gr_7_0 dX7_lays_93 gs_X7_9 (by first | rfl | assumption) ?_
            refine mw_iconst dX7_lays_96 ?_
            refine mw_iload_n dX7_lays_97 rfl ?_
            refine mw_iadd dX7_lays_98 ?_
            refine mw_iload dX7_lays_99 rfl ?_
            refine mw_iast 68 dX7_lays_101 (by first | rfl | assumption) (by first | rfl | assumption) (by omega) ?_
            refine mw_iload dX7_lays_102 rfl ?_
            refine mw_iret dX7_lays_104 rfl ?_
            have e8 : i = lyN (numT st s) (st.1 6 s) 12 0 := h8
            refine ⟨_, rfl, ?_⟩
            unfold sp_lays
            rw [if_pos hfl, ← e8]
            refine ⟨rfl, hX.row ((h6.up (2 + d) i).eq (fun j q1 q2 => ?_)) (h4.tr DY.st).dr, (h4.tr DY.st).mf⟩
            unfold setT
            by_cases e1 : 4 + 12 * d ≤ j ∧ j < 4 + 12 * d + i
            · rw [upF_o (by omega), if_pos (by omega), if_pos e1]
            · rw [if_neg e1]
              by_cases e2 : j = 2 + d
              · rw [if_pos e2, e2, upF_s]
              · rw [if_neg e2, upF_o e2, if_neg (by omega)]
          · have g : 0 ≤ numT st s i ∧ numT st s i < 12 := Classical.byContradiction (fun q => c_56 (if_neg q))
            rw [if_pos ⟨c_31, g⟩] at h8
            refine mw_aload_n dX7_lays_59 rfl ?_
            refine mw_gr_7_0 dX7_lays_60 gs_X7_9 (by first | rfl | assumption) ?_
            refine mw_iconst dX7_lays_63 ?_
            refine mw_bipush dX7_lays_64 (by decide +kernel) ?_
            refine mw_iload_n dX7_lays_66 rfl ?_
            refine mw_imul dX7_lays_67 ?_
            refine mw_iadd dX7_lays_68 ?_
            refine mw_iload dX7_lays_69 rfl ?_
            refine mw_iadd dX7_lays_71 ?_
            refine mw_aload_n dX7_lays_72 rfl ?_
            refine mw_gr_7_22 dX7_lays_73 gs_X7_65 (by first | rfl | assumption) ?_
            refine mw_bipush dX7_lays_76 (by decide +kernel) ?_
            refine mw_iload_n dX7_lays_78 rfl ?_
            refine mw_imul dX7_lays_79 ?_
            refine mw_iload dX7_lays_80 rfl ?_
            refine mw_iadd dX7_lays_82 ?_
            refine mw_lald 160 dX7_lays_83 (by first | rfl | assumption) (by first | rfl | assumption) (by omega) ?_
            rw [h4.2, hX.num_at (by omega) (by omega), show st.2 (40 * s + i) = numT st s i from rfl]
            refine mw_l2i dX7_lays_84 ?_
            refine mw_iast 68 dX7_lays_85 (by first | rfl | assumption) (by first | rfl | assumption) (by omega) ?_
            refine mw_ii4 dX7_lays_86 (by decide) rfl ?_
            refine mw_goto (tgt := 23) dX7_lays_89 (by decide) ?_
            refine ih _ _ hfl (by omega) (by omega) (by omega) (h4.tr DY.st) (fun j q1 q2 => ?_) h8
            by_cases e : j = 4 + 12 * d + i
            · rw [e, u1_s]
              try dsimp only
              rw [if_pos (by omega), show 4 + 12 * d + i - (4 + 12 * d) = i by omega]
            · rw [u1_o (by omega), h6 j q1 q2]
              try dsimp only
              by_cases e2 : 4 + 12 * d ≤ j ∧ j < 4 + 12 * d + i
              · rw [if_pos e2, if_pos (by omega)]
              · rw [if_neg e2, if_neg (by omega)]
  refine mw_aload_n dX7_lays_0 rfl ?_
  refine mw_iload_n dX7_lays_1 rfl ?_
  refine mw_iload_n dX7_lays_2 rfl ?_
  refine mw_Spi dX7_lays_3 ml_X7_91 ok_X7_isSide (by decide) rfl rfl (Nat.le_of_ble_eq_true rfl) (c_M_isSide (by omega)) ?_
  refine mw_Vpi (ci := 7) dX7_lays_6 ml_X7_303 ok_X7_lacks (by decide) (by first | rfl | assumption) (by decide) rfl rfl rfl (Nat.le_of_ble_eq_true rfl) (c_M_lacks hX hI (by omega) (wi_bd _ _ _)) ?_
  rw [lk_2]
  refine mw_is3 dX7_lays_9 (by decide) rfl ?_
  refine mw_iload_n dX7_lays_10 rfl ?_
  refine mw_if_eq (tgt := 20) dX7_lays_11 (by decide) (by omega) (fun c_11 => ?_) (fun c_11 => ?_)
  · refine mw_iconst dX7_lays_20 ?_
    refine mw_is4 dX7_lays_21 (by decide) rfl ?_
    rw [c_11]
    exact lp 13 _ _ c_11 (by omega) (by omega) (by omega) DY.rf (hR.eq (fun j q1 q2 => (if_neg (by omega)).symm)) rfl
  · refine mw_aload_n dX7_lays_14 rfl ?_
    refine mw_iload_n dX7_lays_15 rfl ?_
    refine mw_Vi (ci := 7) dX7_lays_16 ml_X7_77 ok_X7_finding (by decide) (by first | rfl | assumption) (by decide) rfl rfl rfl (Nat.le_of_ble_eq_true rfl) (c_M_find hX hI (-1000000001 - flt2 st s d) (by omega) (by omega)) (fun z_16 m_16 h_16 => ?_)
    refine mw_iret dX7_lays_19 rfl ?_
    refine ⟨_, rfl, ?_⟩
    unfold sp_lays
    rw [if_neg c_11]
    exact h_16
set_option maxHeartbeats 4000000 in
set_option maxRecDepth 100000 in
theorem c_M_book {G : mG} {μ : mMem} {st : aS} (hX : MR μ st) (hI : SI st) {s d : Int} (hs_ : -2147483648 ≤ s ∧ s ≤ 2147483647) (hd_ : -2147483648 ≤ d ∧ d ≤ 2147483647) : mM G yX7_book cX7_book 5 (some .int) 5 [.ref 56, .int (iV s), .int (iV d)] μ (qM μ (sp_book st s d)) := by
  obtain ⟨hR, hK, hkp, htl, htb, hfd, hfs, hsh⟩ := id hX
  have hFI := hI.1
  have hn := hFI.2.1
  have h0 := hFI.1
  have h99 := hI.2.1
  have hc := flt2_c st s d
  refine mM.of (lv := [some (.ref 56), some (.int (iV s)), some (.int (iV d)), none, none]) 2 (by decide +kernel) (Nat.le_of_ble_eq_true rfl) rfl ?_
  intro X
  have lp : ∀ (n_ : Nat) (i : Int) (m : mMem), (flt2 st s d = 0) → (0 ≤ i) → (i ≤ st.1 6 s) → (41 ≤ i + n_) → (∀ c : Nat, c ≠ 57 → c ≠ 59 → c ≠ 61 → m.1 c = μ.1 c) → (∀ c : Nat, c ≠ 70 → m.2 c = μ.2 c) → (ROW m 57 (daysF i.toNat (st.1 0))) → (ROW m 59 (st.1 0)) → (∀ j : Int, 0 ≤ j → j < 160 → m.2 70 j = bkN st s d i j) → mW X cX7_book 5 (some .int) yX7_book.cls 5 G (qM μ (sp_book st s d)) 34 [some (.ref 56), some (.int (iV s)), some (.int (iV d)), some (.int (iV 0)), some (.int (iV i))] [] m := by
    intro n_
    induction n_ with
    | zero =>
      intro i m hfl h1 h2 h3 h4 h5 h6 h7 h8
      have f2 := flt2_0 hfl
      have f1 := flt_0 f2.1
      have esh := hsh s (by omega) (by omega)
      have hsI := hI.2.2.2.2.2.2.2 s (by omega) (by omega)
      have hq := hsI.2.1
      omega
    | succ n_ ih =>
      intro i m hfl h1 h2 h3 h4 h5 h6 h7 h8
      have f2 := flt2_0 hfl
      have f1 := flt_0 f2.1
      have esh := hsh s (by omega) (by omega)
      have hsI := hI.2.2.2.2.2.2.2 s (by omega) (by omega)
      have hq := hsI.2.1
      refine mw_iload dX7_book_34 rfl ?_
      refine mw_aload_n dX7_book_36 rfl ?_
      refine mw_gr_7_21 dX7_book_37 gs_X7_62 (by first | rfl | assumption) ?_
      refine mw_iload_n dX7_book_40 rfl ?_
      refine mw_iald 4 dX7_book_41 (by first | rfl | assumption) (by first | rfl | assumption) (by omega) ?_
      rw [h4 _ (by omega) (by omega) (by omega), esh.2.1]
      refine mw_icmp_ge (tgt := 73) dX7_book_42 (by decide) (by omega) (by omega) (fun c_42 => ?_) (fun c_42 => ?_)
      · refine mw_aload_n dX7_book_73 rfl ?_
        refine mw_aload_n dX7_book_74 rfl ?_
        refine mw_gr_7_21 dX7_book_75 gs_X7_62 (by first | rfl | assumption) ?_
        refine mw_iload_n dX7_book_78 rfl ?_
        refine mw_iald 4 dX7_book_79 (by first | rfl | assumption) (by first | rfl | assumption) (by omega) ?_
        rw [h4 _ (by omega) (by omega) (by omega), esh.2.1]
        refine mw_Vi (ci := 7) dX7_book_80 ml_X7_186 ok_X7_putBack (by decide) (by first | rfl | assumption) (by decide) rfl rfl rfl (Nat.le_of_ble_eq_true rfl) (c_M_putBack h7) (fun z_80 m_80 h_80 => ?_)
        refine mw_iret dX7_book_83 rfl ?_
        refine ⟨_, rfl, ?_⟩
        unfold sp_book
        rw [if_pos hfl]
        refine ⟨h_80.1, hX.num h_80.2.1 (fun c q1 q2 q3 => (h_80.2.2.1 c q1 q2 q3).trans (h4 c q1 q2 q3)) (fun j q1 q2 => ?_), fun c hc => ⟨(h_80.2.2.1 c (by omega) (by omega) (by omega)).trans (h4 c (by omega) (by omega) (by omega)), by rw [h_80.2.2.2]; exact h5 c (by omega)⟩⟩
        rw [h_80.2.2.2, h8 j q1 q2, show i = st.1 6 s by omega]
      · refine mw_aload_n dX7_book_45 rfl ?_
        refine mw_gr_7_22 dX7_book_46 gs_X7_65 (by first | rfl | assumption) ?_
        refine mw_bipush dX7_book_49 (by decide +kernel) ?_
        refine mw_iload_n dX7_book_51 rfl ?_
        refine mw_imul dX7_book_52 ?_
        refine mw_iload dX7_book_53 rfl ?_
        refine mw_iadd dX7_book_55 ?_
        refine mw_aload_n dX7_book_56 rfl ?_
        refine mw_iload_n dX7_book_57 rfl ?_
        refine mw_Vpi (ci := 7) dX7_book_58 ml_X7_123 ok_X7_tensionOf (by decide) (by first | rfl | assumption) (by decide) rfl rfl rfl (Nat.le_of_ble_eq_true rfl) (c_M_tensionOf h6 (days_inv hFI _) f2.2) ?_
        refine mw_i2l dX7_book_61 ?_
        refine mw_last 160 dX7_book_62 (by first | rfl | assumption) (by first | rfl | assumption) (by omega) ?_
        refine mw_aload_n dX7_book_63 rfl ?_
        refine mw_Vv (ci := 7) dX7_book_64 ml_X7_172 ok_X7_day (by decide) (by first | rfl | assumption) (by decide) rfl rfl rfl (Nat.le_of_ble_eq_true rfl) (c_M_day (F := daysF i.toNat (st.1 0)) (fun j q1 q2 => h6 j q1 q2) (days_inv hFI _) (by rw [days_day]; omega)) (fun m_64 h_64 => ?_)
        refine mw_ii4 dX7_book_67 (by decide) rfl ?_
        refine mw_goto (tgt := 34) dX7_book_70 (by decide) ?_
        refine ih _ _ hfl (by omega) (by omega) (by omega) (fun c q1 q2 q3 => (h_64.2.1 c q1 q3).trans (h4 c q1 q2 q3)) (fun c q => ?_) (by rw [show (i + 1).toNat = i.toNat + 1 by omega, days_succ]; exact h_64.1) (fun j q1 q2 => by rw [h_64.2.1 59 (by omega) (by omega)]; exact h7 j q1 q2) (fun j q1 q2 => ?_)
        · rw [h_64.2.2, ← h5 c q]
          funext j
          rw [u2_o (by omega)]
        · rw [h_64.2.2]
          by_cases e : j = 40 * s + i
          · rw [e, u2_s]
            unfold bkN
            rw [if_pos (by omega), show 40 * s + i - 40 * s = i by omega]
          · rw [u2_o (by omega), h8 j q1 q2]
            unfold bkN
            by_cases e2 : 40 * s ≤ j ∧ j < 40 * s + i
            · rw [if_pos e2, if_pos (by omega)]
            · rw [if_neg e2, if_neg (by omega)]
  refine mw_aload_n dX7_book_0 rfl ?_
  refine mw_iload_n dX7_book_1 rfl ?_
  refine mw_iload_n dX7_book_2 rfl ?_
  refine mw_Spi dX7_book_3 ml_X7_91 ok_X7_isSide (by decide) rfl rfl (Nat.le_of_ble_eq_true rfl) (c_M_isSide (by omega)) ?_
  refine mw_Vpi (ci := 7) dX7_book_6 ml_X7_303 ok_X7_lacks (by decide) (by first | rfl | assumption) (by decide) rfl rfl rfl (Nat.le_of_ble_eq_true rfl) (c_M_lacks hX hI (by omega) (wi_bd _ _ _)) ?_
  rw [lk_2]
  refine mw_is3 dX7_book_9 (by decide) rfl ?_
  refine mw_iload_n dX7_book_10 rfl ?_
  refine mw_if_eq (tgt := 20) dX7_book_11 (by decide) (by omega) (fun c_11 => ?_) (fun c_11 => ?_)
  · have f2 := flt2_0 c_11
    have f1 := flt_0 f2.1
    have esh := hsh s (by omega) (by omega)
    have hsI := hI.2.2.2.2.2.2.2 s (by omega) (by omega)
    have hq := hsI.2.1
    refine mw_aload_n dX7_book_20 rfl ?_
    refine mw_gr_7_0 dX7_book_21 gs_X7_9 (by first | rfl | assumption) ?_
    refine mw_aload_n dX7_book_24 rfl ?_
    refine mw_gr_7_2 dX7_book_25 gs_X7_16 (by first | rfl | assumption) ?_
    refine mw_Sv dX7_book_28 ml_X7_72 ok_X7_copyRow (by decide) rfl rfl (Nat.le_of_ble_eq_true rfl) (c_M_copyRow rfl rfl rfl rfl (by decide)) (fun m_28 h_28 => ?_)
    obtain ⟨a1, a2, a3⟩ := cp_to hR h_28
    refine mw_iconst dX7_book_31 ?_
    refine mw_is4 dX7_book_32 (by decide) rfl ?_
    rw [c_11]
    refine lp 41 _ _ c_11 (by omega) (by omega) (by omega) a3.1 (fun c q => by rw [a3.2]) a1 a2 (fun j q1 q2 => ?_)
    rw [a3.2, hX.num_at q1 q2]
    unfold bkN
    rw [if_neg (by omega)]
  · refine mw_aload_n dX7_book_14 rfl ?_
    refine mw_iload_n dX7_book_15 rfl ?_
    refine mw_Vi (ci := 7) dX7_book_16 ml_X7_77 ok_X7_finding (by decide) (by first | rfl | assumption) (by decide) rfl rfl rfl (Nat.le_of_ble_eq_true rfl) (c_M_find hX hI (-1000000001 - flt2 st s d) (by omega) (by omega)) (fun z_16 m_16 h_16 => ?_)
    refine mw_iret dX7_book_19 rfl ?_
    refine ⟨_, rfl, ?_⟩
    unfold sp_book
    rw [if_neg c_11]
    exact h_16
set_option maxHeartbeats 4000000 in
set_option maxRecDepth 100000 in
theorem c_M_isAnswerOf {G : mG} {μ : mMem} {st : aS} (hX : MR μ st) (hI : SI st) {s k y b d : Int} (hs : 0 ≤ s ∧ s < 4) (hk : 0 ≤ k ∧ k < 6) (hy : 0 ≤ y ∧ y < 12) (hd : 0 ≤ d ∧ d ≤ 1) : mM G yX7_isAnswerOf cX7_isAnswerOf 8 (some .boolean) 2 [.ref 56, .int (iV s), .int (iV k), .int (iV y), .int (iV b), .int (iV d)] μ (pI (jwP st s b d k y) μ) := by
  obtain ⟨hR, hK, hkp, htl, htb, hfd, hfs, hsh⟩ := id hX
  have hFI := hI.1
  have hn := hFI.2.1
  have h0 := hFI.1
  have h99 := hI.2.1
  have esh := hsh s (by omega) (by omega)
  have hsI := hI.2.2.2.2.2.2.2 s (by omega) (by omega)
  have hq := hsI.2.1
  have hl := hFI.2.2.1 d hd.1 hd.2
  have hL := lng_bd (kind := k) hl.1
  have hjc := jwP_c st s b d k y
  refine mM.of (lv := [some (.ref 56), some (.int (iV s)), some (.int (iV k)), some (.int (iV y)), some (.int (iV b)), some (.int (iV d)), none, none]) 2 (by decide +kernel) (Nat.le_of_ble_eq_true rfl) rfl ?_
  intro X
  have lp : ∀ (n_ : Nat) (v i : Int), (0 ≤ i) → (i ≤ st.1 6 s) → (41 ≤ i + n_) → ((v = 1 ∧ st.1 6 s = lng k (st.1 0 (2 + d)) ∧ jwU (numT st s) (ansI k y b (st.1 0 (2 + d)) (tn (st.1 0) d)) (st.1 6 s - i).toNat i = jwP st s b d k y) ∨ (v = 0 ∧ jwP st s b d k y = 0)) → mW X cX7_isAnswerOf 8 (some .boolean) yX7_isAnswerOf.cls 2 G (pI (jwP st s b d k y) μ) 29 [some (.ref 56), some (.int (iV s)), some (.int (iV k)), some (.int (iV y)), some (.int (iV b)), some (.int (iV d)), some (.int (iV v)), some (.int (iV i))] [] μ := by
    intro n_
    induction n_ with
    | zero =>
      intro v i h1 h2 h3 h5
      omega
    | succ n_ ih =>
      intro v i h1 h2 h3 h5
      refine mw_iload dX7_isAnswerOf_29 rfl ?_
      refine mw_aload_n dX7_isAnswerOf_31 rfl ?_
      refine mw_gr_7_21 dX7_isAnswerOf_32 gs_X7_62 (by first | rfl | assumption) ?_
      refine mw_iload_n dX7_isAnswerOf_35 rfl ?_
      refine mw_iald 4 dX7_isAnswerOf_36 (by first | rfl | assumption) (by first | rfl | assumption) (by omega) ?_
      rw [esh.2.1]
      refine mw_icmp_ge (tgt := 87) dX7_isAnswerOf_37 (by decide) (by omega) (by omega) (fun c_37 => ?_) (fun c_37 => ?_)
      · refine mw_iload dX7_isAnswerOf_87 rfl ?_
        refine mw_zret dX7_isAnswerOf_89 rfl (by rcases h5 with h | h <;> rw [h.1] <;> decide +kernel) ?_
        refine ⟨?_, rfl⟩
        rcases h5 with h | h
        · first
          | (exfalso; omega)
          | (have e := h.2.2
             rw [show (st.1 6 s - i).toNat = 0 by omega, jwU] at e
             rw [h.1, ← e])
        · rw [h.1, h.2]
      · refine mw_iload dX7_isAnswerOf_40 rfl ?_
        refine mw_if_eq (tgt := 87) dX7_isAnswerOf_42 (by decide) (by omega) (fun c_42 => ?_) (fun c_42 => ?_)
        · refine mw_iload dX7_isAnswerOf_87 rfl ?_
          refine mw_zret dX7_isAnswerOf_89 rfl (by rcases h5 with h | h <;> rw [h.1] <;> decide +kernel) ?_
          refine ⟨?_, rfl⟩
          rcases h5 with h | h
          · first
            | (exfalso; omega)
            | (have e := h.2.2
               rw [show (st.1 6 s - i).toNat = 0 by omega, jwU] at e
               rw [h.1, ← e])
          · rw [h.1, h.2]
        · obtain ⟨g1, g2, g3⟩ : v = 1 ∧ st.1 6 s = lng k (st.1 0 (2 + d)) ∧ jwU (numT st s) (ansI k y b (st.1 0 (2 + d)) (tn (st.1 0) d)) (st.1 6 s - i).toNat i = jwP st s b d k y := by
            rcases h5 with h | h
            · exact h
            · omega
          rw [show (st.1 6 s - i).toNat = (st.1 6 s - (i + 1)).toNat + 1 by omega, jwU] at g3
          refine mw_aload_n dX7_isAnswerOf_45 rfl ?_
          refine mw_gr_7_22 dX7_isAnswerOf_46 gs_X7_65 (by first | rfl | assumption) ?_
          refine mw_bipush dX7_isAnswerOf_49 (by decide +kernel) ?_
          refine mw_iload_n dX7_isAnswerOf_51 rfl ?_
          refine mw_imul dX7_isAnswerOf_52 ?_
          refine mw_iload dX7_isAnswerOf_53 rfl ?_
          refine mw_iadd dX7_isAnswerOf_55 ?_
          refine mw_lald 160 dX7_isAnswerOf_56 (by first | rfl | assumption) (by first | rfl | assumption) (by omega) ?_
          rw [hX.num_at (by omega) (by omega), show st.2 (40 * s + i) = numT st s i from rfl]
          refine mw_aload_n dX7_isAnswerOf_57 rfl ?_
          refine mw_iload_n dX7_isAnswerOf_58 rfl ?_
          refine mw_iload_n dX7_isAnswerOf_59 rfl ?_
          refine mw_iload dX7_isAnswerOf_60 rfl ?_
          refine mw_iload dX7_isAnswerOf_62 rfl ?_
          refine mw_iload dX7_isAnswerOf_64 rfl ?_
          refine mw_Vpi (ci := 7) dX7_isAnswerOf_66 ml_X7_148 ok_X7_answers (by decide) (by first | rfl | assumption) (by decide) rfl rfl rfl (Nat.le_of_ble_eq_true rfl) (c_M_answers hR hFI hk hy hd (by omega)) ?_
          refine mw_i2l dX7_isAnswerOf_69 ?_
          refine mw_lcmp dX7_isAnswerOf_70 ?_
          refine mw_ifR_ne (tgt := 78) dX7_isAnswerOf_71 (by decide)  (fun c_71 => ?_) (fun c_71 => ?_)
          · rw [ne_eq, lg_cmp_eq] at c_71
            rw [if_neg c_71] at g3
            refine mw_iconst dX7_isAnswerOf_78 ?_
            refine mw_is6 dX7_isAnswerOf_79 (by decide) rfl ?_
            refine mw_ii7 dX7_isAnswerOf_81 (by decide) rfl ?_
            refine mw_goto (tgt := 29) dX7_isAnswerOf_84 (by decide) ?_
            exact ih _ _ (by omega) (by omega) (by omega) (Or.inr ⟨rfl, g3.symm⟩)
          · rw [lg_cmp_eq] at c_71
            rw [if_pos c_71] at g3
            refine mw_iconst dX7_isAnswerOf_74 ?_
            refine mw_goto (tgt := 79) dX7_isAnswerOf_75 (by decide) ?_
            refine mw_is6 dX7_isAnswerOf_79 (by decide) rfl ?_
            refine mw_ii7 dX7_isAnswerOf_81 (by decide) rfl ?_
            refine mw_goto (tgt := 29) dX7_isAnswerOf_84 (by decide) ?_
            exact ih _ _ (by omega) (by omega) (by omega) (Or.inl ⟨rfl, g2, g3⟩)
  refine mw_aload_n dX7_isAnswerOf_0 rfl ?_
  refine mw_gr_7_21 dX7_isAnswerOf_1 gs_X7_62 (by first | rfl | assumption) ?_
  refine mw_iload_n dX7_isAnswerOf_4 rfl ?_
  refine mw_iald 4 dX7_isAnswerOf_5 (by first | rfl | assumption) (by first | rfl | assumption) (by omega) ?_
  rw [esh.2.1]
  refine mw_iload_n dX7_isAnswerOf_6 rfl ?_
  refine mw_aload_n dX7_isAnswerOf_7 rfl ?_
  refine mw_iload dX7_isAnswerOf_8 rfl ?_
  refine mw_Vpi (ci := 7) dX7_isAnswerOf_10 ml_X7_99 ok_X7_length (by decide) (by first | rfl | assumption) (by decide) rfl rfl rfl (Nat.le_of_ble_eq_true rfl) (c_M_length hR hd) ?_
  refine mw_Spi dX7_isAnswerOf_13 ml_X7_152 ok_X7_longOf (by decide) rfl rfl (Nat.le_of_ble_eq_true rfl) (c_M_longOf hk hl) ?_
  refine mw_icmp_ne (tgt := 23) dX7_isAnswerOf_16 (by decide) (by omega) (by omega) (fun c_16 => ?_) (fun c_16 => ?_)
  · refine mw_iconst dX7_isAnswerOf_23 ?_
    refine mw_is6 dX7_isAnswerOf_24 (by decide) rfl ?_
    refine mw_iconst dX7_isAnswerOf_26 ?_
    refine mw_is7 dX7_isAnswerOf_27 (by decide) rfl ?_
    exact lp 41 _ _ (by omega) (by omega) (by omega) (Or.inr ⟨rfl, by unfold jwP; rw [if_neg c_16]⟩)
  · refine mw_iconst dX7_isAnswerOf_19 ?_
    refine mw_goto (tgt := 24) dX7_isAnswerOf_20 (by decide) ?_
    refine mw_is6 dX7_isAnswerOf_24 (by decide) rfl ?_
    refine mw_iconst dX7_isAnswerOf_26 ?_
    refine mw_is7 dX7_isAnswerOf_27 (by decide) rfl ?_
    exact lp 41 _ _ (by omega) (by omega) (by omega) (Or.inl ⟨rfl, c_16, by unfold jwP; rw [if_pos c_16, Int.sub_zero]⟩)
set_option maxHeartbeats 4000000 in
set_option maxRecDepth 100000 in
theorem c_M_read {G : mG} {μ : mMem} {st : aS} (hX : MR μ st) (hI : SI st) {s a : Int} (hs_ : -2147483648 ≤ s ∧ s ≤ 2147483647) (ha_ : -2147483648 ≤ a ∧ a ≤ 2147483647) : mM G yX7_read cX7_read 7 (some .int) 3 [.ref 56, .int (iV s), .int (iV a)] μ (qM μ (sp_read st s a)) := by
  obtain ⟨hR, hK, hkp, htl, htb, hfd, hfs, hsh⟩ := id hX
  have hFI := hI.1
  have hn := hFI.2.1
  have h0 := hFI.1
  have h99 := hI.2.1
  have hc := flt_c st s
  refine mM.of (lv := [some (.ref 56), some (.int (iV s)), some (.int (iV a)), none, none, none, none]) 4 (by decide +kernel) (Nat.le_of_ble_eq_true rfl) rfl ?_
  intro X
  have lo : ∀ (n_ : Nat) (q6 : Option Value) (q c : Int), (fltS st s = 0) → (0 ≤ a ∧ a < st.1 0 1) → (0 ≤ q ∧ q ≤ 6) → (7 ≤ q + n_) → (rdK (jwP st s (st.1 0 (28 + 5 * a + 3)) (1 - st.1 0 (28 + 5 * a + 1))) (6 - q).toNat q c = rdK (jwP st s (st.1 0 (28 + 5 * a + 3)) (1 - st.1 0 (28 + 5 * a + 1))) 6 0 0) → mW X cX7_read 7 (some .int) yX7_read.cls 3 G (qM μ (sp_read st s a)) 27 [some (.ref 56), some (.int (iV s)), some (.int (iV a)), some (.int (iV 0)), some (.int (iV c)), some (.int (iV q)), q6] [] μ := by
    intro n_
    induction n_ with
    | zero =>
      intro q6 q c hfl ha h1 h3 h6
      omega
    | succ n_ ih =>
      intro q6 q c hfl ha h1 h3 h6
      have f1 := flt_0 hfl
      have hsd := (hFI.2.2.2.2 a (by omega) (by omega)).2.1
      have li : ∀ (k_ : Nat) (y c : Int), (q < 6) → (0 ≤ y ∧ y ≤ 12) → (13 ≤ y + k_) → (rdK (jwP st s (st.1 0 (28 + 5 * a + 3)) (1 - st.1 0 (28 + 5 * a + 1))) (5 - q).toNat (q + 1) (kys ((jwP st s (st.1 0 (28 + 5 * a + 3)) (1 - st.1 0 (28 + 5 * a + 1))) q) (12 - y).toNat y c) = rdK (jwP st s (st.1 0 (28 + 5 * a + 3)) (1 - st.1 0 (28 + 5 * a + 1))) 6 0 0) → mW X cX7_read 7 (some .int) yX7_read.cls 3 G (qM μ (sp_read st s a)) 36 [some (.ref 56), some (.int (iV s)), some (.int (iV a)), some (.int (iV 0)), some (.int (iV c)), some (.int (iV q)), some (.int (iV y))] [] μ := by
        intro k_
        induction k_ with
        | zero =>
          intro y c hq6 h1i h3i h6
          omega
        | succ k_ ihI =>
          intro y c hq6 h1i h3i h6
          refine mw_iload dX7_read_36 rfl ?_
          refine mw_bipush dX7_read_38 (by decide +kernel) ?_
          refine mw_icmp_ge (tgt := 85) dX7_read_40 (by decide) (by omega) (by omega) (fun c_40 => ?_) (fun c_40 => ?_)
          · refine mw_ii5 dX7_read_85 (by decide) rfl ?_
            refine mw_goto (tgt := 27) dX7_read_88 (by decide) ?_
            rw [show (12 - y).toNat = 0 by omega, kys] at h6
            exact ih _ _ _ hfl ha (by omega) (by omega) (by rw [show (6 - (q + 1)).toNat = (5 - q).toNat by omega]; exact h6)
          · refine mw_iload dX7_read_43 rfl ?_
            refine mw_aload_n dX7_read_45 rfl ?_
            refine mw_iload_n dX7_read_46 rfl ?_
            refine mw_iload dX7_read_47 rfl ?_
            refine mw_iload dX7_read_49 rfl ?_
            refine mw_aload_n dX7_read_51 rfl ?_
            refine mw_iload_n dX7_read_52 rfl ?_
            refine mw_iconst dX7_read_53 ?_
            refine mw_Vpi (ci := 7) dX7_read_54 ml_X7_120 ok_X7_attacheIs (by decide) (by first | rfl | assumption) (by decide) rfl rfl rfl (Nat.le_of_ble_eq_true rfl) (c_M_attacheIs hR (by omega) (by omega)) ?_
            refine mw_iconst dX7_read_57 ?_
            refine mw_aload_n dX7_read_58 rfl ?_
            refine mw_iload_n dX7_read_59 rfl ?_
            refine mw_iconst dX7_read_60 ?_
            refine mw_Vpi (ci := 7) dX7_read_61 ml_X7_120 ok_X7_attacheIs (by decide) (by first | rfl | assumption) (by decide) rfl rfl rfl (Nat.le_of_ble_eq_true rfl) (c_M_attacheIs hR (by omega) (by omega)) ?_
            refine mw_isub dX7_read_64 ?_
            refine mw_Vpi (ci := 7) dX7_read_65 ml_X7_307 ok_X7_isAnswerOf (by decide) (by first | rfl | assumption) (by decide) rfl rfl rfl (Nat.le_of_ble_eq_true rfl) (c_M_isAnswerOf hX hI f1.1 (by omega) (by omega) (by omega)) ?_
            have hjc := jwP_c st s (st.1 0 (28 + 5 * a + 3)) (1 - st.1 0 (28 + 5 * a + 1)) q y
            rw [show (12 - y).toNat = (12 - (y + 1)).toNat + 1 by omega, kys] at h6
            refine mw_if_eq (tgt := 75) dX7_read_68 (by decide) (by omega) (fun c_68 => ?_) (fun c_68 => ?_)
            · refine mw_iconst dX7_read_75 ?_
              refine mw_iadd dX7_read_76 ?_
              refine mw_is4 dX7_read_77 (by decide) rfl ?_
              refine mw_ii6 dX7_read_79 (by decide) rfl ?_
              refine mw_goto (tgt := 36) dX7_read_82 (by decide) ?_
              rw [if_pos c_68] at h6
              exact ihI _ _ hq6 (by omega) (by omega) h6
            · refine mw_iconst dX7_read_71 ?_
              refine mw_goto (tgt := 76) dX7_read_72 (by decide) ?_
              refine mw_iadd dX7_read_76 ?_
              refine mw_is4 dX7_read_77 (by decide) rfl ?_
              refine mw_ii6 dX7_read_79 (by decide) rfl ?_
              refine mw_goto (tgt := 36) dX7_read_82 (by decide) ?_
              rw [if_neg c_68] at h6
              exact ihI _ _ hq6 (by omega) (by omega) h6
      refine mw_iload dX7_read_27 rfl ?_
      refine mw_iconst dX7_read_29 ?_
      refine mw_icmp_gt (tgt := 91) dX7_read_30 (by decide) (by omega) (by omega) (fun c_30 => ?_) (fun c_30 => ?_)
      · refine mw_iload dX7_read_91 rfl ?_
        refine mw_iret dX7_read_93 rfl ?_
        rw [show (6 - q).toNat = 0 by omega, rdK] at h6
        refine ⟨_, rfl, ?_⟩
        unfold sp_read
        rw [if_pos hfl, if_pos ha]
        exact ⟨h6, hX, MF.rf⟩
      · rw [show (6 - q).toNat = (5 - q).toNat + 1 by omega, rdK] at h6
        refine mw_iconst dX7_read_33 ?_
        refine mw_is6 dX7_read_34 (by decide) rfl ?_
        exact li 13 _ _ (by omega) (by omega) (by omega) h6
  refine mw_aload_n dX7_read_0 rfl ?_
  refine mw_iload_n dX7_read_1 rfl ?_
  refine mw_aload_n dX7_read_2 rfl ?_
  refine mw_iload_n dX7_read_3 rfl ?_
  refine mw_Vpi (ci := 7) dX7_read_4 ml_X7_155 ok_X7_isAttache (by decide) (by first | rfl | assumption) (by decide) rfl rfl rfl (Nat.le_of_ble_eq_true rfl) (c_M_isAttache hR hFI (by omega)) ?_
  refine mw_Vpi (ci := 7) dX7_read_7 ml_X7_303 ok_X7_lacks (by decide) (by first | rfl | assumption) (by decide) rfl rfl rfl (Nat.le_of_ble_eq_true rfl) (c_M_lacks hX hI (by omega) (wi_bd _ _ _)) ?_
  have hlk : lkI st s (wiI a 0 (st.1 0 1 - 1)) = (if fltS st s = 0 then (if 0 ≤ a ∧ a < st.1 0 1 then 0 else -1000000001) else fltS st s) := by
    unfold lkI wiI
    by_cases h : 0 ≤ a ∧ a < st.1 0 1
    · rw [if_pos h, if_pos (show 0 ≤ a ∧ a ≤ st.1 0 1 - 1 by omega), if_neg (show ¬ (1 : Int) = 0 by decide)]
    · rw [if_neg h, if_neg (show ¬ (0 ≤ a ∧ a ≤ st.1 0 1 - 1) by omega), if_pos (show (0 : Int) = 0 from rfl)]
  have hlb : lkI st s (wiI a 0 (st.1 0 1 - 1)) = 0 ∨ lkI st s (wiI a 0 (st.1 0 1 - 1)) = -1000000001 ∨ lkI st s (wiI a 0 (st.1 0 1 - 1)) = -1000000006 := by
    rw [hlk]
    repeat' split
    all_goals omega
  refine mw_is3 dX7_read_10 (by decide) rfl ?_
  refine mw_iload_n dX7_read_11 rfl ?_
  refine mw_if_eq (tgt := 21) dX7_read_12 (by decide) (by omega) (fun c_12 => ?_) (fun c_12 => ?_)
  · have hfl : fltS st s = 0 := Classical.byContradiction (fun q => by rw [if_neg q] at hlk; omega)
    have ha : 0 ≤ a ∧ a < st.1 0 1 := Classical.byContradiction (fun q => by rw [if_pos hfl, if_neg q] at hlk; omega)
    refine mw_iconst dX7_read_21 ?_
    refine mw_is4 dX7_read_22 (by decide) rfl ?_
    refine mw_iconst dX7_read_24 ?_
    refine mw_is5 dX7_read_25 (by decide) rfl ?_
    rw [c_12]
    exact lo 7 _ _ _ hfl ha (by omega) (by omega) rfl
  · refine mw_aload_n dX7_read_15 rfl ?_
    refine mw_iload_n dX7_read_16 rfl ?_
    refine mw_Vi (ci := 7) dX7_read_17 ml_X7_77 ok_X7_finding (by decide) (by first | rfl | assumption) (by decide) rfl rfl rfl (Nat.le_of_ble_eq_true rfl) (c_M_find hX hI (-1000000001 - lkI st s (wiI a 0 (st.1 0 1 - 1))) (by omega) (by omega)) (fun z_17 m_17 h_17 => ?_)
    refine mw_iret dX7_read_20 rfl ?_
    refine ⟨_, rfl, ?_⟩
    unfold sp_read
    by_cases e : fltS st s = 0
    · rw [if_pos e]
      by_cases e2 : 0 ≤ a ∧ a < st.1 0 1
      · rw [if_pos e, if_pos e2] at hlk
        exact absurd hlk c_12
      · rw [if_neg e2]
        rw [if_pos e, if_neg e2] at hlk
        rw [hlk] at h_17
        exact h_17
    · rw [if_neg e]
      rw [if_neg e] at hlk
      rw [hlk] at h_17
      exact h_17

def swF (F : Int → Int) (a b : Int) : Int → Int := upF (upF F (28 + 5 * a + 1) (F (28 + 5 * b + 1))) (28 + 5 * b + 1) (F (28 + 5 * a + 1))
def tmS (F : Int → Int) (a b : Int) : Int := fst alikeP 101 0 (swF F a b)
def swI (F : Int → Int) (a : Int) : Nat → Int → Int → Int → Int × Int
  | 0, _, best, least => (best, least)
  | k + 1, b, best, least => if F (28 + 5 * a + 1) ≠ F (28 + 5 * b + 1) ∧ tmS F a b < least then swI F a k (b + 1) (10 * a + b) (tmS F a b) else swI F a k (b + 1) best least
def swO (F : Int → Int) : Nat → Int → Int → Int → Int
  | 0, _, best, _ => best
  | k + 1, a, best, least => swO F k (a + 1) (swI F a (F 1 - (a + 1)).toNat (a + 1) best least).1 (swI F a (F 1 - (a + 1)).toNat (a + 1) best least).2
def sp_swap (st : aS) : Int × aS := bstR st (swO (st.1 0) (st.1 0 1).toNat 0 (-1) 101)
theorem sw_inv {F : Int → Int} (h : fInv F) {a b : Int} (ha : 0 ≤ a ∧ a < 8) (hb : 0 ≤ b ∧ b < 8) : fInv (swF F a b) := by
  have h1 := (h.2.2.2.2 a ha.1 ha.2).2.1
  have h2 := (h.2.2.2.2 b hb.1 hb.2).2.1
  exact upF_inv (upF_inv h ha (by omega) (by omega) (by omega) (by omega) (by omega) (by omega)) hb (by omega) (by omega) (by omega) (by omega) (by omega) (by omega)
set_option maxHeartbeats 4000000 in
set_option maxRecDepth 100000 in
theorem c_X_trialSw {G : mG} {μ : mMem} {st : aS} (hX : XR μ st) (hI : SI st) {a c : Int} (ha : 0 ≤ a ∧ a < c) (hc : c < st.1 0 1) : mM G yX6_startTrialSwapped cX6_startTrialSwapped 5 (some .boolean) 4 [.ref 0, .int (iV a), .int (iV c)] μ (qI (fun z m => (st.1 0 (28 + 5 * a + 1) = st.1 0 (28 + 5 * c + 1) ∧ z = 0 ∧ m = μ) ∨ (¬ st.1 0 (28 + 5 * a + 1) = st.1 0 (28 + 5 * c + 1) ∧ z = 1 ∧ FUG m 29 (swF (st.1 0) a c) ∧ FR 29 μ m))) := by
  obtain ⟨hF, hK, hkp, htl, htb, hfd, hsh⟩ := id hX
  have hFI := hI.1
  have ec := hF.1
  have hn := hFI.2.1
  have ed := hF.2.1
  have h0 := hFI.1
  have h99 := hI.2.1
  have ea := hF.at hFI (a := a) (by omega)
  have kat := bk_a bk1 (a := a) (by omega)
  have ea2 := hF.at hFI (a := c) (by omega)
  have kat2 := bk_a bk1 (a := c) (by omega)
  have kt := bk_a bk29 (a := a) (by omega)
  have kt2 := bk_a bk29 (a := c) (by omega)
  refine mM.of (lv := [some (.ref 0), some (.int (iV a)), some (.int (iV c)), none, none]) 2 (by decide +kernel) (Nat.le_of_ble_eq_true rfl) rfl ?_
  intro X
  refine mw_aload_n dX6_startTrialSwapped_0 rfl ?_
  refine mw_gr_6_0 dX6_startTrialSwapped_1 gs_X6_10 (by first | rfl | assumption) ?_
  refine mw_gr_1_2 dX6_startTrialSwapped_4 gs_X6_120 (by first | rfl | assumption) ?_
  refine mw_iload_n dX6_startTrialSwapped_7 rfl ?_
  refine mw_aa10 dX6_startTrialSwapped_8 (by first | rfl | assumption) (by first | rfl | assumption) (by omega) ?_
  refine mw_getI 1 dX6_startTrialSwapped_9 gs_X6_129 kat rfl rfl ?_
  rw [ea.2.1]
  refine mw_is3 dX6_startTrialSwapped_12 (by decide) rfl ?_
  refine mw_aload_n dX6_startTrialSwapped_13 rfl ?_
  refine mw_gr_6_0 dX6_startTrialSwapped_14 gs_X6_10 (by first | rfl | assumption) ?_
  refine mw_gr_1_2 dX6_startTrialSwapped_17 gs_X6_120 (by first | rfl | assumption) ?_
  refine mw_iload_n dX6_startTrialSwapped_20 rfl ?_
  refine mw_aa10 dX6_startTrialSwapped_21 (by first | rfl | assumption) (by first | rfl | assumption) (by omega) ?_
  refine mw_getI 1 dX6_startTrialSwapped_22 gs_X6_129 kat2 rfl rfl ?_
  rw [ea2.2.1]
  refine mw_is4 dX6_startTrialSwapped_25 (by decide) rfl ?_
  refine mw_iload_n dX6_startTrialSwapped_27 rfl ?_
  refine mw_iload dX6_startTrialSwapped_28 rfl ?_
  refine mw_icmp_ne (tgt := 35) dX6_startTrialSwapped_30 (by decide) (by omega) (by omega) (fun c_30 => ?_) (fun c_30 => ?_)
  · refine mw_aload_n dX6_startTrialSwapped_35 rfl ?_
    refine mw_Vv (ci := 6) dX6_startTrialSwapped_36 ml_X6_183 ok_X6_startTrial (by decide) (by first | rfl | assumption) (by decide) rfl rfl rfl (Nat.le_of_ble_eq_true rfl) (c_X_startTrial hF hFI) (fun m_36 h_36 => ?_)
    refine mw_aload_n dX6_startTrialSwapped_39 rfl ?_
    refine mw_gr_6_3 dX6_startTrialSwapped_40 gs_X6_23 (by first | rfl | assumption) ?_
    refine mw_gr_1_2 dX6_startTrialSwapped_43 gs_X6_120 (by first | rfl | assumption) ?_
    refine mw_iload_n dX6_startTrialSwapped_46 rfl ?_
    refine mw_aa10 dX6_startTrialSwapped_47 (by first | rfl | assumption) (by first | rfl | assumption) (by omega) ?_
    refine mw_iload dX6_startTrialSwapped_48 rfl ?_
    refine mw_putI 1 dX6_startTrialSwapped_50 ps_X6_129 kt rfl rfl ?_
    refine mw_aload_n dX6_startTrialSwapped_53 rfl ?_
    refine mw_gr_6_3 dX6_startTrialSwapped_54 gs_X6_23 (by first | rfl | assumption) ?_
    refine mw_gr_1_2 dX6_startTrialSwapped_57 gs_X6_120 (by first | rfl | assumption) ?_
    refine mw_iload_n dX6_startTrialSwapped_60 rfl ?_
    refine mw_aa10 dX6_startTrialSwapped_61 (by first | rfl | assumption) (by first | rfl | assumption) (by omega) ?_
    refine mw_iload_n dX6_startTrialSwapped_62 rfl ?_
    refine mw_putI 1 dX6_startTrialSwapped_63 ps_X6_129 kt2 rfl rfl ?_
    refine mw_iconst dX6_startTrialSwapped_66 ?_
    refine mw_zret dX6_startTrialSwapped_67 rfl (by decide +kernel) ?_
    have g1 := upF_fug (f := 1) (v := st.1 0 (28 + 5 * c + 1)) h_36.1 hFI (a := a) (by omega) (by omega)
    have i1 := upF_inv (f := 1) (v := st.1 0 (28 + 5 * c + 1)) hFI (a := a) (by omega) (by omega) (by omega) (by omega) (by omega) (by omega) (by omega)
    have g2 := upF_fug (f := 1) (v := st.1 0 (28 + 5 * a + 1)) g1.1 i1 (a := c) (by rw [upF_o (by omega)]; omega) (by omega)
    exact ⟨1, rfl, Or.inr ⟨c_30, rfl, g2.1, h_36.2.tr (g1.2.tr g2.2)⟩⟩
  · refine mw_iconst dX6_startTrialSwapped_33 ?_
    refine mw_zret dX6_startTrialSwapped_34 rfl (by decide +kernel) ?_
    exact ⟨0, rfl, Or.inl ⟨c_30, rfl, rfl⟩⟩
set_option maxHeartbeats 4000000 in
set_option maxRecDepth 100000 in
theorem c_X_swap {G : mG} {μ : mMem} {st : aS} (hX : XR μ st) (hI : SI st) : mM G yX6_swap cX6_swap 6 (some .int) 5 [.ref 0] μ (qX μ (sp_swap st)) := by
  obtain ⟨hF, hK, hkp, htl, htb, hfd, hsh⟩ := id hX
  have hFI := hI.1
  have ec := hF.1
  have hn := hFI.2.1
  have ed := hF.2.1
  have h0 := hFI.1
  have h99 := hI.2.1
  refine mM.of (lv := [some (.ref 0), none, none, none, none, none]) 5 (by decide +kernel) (Nat.le_of_ble_eq_true rfl) rfl ?_
  intro X
  have lo : ∀ (n_ : Nat) (q4 q5 : Option Value) (a l bv bx : Int) (m : mMem), (0 ≤ a ∧ a ≤ st.1 0 1) → (9 ≤ a + n_) → (0 ≤ l ∧ l ≤ 101) → ((bv = -1 ∧ bx = -1000000004) ∨ (0 ≤ bv ∧ bv ≤ 1000 ∧ bx = bv)) → (FR 29 μ m) → (swO (st.1 0) (st.1 0 1 - a).toNat a bv l = swO (st.1 0) (st.1 0 1).toNat 0 (-1) 101) → mW X cX6_swap 6 (some .int) yX6_swap.cls 5 G (qX μ (sp_swap st)) 8 [some (.ref 0), some (.int (iV bx)), some (.int (iV l)), some (.int (iV a)), q4, q5] [] m := by
    intro n_
    induction n_ with
    | zero =>
      intro q4 q5 a l bv bx m h1 h3 hl hbx h4 h6
      omega
    | succ n_ ih =>
      intro q4 q5 a l bv bx m h1 h3 hl hbx h4 h6
      have hX2 := hX.try hI h4
      have li : ∀ (k_ : Nat) (q5 : Option Value) (c l bv bx : Int) (m : mMem), (a + 1 ≤ c) → (c ≤ st.1 0 1) → (9 ≤ c + k_) → (0 ≤ l ∧ l ≤ 101) → ((bv = -1 ∧ bx = -1000000004) ∨ (0 ≤ bv ∧ bv ≤ 1000 ∧ bx = bv)) → (FR 29 μ m) → (swO (st.1 0) (st.1 0 1 - (a + 1)).toNat (a + 1) (swI (st.1 0) a (st.1 0 1 - c).toNat c bv l).1 (swI (st.1 0) a (st.1 0 1 - c).toNat c bv l).2 = swO (st.1 0) (st.1 0 1).toNat 0 (-1) 101) → mW X cX6_swap 6 (some .int) yX6_swap.cls 5 G (qX μ (sp_swap st)) 24 [some (.ref 0), some (.int (iV bx)), some (.int (iV l)), some (.int (iV a)), some (.int (iV c)), q5] [] m := by
        intro k_
        induction k_ with
        | zero =>
          intro q5 c l bv bx m hb0 hb1 h3i hl hbx h4 h6
          omega
        | succ k_ ihI =>
          intro q5 c l bv bx m hb0 hb1 h3i hl hbx h4 h6
          have hX3 := hX.try hI h4
          refine mw_iload dX6_swap_24 rfl ?_
          refine mw_aload_n dX6_swap_26 rfl ?_
          refine mw_gr_6_0 dX6_swap_27 gs_X6_10 (by first | rfl | assumption) ?_
          refine mw_getI 3 dX6_swap_30 gs_X6_110 (by first | rfl | assumption) rfl rfl ?_
          rw [hX3.1.1]
          refine mw_icmp_ge (tgt := 84) dX6_swap_33 (by decide) (by omega) (by omega) (fun c_33 => ?_) (fun c_33 => ?_)
          · refine mw_ii3 dX6_swap_84 (by decide) rfl ?_
            refine mw_goto (tgt := 8) dX6_swap_87 (by decide) ?_
            rw [show (st.1 0 1 - c).toNat = 0 by omega, swI] at h6
            exact ih _ _ _ _ _ _ _ (by omega) (by omega) hl hbx h4 h6
          · rw [show (st.1 0 1 - c).toNat = (st.1 0 1 - (c + 1)).toNat + 1 by omega, swI] at h6
            refine mw_aload_n dX6_swap_36 rfl ?_
            refine mw_iload_n dX6_swap_37 rfl ?_
            refine mw_iload dX6_swap_38 rfl ?_
            refine mw_Vi (ci := 6) dX6_swap_40 ml_X6_204 ok_X6_startTrialSwapped (by decide) (by first | rfl | assumption) (by decide) rfl rfl rfl (Nat.le_of_ble_eq_true rfl) (c_X_trialSw hX3 hI (by omega) (by omega)) (fun z_40 m_40 h_40 => ?_)
            refine mw_if_ne (tgt := 49) dX6_swap_43 (by decide) (by rcases h_40 with q | q <;> omega) (fun c_43 => ?_) (fun c_43 => ?_)
            · obtain ⟨g1, g2, g3, g4⟩ : ¬ st.1 0 (28 + 5 * a + 1) = st.1 0 (28 + 5 * c + 1) ∧ z_40 = 1 ∧ FUG m_40 29 (swF (st.1 0) a c) ∧ FR 29 m m_40 := by
                rcases h_40 with q | q
                · exact absurd q.2.1 c_43
                · exact q
              refine mw_aload_n dX6_swap_49 rfl ?_
              refine mw_gr_6_3 dX6_swap_50 gs_X6_23 (by first | rfl | assumption) ?_
              refine mw_iload_n dX6_swap_53 rfl ?_
              refine mw_iconst dX6_swap_54 ?_
              refine mw_isub dX6_swap_55 ?_
              refine mw_Vi (ci := 1) dX6_swap_56 ml_X6_190 ok_X1_passDaysUntilAlike (by decide) (by first | rfl | assumption) (by decide) rfl rfl rfl (Nat.le_of_ble_eq_true rfl) (c_F_untilAlike bk29 g3 (sw_inv hFI (by omega) (by omega)) (by omega) (by unfold swF; rw [upF_o (by omega), upF_o (by omega)]; omega)) (fun z_56 m_56 h_56 => ?_)
              obtain ⟨e_56, f_56⟩ := h_56
              rw [show (l - 1 + 1).toNat = l.toNat by omega, fst_cut alikeP l.toNat 101 0 _ (by omega)] at e_56
              have b_56 := fst_bd alikeP 101 0 (swF (st.1 0) a c)
              rw [show fst alikeP 101 0 (swF (st.1 0) a c) = tmS (st.1 0) a c from rfl] at e_56 b_56
              have ft := h4.tr (g4.tr f_56)
              refine mw_is5 dX6_swap_59 (by decide) rfl ?_
              refine mw_iload dX6_swap_61 rfl ?_
              refine mw_iload_n dX6_swap_63 rfl ?_
              refine mw_icmp_ge (tgt := 78) dX6_swap_64 (by decide) (by omega) (by omega) (fun c_64 => ?_) (fun c_64 => ?_)
              · refine mw_ii4 dX6_swap_78 (by decide) rfl ?_
                refine mw_goto (tgt := 24) dX6_swap_81 (by decide) ?_
                rw [if_neg (by omega)] at h6
                exact ihI _ _ _ _ _ _ (by omega) (by omega) (by omega) hl hbx ft h6
              · refine mw_iload dX6_swap_67 rfl ?_
                refine mw_is2 dX6_swap_69 (by decide) rfl ?_
                refine mw_bipush dX6_swap_70 (by decide +kernel) ?_
                refine mw_iload_n dX6_swap_72 rfl ?_
                refine mw_imul dX6_swap_73 ?_
                refine mw_iload dX6_swap_74 rfl ?_
                refine mw_iadd dX6_swap_76 ?_
                refine mw_is1 dX6_swap_77 (by decide) rfl ?_
                refine mw_ii4 dX6_swap_78 (by decide) rfl ?_
                refine mw_goto (tgt := 24) dX6_swap_81 (by decide) ?_
                rw [if_pos ⟨g1, by omega⟩] at h6
                rw [show z_56 = tmS (st.1 0) a c by omega]
                exact ihI _ _ _ _ _ _ (by omega) (by omega) (by omega) (by omega) (Or.inr ⟨by omega, by omega, rfl⟩) ft h6
            · obtain ⟨g1, g2, g3⟩ : st.1 0 (28 + 5 * a + 1) = st.1 0 (28 + 5 * c + 1) ∧ z_40 = 0 ∧ m_40 = m := by
                rcases h_40 with q | q
                · exact q
                · omega
              subst g3
              refine mw_goto (tgt := 78) dX6_swap_46 (by decide) ?_
              refine mw_ii4 dX6_swap_78 (by decide) rfl ?_
              refine mw_goto (tgt := 24) dX6_swap_81 (by decide) ?_
              rw [if_neg (fun q => q.1 g1)] at h6
              exact ihI _ _ _ _ _ _ (by omega) (by omega) (by omega) hl hbx h4 h6
      refine mw_iload_n dX6_swap_8 rfl ?_
      refine mw_aload_n dX6_swap_9 rfl ?_
      refine mw_gr_6_0 dX6_swap_10 gs_X6_10 (by first | rfl | assumption) ?_
      refine mw_getI 3 dX6_swap_13 gs_X6_110 (by first | rfl | assumption) rfl rfl ?_
      rw [hX2.1.1]
      refine mw_icmp_ge (tgt := 90) dX6_swap_16 (by decide) (by omega) (by omega) (fun c_16 => ?_) (fun c_16 => ?_)
      · refine mw_iload_n dX6_swap_90 rfl ?_
        refine mw_ldc dX6_swap_91 ct_X6_149 ?_
        refine mw_icmp_ne (tgt := 105) dX6_swap_93 (by decide) (by omega) (by omega) (fun c_93 => ?_) (fun c_93 => ?_)
        · refine mw_iload_n dX6_swap_105 rfl ?_
          refine mw_iret dX6_swap_106 rfl ?_
          rw [show (st.1 0 1 - a).toNat = 0 by omega, swO] at h6
          unfold sp_swap
          rw [← h6]
          refine ⟨_, rfl, ?_⟩
          unfold bstR
          rw [if_neg (by omega)]
          exact ⟨by omega, hX2, h4.xf bk29⟩
        · refine mw_aload_n dX6_swap_96 rfl ?_
          refine mw_ldc dX6_swap_97 ct_X6_149 ?_
          refine mw_Vi (ci := 6) dX6_swap_99 ml_X6_62 ok_X6_found (by decide) (by first | rfl | assumption) (by decide) rfl rfl rfl (Nat.le_of_ble_eq_true rfl) (c_X_find hX2 hI 3 (by decide) (by decide)) (fun z_99 m_99 h_99 => ?_)
          refine mw_goto (tgt := 106) dX6_swap_102 (by decide) ?_
          refine mw_iret dX6_swap_106 rfl ?_
          rw [show (st.1 0 1 - a).toNat = 0 by omega, swO] at h6
          unfold sp_swap
          rw [← h6]
          refine ⟨_, rfl, ?_⟩
          unfold bstR
          rw [if_pos (by omega)]
          exact ⟨h_99.1, h_99.2.1, XF.tr (h4.xf bk29) h_99.2.2⟩
      · rw [show (st.1 0 1 - a).toNat = (st.1 0 1 - (a + 1)).toNat + 1 by omega, swO] at h6
        refine mw_iload_n dX6_swap_19 rfl ?_
        refine mw_iconst dX6_swap_20 ?_
        refine mw_iadd dX6_swap_21 ?_
        refine mw_is4 dX6_swap_22 (by decide) rfl ?_
        exact li 9 _ _ _ _ _ _ (by omega) (by omega) (by omega) hl hbx h4 h6
  refine mw_ldc dX6_swap_0 ct_X6_149 ?_
  refine mw_is1 dX6_swap_2 (by decide) rfl ?_
  refine mw_bipush dX6_swap_3 (by decide +kernel) ?_
  refine mw_is2 dX6_swap_5 (by decide) rfl ?_
  refine mw_iconst dX6_swap_6 ?_
  refine mw_is3 dX6_swap_7 (by decide) rfl ?_
  exact lo 9 _ _ _ _ _ _ _ (by omega) (by omega) (by omega) (Or.inl ⟨rfl, rfl⟩) FR.rf (by rw [Int.sub_zero])

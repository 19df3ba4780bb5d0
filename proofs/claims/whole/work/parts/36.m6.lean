def csF (F : Int → Int) (a b : Int) : Int → Int := upF (upF F (28 + 5 * a + 1) (1 - F (28 + 5 * a + 1))) (28 + 5 * b + 1) (1 - F (28 + 5 * b + 1))
theorem cs_sw {F : Int → Int} (h : fInv F) {a b : Int} (ha : 0 ≤ a ∧ a < 8) (hb : 0 ≤ b ∧ b < 8) (hne : ¬ F (28 + 5 * a + 1) = F (28 + 5 * b + 1)) : csF F a b = swF F a b := by
  have h1 := (h.2.2.2.2 a ha.1 ha.2).2.1
  have h2 := (h.2.2.2.2 b hb.1 hb.2).2.1
  unfold csF swF
  rw [show 1 - F (28 + 5 * a + 1) = F (28 + 5 * b + 1) by omega, show 1 - F (28 + 5 * b + 1) = F (28 + 5 * a + 1) by omega]
theorem cs_back {F : Int → Int} (h : fInv F) {a b : Int} (ha : 0 ≤ a ∧ a < 8) (hb : 0 ≤ b ∧ b < 8) (hab : a ≠ b) (hne : ¬ F (28 + 5 * a + 1) = F (28 + 5 * b + 1)) : csF (swF F a b) a b = F := by
  have h1 := (h.2.2.2.2 a ha.1 ha.2).2.1
  have h2 := (h.2.2.2.2 b hb.1 hb.2).2.1
  have e1 : swF F a b (28 + 5 * b + 1) = F (28 + 5 * a + 1) := by unfold swF; rw [upF_s]
  have e2 : swF F a b (28 + 5 * a + 1) = F (28 + 5 * b + 1) := by unfold swF; rw [upF_o (by omega), upF_s]
  funext j
  unfold csF
  by_cases c1 : j = 28 + 5 * b + 1
  · rw [c1, upF_s, e1]; omega
  · rw [upF_o c1]
    by_cases c2 : j = 28 + 5 * a + 1
    · rw [c2, upF_s, e2]; omega
    · rw [upF_o c2]
      unfold swF
      rw [upF_o c1, upF_o c2]
theorem MR.gen {μ m : mMem} {st st' : aS} (h : MR μ st) (h57 : ROW m 57 (st'.1 0)) (h58 : ROW m 58 (st'.1 1)) (h3 : m.1 56 3 = st'.1 2 0) (h7 : m.1 56 7 = st'.1 2 1) (h62 : ∀ i : Int, 0 ≤ i → i < st'.1 2 1 → m.1 62 i = st'.1 3 i) (e4 : st'.1 4 = st.1 4) (e5 : st'.1 5 = st.1 5) (e6 : st'.1 6 = st.1 6) (e2 : st'.2 = st.2) (hk : ∀ c : Nat, c = 60 ∨ 68 ≤ c → m.1 c = μ.1 c) (h70 : m.2 70 = μ.2 70) : MR m st' := by
  obtain ⟨_, _, _, _, _, g6, g7, g8⟩ := h
  refine ⟨h57, h58, h3, h7, h62, fun j q1 q2 => ?_, ?_, fun s q1 q2 => ?_⟩
  · rw [e4, hk _ (by omega)]; exact g6 j q1 q2
  · rw [e4, hk _ (by omega)]; exact g7
  · rw [e5, e6, e2, hk _ (by omega), hk _ (by omega), h70]; exact g8 s q1 q2
theorem MR.tape {μ m : mMem} {st : aS} (h : MR μ st) {t : Int → Int} {L : Int} (hk : ∀ c : Nat, c = 57 ∨ c = 58 ∨ c = 60 ∨ 68 ≤ c → m.1 c = μ.1 c) (h70 : m.2 70 = μ.2 70) (h3 : m.1 56 3 = μ.1 56 3) (h7 : m.1 56 7 = L) (ht : ∀ i : Int, 0 ≤ i → i < L → m.1 62 i = t i) : MR m (stT st t L) := by
  refine h.gen (fun j q1 q2 => ?_) (fun j q1 q2 => ?_) ?_ ?_ (fun i q1 q2 => ?_) rfl rfl rfl rfl (fun c q => hk c (by omega)) h70
  · rw [hk _ (by omega)]; exact h.1 j q1 q2
  · rw [hk _ (by omega)]; exact h.2.1 j q1 q2
  · rw [h3]; exact h.2.2.1
  · exact h7
  · exact ht i q1 q2
set_option maxHeartbeats 4000000 in
set_option maxRecDepth 100000 in
theorem c_M_changeSides {G : mG} {μ : mMem} {F : Int → Int} (hR : ROW μ 57 F) {a b : Int} (ha : 0 ≤ a ∧ a < 8) (hb : 0 ≤ b ∧ b < 8) (hab : a ≠ b) : mM G yX7_changeSides cX7_changeSides 3 none 2 [.ref 56, .int (iV a), .int (iV b)] μ (qV (fun m => ROW m 57 (csF F a b) ∧ DY μ m)) := by
  refine mM.of (lv := [some (.ref 56), some (.int (iV a)), some (.int (iV b))]) 0 (by decide +kernel) (Nat.le_of_ble_eq_true rfl) rfl ?_
  intro X
  refine mw_aload_n dX7_changeSides_0 rfl ?_
  refine mw_gr_7_0 dX7_changeSides_1 gs_X7_9 (by first | rfl | assumption) ?_
  refine mw_iload_n dX7_changeSides_4 rfl ?_
  refine mw_iconst dX7_changeSides_5 ?_
  refine mw_Spi dX7_changeSides_6 ml_X7_135 ok_X7_attacheAt (by decide) rfl rfl (Nat.le_of_ble_eq_true rfl) (c_M_attacheAt) ?_
  refine mw_iconst dX7_changeSides_9 ?_
  refine mw_aload_n dX7_changeSides_10 rfl ?_
  refine mw_iload_n dX7_changeSides_11 rfl ?_
  refine mw_iconst dX7_changeSides_12 ?_
  refine mw_Vpi (ci := 7) dX7_changeSides_13 ml_X7_120 ok_X7_attacheIs (by decide) (by first | rfl | assumption) (by decide) rfl rfl rfl (Nat.le_of_ble_eq_true rfl) (c_M_attacheIs hR ha (by omega)) ?_
  refine mw_isub dX7_changeSides_16 ?_
  refine mw_iast 68 dX7_changeSides_17 (by first | rfl | assumption) (by first | rfl | assumption) (by omega) ?_
  refine mw_aload_n dX7_changeSides_18 rfl ?_
  refine mw_gr_7_0 dX7_changeSides_19 gs_X7_9 (by first | rfl | assumption) ?_
  refine mw_iload_n dX7_changeSides_22 rfl ?_
  refine mw_iconst dX7_changeSides_23 ?_
  refine mw_Spi dX7_changeSides_24 ml_X7_135 ok_X7_attacheAt (by decide) rfl rfl (Nat.le_of_ble_eq_true rfl) (c_M_attacheAt) ?_
  refine mw_iconst dX7_changeSides_27 ?_
  refine mw_aload_n dX7_changeSides_28 rfl ?_
  refine mw_iload_n dX7_changeSides_29 rfl ?_
  refine mw_iconst dX7_changeSides_30 ?_
  refine mw_Vpi (ci := 7) dX7_changeSides_31 ml_X7_120 ok_X7_attacheIs (by decide) (by first | rfl | assumption) (by decide) rfl rfl rfl (Nat.le_of_ble_eq_true rfl) (c_M_attacheIs (hR.up _ _) hb (by omega)) ?_
  rw [upF_o (by omega)]
  refine mw_isub dX7_changeSides_34 ?_
  refine mw_iast 68 dX7_changeSides_35 (by first | rfl | assumption) (by first | rfl | assumption) (by omega) ?_
  refine mw_vret dX7_changeSides_36 rfl ?_
  exact ⟨rfl, (hR.up _ _).up _ _, DY.st.tr DY.st⟩
set_option maxHeartbeats 4000000 in
set_option maxRecDepth 100000 in
theorem c_M_swap {G : mG} {μ : mMem} {st : aS} (hX : MR μ st) (hI : SI st) : mM G yX7_swap cX7_swap 7 (some .int) 6 [.ref 56] μ (qM μ (sp_swap st)) := by
  obtain ⟨hR, hK, hkp, htl, htb, hfd, hfs, hsh⟩ := id hX
  have hFI := hI.1
  have hn := hFI.2.1
  have h0 := hFI.1
  have h99 := hI.2.1
  refine mM.of (lv := [some (.ref 56), none, none, none, none, none, none]) 6 (by decide +kernel) (Nat.le_of_ble_eq_true rfl) rfl ?_
  intro X
  have lo : ∀ (n_ : Nat) (q4 q5 q6 : Option Value) (a l bv : Int) (m : mMem), (0 ≤ a ∧ a ≤ st.1 0 1) → (9 ≤ a + n_) → (0 ≤ l ∧ l ≤ 101) → (-1 ≤ bv ∧ bv ≤ 1000) → (DR μ m) → (ROW m 57 (st.1 0)) → (swO (st.1 0) (st.1 0 1 - a).toNat a bv l = swO (st.1 0) (st.1 0 1).toNat 0 (-1) 101) → mW X cX7_swap 7 (some .int) yX7_swap.cls 6 G (qM μ (sp_swap st)) 7 [some (.ref 56), some (.int (iV bv)), some (.int (iV l)), some (.int (iV a)), q4, q5, q6] [] m := by
    intro n_
    induction n_ with
    | zero =>
      intro q4 q5 q6 a l bv m h1 h3 hl hbx h4 h5 h6
      omega
    | succ n_ ih =>
      intro q4 q5 q6 a l bv m h1 h3 hl hbx h4 h5 h6
      have li : ∀ (k_ : Nat) (q5 q6 : Option Value) (c l bv : Int) (m : mMem), (a + 1 ≤ c) → (c ≤ st.1 0 1) → (9 ≤ c + k_) → (0 ≤ l ∧ l ≤ 101) → (-1 ≤ bv ∧ bv ≤ 1000) → (DR μ m) → (ROW m 57 (st.1 0)) → (swO (st.1 0) (st.1 0 1 - (a + 1)).toNat (a + 1) (swI (st.1 0) a (st.1 0 1 - c).toNat c bv l).1 (swI (st.1 0) a (st.1 0 1 - c).toNat c bv l).2 = swO (st.1 0) (st.1 0 1).toNat 0 (-1) 101) → mW X cX7_swap 7 (some .int) yX7_swap.cls 6 G (qM μ (sp_swap st)) 22 [some (.ref 56), some (.int (iV bv)), some (.int (iV l)), some (.int (iV a)), some (.int (iV c)), q5, q6] [] m := by
        intro k_
        induction k_ with
        | zero =>
          intro q5 q6 c l bv m hb0 hb1 h3i hl hbx h4 h5 h6
          omega
        | succ k_ ihI =>
          intro q5 q6 c l bv m hb0 hb1 h3i hl hbx h4 h5 h6
          refine mw_iload dX7_swap_22 rfl ?_
          refine mw_aload_n dX7_swap_24 rfl ?_
          refine mw_gr_7_0 dX7_swap_25 gs_X7_9 (by first | rfl | assumption) ?_
          refine mw_iconst dX7_swap_28 ?_
          refine mw_iald 68 dX7_swap_29 (by first | rfl | assumption) (by first | rfl | assumption) (by omega) ?_
          rw [h5 _ (by omega) (by omega)]
          refine mw_icmp_ge (tgt := 125) dX7_swap_30 (by decide) (by omega) (by omega) (fun c_30 => ?_) (fun c_30 => ?_)
          · refine mw_ii3 dX7_swap_125 (by decide) rfl ?_
            refine mw_goto (tgt := 7) dX7_swap_128 (by decide) ?_
            rw [show (st.1 0 1 - c).toNat = 0 by omega, swI] at h6
            exact ih _ _ _ _ _ _ _ (by omega) (by omega) hl hbx h4 h5 h6
          · rw [show (st.1 0 1 - c).toNat = (st.1 0 1 - (c + 1)).toNat + 1 by omega, swI] at h6
            have s1 := (hFI.2.2.2.2 a (by omega) (by omega)).2.1
            have s2 := (hFI.2.2.2.2 c (by omega) (by omega)).2.1
            refine mw_aload_n dX7_swap_33 rfl ?_
            refine mw_iload_n dX7_swap_34 rfl ?_
            refine mw_iconst dX7_swap_35 ?_
            refine mw_Vpi (ci := 7) dX7_swap_36 ml_X7_120 ok_X7_attacheIs (by decide) (by first | rfl | assumption) (by decide) rfl rfl rfl (Nat.le_of_ble_eq_true rfl) (c_M_attacheIs h5 (by omega) (by omega)) ?_
            refine mw_aload_n dX7_swap_39 rfl ?_
            refine mw_iload dX7_swap_40 rfl ?_
            refine mw_iconst dX7_swap_42 ?_
            refine mw_Vpi (ci := 7) dX7_swap_43 ml_X7_120 ok_X7_attacheIs (by decide) (by first | rfl | assumption) (by decide) rfl rfl rfl (Nat.le_of_ble_eq_true rfl) (c_M_attacheIs h5 (by omega) (by omega)) ?_
            refine mw_icmp_eq (tgt := 119) dX7_swap_46 (by decide) (by omega) (by omega) (fun c_46 => ?_) (fun c_46 => ?_)
            · rw [if_neg (fun q => q.1 c_46)] at h6
              refine mw_ii4 dX7_swap_119 (by decide) rfl ?_
              refine mw_goto (tgt := 22) dX7_swap_122 (by decide) ?_
              first
              | (exfalso; omega)
              | exact ihI _ _ _ _ _ _ (by omega) (by omega) (by omega) hl hbx h4 h5 h6
              | (rw [if_pos ⟨c_46, by omega⟩] at h6
                 rw [show z_60 = tmS (st.1 0) a c by omega]
                 exact ihI _ _ _ _ _ _ (by omega) (by omega) (by omega) (by omega) (by omega) ft h_69.1 h6)
              | (rw [if_neg (fun q => by omega)] at h6
                 exact ihI _ _ _ _ _ _ (by omega) (by omega) (by omega) hl hbx ft h_69.1 h6)
            · refine mw_aload_n dX7_swap_49 rfl ?_
              refine mw_iload_n dX7_swap_50 rfl ?_
              refine mw_iload dX7_swap_51 rfl ?_
              refine mw_Vv (ci := 7) dX7_swap_53 ml_X7_205 ok_X7_changeSides (by decide) (by first | rfl | assumption) (by decide) rfl rfl rfl (Nat.le_of_ble_eq_true rfl) (c_M_changeSides h5 (by omega) (by omega) (by omega)) (fun m_53 h_53 => ?_)
              have hR2 : ROW m_53 57 (swF (st.1 0) a c) := by rw [← cs_sw hFI (by omega) (by omega) c_46]; exact h_53.1
              have hI2 := sw_inv hFI (a := a) (b := c) (by omega) (by omega)
              refine mw_aload_n dX7_swap_56 rfl ?_
              refine mw_iconst dX7_swap_57 ?_
              refine mw_bipush dX7_swap_58 (by decide +kernel) ?_
              refine mw_Vi (ci := 7) dX7_swap_60 ml_X7_195 ok_X7_soonest (by decide) (by first | rfl | assumption) (by decide) rfl rfl rfl (Nat.le_of_ble_eq_true rfl) (c_M_soonest hR2 hI2 (by omega) (by omega) (by unfold swF; rw [upF_o (by omega), upF_o (by omega)]; omega)) (fun z_60 m_60 h_60 => ?_)
              have r_60 := soI_r alikeP (L := 100) (swF (st.1 0) a c)
              rw [show ((100 : Int) + 1).toNat = 101 from rfl] at r_60
              have e_60 := h_60.1
              rw [soP_a (by decide)] at e_60
              have fb := fst_bd alikeP 101 0 (swF (st.1 0) a c)
              rw [show fst alikeP 101 0 (swF (st.1 0) a c) = tmS (st.1 0) a c from rfl] at r_60 fb
              refine mw_is5 dX7_swap_63 (by decide) rfl ?_
              refine mw_aload_n dX7_swap_65 rfl ?_
              refine mw_iload_n dX7_swap_66 rfl ?_
              refine mw_iload dX7_swap_67 rfl ?_
              refine mw_Vv (ci := 7) dX7_swap_69 ml_X7_205 ok_X7_changeSides (by decide) (by first | rfl | assumption) (by decide) rfl rfl rfl (Nat.le_of_ble_eq_true rfl) (c_M_changeSides h_60.2.1 (by omega) (by omega) (by omega)) (fun m_69 h_69 => ?_)
              rw [cs_back hFI (by omega) (by omega) (by omega) c_46] at h_69
              have ft := h4.tr (h_53.2.dr.tr (h_60.2.2.tr h_69.2.dr))
              refine mw_iload dX7_swap_72 rfl ?_
              refine mw_if_lt (tgt := 87) dX7_swap_74 (by decide) (by omega) (fun c_74 => ?_) (fun c_74 => ?_)
              · refine mw_iconst dX7_swap_87 ?_
                refine mw_is6 dX7_swap_88 (by decide) rfl ?_
                refine mw_iload dX7_swap_90 rfl ?_
                refine mw_if_eq (tgt := 105) dX7_swap_92 (by decide) (by omega) (fun c_92 => ?_) (fun c_92 => ?_)
                · refine mw_iload_n dX7_swap_105 rfl ?_
                  refine mw_is1 dX7_swap_106 (by decide) rfl ?_
                  refine mw_iload dX7_swap_107 rfl ?_
                  refine mw_if_eq (tgt := 117) dX7_swap_109 (by decide) (by omega) (fun c_109 => ?_) (fun c_109 => ?_)
                  · refine mw_iload_n dX7_swap_117 rfl ?_
                    refine mw_is2 dX7_swap_118 (by decide) rfl ?_
                    refine mw_ii4 dX7_swap_119 (by decide) rfl ?_
                    refine mw_goto (tgt := 22) dX7_swap_122 (by decide) ?_
                    first
                    | (exfalso; omega)
                    | exact ihI _ _ _ _ _ _ (by omega) (by omega) (by omega) hl hbx h4 h5 h6
                    | (rw [if_pos ⟨c_46, by omega⟩] at h6
                       rw [show z_60 = tmS (st.1 0) a c by omega]
                       exact ihI _ _ _ _ _ _ (by omega) (by omega) (by omega) (by omega) (by omega) ft h_69.1 h6)
                    | (rw [if_neg (fun q => by omega)] at h6
                       exact ihI _ _ _ _ _ _ (by omega) (by omega) (by omega) hl hbx ft h_69.1 h6)
                  · refine mw_iload dX7_swap_112 rfl ?_
                    refine mw_goto (tgt := 118) dX7_swap_114 (by decide) ?_
                    refine mw_is2 dX7_swap_118 (by decide) rfl ?_
                    refine mw_ii4 dX7_swap_119 (by decide) rfl ?_
                    refine mw_goto (tgt := 22) dX7_swap_122 (by decide) ?_
                    first
                    | (exfalso; omega)
                    | exact ihI _ _ _ _ _ _ (by omega) (by omega) (by omega) hl hbx h4 h5 h6
                    | (rw [if_pos ⟨c_46, by omega⟩] at h6
                       rw [show z_60 = tmS (st.1 0) a c by omega]
                       exact ihI _ _ _ _ _ _ (by omega) (by omega) (by omega) (by omega) (by omega) ft h_69.1 h6)
                    | (rw [if_neg (fun q => by omega)] at h6
                       exact ihI _ _ _ _ _ _ (by omega) (by omega) (by omega) hl hbx ft h_69.1 h6)
                · refine mw_bipush dX7_swap_95 (by decide +kernel) ?_
                  refine mw_iload_n dX7_swap_97 rfl ?_
                  refine mw_imul dX7_swap_98 ?_
                  refine mw_iload dX7_swap_99 rfl ?_
                  refine mw_iadd dX7_swap_101 ?_
                  refine mw_goto (tgt := 106) dX7_swap_102 (by decide) ?_
                  refine mw_is1 dX7_swap_106 (by decide) rfl ?_
                  refine mw_iload dX7_swap_107 rfl ?_
                  refine mw_if_eq (tgt := 117) dX7_swap_109 (by decide) (by omega) (fun c_109 => ?_) (fun c_109 => ?_)
                  · refine mw_iload_n dX7_swap_117 rfl ?_
                    refine mw_is2 dX7_swap_118 (by decide) rfl ?_
                    refine mw_ii4 dX7_swap_119 (by decide) rfl ?_
                    refine mw_goto (tgt := 22) dX7_swap_122 (by decide) ?_
                    first
                    | (exfalso; omega)
                    | exact ihI _ _ _ _ _ _ (by omega) (by omega) (by omega) hl hbx h4 h5 h6
                    | (rw [if_pos ⟨c_46, by omega⟩] at h6
                       rw [show z_60 = tmS (st.1 0) a c by omega]
                       exact ihI _ _ _ _ _ _ (by omega) (by omega) (by omega) (by omega) (by omega) ft h_69.1 h6)
                    | (rw [if_neg (fun q => by omega)] at h6
                       exact ihI _ _ _ _ _ _ (by omega) (by omega) (by omega) hl hbx ft h_69.1 h6)
                  · refine mw_iload dX7_swap_112 rfl ?_
                    refine mw_goto (tgt := 118) dX7_swap_114 (by decide) ?_
                    refine mw_is2 dX7_swap_118 (by decide) rfl ?_
                    refine mw_ii4 dX7_swap_119 (by decide) rfl ?_
                    refine mw_goto (tgt := 22) dX7_swap_122 (by decide) ?_
                    first
                    | (exfalso; omega)
                    | exact ihI _ _ _ _ _ _ (by omega) (by omega) (by omega) hl hbx h4 h5 h6
                    | (rw [if_pos ⟨c_46, by omega⟩] at h6
                       rw [show z_60 = tmS (st.1 0) a c by omega]
                       exact ihI _ _ _ _ _ _ (by omega) (by omega) (by omega) (by omega) (by omega) ft h_69.1 h6)
                    | (rw [if_neg (fun q => by omega)] at h6
                       exact ihI _ _ _ _ _ _ (by omega) (by omega) (by omega) hl hbx ft h_69.1 h6)
              · refine mw_iload dX7_swap_77 rfl ?_
                refine mw_iload_n dX7_swap_79 rfl ?_
                refine mw_icmp_ge (tgt := 87) dX7_swap_80 (by decide) (by omega) (by omega) (fun c_80 => ?_) (fun c_80 => ?_)
                · refine mw_iconst dX7_swap_87 ?_
                  refine mw_is6 dX7_swap_88 (by decide) rfl ?_
                  refine mw_iload dX7_swap_90 rfl ?_
                  refine mw_if_eq (tgt := 105) dX7_swap_92 (by decide) (by omega) (fun c_92 => ?_) (fun c_92 => ?_)
                  · refine mw_iload_n dX7_swap_105 rfl ?_
                    refine mw_is1 dX7_swap_106 (by decide) rfl ?_
                    refine mw_iload dX7_swap_107 rfl ?_
                    refine mw_if_eq (tgt := 117) dX7_swap_109 (by decide) (by omega) (fun c_109 => ?_) (fun c_109 => ?_)
                    · refine mw_iload_n dX7_swap_117 rfl ?_
                      refine mw_is2 dX7_swap_118 (by decide) rfl ?_
                      refine mw_ii4 dX7_swap_119 (by decide) rfl ?_
                      refine mw_goto (tgt := 22) dX7_swap_122 (by decide) ?_
                      first
                      | (exfalso; omega)
                      | exact ihI _ _ _ _ _ _ (by omega) (by omega) (by omega) hl hbx h4 h5 h6
                      | (rw [if_pos ⟨c_46, by omega⟩] at h6
                         rw [show z_60 = tmS (st.1 0) a c by omega]
                         exact ihI _ _ _ _ _ _ (by omega) (by omega) (by omega) (by omega) (by omega) ft h_69.1 h6)
                      | (rw [if_neg (fun q => by omega)] at h6
                         exact ihI _ _ _ _ _ _ (by omega) (by omega) (by omega) hl hbx ft h_69.1 h6)
                    · refine mw_iload dX7_swap_112 rfl ?_
                      refine mw_goto (tgt := 118) dX7_swap_114 (by decide) ?_
                      refine mw_is2 dX7_swap_118 (by decide) rfl ?_
                      refine mw_ii4 dX7_swap_119 (by decide) rfl ?_
                      refine mw_goto (tgt := 22) dX7_swap_122 (by decide) ?_
                      first
                      | (exfalso; omega)
                      | exact ihI _ _ _ _ _ _ (by omega) (by omega) (by omega) hl hbx h4 h5 h6
                      | (rw [if_pos ⟨c_46, by omega⟩] at h6
                         rw [show z_60 = tmS (st.1 0) a c by omega]
                         exact ihI _ _ _ _ _ _ (by omega) (by omega) (by omega) (by omega) (by omega) ft h_69.1 h6)
                      | (rw [if_neg (fun q => by omega)] at h6
                         exact ihI _ _ _ _ _ _ (by omega) (by omega) (by omega) hl hbx ft h_69.1 h6)
                  · refine mw_bipush dX7_swap_95 (by decide +kernel) ?_
                    refine mw_iload_n dX7_swap_97 rfl ?_
                    refine mw_imul dX7_swap_98 ?_
                    refine mw_iload dX7_swap_99 rfl ?_
                    refine mw_iadd dX7_swap_101 ?_
                    refine mw_goto (tgt := 106) dX7_swap_102 (by decide) ?_
                    refine mw_is1 dX7_swap_106 (by decide) rfl ?_
                    refine mw_iload dX7_swap_107 rfl ?_
                    refine mw_if_eq (tgt := 117) dX7_swap_109 (by decide) (by omega) (fun c_109 => ?_) (fun c_109 => ?_)
                    · refine mw_iload_n dX7_swap_117 rfl ?_
                      refine mw_is2 dX7_swap_118 (by decide) rfl ?_
                      refine mw_ii4 dX7_swap_119 (by decide) rfl ?_
                      refine mw_goto (tgt := 22) dX7_swap_122 (by decide) ?_
                      first
                      | (exfalso; omega)
                      | exact ihI _ _ _ _ _ _ (by omega) (by omega) (by omega) hl hbx h4 h5 h6
                      | (rw [if_pos ⟨c_46, by omega⟩] at h6
                         rw [show z_60 = tmS (st.1 0) a c by omega]
                         exact ihI _ _ _ _ _ _ (by omega) (by omega) (by omega) (by omega) (by omega) ft h_69.1 h6)
                      | (rw [if_neg (fun q => by omega)] at h6
                         exact ihI _ _ _ _ _ _ (by omega) (by omega) (by omega) hl hbx ft h_69.1 h6)
                    · refine mw_iload dX7_swap_112 rfl ?_
                      refine mw_goto (tgt := 118) dX7_swap_114 (by decide) ?_
                      refine mw_is2 dX7_swap_118 (by decide) rfl ?_
                      refine mw_ii4 dX7_swap_119 (by decide) rfl ?_
                      refine mw_goto (tgt := 22) dX7_swap_122 (by decide) ?_
                      first
                      | (exfalso; omega)
                      | exact ihI _ _ _ _ _ _ (by omega) (by omega) (by omega) hl hbx h4 h5 h6
                      | (rw [if_pos ⟨c_46, by omega⟩] at h6
                         rw [show z_60 = tmS (st.1 0) a c by omega]
                         exact ihI _ _ _ _ _ _ (by omega) (by omega) (by omega) (by omega) (by omega) ft h_69.1 h6)
                      | (rw [if_neg (fun q => by omega)] at h6
                         exact ihI _ _ _ _ _ _ (by omega) (by omega) (by omega) hl hbx ft h_69.1 h6)
                · refine mw_iconst dX7_swap_83 ?_
                  refine mw_goto (tgt := 88) dX7_swap_84 (by decide) ?_
                  refine mw_is6 dX7_swap_88 (by decide) rfl ?_
                  refine mw_iload dX7_swap_90 rfl ?_
                  refine mw_if_eq (tgt := 105) dX7_swap_92 (by decide) (by omega) (fun c_92 => ?_) (fun c_92 => ?_)
                  · refine mw_iload_n dX7_swap_105 rfl ?_
                    refine mw_is1 dX7_swap_106 (by decide) rfl ?_
                    refine mw_iload dX7_swap_107 rfl ?_
                    refine mw_if_eq (tgt := 117) dX7_swap_109 (by decide) (by omega) (fun c_109 => ?_) (fun c_109 => ?_)
                    · refine mw_iload_n dX7_swap_117 rfl ?_
                      refine mw_is2 dX7_swap_118 (by decide) rfl ?_
                      refine mw_ii4 dX7_swap_119 (by decide) rfl ?_
                      refine mw_goto (tgt := 22) dX7_swap_122 (by decide) ?_
                      first
                      | (exfalso; omega)
                      | exact ihI _ _ _ _ _ _ (by omega) (by omega) (by omega) hl hbx h4 h5 h6
                      | (rw [if_pos ⟨c_46, by omega⟩] at h6
                         rw [show z_60 = tmS (st.1 0) a c by omega]
                         exact ihI _ _ _ _ _ _ (by omega) (by omega) (by omega) (by omega) (by omega) ft h_69.1 h6)
                      | (rw [if_neg (fun q => by omega)] at h6
                         exact ihI _ _ _ _ _ _ (by omega) (by omega) (by omega) hl hbx ft h_69.1 h6)
                    · refine mw_iload dX7_swap_112 rfl ?_
                      refine mw_goto (tgt := 118) dX7_swap_114 (by decide) ?_
                      refine mw_is2 dX7_swap_118 (by decide) rfl ?_
                      refine mw_ii4 dX7_swap_119 (by decide) rfl ?_
                      refine mw_goto (tgt := 22) dX7_swap_122 (by decide) ?_
                      first
                      | (exfalso; omega)
                      | exact ihI _ _ _ _ _ _ (by omega) (by omega) (by omega) hl hbx h4 h5 h6
                      | (rw [if_pos ⟨c_46, by omega⟩] at h6
                         rw [show z_60 = tmS (st.1 0) a c by omega]
                         exact ihI _ _ _ _ _ _ (by omega) (by omega) (by omega) (by omega) (by omega) ft h_69.1 h6)
                      | (rw [if_neg (fun q => by omega)] at h6
                         exact ihI _ _ _ _ _ _ (by omega) (by omega) (by omega) hl hbx ft h_69.1 h6)
                  · refine mw_bipush dX7_swap_95 (by decide +kernel) ?_
                    refine mw_iload_n dX7_swap_97 rfl ?_
                    refine mw_imul dX7_swap_98 ?_
                    refine mw_iload dX7_swap_99 rfl ?_
                    refine mw_iadd dX7_swap_101 ?_
                    refine mw_goto (tgt := 106) dX7_swap_102 (by decide) ?_
                    refine mw_is1 dX7_swap_106 (by decide) rfl ?_
                    refine mw_iload dX7_swap_107 rfl ?_
                    refine mw_if_eq (tgt := 117) dX7_swap_109 (by decide) (by omega) (fun c_109 => ?_) (fun c_109 => ?_)
                    · refine mw_iload_n dX7_swap_117 rfl ?_
                      refine mw_is2 dX7_swap_118 (by decide) rfl ?_
                      refine mw_ii4 dX7_swap_119 (by decide) rfl ?_
                      refine mw_goto (tgt := 22) dX7_swap_122 (by decide) ?_
                      first
                      | (exfalso; omega)
                      | exact ihI _ _ _ _ _ _ (by omega) (by omega) (by omega) hl hbx h4 h5 h6
                      | (rw [if_pos ⟨c_46, by omega⟩] at h6
                         rw [show z_60 = tmS (st.1 0) a c by omega]
                         exact ihI _ _ _ _ _ _ (by omega) (by omega) (by omega) (by omega) (by omega) ft h_69.1 h6)
                      | (rw [if_neg (fun q => by omega)] at h6
                         exact ihI _ _ _ _ _ _ (by omega) (by omega) (by omega) hl hbx ft h_69.1 h6)
                    · refine mw_iload dX7_swap_112 rfl ?_
                      refine mw_goto (tgt := 118) dX7_swap_114 (by decide) ?_
                      refine mw_is2 dX7_swap_118 (by decide) rfl ?_
                      refine mw_ii4 dX7_swap_119 (by decide) rfl ?_
                      refine mw_goto (tgt := 22) dX7_swap_122 (by decide) ?_
                      first
                      | (exfalso; omega)
                      | exact ihI _ _ _ _ _ _ (by omega) (by omega) (by omega) hl hbx h4 h5 h6
                      | (rw [if_pos ⟨c_46, by omega⟩] at h6
                         rw [show z_60 = tmS (st.1 0) a c by omega]
                         exact ihI _ _ _ _ _ _ (by omega) (by omega) (by omega) (by omega) (by omega) ft h_69.1 h6)
                      | (rw [if_neg (fun q => by omega)] at h6
                         exact ihI _ _ _ _ _ _ (by omega) (by omega) (by omega) hl hbx ft h_69.1 h6)
      refine mw_iload_n dX7_swap_7 rfl ?_
      refine mw_aload_n dX7_swap_8 rfl ?_
      refine mw_gr_7_0 dX7_swap_9 gs_X7_9 (by first | rfl | assumption) ?_
      refine mw_iconst dX7_swap_12 ?_
      refine mw_iald 68 dX7_swap_13 (by first | rfl | assumption) (by first | rfl | assumption) (by omega) ?_
      rw [h5 _ (by omega) (by omega)]
      refine mw_icmp_ge (tgt := 131) dX7_swap_14 (by decide) (by omega) (by omega) (fun c_14 => ?_) (fun c_14 => ?_)
      · refine mw_aload_n dX7_swap_131 rfl ?_
        refine mw_iload_n dX7_swap_132 rfl ?_
        refine mw_Vi (ci := 7) dX7_swap_133 ml_X7_189 ok_X7_orNone (by decide) (by first | rfl | assumption) (by decide) rfl rfl rfl (Nat.le_of_ble_eq_true rfl) (c_M_orNone (hX.same h5 h4) hI (by omega)) (fun z_133 m_133 h_133 => ?_)
        refine mw_iret dX7_swap_136 rfl ?_
        rw [show (st.1 0 1 - a).toNat = 0 by omega, swO] at h6
        refine ⟨_, rfl, ?_⟩
        unfold sp_swap
        rw [← h6]
        exact ⟨h_133.1, h_133.2.1, h4.mf.tr h_133.2.2⟩
      · rw [show (st.1 0 1 - a).toNat = (st.1 0 1 - (a + 1)).toNat + 1 by omega, swO] at h6
        refine mw_iload_n dX7_swap_17 rfl ?_
        refine mw_iconst dX7_swap_18 ?_
        refine mw_iadd dX7_swap_19 ?_
        refine mw_is4 dX7_swap_20 (by decide) rfl ?_
        exact li 9 _ _ _ _ _ _ (by omega) (by omega) (by omega) hl hbx h4 h5 h6
  refine mw_iconst dX7_swap_0 ?_
  refine mw_is1 dX7_swap_1 (by decide) rfl ?_
  refine mw_bipush dX7_swap_2 (by decide +kernel) ?_
  refine mw_is2 dX7_swap_4 (by decide) rfl ?_
  refine mw_iconst dX7_swap_5 ?_
  refine mw_is3 dX7_swap_6 (by decide) rfl ?_
  exact lo 9 _ _ _ _ _ _ _ (by omega) (by omega) (by omega) (by omega) DR.rf hR (by rw [Int.sub_zero])
set_option maxHeartbeats 4000000 in
set_option maxRecDepth 100000 in
theorem c_M_feed {G : mG} {μ : mMem} {st : aS} (hX : MR μ st) (hI : SI st) {x n : Int} (hx_ : -2147483648 ≤ x ∧ x ≤ 2147483647) (hn_ : -2147483648 ≤ n ∧ n ≤ 2147483647) : mM G yX7_feed cX7_feed 4 (some .int) 1 [.ref 56, .int (iV x), .int (iV n)] μ (qM μ (sp_feed st x n)) := by
  obtain ⟨hR, hK, hkp, htl, htb, hfd, hfs, hsh⟩ := id hX
  have hFI := hI.1
  have hn := hFI.2.1
  have h0 := hFI.1
  have h99 := hI.2.1
  have hL := hI.2.2.2.2.2.1
  refine mM.of (lv := [some (.ref 56), some (.int (iV x)), some (.int (iV n)), none]) 1 (by decide +kernel) (Nat.le_of_ble_eq_true rfl) rfl ?_
  intro X
  have lp : ∀ (n_ : Nat) (k : Int) (m : mMem), (1 ≤ n ∧ n ≤ 4) → (st.1 2 1 + n ≤ 120) → (-1 ≤ k) → (k ≤ n - 1) → (k + 2 ≤ n_) → (∀ c : Nat, c ≠ 56 → c ≠ 62 → m.1 c = μ.1 c) → (m.2 = μ.2) → (m.1 56 3 = μ.1 56 3) → (m.1 56 7 = st.1 2 1 + (n - 1 - k)) → (∀ i : Int, 0 ≤ i → i < st.1 2 1 + (n - 1 - k) → m.1 62 i = feT (st.1 3) (st.1 2 1) x n i) → mW X cX7_feed 4 (some .int) yX7_feed.cls 1 G (qM μ (sp_feed st x n)) 38 [some (.ref 56), some (.int (iV x)), some (.int (iV n)), some (.int (iV k))] [] m := by
    intro n_
    induction n_ with
    | zero =>
      intro k m hN hf h1 h2 h3 h4 h5 h6 h7 h8
      omega
    | succ n_ ih =>
      intro k m hN hf h1 h2 h3 h4 h5 h6 h7 h8
      refine mw_iload_n dX7_feed_38 rfl ?_
      refine mw_if_lt (tgt := 77) dX7_feed_39 (by decide) (by omega) (fun c_39 => ?_) (fun c_39 => ?_)
      · refine mw_aload_n dX7_feed_77 rfl ?_
        refine mw_getI 7 dX7_feed_78 gs_X7_213 (by first | rfl | assumption) rfl rfl ?_
        refine mw_iret dX7_feed_81 rfl ?_
        refine ⟨_, rfl, ?_⟩
        unfold sp_feed
        rw [if_pos hN, if_neg (by omega)]
        refine ⟨by rw [h7, show k = -1 by omega]; show _ = st.1 2 1 + n; omega, hX.tape (fun c q => h4 c (by omega) (by omega)) (by rw [h5]) h6 (by rw [h7]; omega) (fun i q1 q2 => h8 i q1 (by omega)), fun c hc => ⟨h4 c (by omega) (by omega), by rw [h5]⟩⟩
      · refine mw_aload_n dX7_feed_42 rfl ?_
        refine mw_gr_7_6 dX7_feed_43 gs_X7_25 (by first | rfl | assumption) ?_
        refine mw_aload_n dX7_feed_46 rfl ?_
        refine mw_getI 7 dX7_feed_47 gs_X7_213 (by first | rfl | assumption) rfl rfl ?_
        rw [h7]
        refine mw_iload_n dX7_feed_50 rfl ?_
        refine mw_bipush dX7_feed_51 (by decide +kernel) ?_
        refine mw_iload_n dX7_feed_53 rfl ?_
        refine mw_imul dX7_feed_54 ?_
        refine mw_ishr dX7_feed_55 ?_
        refine mw_sipush dX7_feed_56 (by decide +kernel) ?_
        refine mw_iand dX7_feed_59 ?_
        rw [byt_s x (by omega)]
        refine mw_iast 120 dX7_feed_60 (by first | rfl | assumption) (by first | rfl | assumption) (by omega) ?_
        refine mw_aload_n dX7_feed_61 rfl ?_
        refine mw_dup dX7_feed_62 rfl ?_
        refine mw_getI 7 dX7_feed_63 gs_X7_213 (by first | rfl | assumption) rfl rfl ?_
        rw [u1_o (by omega), h7]
        refine mw_iconst dX7_feed_66 ?_
        refine mw_iadd dX7_feed_67 ?_
        refine mw_putI 7 dX7_feed_68 ps_X7_213 (by first | rfl | assumption) rfl rfl ?_
        refine mw_ii3 dX7_feed_71 (by decide) rfl ?_
        refine mw_goto (tgt := 38) dX7_feed_74 (by decide) ?_
        refine ih _ _ hN hf (by omega) (by omega) (by omega) (fun c q1 q2 => ?_) h5 (by rw [u1_o (by omega), u1_o (by omega)]; exact h6) (by rw [u1_s]; omega) (fun i q1 q2 => ?_)
        · rw [← h4 c q1 q2]
          funext j
          rw [u1_o (by omega), u1_o (by omega)]
        · rw [u1_o (by omega)]
          by_cases e : i = st.1 2 1 + (n - 1 - k)
          · rw [e, u1_s]
            unfold feT
            rw [if_pos (by omega), show n - 1 - (st.1 2 1 + (n - 1 - k) - st.1 2 1) = k by omega]
          · rw [u1_o (by omega)]
            exact h8 i q1 (by omega)
  refine mw_iload_n dX7_feed_0 rfl ?_
  refine mw_iconst dX7_feed_1 ?_
  refine mw_iconst dX7_feed_2 ?_
  refine mw_Spi dX7_feed_3 ml_X7_81 ok_X7_within (by decide) rfl rfl (Nat.le_of_ble_eq_true rfl) (c_M_within (by omega) (by omega) (by omega)) ?_
  refine mw_if_ne (tgt := 16) dX7_feed_6 (by decide) (wi_bd _ _ _) (fun c_6 => ?_) (fun c_6 => ?_)
  · have d_6 := wi_1 c_6
    refine mw_aload_n dX7_feed_16 rfl ?_
    refine mw_getI 7 dX7_feed_17 gs_X7_213 (by first | rfl | assumption) rfl rfl ?_
    rw [htl]
    refine mw_iload_n dX7_feed_20 rfl ?_
    refine mw_iadd dX7_feed_21 ?_
    refine mw_bipush dX7_feed_22 (by decide +kernel) ?_
    refine mw_icmp_le (tgt := 34) dX7_feed_24 (by decide) (by omega) (by omega) (fun c_24 => ?_) (fun c_24 => ?_)
    · refine mw_iload_n dX7_feed_34 rfl ?_
      refine mw_iconst dX7_feed_35 ?_
      refine mw_isub dX7_feed_36 ?_
      refine mw_is3 dX7_feed_37 (by decide) rfl ?_
      refine lp 6 _ _ (by omega) (by omega) (by omega) (by omega) (by omega) (fun c q1 q2 => rfl) rfl rfl (by rw [htl]; omega) (fun i q1 q2 => ?_)
      unfold feT
      rw [if_neg (by omega)]
      exact htb i q1 (by omega)
    · refine mw_aload_n dX7_feed_27 rfl ?_
      refine mw_ldc dX7_feed_28 ct_X7_143 ?_
      refine mw_Vi (ci := 7) dX7_feed_30 ml_X7_77 ok_X7_finding (by decide) (by first | rfl | assumption) (by decide) rfl rfl rfl (Nat.le_of_ble_eq_true rfl) (c_M_find hX hI 1 (by decide) (by decide)) (fun z_30 m_30 h_30 => ?_)
      refine mw_iret dX7_feed_33 rfl ?_
      refine ⟨_, rfl, ?_⟩
      unfold sp_feed
      rw [if_pos (by omega), if_pos (by omega)]
      exact h_30
  · have d_6 := wi_0 c_6
    refine mw_aload_n dX7_feed_9 rfl ?_
    refine mw_ldc dX7_feed_10 ct_X7_71 ?_
    refine mw_Vi (ci := 7) dX7_feed_12 ml_X7_77 ok_X7_finding (by decide) (by first | rfl | assumption) (by decide) rfl rfl rfl (Nat.le_of_ble_eq_true rfl) (c_M_find hX hI 0 (by decide) (by decide)) (fun z_12 m_12 h_12 => ?_)
    refine mw_iret dX7_feed_15 rfl ?_
    refine ⟨_, rfl, ?_⟩
    unfold sp_feed
    rw [if_neg (by omega)]
    exact h_12
theorem u56 {μ : mMem} {j v : Int} {c : Nat} (hc : c ≠ 56) : (u1 μ 56 j v).1 c = μ.1 c := by funext i; rw [u1_o (by omega)]
set_option maxHeartbeats 4000000 in
set_option maxRecDepth 100000 in
theorem c_M_wipe {G : mG} {μ : mMem} {st : aS} (hX : MR μ st) (hI : SI st) : mM G yX7_wipe cX7_wipe 2 (some .int) 0 [.ref 56] μ (qM μ (sp_wipe st)) := by
  obtain ⟨hR, hK, hkp, htl, htb, hfd, hfs, hsh⟩ := id hX
  have hFI := hI.1
  have hn := hFI.2.1
  have h0 := hFI.1
  have h99 := hI.2.1
  refine mM.of (lv := [some (.ref 56), none]) 1 (by decide +kernel) (Nat.le_of_ble_eq_true rfl) rfl ?_
  intro X
  refine mw_aload_n dX7_wipe_0 rfl ?_
  refine mw_getI 7 dX7_wipe_1 gs_X7_213 (by first | rfl | assumption) rfl rfl ?_
  rw [htl]
  refine mw_is1 dX7_wipe_4 (by decide) rfl ?_
  refine mw_aload_n dX7_wipe_5 rfl ?_
  refine mw_iconst dX7_wipe_6 ?_
  refine mw_putI 7 dX7_wipe_7 ps_X7_213 (by first | rfl | assumption) rfl rfl ?_
  refine mw_iload_n dX7_wipe_10 rfl ?_
  refine mw_iret dX7_wipe_11 rfl ?_
  exact ⟨_, rfl, rfl, hX.tape (fun c q => u56 (by omega)) rfl (u1_o (by omega)) (u1_s _ _ _ _) (fun i q1 q2 => by omega), mf_u (by omega)⟩
set_option maxHeartbeats 4000000 in
set_option maxRecDepth 100000 in
theorem c_M_image {G : mG} {μ : mMem} {st : aS} (hX : MR μ st) (hI : SI st) : mM G yX7_image cX7_image 1 (some .int) 1 [.ref 56] μ (qM μ (sp_image st)) := by
  obtain ⟨hR, hK, hkp, htl, htb, hfd, hfs, hsh⟩ := id hX
  have hFI := hI.1
  have hn := hFI.2.1
  have h0 := hFI.1
  have h99 := hI.2.1
  refine mM.of (lv := [some (.ref 56)]) 0 (by decide +kernel) (Nat.le_of_ble_eq_true rfl) rfl ?_
  intro X
  refine mw_aload_n dX7_image_0 rfl ?_
  refine mw_gr_7_0 dX7_image_1 gs_X7_9 (by first | rfl | assumption) ?_
  refine mw_aload_n dX7_image_4 rfl ?_
  refine mw_gr_7_1 dX7_image_5 gs_X7_13 (by first | rfl | assumption) ?_
  refine mw_Sv dX7_image_8 ml_X7_72 ok_X7_copyRow (by decide) rfl rfl (Nat.le_of_ble_eq_true rfl) (c_M_copyRow rfl rfl rfl rfl (by decide)) (fun m_8 h_8 => ?_)
  refine mw_aload_n dX7_image_11 rfl ?_
  refine mw_iconst dX7_image_12 ?_
  refine mw_putZ 3 dX7_image_13 ps_X7_311 (by first | rfl | assumption) rfl rfl (by omega) ?_
  refine mw_iconst dX7_image_16 ?_
  refine mw_iret dX7_image_17 rfl ?_
  refine ⟨_, rfl, rfl, ?_, fun c hc => ⟨by rw [u56 (by omega)]; exact h_8.1 c (by omega), by show m_8.2 c = _; rw [h_8.2.1]⟩⟩
  refine hX.gen (fun j q1 q2 => ?_) (fun j q1 q2 => ?_) (u1_s _ _ _ _) ?_ (fun i q1 q2 => ?_) rfl rfl rfl rfl (fun c q => by rw [u56 (by omega)]; exact h_8.1 c (by omega)) (by show m_8.2 70 = _; rw [h_8.2.1])
  · rw [u56 (by omega), h_8.1 _ (by omega)]; exact hR j q1 q2
  · rw [u56 (by omega), h_8.2.2 j q1 q2]; exact hR j q1 q2
  · rw [u1_o (by omega), h_8.1 _ (by omega)]; exact htl
  · rw [u56 (by omega), h_8.1 _ (by omega)]; exact htb i q1 q2
set_option maxHeartbeats 4000000 in
set_option maxRecDepth 100000 in
theorem c_M_undo {G : mG} {μ : mMem} {st : aS} (hX : MR μ st) (hI : SI st) : mM G yX7_undo cX7_undo 1 (some .int) 1 [.ref 56] μ (qM μ (sp_undo st)) := by
  obtain ⟨hR, hK, hkp, htl, htb, hfd, hfs, hsh⟩ := id hX
  have hFI := hI.1
  have hn := hFI.2.1
  have h0 := hFI.1
  have h99 := hI.2.1
  have hk01 := hI.2.2.2.2.1
  refine mM.of (lv := [some (.ref 56)]) 0 (by decide +kernel) (Nat.le_of_ble_eq_true rfl) rfl ?_
  intro X
  refine mw_aload_n dX7_undo_0 rfl ?_
  refine mw_getI 3 dX7_undo_1 gs_X7_311 (by first | rfl | assumption) rfl rfl ?_
  rw [hkp]
  refine mw_if_ne (tgt := 14) dX7_undo_4 (by decide) (by omega) (fun c_4 => ?_) (fun c_4 => ?_)
  · refine mw_aload_n dX7_undo_14 rfl ?_
    refine mw_gr_7_1 dX7_undo_15 gs_X7_13 (by first | rfl | assumption) ?_
    refine mw_aload_n dX7_undo_18 rfl ?_
    refine mw_gr_7_0 dX7_undo_19 gs_X7_9 (by first | rfl | assumption) ?_
    refine mw_Sv dX7_undo_22 ml_X7_72 ok_X7_copyRow (by decide) rfl rfl (Nat.le_of_ble_eq_true rfl) (c_M_copyRow rfl rfl rfl rfl (by decide)) (fun m_22 h_22 => ?_)
    have r57 : ROW m_22 57 (st.1 1) := fun j q1 q2 => by rw [h_22.2.2 j q1 q2]; exact hK j q1 q2
    have dr : DR μ m_22 := ⟨fun c q1 _ _ => h_22.1 c q1, h_22.2.1⟩
    refine mw_aload_n dX7_undo_25 rfl ?_
    refine mw_gr_7_0 dX7_undo_26 gs_X7_9 (by first | rfl | assumption) ?_
    refine mw_iconst dX7_undo_29 ?_
    refine mw_iald 68 dX7_undo_30 (by first | rfl | assumption) (by first | rfl | assumption) (by omega) ?_
    rw [r57 1 (by omega) (by omega)]
    refine mw_iret dX7_undo_31 rfl ?_
    refine ⟨_, rfl, ?_⟩
    unfold sp_undo
    rw [if_neg c_4]
    exact ⟨rfl, hX.row r57 dr, dr.mf⟩
  · refine mw_aload_n dX7_undo_7 rfl ?_
    refine mw_ldc dX7_undo_8 ct_X7_76 ?_
    refine mw_Vi (ci := 7) dX7_undo_10 ml_X7_77 ok_X7_finding (by decide) (by first | rfl | assumption) (by decide) rfl rfl rfl (Nat.le_of_ble_eq_true rfl) (c_M_find hX hI 3 (by decide) (by decide)) (fun z_10 m_10 h_10 => ?_)
    refine mw_iret dX7_undo_13 rfl ?_
    refine ⟨_, rfl, ?_⟩
    unfold sp_undo
    rw [if_pos c_4]
    exact h_10
set_option maxHeartbeats 4000000 in
set_option maxRecDepth 100000 in
theorem c_M_tear {G : mG} {μ : mMem} {st : aS} (hX : MR μ st) (hI : SI st) : mM G yX7_tear cX7_tear 2 (some .int) 0 [.ref 56] μ (qM μ (sp_tear st)) := by
  obtain ⟨hR, hK, hkp, htl, htb, hfd, hfs, hsh⟩ := id hX
  have hFI := hI.1
  have hn := hFI.2.1
  have h0 := hFI.1
  have h99 := hI.2.1
  have hk01 := hI.2.2.2.2.1
  refine mM.of (lv := [some (.ref 56), none]) 1 (by decide +kernel) (Nat.le_of_ble_eq_true rfl) rfl ?_
  intro X
  refine mw_aload_n dX7_tear_0 rfl ?_
  refine mw_getI 3 dX7_tear_1 gs_X7_311 (by first | rfl | assumption) rfl rfl ?_
  rw [hkp]
  refine mw_if_eq (tgt := 11) dX7_tear_4 (by decide) (by omega) (fun c_4 => ?_) (fun c_4 => ?_)
  · refine mw_iconst dX7_tear_11 ?_
    refine mw_is1 dX7_tear_12 (by decide) rfl ?_
    refine mw_aload_n dX7_tear_13 rfl ?_
    refine mw_iconst dX7_tear_14 ?_
    refine mw_putZ 3 dX7_tear_15 ps_X7_311 (by first | rfl | assumption) rfl rfl (by omega) ?_
    refine mw_iload_n dX7_tear_18 rfl ?_
    refine mw_iret dX7_tear_19 rfl ?_
    refine ⟨_, rfl, by show _ = st.1 2 0; omega, ?_, mf_u (by omega)⟩
    refine hX.gen (fun j q1 q2 => ?_) (fun j q1 q2 => ?_) (u1_s _ _ _ _) ?_ (fun i q1 q2 => ?_) rfl rfl rfl rfl (fun c q => u56 (by omega)) rfl
    · rw [u56 (by omega)]; exact hR j q1 q2
    · rw [u56 (by omega)]; exact hK j q1 q2
    · rw [u1_o (by omega)]; exact htl
    · rw [u56 (by omega)]; exact htb i q1 q2
  · refine mw_iconst dX7_tear_7 ?_
    refine mw_goto (tgt := 12) dX7_tear_8 (by decide) ?_
    refine mw_is1 dX7_tear_12 (by decide) rfl ?_
    refine mw_aload_n dX7_tear_13 rfl ?_
    refine mw_iconst dX7_tear_14 ?_
    refine mw_putZ 3 dX7_tear_15 ps_X7_311 (by first | rfl | assumption) rfl rfl (by omega) ?_
    refine mw_iload_n dX7_tear_18 rfl ?_
    refine mw_iret dX7_tear_19 rfl ?_
    refine ⟨_, rfl, by show _ = st.1 2 0; omega, ?_, mf_u (by omega)⟩
    refine hX.gen (fun j q1 q2 => ?_) (fun j q1 q2 => ?_) (u1_s _ _ _ _) ?_ (fun i q1 q2 => ?_) rfl rfl rfl rfl (fun c q => u56 (by omega)) rfl
    · rw [u56 (by omega)]; exact hR j q1 q2
    · rw [u56 (by omega)]; exact hK j q1 q2
    · rw [u1_o (by omega)]; exact htl
    · rw [u56 (by omega)]; exact htb i q1 q2
set_option maxHeartbeats 4000000 in
set_option maxRecDepth 100000 in
theorem c_M_count {G : mG} {μ : mMem} {st : aS} (hX : MR μ st) (hI : SI st) {v : Int} (hv_ : -2147483648 ≤ v ∧ v ≤ 2147483647) : mM G yX7_count cX7_count 5 (some .int) 2 [.ref 56, .int (iV v)] μ (qM μ (sp_count st v)) := by
  obtain ⟨hR, hK, hkp, htl, htb, hfd, hfs, hsh⟩ := id hX
  have hFI := hI.1
  have hn := hFI.2.1
  have h0 := hFI.1
  have h99 := hI.2.1
  refine mM.of (lv := [some (.ref 56), some (.int (iV v)), none, none, none]) 3 (by decide +kernel) (Nat.le_of_ble_eq_true rfl) rfl ?_
  intro X
  have lp : ∀ (n_ : Nat) (a b i : Int), (0 ≤ i) → (i ≤ st.1 0 1) → (9 ≤ i + n_) → (a = sumW (st.1 0) i.toNat) → (b = sumB (st.1 0) i.toNat) → mW X cX7_count 5 (some .int) yX7_count.cls 2 G (qM μ (sp_count st v)) 7 [some (.ref 56), some (.int (iV v)), some (.int (iV a)), some (.int (iV b)), some (.int (iV i))] [] μ := by
    intro n_
    induction n_ with
    | zero =>
      intro a b i h1 h2 h3 h4 h5
      omega
    | succ n_ ih =>
      intro a b i h1 h2 h3 h4 h5
      refine mw_iload dX7_count_7 rfl ?_
      refine mw_aload_n dX7_count_9 rfl ?_
      refine mw_gr_7_0 dX7_count_10 gs_X7_9 (by first | rfl | assumption) ?_
      refine mw_iconst dX7_count_13 ?_
      refine mw_iald 68 dX7_count_14 (by first | rfl | assumption) (by first | rfl | assumption) (by omega) ?_
      rw [hR _ (by omega) (by omega)]
      refine mw_icmp_ge (tgt := 47) dX7_count_15 (by decide) (by omega) (by omega) (fun c_15 => ?_) (fun c_15 => ?_)
      · refine mw_iload_n dX7_count_47 rfl ?_
        refine mw_if_ne (tgt := 60) dX7_count_48 (by decide) (by omega) (fun c_48 => ?_) (fun c_48 => ?_)
        · refine mw_iload_n dX7_count_60 rfl ?_
          refine mw_iconst dX7_count_61 ?_
          refine mw_icmp_ne (tgt := 72) dX7_count_62 (by decide) (by omega) (by omega) (fun c_62 => ?_) (fun c_62 => ?_)
          · refine mw_iload_n dX7_count_72 rfl ?_
            refine mw_iconst dX7_count_73 ?_
            refine mw_icmp_ne (tgt := 81) dX7_count_74 (by decide) (by omega) (by omega) (fun c_74 => ?_) (fun c_74 => ?_)
            · refine mw_iload_n dX7_count_81 rfl ?_
              refine mw_iconst dX7_count_82 ?_
              refine mw_icmp_ne (tgt := 90) dX7_count_83 (by decide) (by omega) (by omega) (fun c_83 => ?_) (fun c_83 => ?_)
              · refine mw_aload_n dX7_count_90 rfl ?_
                refine mw_ldc dX7_count_91 ct_X7_71 ?_
                refine mw_Vi (ci := 7) dX7_count_93 ml_X7_77 ok_X7_finding (by decide) (by first | rfl | assumption) (by decide) rfl rfl rfl (Nat.le_of_ble_eq_true rfl) (c_M_find hX hI 0 (by decide) (by decide)) (fun z_93 m_93 h_93 => ?_)
                refine mw_iret dX7_count_96 rfl ?_
                refine ⟨_, rfl, ?_⟩
                unfold sp_count
                rw [if_neg (by omega), if_neg (by omega), if_neg (by omega), if_neg (by omega)]
                exact h_93
              · refine mw_iload_n dX7_count_86 rfl ?_
                refine mw_goto (tgt := 96) dX7_count_87 (by decide) ?_
                refine mw_iret dX7_count_96 rfl ?_
                refine ⟨_, rfl, ?_⟩
                unfold sp_count
                rw [if_neg (by omega), if_neg (by omega), if_neg (by omega), if_pos (by omega)]
                exact ⟨by rw [h5, show i = st.1 0 1 by omega], hX, MF.rf⟩
            · refine mw_iload_n dX7_count_77 rfl ?_
              refine mw_goto (tgt := 96) dX7_count_78 (by decide) ?_
              refine mw_iret dX7_count_96 rfl ?_
              refine ⟨_, rfl, ?_⟩
              unfold sp_count
              rw [if_neg (by omega), if_neg (by omega), if_pos (by omega)]
              exact ⟨by rw [h4, show i = st.1 0 1 by omega], hX, MF.rf⟩
          · refine mw_aload_n dX7_count_65 rfl ?_
            refine mw_getI 7 dX7_count_66 gs_X7_213 (by first | rfl | assumption) rfl rfl ?_
            rw [htl]
            refine mw_goto (tgt := 96) dX7_count_69 (by decide) ?_
            refine mw_iret dX7_count_96 rfl ?_
            refine ⟨_, rfl, ?_⟩
            unfold sp_count
            rw [if_neg (by omega), if_pos (by omega)]
            exact ⟨rfl, hX, MF.rf⟩
        · refine mw_aload_n dX7_count_51 rfl ?_
          refine mw_gr_7_0 dX7_count_52 gs_X7_9 (by first | rfl | assumption) ?_
          refine mw_iconst dX7_count_55 ?_
          refine mw_iald 68 dX7_count_56 (by first | rfl | assumption) (by first | rfl | assumption) (by omega) ?_
          rw [hR _ (by omega) (by omega)]
          refine mw_goto (tgt := 96) dX7_count_57 (by decide) ?_
          refine mw_iret dX7_count_96 rfl ?_
          refine ⟨_, rfl, ?_⟩
          unfold sp_count
          rw [if_pos (by omega)]
          exact ⟨rfl, hX, MF.rf⟩
      · refine mw_iload_n dX7_count_18 rfl ?_
        refine mw_aload_n dX7_count_19 rfl ?_
        refine mw_iload dX7_count_20 rfl ?_
        refine mw_iconst dX7_count_22 ?_
        refine mw_Vpi (ci := 7) dX7_count_23 ml_X7_120 ok_X7_attacheIs (by decide) (by first | rfl | assumption) (by decide) rfl rfl rfl (Nat.le_of_ble_eq_true rfl) (c_M_attacheIs hR (by omega) (by omega)) ?_
        refine mw_iadd dX7_count_26 ?_
        refine mw_is2 dX7_count_27 (by decide) rfl ?_
        refine mw_iload_n dX7_count_28 rfl ?_
        refine mw_aload_n dX7_count_29 rfl ?_
        refine mw_iload dX7_count_30 rfl ?_
        refine mw_iconst dX7_count_32 ?_
        refine mw_Vpi (ci := 7) dX7_count_33 ml_X7_120 ok_X7_attacheIs (by decide) (by first | rfl | assumption) (by decide) rfl rfl rfl (Nat.le_of_ble_eq_true rfl) (c_M_attacheIs hR (by omega) (by omega)) ?_
        refine mw_Spi dX7_count_36 ml_X7_314 ok_X7_bits (by decide) rfl rfl (Nat.le_of_ble_eq_true rfl) (c_M_bits (by have := (hFI.2.2.2.2 i (by omega) (by omega)).2.2.2.1; omega)) ?_
        refine mw_iadd dX7_count_39 ?_
        refine mw_is3 dX7_count_40 (by decide) rfl ?_
        refine mw_ii4 dX7_count_41 (by decide) rfl ?_
        refine mw_goto (tgt := 7) dX7_count_44 (by decide) ?_
        exact ih _ _ _ (by omega) (by omega) (by omega) (by rw [show (i + 1).toNat = i.toNat + 1 by omega, sumW, h4, show ((i.toNat : Nat) : Int) = i by omega]) (by rw [show (i + 1).toNat = i.toNat + 1 by omega, sumB, h5, show ((i.toNat : Nat) : Int) = i by omega])
  refine mw_iconst dX7_count_0 ?_
  refine mw_is2 dX7_count_1 (by decide) rfl ?_
  refine mw_iconst dX7_count_2 ?_
  refine mw_is3 dX7_count_3 (by decide) rfl ?_
  refine mw_iconst dX7_count_4 ?_
  refine mw_is4 dX7_count_5 (by decide) rfl ?_
  exact lp 9 _ _ _ (by omega) (by omega) (by omega) rfl rfl
set_option maxHeartbeats 4000000 in
set_option maxRecDepth 100000 in
theorem c_M_status {G : mG} {μ : mMem} {st : aS} (hX : MR μ st) (hI : SI st) {v : Int} (hv_ : -2147483648 ≤ v ∧ v ≤ 2147483647) : mM G yX7_status cX7_status 2 (some .int) 1 [.ref 56, .int (iV v)] μ (qM μ (sp_status st v)) := by
  obtain ⟨hR, hK, hkp, htl, htb, hfd, hfs, hsh⟩ := id hX
  have hFI := hI.1
  have hn := hFI.2.1
  have h0 := hFI.1
  have h99 := hI.2.1
  refine mM.of (lv := [some (.ref 56), some (.int (iV v))]) 0 (by decide +kernel) (Nat.le_of_ble_eq_true rfl) rfl ?_
  intro X
  refine mw_iload_n dX7_status_0 rfl ?_
  refine mw_iconst dX7_status_1 ?_
  refine mw_bipush dX7_status_2 (by decide +kernel) ?_
  refine mw_Spi dX7_status_4 ml_X7_81 ok_X7_within (by decide) rfl rfl (Nat.le_of_ble_eq_true rfl) (c_M_within (by omega) (by omega) (by omega)) ?_
  refine mw_if_eq (tgt := 21) dX7_status_7 (by decide) (wi_bd _ _ _) (fun c_7 => ?_) (fun c_7 => ?_)
  · have d_7 := wi_0 c_7
    refine mw_aload_n dX7_status_21 rfl ?_
    refine mw_ldc dX7_status_22 ct_X7_71 ?_
    refine mw_Vi (ci := 7) dX7_status_24 ml_X7_77 ok_X7_finding (by decide) (by first | rfl | assumption) (by decide) rfl rfl rfl (Nat.le_of_ble_eq_true rfl) (c_M_find hX hI 0 (by decide) (by decide)) (fun z_24 m_24 h_24 => ?_)
    refine mw_iret dX7_status_27 rfl ?_
    refine ⟨_, rfl, ?_⟩
    unfold sp_status
    rw [if_neg (by omega)]
    exact h_24
  · have d_7 := wi_1 c_7
    refine mw_aload_n dX7_status_10 rfl ?_
    refine mw_gr_7_4 dX7_status_11 gs_X7_19 (by first | rfl | assumption) ?_
    refine mw_iload_n dX7_status_14 rfl ?_
    refine mw_iconst dX7_status_15 ?_
    refine mw_iadd dX7_status_16 ?_
    refine mw_iald 8 dX7_status_17 (by first | rfl | assumption) (by first | rfl | assumption) (by omega) ?_
    refine mw_goto (tgt := 27) dX7_status_18 (by decide) ?_
    refine mw_iret dX7_status_27 rfl ?_
    refine ⟨_, rfl, ?_⟩
    unfold sp_status
    rw [if_pos d_7]
    by_cases e : v < 0
    · rw [if_pos e, show v + 1 = 0 by omega]
      exact ⟨hfs, hX, MF.rf⟩
    · rw [if_neg e]
      exact ⟨hfd v (by omega) (by omega), hX, MF.rf⟩

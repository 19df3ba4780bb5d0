theorem ROW.put {m : mMem} {F : Int → Int} {j0 v : Int} (h : ∀ j : Int, 0 ≤ j → j < 68 → j ≠ j0 → m.1 57 j = F j) : ROW (u1 m 57 j0 v) 57 (upF F j0 v) := by
  intro j q1 q2
  by_cases e : j = j0
  · rw [e, u1_s, upF_s]
  · rw [u1_o (by omega), upF_o e]
    exact h j q1 q2 e
theorem ROW.but {m : mMem} {F : Int → Int} {j0 v : Int} (h : ROW m 57 (upF F j0 v)) : ∀ j : Int, 0 ≤ j → j < 68 → j ≠ j0 → m.1 57 j = F j := fun j q1 q2 e => by rw [h j q1 q2, upF_o e]
theorem ROW.back {m : mMem} {F : Int → Int} {j0 : Int} (h : ∀ j : Int, 0 ≤ j → j < 68 → j ≠ j0 → m.1 57 j = F j) : ROW (u1 m 57 j0 (F j0)) 57 F := by
  intro j q1 q2
  by_cases e : j = j0
  · rw [e, u1_s]
  · rw [u1_o (by omega)]
    exact h j q1 q2 e
theorem xor_back (a b : Int) (h : -2147483648 ≤ a ∧ a ≤ 2147483647) : bXor (bXor a b) b = a := by
  unfold bXor
  rw [iV_of, Int32.xor_assoc, Int32.xor_self, Int32.xor_zero]
  exact iV_toInt h
set_option maxHeartbeats 4000000 in
set_option maxRecDepth 100000 in
theorem c_M_bestOf {G : mG} {μ : mMem} {F : Int → Int} (hR : ROW μ 57 F) (hI : fInv F) {a f M y : Int} (h8 : 0 ≤ a ∧ a < 8) (hc : (f = 2 ∧ M = 11 ∧ y = 0) ∨ (f = 0 ∧ M = 5 ∧ y = 1)) (hd : F 0 ≤ 20000) : mM G yX7_bestOf cX7_bestOf 11 (some .int) 6 [.ref 56, .int (iV a), .int (iV f), .int (iV M)] μ (qI (fun z m => z = bst (tmH F a (F (28 + 5 * a + 1)) y) (M + 1).toNat 0 (-1) 101 ∧ (-1 ≤ z ∧ z ≤ 11) ∧ ROW m 57 F ∧ DR μ m)) := by
  have hsd := (hI.2.2.2.2 a (by omega) (by omega)).2.1
  refine mM.of (lv := [some (.ref 56), some (.int (iV a)), some (.int (iV f)), some (.int (iV M)), none, none, none, none, none, none, none]) 7 (by decide +kernel) (Nat.le_of_ble_eq_true rfl) rfl ?_
  intro X
  have lp : ∀ (n_ : Nat) (q9 q10 : Option Value) (b l v : Int) (m : mMem), (0 ≤ v) → (v ≤ M + 1) → (14 ≤ v + n_) → (0 ≤ l ∧ l ≤ 101) → (-1 ≤ b ∧ b ≤ 11) → (DR μ m) → (∀ j : Int, 0 ≤ j → j < 68 → j ≠ 28 + 5 * a + f → m.1 57 j = F j) → (bst (tmH F a (F (28 + 5 * a + 1)) y) (M + 1 - v).toNat v b l = bst (tmH F a (F (28 + 5 * a + 1)) y) (M + 1).toNat 0 (-1) 101) → mW X cX7_bestOf 11 (some .int) yX7_bestOf.cls 6 G (qI (fun z m => z = bst (tmH F a (F (28 + 5 * a + 1)) y) (M + 1).toNat 0 (-1) 101 ∧ (-1 ≤ z ∧ z ≤ 11) ∧ ROW m 57 F ∧ DR μ m)) 26 [some (.ref 56), some (.int (iV a)), some (.int (iV f)), some (.int (iV M)), some (.int (iV (28 + 5 * a + f))), some (.int (iV (F (28 + 5 * a + f)))), some (.int (iV b)), some (.int (iV l)), some (.int (iV v)), q9, q10] [] m := by
    intro n_
    induction n_ with
    | zero =>
      intro q9 q10 b l v m h1 h2 h3 hl hb h5 h6 h7
      omega
    | succ n_ ih =>
      intro q9 q10 b l v m h1 h2 h3 hl hb h5 h6 h7
      refine mw_iload dX7_bestOf_26 rfl ?_
      refine mw_iload_n dX7_bestOf_28 rfl ?_
      refine mw_icmp_gt (tgt := 108) dX7_bestOf_29 (by decide) (by omega) (by omega) (fun c_29 => ?_) (fun c_29 => ?_)
      · refine mw_aload_n dX7_bestOf_108 rfl ?_
        refine mw_gr_7_0 dX7_bestOf_109 gs_X7_9 (by first | rfl | assumption) ?_
        refine mw_iload dX7_bestOf_112 rfl ?_
        refine mw_iload dX7_bestOf_114 rfl ?_
        refine mw_iast 68 dX7_bestOf_116 (by first | rfl | assumption) (by first | rfl | assumption) (by omega) ?_
        refine mw_iload dX7_bestOf_117 rfl ?_
        refine mw_iret dX7_bestOf_119 rfl ?_
        rw [show (M + 1 - v).toNat = 0 by omega, bst] at h7
        exact ⟨_, rfl, h7, hb, ROW.back h6, h5.tr DY.st.dr⟩
      · rw [show (M + 1 - v).toNat = (M + 1 - (v + 1)).toNat + 1 by omega, bst] at h7
        have hR2 := ROW.put (v := v) h6
        have hI2 : fInv (upF F (28 + 5 * a + f) v) := upF_inv hI h8 (by omega) (by omega) (by omega) (by omega) (by omega) (by omega)
        refine mw_aload_n dX7_bestOf_32 rfl ?_
        refine mw_gr_7_0 dX7_bestOf_33 gs_X7_9 (by first | rfl | assumption) ?_
        refine mw_iload dX7_bestOf_36 rfl ?_
        refine mw_iload dX7_bestOf_38 rfl ?_
        refine mw_iast 68 dX7_bestOf_40 (by first | rfl | assumption) (by first | rfl | assumption) (by omega) ?_
        refine mw_aload_n dX7_bestOf_41 rfl ?_
        refine mw_aload_n dX7_bestOf_42 rfl ?_
        refine mw_iload_n dX7_bestOf_43 rfl ?_
        refine mw_iconst dX7_bestOf_44 ?_
        refine mw_Vpi (ci := 7) dX7_bestOf_45 ml_X7_120 ok_X7_attacheIs (by decide) (by first | rfl | assumption) (by decide) rfl rfl rfl (Nat.le_of_ble_eq_true rfl) (c_M_attacheIs hR2 h8 (by omega)) ?_
        rw [upF_o (by omega)]
        refine mw_bipush dX7_bestOf_48 (by decide +kernel) ?_
        refine mw_Vi (ci := 7) dX7_bestOf_50 ml_X7_195 ok_X7_soonest (by decide) (by first | rfl | assumption) (by decide) rfl rfl rfl (Nat.le_of_ble_eq_true rfl) (c_M_soonest hR2 hI2 (by omega) (by omega) (by rw [upF_o (by omega)]; exact hd)) (fun z_50 m_50 h_50 => ?_)
        have r_50 := soI_r (soP (F (28 + 5 * a + 1))) (L := 100) (upF F (28 + 5 * a + f) v)
        rw [soP_h (by omega), show ((100 : Int) + 1).toNat = 101 from rfl] at r_50
        have e_50 := h_50.1
        rw [soP_h (by omega)] at e_50
        have fb := fst_bd (homeP (F (28 + 5 * a + 1))) 101 0 (upF F (28 + 5 * a + f) v)
        have et : tmH F a (F (28 + 5 * a + 1)) y v = fst (homeP (F (28 + 5 * a + 1))) 101 0 (upF F (28 + 5 * a + f) v) := by
          unfold tmH chF
          rcases hc with h | h
          · rw [if_pos h.2.2, h.1]
          · rw [if_neg (by omega), if_pos h.2.2, h.1]
        refine mw_is9 dX7_bestOf_53 (by decide) rfl ?_
        refine mw_iload dX7_bestOf_55 rfl ?_
        refine mw_if_lt (tgt := 71) dX7_bestOf_57 (by decide) (by omega) (fun c_57 => ?_) (fun c_57 => ?_)
        · refine mw_iconst dX7_bestOf_71 ?_
          refine mw_is10 dX7_bestOf_72 (by decide) rfl ?_
          refine mw_iload dX7_bestOf_74 rfl ?_
          refine mw_if_eq (tgt := 84) dX7_bestOf_76 (by decide) (by omega) (fun c_76 => ?_) (fun c_76 => ?_)
          · refine mw_iload dX7_bestOf_84 rfl ?_
            refine mw_is6 dX7_bestOf_86 (by decide) rfl ?_
            refine mw_iload dX7_bestOf_88 rfl ?_
            refine mw_if_eq (tgt := 98) dX7_bestOf_90 (by decide) (by omega) (fun c_90 => ?_) (fun c_90 => ?_)
            · refine mw_iload dX7_bestOf_98 rfl ?_
              refine mw_is7 dX7_bestOf_100 (by decide) rfl ?_
              refine mw_ii8 dX7_bestOf_102 (by decide) rfl ?_
              refine mw_goto (tgt := 26) dX7_bestOf_105 (by decide) ?_
              first
              | (exfalso; omega)
              | (rw [if_pos (by omega)] at h7
                 rw [show z_50 = tmH F a (F (28 + 5 * a + 1)) y v by omega]
                 exact ih _ _ _ _ _ _ (by omega) (by omega) (by omega) (by omega) (by omega) (h5.tr (DY.st.dr.tr h_50.2.2)) h_50.2.1.but h7)
              | (rw [if_neg (by omega)] at h7
                 exact ih _ _ _ _ _ _ (by omega) (by omega) (by omega) (by omega) (by omega) (h5.tr (DY.st.dr.tr h_50.2.2)) h_50.2.1.but h7)
            · refine mw_iload dX7_bestOf_93 rfl ?_
              refine mw_goto (tgt := 100) dX7_bestOf_95 (by decide) ?_
              refine mw_is7 dX7_bestOf_100 (by decide) rfl ?_
              refine mw_ii8 dX7_bestOf_102 (by decide) rfl ?_
              refine mw_goto (tgt := 26) dX7_bestOf_105 (by decide) ?_
              first
              | (exfalso; omega)
              | (rw [if_pos (by omega)] at h7
                 rw [show z_50 = tmH F a (F (28 + 5 * a + 1)) y v by omega]
                 exact ih _ _ _ _ _ _ (by omega) (by omega) (by omega) (by omega) (by omega) (h5.tr (DY.st.dr.tr h_50.2.2)) h_50.2.1.but h7)
              | (rw [if_neg (by omega)] at h7
                 exact ih _ _ _ _ _ _ (by omega) (by omega) (by omega) (by omega) (by omega) (h5.tr (DY.st.dr.tr h_50.2.2)) h_50.2.1.but h7)
          · refine mw_iload dX7_bestOf_79 rfl ?_
            refine mw_goto (tgt := 86) dX7_bestOf_81 (by decide) ?_
            refine mw_is6 dX7_bestOf_86 (by decide) rfl ?_
            refine mw_iload dX7_bestOf_88 rfl ?_
            refine mw_if_eq (tgt := 98) dX7_bestOf_90 (by decide) (by omega) (fun c_90 => ?_) (fun c_90 => ?_)
            · refine mw_iload dX7_bestOf_98 rfl ?_
              refine mw_is7 dX7_bestOf_100 (by decide) rfl ?_
              refine mw_ii8 dX7_bestOf_102 (by decide) rfl ?_
              refine mw_goto (tgt := 26) dX7_bestOf_105 (by decide) ?_
              first
              | (exfalso; omega)
              | (rw [if_pos (by omega)] at h7
                 rw [show z_50 = tmH F a (F (28 + 5 * a + 1)) y v by omega]
                 exact ih _ _ _ _ _ _ (by omega) (by omega) (by omega) (by omega) (by omega) (h5.tr (DY.st.dr.tr h_50.2.2)) h_50.2.1.but h7)
              | (rw [if_neg (by omega)] at h7
                 exact ih _ _ _ _ _ _ (by omega) (by omega) (by omega) (by omega) (by omega) (h5.tr (DY.st.dr.tr h_50.2.2)) h_50.2.1.but h7)
            · refine mw_iload dX7_bestOf_93 rfl ?_
              refine mw_goto (tgt := 100) dX7_bestOf_95 (by decide) ?_
              refine mw_is7 dX7_bestOf_100 (by decide) rfl ?_
              refine mw_ii8 dX7_bestOf_102 (by decide) rfl ?_
              refine mw_goto (tgt := 26) dX7_bestOf_105 (by decide) ?_
              first
              | (exfalso; omega)
              | (rw [if_pos (by omega)] at h7
                 rw [show z_50 = tmH F a (F (28 + 5 * a + 1)) y v by omega]
                 exact ih _ _ _ _ _ _ (by omega) (by omega) (by omega) (by omega) (by omega) (h5.tr (DY.st.dr.tr h_50.2.2)) h_50.2.1.but h7)
              | (rw [if_neg (by omega)] at h7
                 exact ih _ _ _ _ _ _ (by omega) (by omega) (by omega) (by omega) (by omega) (h5.tr (DY.st.dr.tr h_50.2.2)) h_50.2.1.but h7)
        · refine mw_iload dX7_bestOf_60 rfl ?_
          refine mw_iload dX7_bestOf_62 rfl ?_
          refine mw_icmp_ge (tgt := 71) dX7_bestOf_64 (by decide) (by omega) (by omega) (fun c_64 => ?_) (fun c_64 => ?_)
          · refine mw_iconst dX7_bestOf_71 ?_
            refine mw_is10 dX7_bestOf_72 (by decide) rfl ?_
            refine mw_iload dX7_bestOf_74 rfl ?_
            refine mw_if_eq (tgt := 84) dX7_bestOf_76 (by decide) (by omega) (fun c_76 => ?_) (fun c_76 => ?_)
            · refine mw_iload dX7_bestOf_84 rfl ?_
              refine mw_is6 dX7_bestOf_86 (by decide) rfl ?_
              refine mw_iload dX7_bestOf_88 rfl ?_
              refine mw_if_eq (tgt := 98) dX7_bestOf_90 (by decide) (by omega) (fun c_90 => ?_) (fun c_90 => ?_)
              · refine mw_iload dX7_bestOf_98 rfl ?_
                refine mw_is7 dX7_bestOf_100 (by decide) rfl ?_
                refine mw_ii8 dX7_bestOf_102 (by decide) rfl ?_
                refine mw_goto (tgt := 26) dX7_bestOf_105 (by decide) ?_
                first
                | (exfalso; omega)
                | (rw [if_pos (by omega)] at h7
                   rw [show z_50 = tmH F a (F (28 + 5 * a + 1)) y v by omega]
                   exact ih _ _ _ _ _ _ (by omega) (by omega) (by omega) (by omega) (by omega) (h5.tr (DY.st.dr.tr h_50.2.2)) h_50.2.1.but h7)
                | (rw [if_neg (by omega)] at h7
                   exact ih _ _ _ _ _ _ (by omega) (by omega) (by omega) (by omega) (by omega) (h5.tr (DY.st.dr.tr h_50.2.2)) h_50.2.1.but h7)
              · refine mw_iload dX7_bestOf_93 rfl ?_
                refine mw_goto (tgt := 100) dX7_bestOf_95 (by decide) ?_
                refine mw_is7 dX7_bestOf_100 (by decide) rfl ?_
                refine mw_ii8 dX7_bestOf_102 (by decide) rfl ?_
                refine mw_goto (tgt := 26) dX7_bestOf_105 (by decide) ?_
                first
                | (exfalso; omega)
                | (rw [if_pos (by omega)] at h7
                   rw [show z_50 = tmH F a (F (28 + 5 * a + 1)) y v by omega]
                   exact ih _ _ _ _ _ _ (by omega) (by omega) (by omega) (by omega) (by omega) (h5.tr (DY.st.dr.tr h_50.2.2)) h_50.2.1.but h7)
                | (rw [if_neg (by omega)] at h7
                   exact ih _ _ _ _ _ _ (by omega) (by omega) (by omega) (by omega) (by omega) (h5.tr (DY.st.dr.tr h_50.2.2)) h_50.2.1.but h7)
            · refine mw_iload dX7_bestOf_79 rfl ?_
              refine mw_goto (tgt := 86) dX7_bestOf_81 (by decide) ?_
              refine mw_is6 dX7_bestOf_86 (by decide) rfl ?_
              refine mw_iload dX7_bestOf_88 rfl ?_
              refine mw_if_eq (tgt := 98) dX7_bestOf_90 (by decide) (by omega) (fun c_90 => ?_) (fun c_90 => ?_)
              · refine mw_iload dX7_bestOf_98 rfl ?_
                refine mw_is7 dX7_bestOf_100 (by decide) rfl ?_
                refine mw_ii8 dX7_bestOf_102 (by decide) rfl ?_
                refine mw_goto (tgt := 26) dX7_bestOf_105 (by decide) ?_
                first
                | (exfalso; omega)
                | (rw [if_pos (by omega)] at h7
                   rw [show z_50 = tmH F a (F (28 + 5 * a + 1)) y v by omega]
                   exact ih _ _ _ _ _ _ (by omega) (by omega) (by omega) (by omega) (by omega) (h5.tr (DY.st.dr.tr h_50.2.2)) h_50.2.1.but h7)
                | (rw [if_neg (by omega)] at h7
                   exact ih _ _ _ _ _ _ (by omega) (by omega) (by omega) (by omega) (by omega) (h5.tr (DY.st.dr.tr h_50.2.2)) h_50.2.1.but h7)
              · refine mw_iload dX7_bestOf_93 rfl ?_
                refine mw_goto (tgt := 100) dX7_bestOf_95 (by decide) ?_
                refine mw_is7 dX7_bestOf_100 (by decide) rfl ?_
                refine mw_ii8 dX7_bestOf_102 (by decide) rfl ?_
                refine mw_goto (tgt := 26) dX7_bestOf_105 (by decide) ?_
                first
                | (exfalso; omega)
                | (rw [if_pos (by omega)] at h7
                   rw [show z_50 = tmH F a (F (28 + 5 * a + 1)) y v by omega]
                   exact ih _ _ _ _ _ _ (by omega) (by omega) (by omega) (by omega) (by omega) (h5.tr (DY.st.dr.tr h_50.2.2)) h_50.2.1.but h7)
                | (rw [if_neg (by omega)] at h7
                   exact ih _ _ _ _ _ _ (by omega) (by omega) (by omega) (by omega) (by omega) (h5.tr (DY.st.dr.tr h_50.2.2)) h_50.2.1.but h7)
          · refine mw_iconst dX7_bestOf_67 ?_
            refine mw_goto (tgt := 72) dX7_bestOf_68 (by decide) ?_
            refine mw_is10 dX7_bestOf_72 (by decide) rfl ?_
            refine mw_iload dX7_bestOf_74 rfl ?_
            refine mw_if_eq (tgt := 84) dX7_bestOf_76 (by decide) (by omega) (fun c_76 => ?_) (fun c_76 => ?_)
            · refine mw_iload dX7_bestOf_84 rfl ?_
              refine mw_is6 dX7_bestOf_86 (by decide) rfl ?_
              refine mw_iload dX7_bestOf_88 rfl ?_
              refine mw_if_eq (tgt := 98) dX7_bestOf_90 (by decide) (by omega) (fun c_90 => ?_) (fun c_90 => ?_)
              · refine mw_iload dX7_bestOf_98 rfl ?_
                refine mw_is7 dX7_bestOf_100 (by decide) rfl ?_
                refine mw_ii8 dX7_bestOf_102 (by decide) rfl ?_
                refine mw_goto (tgt := 26) dX7_bestOf_105 (by decide) ?_
                first
                | (exfalso; omega)
                | (rw [if_pos (by omega)] at h7
                   rw [show z_50 = tmH F a (F (28 + 5 * a + 1)) y v by omega]
                   exact ih _ _ _ _ _ _ (by omega) (by omega) (by omega) (by omega) (by omega) (h5.tr (DY.st.dr.tr h_50.2.2)) h_50.2.1.but h7)
                | (rw [if_neg (by omega)] at h7
                   exact ih _ _ _ _ _ _ (by omega) (by omega) (by omega) (by omega) (by omega) (h5.tr (DY.st.dr.tr h_50.2.2)) h_50.2.1.but h7)
              · refine mw_iload dX7_bestOf_93 rfl ?_
                refine mw_goto (tgt := 100) dX7_bestOf_95 (by decide) ?_
                refine mw_is7 dX7_bestOf_100 (by decide) rfl ?_
                refine mw_ii8 dX7_bestOf_102 (by decide) rfl ?_
                refine mw_goto (tgt := 26) dX7_bestOf_105 (by decide) ?_
                first
                | (exfalso; omega)
                | (rw [if_pos (by omega)] at h7
                   rw [show z_50 = tmH F a (F (28 + 5 * a + 1)) y v by omega]
                   exact ih _ _ _ _ _ _ (by omega) (by omega) (by omega) (by omega) (by omega) (h5.tr (DY.st.dr.tr h_50.2.2)) h_50.2.1.but h7)
                | (rw [if_neg (by omega)] at h7
                   exact ih _ _ _ _ _ _ (by omega) (by omega) (by omega) (by omega) (by omega) (h5.tr (DY.st.dr.tr h_50.2.2)) h_50.2.1.but h7)
            · refine mw_iload dX7_bestOf_79 rfl ?_
              refine mw_goto (tgt := 86) dX7_bestOf_81 (by decide) ?_
              refine mw_is6 dX7_bestOf_86 (by decide) rfl ?_
              refine mw_iload dX7_bestOf_88 rfl ?_
              refine mw_if_eq (tgt := 98) dX7_bestOf_90 (by decide) (by omega) (fun c_90 => ?_) (fun c_90 => ?_)
              · refine mw_iload dX7_bestOf_98 rfl ?_
                refine mw_is7 dX7_bestOf_100 (by decide) rfl ?_
                refine mw_ii8 dX7_bestOf_102 (by decide) rfl ?_
                refine mw_goto (tgt := 26) dX7_bestOf_105 (by decide) ?_
                first
                | (exfalso; omega)
                | (rw [if_pos (by omega)] at h7
                   rw [show z_50 = tmH F a (F (28 + 5 * a + 1)) y v by omega]
                   exact ih _ _ _ _ _ _ (by omega) (by omega) (by omega) (by omega) (by omega) (h5.tr (DY.st.dr.tr h_50.2.2)) h_50.2.1.but h7)
                | (rw [if_neg (by omega)] at h7
                   exact ih _ _ _ _ _ _ (by omega) (by omega) (by omega) (by omega) (by omega) (h5.tr (DY.st.dr.tr h_50.2.2)) h_50.2.1.but h7)
              · refine mw_iload dX7_bestOf_93 rfl ?_
                refine mw_goto (tgt := 100) dX7_bestOf_95 (by decide) ?_
                refine mw_is7 dX7_bestOf_100 (by decide) rfl ?_
                refine mw_ii8 dX7_bestOf_102 (by decide) rfl ?_
                refine mw_goto (tgt := 26) dX7_bestOf_105 (by decide) ?_
                first
                | (exfalso; omega)
                | (rw [if_pos (by omega)] at h7
                   rw [show z_50 = tmH F a (F (28 + 5 * a + 1)) y v by omega]
                   exact ih _ _ _ _ _ _ (by omega) (by omega) (by omega) (by omega) (by omega) (h5.tr (DY.st.dr.tr h_50.2.2)) h_50.2.1.but h7)
                | (rw [if_neg (by omega)] at h7
                   exact ih _ _ _ _ _ _ (by omega) (by omega) (by omega) (by omega) (by omega) (h5.tr (DY.st.dr.tr h_50.2.2)) h_50.2.1.but h7)
  refine mw_iload_n dX7_bestOf_0 rfl ?_
  refine mw_iload_n dX7_bestOf_1 rfl ?_
  refine mw_Spi dX7_bestOf_2 ml_X7_135 ok_X7_attacheAt (by decide) rfl rfl (Nat.le_of_ble_eq_true rfl) (c_M_attacheAt) ?_
  refine mw_is4 dX7_bestOf_5 (by decide) rfl ?_
  refine mw_aload_n dX7_bestOf_7 rfl ?_
  refine mw_gr_7_0 dX7_bestOf_8 gs_X7_9 (by first | rfl | assumption) ?_
  refine mw_iload dX7_bestOf_11 rfl ?_
  refine mw_iald 68 dX7_bestOf_13 (by first | rfl | assumption) (by first | rfl | assumption) (by omega) ?_
  rw [hR _ (by omega) (by omega)]
  refine mw_is5 dX7_bestOf_14 (by decide) rfl ?_
  refine mw_iconst dX7_bestOf_16 ?_
  refine mw_is6 dX7_bestOf_17 (by decide) rfl ?_
  refine mw_bipush dX7_bestOf_19 (by decide +kernel) ?_
  refine mw_is7 dX7_bestOf_21 (by decide) rfl ?_
  refine mw_iconst dX7_bestOf_23 ?_
  refine mw_is8 dX7_bestOf_24 (by decide) rfl ?_
  exact lp 14 _ _ _ _ _ _ (by omega) (by omega) (by omega) (by omega) (by omega) DR.rf (fun j q1 q2 _ => hR j q1 q2) (by rw [Int.sub_zero])
set_option maxHeartbeats 4000000 in
set_option maxRecDepth 100000 in
theorem c_M_key {G : mG} {μ : mMem} {st : aS} (hX : MR μ st) (hI : SI st) {a : Int} (ha_ : -2147483648 ≤ a ∧ a ≤ 2147483647) : mM G yX7_key cX7_key 2 (some .int) 7 [.ref 56, .int (iV a)] μ (qM μ (sp_key st a)) := by
  obtain ⟨hR, hK, hkp, htl, htb, hfd, hfs, hsh⟩ := id hX
  have hFI := hI.1
  have hn := hFI.2.1
  have h0 := hFI.1
  have h99 := hI.2.1
  refine mM.of (lv := [some (.ref 56), some (.int (iV a))]) 0 (by decide +kernel) (Nat.le_of_ble_eq_true rfl) rfl ?_
  intro X
  refine mw_aload_n dX7_key_0 rfl ?_
  refine mw_iload_n dX7_key_1 rfl ?_
  refine mw_Vpi (ci := 7) dX7_key_2 ml_X7_155 ok_X7_isAttache (by decide) (by first | rfl | assumption) (by decide) rfl rfl rfl (Nat.le_of_ble_eq_true rfl) (c_M_isAttache hR hFI (by omega)) ?_
  refine mw_if_eq (tgt := 23) dX7_key_5 (by decide) (wi_bd _ _ _) (fun c_5 => ?_) (fun c_5 => ?_)
  · have d_5 := wi_0 c_5
    refine mw_aload_n dX7_key_23 rfl ?_
    refine mw_ldc dX7_key_24 ct_X7_71 ?_
    refine mw_Vi (ci := 7) dX7_key_26 ml_X7_77 ok_X7_finding (by decide) (by first | rfl | assumption) (by decide) rfl rfl rfl (Nat.le_of_ble_eq_true rfl) (c_M_find hX hI 0 (by decide) (by decide)) (fun z_26 m_26 h_26 => ?_)
    refine mw_iret dX7_key_29 rfl ?_
    refine ⟨_, rfl, ?_⟩
    unfold sp_key
    rw [if_neg (by omega)]
    exact h_26
  · have d_5 := wi_1 c_5
    refine mw_aload_n dX7_key_8 rfl ?_
    refine mw_aload_n dX7_key_9 rfl ?_
    refine mw_iload_n dX7_key_10 rfl ?_
    refine mw_iconst dX7_key_11 ?_
    refine mw_bipush dX7_key_12 (by decide +kernel) ?_
    refine mw_Vi (ci := 7) dX7_key_14 ml_X7_201 ok_X7_bestOf (by decide) (by first | rfl | assumption) (by decide) rfl rfl rfl (Nat.le_of_ble_eq_true rfl) (c_M_bestOf (y := 0) hR hFI (by omega) (by omega) (by omega)) (fun z_14 m_14 h_14 => ?_)
    have hX2 := hX.same h_14.2.2.1 h_14.2.2.2
    have e_14 := h_14.1
    have b_14 := h_14.2.1
    refine mw_Vi (ci := 7) dX7_key_17 ml_X7_189 ok_X7_orNone (by decide) (by first | rfl | assumption) (by decide) rfl rfl rfl (Nat.le_of_ble_eq_true rfl) (c_M_orNone hX2 hI (by omega)) (fun z_17 m_17 h_17 => ?_)
    refine mw_goto (tgt := 29) dX7_key_20 (by decide) ?_
    refine mw_iret dX7_key_29 rfl ?_
    refine ⟨_, rfl, ?_⟩
    unfold sp_key
    rw [if_pos (by omega)]
    rw [e_14] at h_17
    exact ⟨h_17.1, h_17.2.1, h_14.2.2.2.mf.tr h_17.2.2⟩
set_option maxHeartbeats 4000000 in
set_option maxRecDepth 100000 in
theorem c_M_kind {G : mG} {μ : mMem} {st : aS} (hX : MR μ st) (hI : SI st) {a : Int} (ha_ : -2147483648 ≤ a ∧ a ≤ 2147483647) : mM G yX7_kind cX7_kind 2 (some .int) 7 [.ref 56, .int (iV a)] μ (qM μ (sp_kind st a)) := by
  obtain ⟨hR, hK, hkp, htl, htb, hfd, hfs, hsh⟩ := id hX
  have hFI := hI.1
  have hn := hFI.2.1
  have h0 := hFI.1
  have h99 := hI.2.1
  refine mM.of (lv := [some (.ref 56), some (.int (iV a))]) 0 (by decide +kernel) (Nat.le_of_ble_eq_true rfl) rfl ?_
  intro X
  refine mw_aload_n dX7_kind_0 rfl ?_
  refine mw_iload_n dX7_kind_1 rfl ?_
  refine mw_Vpi (ci := 7) dX7_kind_2 ml_X7_155 ok_X7_isAttache (by decide) (by first | rfl | assumption) (by decide) rfl rfl rfl (Nat.le_of_ble_eq_true rfl) (c_M_isAttache hR hFI (by omega)) ?_
  refine mw_if_eq (tgt := 22) dX7_kind_5 (by decide) (wi_bd _ _ _) (fun c_5 => ?_) (fun c_5 => ?_)
  · have d_5 := wi_0 c_5
    refine mw_aload_n dX7_kind_22 rfl ?_
    refine mw_ldc dX7_kind_23 ct_X7_71 ?_
    refine mw_Vi (ci := 7) dX7_kind_25 ml_X7_77 ok_X7_finding (by decide) (by first | rfl | assumption) (by decide) rfl rfl rfl (Nat.le_of_ble_eq_true rfl) (c_M_find hX hI 0 (by decide) (by decide)) (fun z_25 m_25 h_25 => ?_)
    refine mw_iret dX7_kind_28 rfl ?_
    refine ⟨_, rfl, ?_⟩
    unfold sp_kind
    rw [if_neg (by omega)]
    exact h_25
  · have d_5 := wi_1 c_5
    refine mw_aload_n dX7_kind_8 rfl ?_
    refine mw_aload_n dX7_kind_9 rfl ?_
    refine mw_iload_n dX7_kind_10 rfl ?_
    refine mw_iconst dX7_kind_11 ?_
    refine mw_iconst dX7_kind_12 ?_
    refine mw_Vi (ci := 7) dX7_kind_13 ml_X7_201 ok_X7_bestOf (by decide) (by first | rfl | assumption) (by decide) rfl rfl rfl (Nat.le_of_ble_eq_true rfl) (c_M_bestOf (y := 1) hR hFI (by omega) (by omega) (by omega)) (fun z_13 m_13 h_13 => ?_)
    have hX2 := hX.same h_13.2.2.1 h_13.2.2.2
    have e_13 := h_13.1
    have b_13 := h_13.2.1
    refine mw_Vi (ci := 7) dX7_kind_16 ml_X7_189 ok_X7_orNone (by decide) (by first | rfl | assumption) (by decide) rfl rfl rfl (Nat.le_of_ble_eq_true rfl) (c_M_orNone hX2 hI (by omega)) (fun z_16 m_16 h_16 => ?_)
    refine mw_goto (tgt := 28) dX7_kind_19 (by decide) ?_
    refine mw_iret dX7_kind_28 rfl ?_
    refine ⟨_, rfl, ?_⟩
    unfold sp_kind
    rw [if_pos (by omega)]
    rw [e_13] at h_16
    exact ⟨h_16.1, h_16.2.1, h_13.2.2.2.mf.tr h_16.2.2⟩
set_option maxHeartbeats 4000000 in
set_option maxRecDepth 100000 in
theorem c_M_blot {G : mG} {μ : mMem} {st : aS} (hX : MR μ st) (hI : SI st) {a s : Int} (ha_ : -2147483648 ≤ a ∧ a ≤ 2147483647) (hs_ : -2147483648 ≤ s ∧ s ≤ 2147483647) : mM G yX7_blot cX7_blot 10 (some .int) 6 [.ref 56, .int (iV a), .int (iV s)] μ (qM μ (sp_blot st a s)) := by
  obtain ⟨hR, hK, hkp, htl, htb, hfd, hfs, hsh⟩ := id hX
  have hFI := hI.1
  have hn := hFI.2.1
  have h0 := hFI.1
  have h99 := hI.2.1
  refine mM.of (lv := [some (.ref 56), some (.int (iV a)), some (.int (iV s)), none, none, none, none, none, none, none]) 7 (by decide +kernel) (Nat.le_of_ble_eq_true rfl) rfl ?_
  intro X
  have lp : ∀ (n_ : Nat) (q8 q9 : Option Value) (b l as v : Int) (m : mMem), (0 ≤ a ∧ a < st.1 0 1) → (0 ≤ s ∧ s ≤ 1) → (0 ≤ v) → (v ≤ 12) → (13 ≤ v + n_) → (0 ≤ l ∧ l ≤ 101) → (-1 ≤ b ∧ b ≤ 11) → (DR μ m) → (ROW m 57 (st.1 0)) → (bst (tmH (st.1 0) a s 2) (12 - v).toNat v b l = bst (tmH (st.1 0) a s 2) 12 0 (-1) (fst (homeP s) 101 0 (st.1 0))) → mW X cX7_blot 10 (some .int) yX7_blot.cls 6 G (qM μ (sp_blot st a s)) 57 [some (.ref 56), some (.int (iV a)), some (.int (iV s)), some (.int (iV (28 + 5 * a + 3))), some (.int (iV as)), some (.int (iV l)), some (.int (iV b)), some (.int (iV v)), q8, q9] [] m := by
    intro n_
    induction n_ with
    | zero =>
      intro q8 q9 b l as v m h8 hs h1 h2 h3 hl hb h5 h6 h7
      omega
    | succ n_ ih =>
      intro q8 q9 b l as v m h8 hs h1 h2 h3 hl hb h5 h6 h7
      refine mw_iload dX7_blot_57 rfl ?_
      refine mw_bipush dX7_blot_59 (by decide +kernel) ?_
      refine mw_icmp_ge (tgt := 152) dX7_blot_61 (by decide) (by omega) (by omega) (fun c_61 => ?_) (fun c_61 => ?_)
      · refine mw_aload_n dX7_blot_152 rfl ?_
        refine mw_iload dX7_blot_153 rfl ?_
        refine mw_Vi (ci := 7) dX7_blot_155 ml_X7_189 ok_X7_orNone (by decide) (by first | rfl | assumption) (by decide) rfl rfl rfl (Nat.le_of_ble_eq_true rfl) (c_M_orNone (hX.same h6 h5) hI (by omega)) (fun z_155 m_155 h_155 => ?_)
        refine mw_iret dX7_blot_158 rfl ?_
        refine ⟨_, rfl, ?_⟩
        rw [show (12 - v).toNat = 0 by omega, bst] at h7
        unfold sp_blot
        rw [if_pos (by omega), ← h7]
        exact ⟨h_155.1, h_155.2.1, h5.mf.tr h_155.2.2⟩
      · rw [show (12 - v).toNat = (12 - (v + 1)).toNat + 1 by omega, bst] at h7
        have hbl := (hFI.2.2.2.2 a (by omega) (by omega)).2.2.2.1
        have hxb := xor_bd (b := st.1 0 (28 + 5 * a + 3)) (v := v) (by omega) (by omega)
        have hR2 := h6.up (28 + 5 * a + 3) (bXor (st.1 0 (28 + 5 * a + 3)) (bShl 1 v))
        have hI2 : fInv (upF (st.1 0) (28 + 5 * a + 3) (bXor (st.1 0 (28 + 5 * a + 3)) (bShl 1 v))) := upF_inv hFI (by omega) (by omega) (by omega) (by omega) (by omega) (by omega) (by omega)
        refine mw_aload_n dX7_blot_64 rfl ?_
        refine mw_gr_7_0 dX7_blot_65 gs_X7_9 (by first | rfl | assumption) ?_
        refine mw_iload_n dX7_blot_68 rfl ?_
        refine mw_dup2 dX7_blot_69 rfl rfl ?_
        refine mw_iald 68 dX7_blot_70 (by first | rfl | assumption) (by first | rfl | assumption) (by omega) ?_
        rw [h6 _ (by omega) (by omega)]
        refine mw_iconst dX7_blot_71 ?_
        refine mw_iload dX7_blot_72 rfl ?_
        refine mw_ishl dX7_blot_74 ?_
        refine mw_ixor dX7_blot_75 ?_
        refine mw_iast 68 dX7_blot_76 (by first | rfl | assumption) (by first | rfl | assumption) (by omega) ?_
        refine mw_aload_n dX7_blot_77 rfl ?_
        refine mw_iload_n dX7_blot_78 rfl ?_
        refine mw_bipush dX7_blot_79 (by decide +kernel) ?_
        refine mw_Vi (ci := 7) dX7_blot_81 ml_X7_195 ok_X7_soonest (by decide) (by first | rfl | assumption) (by decide) rfl rfl rfl (Nat.le_of_ble_eq_true rfl) (c_M_soonest hR2 hI2 (by omega) (by omega) (by rw [upF_o (by omega)]; omega)) (fun z_81 m_81 h_81 => ?_)
        have r_81 := soI_r (soP s) (L := 100) (upF (st.1 0) (28 + 5 * a + 3) (bXor (st.1 0 (28 + 5 * a + 3)) (bShl 1 v)))
        rw [soP_h (by omega), show ((100 : Int) + 1).toNat = 101 from rfl] at r_81
        have e_81 := h_81.1
        rw [soP_h (by omega)] at e_81
        have fb := fst_bd (homeP s) 101 0 (upF (st.1 0) (28 + 5 * a + 3) (bXor (st.1 0 (28 + 5 * a + 3)) (bShl 1 v)))
        have et : tmH (st.1 0) a s 2 v = fst (homeP s) 101 0 (upF (st.1 0) (28 + 5 * a + 3) (bXor (st.1 0 (28 + 5 * a + 3)) (bShl 1 v))) := rfl
        refine mw_is8 dX7_blot_84 (by decide) rfl ?_
        refine mw_aload_n dX7_blot_86 rfl ?_
        refine mw_gr_7_0 dX7_blot_87 gs_X7_9 (by first | rfl | assumption) ?_
        refine mw_iload_n dX7_blot_90 rfl ?_
        refine mw_dup2 dX7_blot_91 rfl rfl ?_
        refine mw_iald 68 dX7_blot_92 (by first | rfl | assumption) (by first | rfl | assumption) (by omega) ?_
        rw [h_81.2.1 _ (by omega) (by omega), upF_s]
        refine mw_iconst dX7_blot_93 ?_
        refine mw_iload dX7_blot_94 rfl ?_
        refine mw_ishl dX7_blot_96 ?_
        refine mw_ixor dX7_blot_97 ?_
        rw [xor_back _ _ (by omega)]
        refine mw_iast 68 dX7_blot_98 (by first | rfl | assumption) (by first | rfl | assumption) (by omega) ?_
        refine mw_iload dX7_blot_99 rfl ?_
        refine mw_if_lt (tgt := 115) dX7_blot_101 (by decide) (by omega) (fun c_101 => ?_) (fun c_101 => ?_)
        · refine mw_iconst dX7_blot_115 ?_
          refine mw_is9 dX7_blot_116 (by decide) rfl ?_
          refine mw_iload dX7_blot_118 rfl ?_
          refine mw_if_eq (tgt := 128) dX7_blot_120 (by decide) (by omega) (fun c_120 => ?_) (fun c_120 => ?_)
          · refine mw_iload dX7_blot_128 rfl ?_
            refine mw_is6 dX7_blot_130 (by decide) rfl ?_
            refine mw_iload dX7_blot_132 rfl ?_
            refine mw_if_eq (tgt := 142) dX7_blot_134 (by decide) (by omega) (fun c_134 => ?_) (fun c_134 => ?_)
            · refine mw_iload dX7_blot_142 rfl ?_
              refine mw_is5 dX7_blot_144 (by decide) rfl ?_
              refine mw_ii7 dX7_blot_146 (by decide) rfl ?_
              refine mw_goto (tgt := 57) dX7_blot_149 (by decide) ?_
              first
              | (exfalso; omega)
              | (rw [if_pos (by omega)] at h7
                 rw [show z_81 = tmH (st.1 0) a s 2 v by omega]
                 exact ih _ _ _ _ _ _ _ h8 hs (by omega) (by omega) (by omega) (by omega) (by omega) (h5.tr (DY.st.dr.tr (h_81.2.2.tr DY.st.dr))) (ROW.back h_81.2.1.but) h7)
              | (rw [if_neg (by omega)] at h7
                 exact ih _ _ _ _ _ _ _ h8 hs (by omega) (by omega) (by omega) (by omega) (by omega) (h5.tr (DY.st.dr.tr (h_81.2.2.tr DY.st.dr))) (ROW.back h_81.2.1.but) h7)
            · refine mw_iload dX7_blot_137 rfl ?_
              refine mw_goto (tgt := 144) dX7_blot_139 (by decide) ?_
              refine mw_is5 dX7_blot_144 (by decide) rfl ?_
              refine mw_ii7 dX7_blot_146 (by decide) rfl ?_
              refine mw_goto (tgt := 57) dX7_blot_149 (by decide) ?_
              first
              | (exfalso; omega)
              | (rw [if_pos (by omega)] at h7
                 rw [show z_81 = tmH (st.1 0) a s 2 v by omega]
                 exact ih _ _ _ _ _ _ _ h8 hs (by omega) (by omega) (by omega) (by omega) (by omega) (h5.tr (DY.st.dr.tr (h_81.2.2.tr DY.st.dr))) (ROW.back h_81.2.1.but) h7)
              | (rw [if_neg (by omega)] at h7
                 exact ih _ _ _ _ _ _ _ h8 hs (by omega) (by omega) (by omega) (by omega) (by omega) (h5.tr (DY.st.dr.tr (h_81.2.2.tr DY.st.dr))) (ROW.back h_81.2.1.but) h7)
          · refine mw_iload dX7_blot_123 rfl ?_
            refine mw_goto (tgt := 130) dX7_blot_125 (by decide) ?_
            refine mw_is6 dX7_blot_130 (by decide) rfl ?_
            refine mw_iload dX7_blot_132 rfl ?_
            refine mw_if_eq (tgt := 142) dX7_blot_134 (by decide) (by omega) (fun c_134 => ?_) (fun c_134 => ?_)
            · refine mw_iload dX7_blot_142 rfl ?_
              refine mw_is5 dX7_blot_144 (by decide) rfl ?_
              refine mw_ii7 dX7_blot_146 (by decide) rfl ?_
              refine mw_goto (tgt := 57) dX7_blot_149 (by decide) ?_
              first
              | (exfalso; omega)
              | (rw [if_pos (by omega)] at h7
                 rw [show z_81 = tmH (st.1 0) a s 2 v by omega]
                 exact ih _ _ _ _ _ _ _ h8 hs (by omega) (by omega) (by omega) (by omega) (by omega) (h5.tr (DY.st.dr.tr (h_81.2.2.tr DY.st.dr))) (ROW.back h_81.2.1.but) h7)
              | (rw [if_neg (by omega)] at h7
                 exact ih _ _ _ _ _ _ _ h8 hs (by omega) (by omega) (by omega) (by omega) (by omega) (h5.tr (DY.st.dr.tr (h_81.2.2.tr DY.st.dr))) (ROW.back h_81.2.1.but) h7)
            · refine mw_iload dX7_blot_137 rfl ?_
              refine mw_goto (tgt := 144) dX7_blot_139 (by decide) ?_
              refine mw_is5 dX7_blot_144 (by decide) rfl ?_
              refine mw_ii7 dX7_blot_146 (by decide) rfl ?_
              refine mw_goto (tgt := 57) dX7_blot_149 (by decide) ?_
              first
              | (exfalso; omega)
              | (rw [if_pos (by omega)] at h7
                 rw [show z_81 = tmH (st.1 0) a s 2 v by omega]
                 exact ih _ _ _ _ _ _ _ h8 hs (by omega) (by omega) (by omega) (by omega) (by omega) (h5.tr (DY.st.dr.tr (h_81.2.2.tr DY.st.dr))) (ROW.back h_81.2.1.but) h7)
              | (rw [if_neg (by omega)] at h7
                 exact ih _ _ _ _ _ _ _ h8 hs (by omega) (by omega) (by omega) (by omega) (by omega) (h5.tr (DY.st.dr.tr (h_81.2.2.tr DY.st.dr))) (ROW.back h_81.2.1.but) h7)
        · refine mw_iload dX7_blot_104 rfl ?_
          refine mw_iload dX7_blot_106 rfl ?_
          refine mw_icmp_ge (tgt := 115) dX7_blot_108 (by decide) (by omega) (by omega) (fun c_108 => ?_) (fun c_108 => ?_)
          · refine mw_iconst dX7_blot_115 ?_
            refine mw_is9 dX7_blot_116 (by decide) rfl ?_
            refine mw_iload dX7_blot_118 rfl ?_
            refine mw_if_eq (tgt := 128) dX7_blot_120 (by decide) (by omega) (fun c_120 => ?_) (fun c_120 => ?_)
            · refine mw_iload dX7_blot_128 rfl ?_
              refine mw_is6 dX7_blot_130 (by decide) rfl ?_
              refine mw_iload dX7_blot_132 rfl ?_
              refine mw_if_eq (tgt := 142) dX7_blot_134 (by decide) (by omega) (fun c_134 => ?_) (fun c_134 => ?_)
              · refine mw_iload dX7_blot_142 rfl ?_
                refine mw_is5 dX7_blot_144 (by decide) rfl ?_
                refine mw_ii7 dX7_blot_146 (by decide) rfl ?_
                refine mw_goto (tgt := 57) dX7_blot_149 (by decide) ?_
                first
                | (exfalso; omega)
                | (rw [if_pos (by omega)] at h7
                   rw [show z_81 = tmH (st.1 0) a s 2 v by omega]
                   exact ih _ _ _ _ _ _ _ h8 hs (by omega) (by omega) (by omega) (by omega) (by omega) (h5.tr (DY.st.dr.tr (h_81.2.2.tr DY.st.dr))) (ROW.back h_81.2.1.but) h7)
                | (rw [if_neg (by omega)] at h7
                   exact ih _ _ _ _ _ _ _ h8 hs (by omega) (by omega) (by omega) (by omega) (by omega) (h5.tr (DY.st.dr.tr (h_81.2.2.tr DY.st.dr))) (ROW.back h_81.2.1.but) h7)
              · refine mw_iload dX7_blot_137 rfl ?_
                refine mw_goto (tgt := 144) dX7_blot_139 (by decide) ?_
                refine mw_is5 dX7_blot_144 (by decide) rfl ?_
                refine mw_ii7 dX7_blot_146 (by decide) rfl ?_
                refine mw_goto (tgt := 57) dX7_blot_149 (by decide) ?_
                first
                | (exfalso; omega)
                | (rw [if_pos (by omega)] at h7
                   rw [show z_81 = tmH (st.1 0) a s 2 v by omega]
                   exact ih _ _ _ _ _ _ _ h8 hs (by omega) (by omega) (by omega) (by omega) (by omega) (h5.tr (DY.st.dr.tr (h_81.2.2.tr DY.st.dr))) (ROW.back h_81.2.1.but) h7)
                | (rw [if_neg (by omega)] at h7
                   exact ih _ _ _ _ _ _ _ h8 hs (by omega) (by omega) (by omega) (by omega) (by omega) (h5.tr (DY.st.dr.tr (h_81.2.2.tr DY.st.dr))) (ROW.back h_81.2.1.but) h7)
            · refine mw_iload dX7_blot_123 rfl ?_
              refine mw_goto (tgt := 130) dX7_blot_125 (by decide) ?_
              refine mw_is6 dX7_blot_130 (by decide) rfl ?_
              refine mw_iload dX7_blot_132 rfl ?_
              refine mw_if_eq (tgt := 142) dX7_blot_134 (by decide) (by omega) (fun c_134 => ?_) (fun c_134 => ?_)
              · refine mw_iload dX7_blot_142 rfl ?_
                refine mw_is5 dX7_blot_144 (by decide) rfl ?_
                refine mw_ii7 dX7_blot_146 (by decide) rfl ?_
                refine mw_goto (tgt := 57) dX7_blot_149 (by decide) ?_
                first
                | (exfalso; omega)
                | (rw [if_pos (by omega)] at h7
                   rw [show z_81 = tmH (st.1 0) a s 2 v by omega]
                   exact ih _ _ _ _ _ _ _ h8 hs (by omega) (by omega) (by omega) (by omega) (by omega) (h5.tr (DY.st.dr.tr (h_81.2.2.tr DY.st.dr))) (ROW.back h_81.2.1.but) h7)
                | (rw [if_neg (by omega)] at h7
                   exact ih _ _ _ _ _ _ _ h8 hs (by omega) (by omega) (by omega) (by omega) (by omega) (h5.tr (DY.st.dr.tr (h_81.2.2.tr DY.st.dr))) (ROW.back h_81.2.1.but) h7)
              · refine mw_iload dX7_blot_137 rfl ?_
                refine mw_goto (tgt := 144) dX7_blot_139 (by decide) ?_
                refine mw_is5 dX7_blot_144 (by decide) rfl ?_
                refine mw_ii7 dX7_blot_146 (by decide) rfl ?_
                refine mw_goto (tgt := 57) dX7_blot_149 (by decide) ?_
                first
                | (exfalso; omega)
                | (rw [if_pos (by omega)] at h7
                   rw [show z_81 = tmH (st.1 0) a s 2 v by omega]
                   exact ih _ _ _ _ _ _ _ h8 hs (by omega) (by omega) (by omega) (by omega) (by omega) (h5.tr (DY.st.dr.tr (h_81.2.2.tr DY.st.dr))) (ROW.back h_81.2.1.but) h7)
                | (rw [if_neg (by omega)] at h7
                   exact ih _ _ _ _ _ _ _ h8 hs (by omega) (by omega) (by omega) (by omega) (by omega) (h5.tr (DY.st.dr.tr (h_81.2.2.tr DY.st.dr))) (ROW.back h_81.2.1.but) h7)
          · refine mw_iconst dX7_blot_111 ?_
            refine mw_goto (tgt := 116) dX7_blot_112 (by decide) ?_
            refine mw_is9 dX7_blot_116 (by decide) rfl ?_
            refine mw_iload dX7_blot_118 rfl ?_
            refine mw_if_eq (tgt := 128) dX7_blot_120 (by decide) (by omega) (fun c_120 => ?_) (fun c_120 => ?_)
            · refine mw_iload dX7_blot_128 rfl ?_
              refine mw_is6 dX7_blot_130 (by decide) rfl ?_
              refine mw_iload dX7_blot_132 rfl ?_
              refine mw_if_eq (tgt := 142) dX7_blot_134 (by decide) (by omega) (fun c_134 => ?_) (fun c_134 => ?_)
              · refine mw_iload dX7_blot_142 rfl ?_
                refine mw_is5 dX7_blot_144 (by decide) rfl ?_
                refine mw_ii7 dX7_blot_146 (by decide) rfl ?_
                refine mw_goto (tgt := 57) dX7_blot_149 (by decide) ?_
                first
                | (exfalso; omega)
                | (rw [if_pos (by omega)] at h7
                   rw [show z_81 = tmH (st.1 0) a s 2 v by omega]
                   exact ih _ _ _ _ _ _ _ h8 hs (by omega) (by omega) (by omega) (by omega) (by omega) (h5.tr (DY.st.dr.tr (h_81.2.2.tr DY.st.dr))) (ROW.back h_81.2.1.but) h7)
                | (rw [if_neg (by omega)] at h7
                   exact ih _ _ _ _ _ _ _ h8 hs (by omega) (by omega) (by omega) (by omega) (by omega) (h5.tr (DY.st.dr.tr (h_81.2.2.tr DY.st.dr))) (ROW.back h_81.2.1.but) h7)
              · refine mw_iload dX7_blot_137 rfl ?_
                refine mw_goto (tgt := 144) dX7_blot_139 (by decide) ?_
                refine mw_is5 dX7_blot_144 (by decide) rfl ?_
                refine mw_ii7 dX7_blot_146 (by decide) rfl ?_
                refine mw_goto (tgt := 57) dX7_blot_149 (by decide) ?_
                first
                | (exfalso; omega)
                | (rw [if_pos (by omega)] at h7
                   rw [show z_81 = tmH (st.1 0) a s 2 v by omega]
                   exact ih _ _ _ _ _ _ _ h8 hs (by omega) (by omega) (by omega) (by omega) (by omega) (h5.tr (DY.st.dr.tr (h_81.2.2.tr DY.st.dr))) (ROW.back h_81.2.1.but) h7)
                | (rw [if_neg (by omega)] at h7
                   exact ih _ _ _ _ _ _ _ h8 hs (by omega) (by omega) (by omega) (by omega) (by omega) (h5.tr (DY.st.dr.tr (h_81.2.2.tr DY.st.dr))) (ROW.back h_81.2.1.but) h7)
            · refine mw_iload dX7_blot_123 rfl ?_
              refine mw_goto (tgt := 130) dX7_blot_125 (by decide) ?_
              refine mw_is6 dX7_blot_130 (by decide) rfl ?_
              refine mw_iload dX7_blot_132 rfl ?_
              refine mw_if_eq (tgt := 142) dX7_blot_134 (by decide) (by omega) (fun c_134 => ?_) (fun c_134 => ?_)
              · refine mw_iload dX7_blot_142 rfl ?_
                refine mw_is5 dX7_blot_144 (by decide) rfl ?_
                refine mw_ii7 dX7_blot_146 (by decide) rfl ?_
                refine mw_goto (tgt := 57) dX7_blot_149 (by decide) ?_
                first
                | (exfalso; omega)
                | (rw [if_pos (by omega)] at h7
                   rw [show z_81 = tmH (st.1 0) a s 2 v by omega]
                   exact ih _ _ _ _ _ _ _ h8 hs (by omega) (by omega) (by omega) (by omega) (by omega) (h5.tr (DY.st.dr.tr (h_81.2.2.tr DY.st.dr))) (ROW.back h_81.2.1.but) h7)
                | (rw [if_neg (by omega)] at h7
                   exact ih _ _ _ _ _ _ _ h8 hs (by omega) (by omega) (by omega) (by omega) (by omega) (h5.tr (DY.st.dr.tr (h_81.2.2.tr DY.st.dr))) (ROW.back h_81.2.1.but) h7)
              · refine mw_iload dX7_blot_137 rfl ?_
                refine mw_goto (tgt := 144) dX7_blot_139 (by decide) ?_
                refine mw_is5 dX7_blot_144 (by decide) rfl ?_
                refine mw_ii7 dX7_blot_146 (by decide) rfl ?_
                refine mw_goto (tgt := 57) dX7_blot_149 (by decide) ?_
                first
                | (exfalso; omega)
                | (rw [if_pos (by omega)] at h7
                   rw [show z_81 = tmH (st.1 0) a s 2 v by omega]
                   exact ih _ _ _ _ _ _ _ h8 hs (by omega) (by omega) (by omega) (by omega) (by omega) (h5.tr (DY.st.dr.tr (h_81.2.2.tr DY.st.dr))) (ROW.back h_81.2.1.but) h7)
                | (rw [if_neg (by omega)] at h7
                   exact ih _ _ _ _ _ _ _ h8 hs (by omega) (by omega) (by omega) (by omega) (by omega) (h5.tr (DY.st.dr.tr (h_81.2.2.tr DY.st.dr))) (ROW.back h_81.2.1.but) h7)
  refine mw_aload_n dX7_blot_0 rfl ?_
  refine mw_iload_n dX7_blot_1 rfl ?_
  refine mw_Vpi (ci := 7) dX7_blot_2 ml_X7_155 ok_X7_isAttache (by decide) (by first | rfl | assumption) (by decide) rfl rfl rfl (Nat.le_of_ble_eq_true rfl) (c_M_isAttache hR hFI (by omega)) ?_
  refine mw_if_eq (tgt := 15) dX7_blot_5 (by decide) (wi_bd _ _ _) (fun c_5 => ?_) (fun c_5 => ?_)
  · have d_5 := wi_0 c_5
    refine mw_aload_n dX7_blot_15 rfl ?_
    refine mw_ldc dX7_blot_16 ct_X7_71 ?_
    refine mw_Vi (ci := 7) dX7_blot_18 ml_X7_77 ok_X7_finding (by decide) (by first | rfl | assumption) (by decide) rfl rfl rfl (Nat.le_of_ble_eq_true rfl) (c_M_find hX hI 0 (by decide) (by decide)) (fun z_18 m_18 h_18 => ?_)
    refine mw_iret dX7_blot_21 rfl ?_
    refine ⟨_, rfl, ?_⟩
    unfold sp_blot
    rw [if_neg (by omega)]
    exact h_18
  · have d_5 := wi_1 c_5
    refine mw_iload_n dX7_blot_8 rfl ?_
    refine mw_Spi dX7_blot_9 ml_X7_91 ok_X7_isSide (by decide) rfl rfl (Nat.le_of_ble_eq_true rfl) (c_M_isSide (by omega)) ?_
    refine mw_if_ne (tgt := 22) dX7_blot_12 (by decide) (wi_bd _ _ _) (fun c_12 => ?_) (fun c_12 => ?_)
    · have d_12 := wi_1 c_12
      refine mw_iload_n dX7_blot_22 rfl ?_
      refine mw_iconst dX7_blot_23 ?_
      refine mw_Spi dX7_blot_24 ml_X7_135 ok_X7_attacheAt (by decide) rfl rfl (Nat.le_of_ble_eq_true rfl) (c_M_attacheAt) ?_
      refine mw_is3 dX7_blot_27 (by decide) rfl ?_
      refine mw_aload_n dX7_blot_28 rfl ?_
      refine mw_iload_n dX7_blot_29 rfl ?_
      refine mw_bipush dX7_blot_30 (by decide +kernel) ?_
      refine mw_Vi (ci := 7) dX7_blot_32 ml_X7_195 ok_X7_soonest (by decide) (by first | rfl | assumption) (by decide) rfl rfl rfl (Nat.le_of_ble_eq_true rfl) (c_M_soonest hR hFI (by omega) (by omega) (by omega)) (fun z_32 m_32 h_32 => ?_)
      have r_32 := soI_r (soP s) (L := 100) (st.1 0)
      rw [soP_h (by omega), show ((100 : Int) + 1).toNat = 101 from rfl] at r_32
      have e_32 := h_32.1
      rw [soP_h (by omega)] at e_32
      have fb := fst_bd (homeP s) 101 0 (st.1 0)
      refine mw_is4 dX7_blot_35 (by decide) rfl ?_
      refine mw_iload dX7_blot_37 rfl ?_
      refine mw_if_ge (tgt := 47) dX7_blot_39 (by decide) (by omega) (fun c_39 => ?_) (fun c_39 => ?_)
      · refine mw_iload dX7_blot_47 rfl ?_
        refine mw_is5 dX7_blot_49 (by decide) rfl ?_
        refine mw_iconst dX7_blot_51 ?_
        refine mw_is6 dX7_blot_52 (by decide) rfl ?_
        refine mw_iconst dX7_blot_54 ?_
        refine mw_is7 dX7_blot_55 (by decide) rfl ?_
        rw [show z_32 = fst (homeP s) 101 0 (st.1 0) by omega]
        exact lp 13 _ _ _ _ _ _ _ (by omega) (by omega) (by omega) (by omega) (by omega) (by omega) (by omega) h_32.2.2 h_32.2.1 rfl
      · refine mw_bipush dX7_blot_42 (by decide +kernel) ?_
        refine mw_goto (tgt := 49) dX7_blot_44 (by decide) ?_
        refine mw_is5 dX7_blot_49 (by decide) rfl ?_
        refine mw_iconst dX7_blot_51 ?_
        refine mw_is6 dX7_blot_52 (by decide) rfl ?_
        refine mw_iconst dX7_blot_54 ?_
        refine mw_is7 dX7_blot_55 (by decide) rfl ?_
        have e101 : (101 : Int) = fst (homeP s) 101 0 (st.1 0) := by omega
        exact lp 13 _ _ _ _ _ _ _ (by omega) (by omega) (by omega) (by omega) (by omega) (by omega) (by omega) h_32.2.2 h_32.2.1 (by rw [← e101]; rfl)
    · have d_12 := wi_0 c_12
      refine mw_aload_n dX7_blot_15 rfl ?_
      refine mw_ldc dX7_blot_16 ct_X7_71 ?_
      refine mw_Vi (ci := 7) dX7_blot_18 ml_X7_77 ok_X7_finding (by decide) (by first | rfl | assumption) (by decide) rfl rfl rfl (Nat.le_of_ble_eq_true rfl) (c_M_find hX hI 0 (by decide) (by decide)) (fun z_18 m_18 h_18 => ?_)
      refine mw_iret dX7_blot_21 rfl ?_
      refine ⟨_, rfl, ?_⟩
      unfold sp_blot
      rw [if_neg (by omega)]
      exact h_18
set_option maxHeartbeats 4000000 in
set_option maxRecDepth 100000 in
theorem c_M_calm {G : mG} {μ : mMem} {st : aS} (hX : MR μ st) (hI : SI st) {a s n : Int} (ha_ : -2147483648 ≤ a ∧ a ≤ 2147483647) (hs_ : -2147483648 ≤ s ∧ s ≤ 2147483647) (hn_ : -2147483648 ≤ n ∧ n ≤ 2147483647) : mM G yX7_calm cX7_calm 10 (some .int) 7 [.ref 56, .int (iV a), .int (iV s), .int (iV n)] μ (qM μ (sp_calm st a s n)) := by
  obtain ⟨hR, hK, hkp, htl, htb, hfd, hfs, hsh⟩ := id hX
  have hFI := hI.1
  have hn := hFI.2.1
  have h0 := hFI.1
  have h99 := hI.2.1
  refine mM.of (lv := [some (.ref 56), some (.int (iV a)), some (.int (iV s)), some (.int (iV n)), none, none, none, none, none, none]) 6 (by decide +kernel) (Nat.le_of_ble_eq_true rfl) rfl ?_
  intro X
  have lp : ∀ (n_ : Nat) (q9 : Option Value) (b l v : Int) (m : mMem), (0 ≤ a ∧ a < st.1 0 1) → (0 ≤ s ∧ s ≤ 1) → (0 ≤ n ∧ n ≤ 20) → (0 ≤ v) → (v ≤ 12) → (13 ≤ v + n_) → (0 ≤ l ∧ l ≤ 12) → (DR μ m) → (∀ j : Int, 0 ≤ j → j < 68 → j ≠ 28 + 5 * a + 2 → m.1 57 j = st.1 0 j) → (clm (tmC (st.1 0) a s n) (12 - v).toNat v b l = clm (tmC (st.1 0) a s n) 12 0 0 12) → mW X cX7_calm 10 (some .int) yX7_calm.cls 7 G (qM μ (sp_calm st a s n)) 58 [some (.ref 56), some (.int (iV a)), some (.int (iV s)), some (.int (iV n)), some (.int (iV (28 + 5 * a + 2))), some (.int (iV (st.1 0 (28 + 5 * a + 2)))), some (.int (iV b)), some (.int (iV l)), some (.int (iV v)), q9] [] m := by
    intro n_
    induction n_ with
    | zero =>
      intro q9 b l v m h8 hs hN h1 h2 h3 hl h5 h6 h7
      omega
    | succ n_ ih =>
      intro q9 b l v m h8 hs hN h1 h2 h3 hl h5 h6 h7
      refine mw_iload dX7_calm_58 rfl ?_
      refine mw_bipush dX7_calm_60 (by decide +kernel) ?_
      refine mw_icmp_ge (tgt := 113) dX7_calm_62 (by decide) (by omega) (by omega) (fun c_62 => ?_) (fun c_62 => ?_)
      · refine mw_aload_n dX7_calm_113 rfl ?_
        refine mw_gr_7_0 dX7_calm_114 gs_X7_9 (by first | rfl | assumption) ?_
        refine mw_iload dX7_calm_117 rfl ?_
        refine mw_iload dX7_calm_119 rfl ?_
        refine mw_iast 68 dX7_calm_121 (by first | rfl | assumption) (by first | rfl | assumption) (by omega) ?_
        refine mw_bipush dX7_calm_122 (by decide +kernel) ?_
        refine mw_iload dX7_calm_124 rfl ?_
        refine mw_imul dX7_calm_126 ?_
        refine mw_iload dX7_calm_127 rfl ?_
        refine mw_iadd dX7_calm_129 ?_
        refine mw_iret dX7_calm_130 rfl ?_
        rw [show (12 - v).toNat = 0 by omega, clm] at h7
        refine ⟨_, rfl, ?_⟩
        unfold sp_calm
        rw [if_pos (by omega)]
        exact ⟨h7, hX.same (ROW.back h6) (h5.tr DY.st.dr), (h5.tr DY.st.dr).mf⟩
      · rw [show (12 - v).toNat = (12 - (v + 1)).toNat + 1 by omega, clm] at h7
        have hR2 := ROW.put (v := v) h6
        have hI2 : fInv (upF (st.1 0) (28 + 5 * a + 2) v) := upF_inv hFI (by omega) (by omega) (by omega) (by omega) (by omega) (by omega) (by omega)
        refine mw_aload_n dX7_calm_65 rfl ?_
        refine mw_gr_7_0 dX7_calm_66 gs_X7_9 (by first | rfl | assumption) ?_
        refine mw_iload dX7_calm_69 rfl ?_
        refine mw_iload dX7_calm_71 rfl ?_
        refine mw_iast 68 dX7_calm_73 (by first | rfl | assumption) (by first | rfl | assumption) (by omega) ?_
        refine mw_aload_n dX7_calm_74 rfl ?_
        refine mw_iload_n dX7_calm_75 rfl ?_
        refine mw_iload_n dX7_calm_76 rfl ?_
        refine mw_Vi (ci := 7) dX7_calm_77 ml_X7_192 ok_X7_tensionOn (by decide) (by first | rfl | assumption) (by decide) rfl rfl rfl (Nat.le_of_ble_eq_true rfl) (c_M_tensionOn hR2 hI2 hs (by omega) (by rw [upF_o (by omega)]; omega)) (fun z_77 m_77 h_77 => ?_)
        have e_77 := h_77.1
        rw [show TN (daysF n.toNat (upF (st.1 0) (28 + 5 * a + 2) v)) s = tmC (st.1 0) a s n v from rfl] at e_77
        have tb_ := tn_len (days_inv hI2 n.toNat) s hs
        rw [show TN (daysF n.toNat (upF (st.1 0) (28 + 5 * a + 2) v)) s = tmC (st.1 0) a s n v from rfl] at tb_
        refine mw_is9 dX7_calm_80 (by decide) rfl ?_
        refine mw_iload dX7_calm_82 rfl ?_
        refine mw_iload dX7_calm_84 rfl ?_
        refine mw_icmp_ge (tgt := 94) dX7_calm_86 (by decide) (by omega) (by omega) (fun c_86 => ?_) (fun c_86 => ?_)
        · refine mw_iload dX7_calm_94 rfl ?_
          refine mw_is6 dX7_calm_96 (by decide) rfl ?_
          refine mw_iload dX7_calm_98 rfl ?_
          refine mw_iload dX7_calm_100 rfl ?_
          refine mw_Spi dX7_calm_102 ml_X7_110 ok_J9_min_7cf53 (by decide) rfl rfl (Nat.le_of_ble_eq_true rfl) (c_min (by omega) (by omega)) ?_
          refine mw_is7 dX7_calm_105 (by decide) rfl ?_
          refine mw_ii8 dX7_calm_107 (by decide) rfl ?_
          refine mw_goto (tgt := 58) dX7_calm_110 (by decide) ?_
          rw [if_neg (by omega)] at h7
          rw [show min l z_77 = l by omega]
          exact ih _ _ _ _ _ h8 hs hN (by omega) (by omega) (by omega) (by omega) (h5.tr (DY.st.dr.tr h_77.2.2)) h_77.2.1.but h7
        · refine mw_iload dX7_calm_89 rfl ?_
          refine mw_goto (tgt := 96) dX7_calm_91 (by decide) ?_
          refine mw_is6 dX7_calm_96 (by decide) rfl ?_
          refine mw_iload dX7_calm_98 rfl ?_
          refine mw_iload dX7_calm_100 rfl ?_
          refine mw_Spi dX7_calm_102 ml_X7_110 ok_J9_min_7cf53 (by decide) rfl rfl (Nat.le_of_ble_eq_true rfl) (c_min (by omega) (by omega)) ?_
          refine mw_is7 dX7_calm_105 (by decide) rfl ?_
          refine mw_ii8 dX7_calm_107 (by decide) rfl ?_
          refine mw_goto (tgt := 58) dX7_calm_110 (by decide) ?_
          rw [if_pos (by omega)] at h7
          rw [show min l z_77 = tmC (st.1 0) a s n v by omega]
          exact ih _ _ _ _ _ h8 hs hN (by omega) (by omega) (by omega) (by omega) (h5.tr (DY.st.dr.tr h_77.2.2)) h_77.2.1.but h7
  refine mw_aload_n dX7_calm_0 rfl ?_
  refine mw_iload_n dX7_calm_1 rfl ?_
  refine mw_Vpi (ci := 7) dX7_calm_2 ml_X7_155 ok_X7_isAttache (by decide) (by first | rfl | assumption) (by decide) rfl rfl rfl (Nat.le_of_ble_eq_true rfl) (c_M_isAttache hR hFI (by omega)) ?_
  refine mw_if_eq (tgt := 25) dX7_calm_5 (by decide) (wi_bd _ _ _) (fun c_5 => ?_) (fun c_5 => ?_)
  · have d_5 := wi_0 c_5
    refine mw_aload_n dX7_calm_25 rfl ?_
    refine mw_ldc dX7_calm_26 ct_X7_71 ?_
    refine mw_Vi (ci := 7) dX7_calm_28 ml_X7_77 ok_X7_finding (by decide) (by first | rfl | assumption) (by decide) rfl rfl rfl (Nat.le_of_ble_eq_true rfl) (c_M_find hX hI 0 (by decide) (by decide)) (fun z_28 m_28 h_28 => ?_)
    refine mw_iret dX7_calm_31 rfl ?_
    refine ⟨_, rfl, ?_⟩
    unfold sp_calm
    rw [if_neg (by omega)]
    exact h_28
  · have d_5 := wi_1 c_5
    refine mw_iload_n dX7_calm_8 rfl ?_
    refine mw_Spi dX7_calm_9 ml_X7_91 ok_X7_isSide (by decide) rfl rfl (Nat.le_of_ble_eq_true rfl) (c_M_isSide (by omega)) ?_
    refine mw_if_eq (tgt := 25) dX7_calm_12 (by decide) (wi_bd _ _ _) (fun c_12 => ?_) (fun c_12 => ?_)
    · have d_12 := wi_0 c_12
      refine mw_aload_n dX7_calm_25 rfl ?_
      refine mw_ldc dX7_calm_26 ct_X7_71 ?_
      refine mw_Vi (ci := 7) dX7_calm_28 ml_X7_77 ok_X7_finding (by decide) (by first | rfl | assumption) (by decide) rfl rfl rfl (Nat.le_of_ble_eq_true rfl) (c_M_find hX hI 0 (by decide) (by decide)) (fun z_28 m_28 h_28 => ?_)
      refine mw_iret dX7_calm_31 rfl ?_
      refine ⟨_, rfl, ?_⟩
      unfold sp_calm
      rw [if_neg (by omega)]
      exact h_28
    · have d_12 := wi_1 c_12
      refine mw_iload_n dX7_calm_15 rfl ?_
      refine mw_iconst dX7_calm_16 ?_
      refine mw_bipush dX7_calm_17 (by decide +kernel) ?_
      refine mw_Spi dX7_calm_19 ml_X7_81 ok_X7_within (by decide) rfl rfl (Nat.le_of_ble_eq_true rfl) (c_M_within (by omega) (by omega) (by omega)) ?_
      refine mw_if_ne (tgt := 32) dX7_calm_22 (by decide) (wi_bd _ _ _) (fun c_22 => ?_) (fun c_22 => ?_)
      · have d_22 := wi_1 c_22
        refine mw_iload_n dX7_calm_32 rfl ?_
        refine mw_iconst dX7_calm_33 ?_
        refine mw_Spi dX7_calm_34 ml_X7_135 ok_X7_attacheAt (by decide) rfl rfl (Nat.le_of_ble_eq_true rfl) (c_M_attacheAt) ?_
        refine mw_is4 dX7_calm_37 (by decide) rfl ?_
        refine mw_aload_n dX7_calm_39 rfl ?_
        refine mw_gr_7_0 dX7_calm_40 gs_X7_9 (by first | rfl | assumption) ?_
        refine mw_iload dX7_calm_43 rfl ?_
        refine mw_iald 68 dX7_calm_45 (by first | rfl | assumption) (by first | rfl | assumption) (by omega) ?_
        rw [hR _ (by omega) (by omega)]
        refine mw_is5 dX7_calm_46 (by decide) rfl ?_
        refine mw_iconst dX7_calm_48 ?_
        refine mw_is6 dX7_calm_49 (by decide) rfl ?_
        refine mw_bipush dX7_calm_51 (by decide +kernel) ?_
        refine mw_is7 dX7_calm_53 (by decide) rfl ?_
        refine mw_iconst dX7_calm_55 ?_
        refine mw_is8 dX7_calm_56 (by decide) rfl ?_
        exact lp 13 _ _ _ _ _ (by omega) (by omega) (by omega) (by omega) (by omega) (by omega) (by omega) DR.rf (fun j q1 q2 _ => hR j q1 q2) rfl
      · have d_22 := wi_0 c_22
        refine mw_aload_n dX7_calm_25 rfl ?_
        refine mw_ldc dX7_calm_26 ct_X7_71 ?_
        refine mw_Vi (ci := 7) dX7_calm_28 ml_X7_77 ok_X7_finding (by decide) (by first | rfl | assumption) (by decide) rfl rfl rfl (Nat.le_of_ble_eq_true rfl) (c_M_find hX hI 0 (by decide) (by decide)) (fun z_28 m_28 h_28 => ?_)
        refine mw_iret dX7_calm_31 rfl ?_
        refine ⟨_, rfl, ?_⟩
        unfold sp_calm
        rw [if_neg (by omega)]
        exact h_28
set_option maxHeartbeats 4000000 in
set_option maxRecDepth 100000 in
theorem c_M_isHomeOn {G : mG} {μ : mMem} {F : Int → Int} (hR : ROW μ 57 F) (hI : fInv F) {s n : Int} (hs : 0 ≤ s ∧ s ≤ 1) (hN : 0 ≤ n ∧ n ≤ 60) (hd : F 0 ≤ 20000) : mM G yX7_isHomeOn cX7_isHomeOn 4 (some .boolean) 6 [.ref 56, .int (iV s), .int (iV n)] μ (qI (fun z m => z = homeP s (daysF n.toNat F) ∧ ROW m 57 F ∧ DR μ m)) := by
  refine mM.of (lv := [some (.ref 56), some (.int (iV s)), some (.int (iV n)), none]) 1 (by decide +kernel) (Nat.le_of_ble_eq_true rfl) rfl ?_
  intro X
  refine mw_aload_n dX7_isHomeOn_0 rfl ?_
  refine mw_gr_7_0 dX7_isHomeOn_1 gs_X7_9 (by first | rfl | assumption) ?_
  refine mw_aload_n dX7_isHomeOn_4 rfl ?_
  refine mw_gr_7_2 dX7_isHomeOn_5 gs_X7_16 (by first | rfl | assumption) ?_
  refine mw_Sv dX7_isHomeOn_8 ml_X7_72 ok_X7_copyRow (by decide) rfl rfl (Nat.le_of_ble_eq_true rfl) (c_M_copyRow rfl rfl rfl rfl (by decide)) (fun m_8 h_8 => ?_)
  obtain ⟨a1, a2, a3⟩ := cp_to hR h_8
  refine mw_aload_n dX7_isHomeOn_11 rfl ?_
  refine mw_iload_n dX7_isHomeOn_12 rfl ?_
  refine mw_Vv (ci := 7) dX7_isHomeOn_13 ml_X7_176 ok_X7_daysGo (by decide) (by first | rfl | assumption) (by decide) rfl rfl rfl (Nat.le_of_ble_eq_true rfl) (c_M_daysGo a1 hI (by omega) (by omega)) (fun m_13 h_13 => ?_)
  have a4 := cp_a a2 h_13.2
  have a5 := a3.tr h_13.2.dr
  have hdi := days_inv hI n.toNat
  refine mw_aload_n dX7_isHomeOn_16 rfl ?_
  refine mw_iload_n dX7_isHomeOn_17 rfl ?_
  refine mw_Vpi (ci := 7) dX7_isHomeOn_18 ml_X7_126 ok_X7_isHome (by decide) (by first | rfl | assumption) (by decide) rfl rfl rfl (Nat.le_of_ble_eq_true rfl) (c_M_isHome h_13.1 hdi hs) ?_
  refine mw_is3 dX7_isHomeOn_21 (by decide) rfl ?_
  refine mw_aload_n dX7_isHomeOn_22 rfl ?_
  refine mw_gr_7_2 dX7_isHomeOn_23 gs_X7_16 (by first | rfl | assumption) ?_
  refine mw_aload_n dX7_isHomeOn_26 rfl ?_
  refine mw_gr_7_0 dX7_isHomeOn_27 gs_X7_9 (by first | rfl | assumption) ?_
  refine mw_Sv dX7_isHomeOn_30 ml_X7_72 ok_X7_copyRow (by decide) rfl rfl (Nat.le_of_ble_eq_true rfl) (c_M_copyRow rfl rfl rfl rfl (by decide)) (fun m_30 h_30 => ?_)
  refine mw_iload_n dX7_isHomeOn_33 rfl ?_
  refine mw_zret dX7_isHomeOn_34 rfl (by have h := home_c s (daysF n.toNat F); rcases h with h | h <;> rw [h] <;> decide +kernel) ?_
  exact ⟨_, rfl, rfl, fun j q1 q2 => by rw [h_30.2.2 j q1 q2]; exact a4 j q1 q2, a5.tr ⟨fun c q1 _ _ => h_30.1 c q1, h_30.2.1⟩⟩
set_option maxHeartbeats 4000000 in
set_option maxRecDepth 100000 in
theorem c_M_keys {G : mG} {μ : mMem} {st : aS} (hX : MR μ st) (hI : SI st) {a n : Int} (ha_ : -2147483648 ≤ a ∧ a ≤ 2147483647) (hn_ : -2147483648 ≤ n ∧ n ≤ 2147483647) : mM G yX7_keys cX7_keys 7 (some .int) 7 [.ref 56, .int (iV a), .int (iV n)] μ (qM μ (sp_keys st a n)) := by
  obtain ⟨hR, hK, hkp, htl, htb, hfd, hfs, hsh⟩ := id hX
  have hFI := hI.1
  have hn := hFI.2.1
  have h0 := hFI.1
  have h99 := hI.2.1
  refine mM.of (lv := [some (.ref 56), some (.int (iV a)), some (.int (iV n)), none, none, none, none]) 4 (by decide +kernel) (Nat.le_of_ble_eq_true rfl) rfl ?_
  intro X
  have lp : ∀ (n_ : Nat) (c v : Int) (m : mMem), (0 ≤ a ∧ a < st.1 0 1) → (0 ≤ n ∧ n ≤ 60) → (0 ≤ v) → (v ≤ 12) → (13 ≤ v + n_) → (DR μ m) → (∀ j : Int, 0 ≤ j → j < 68 → j ≠ 28 + 5 * a + 2 → m.1 57 j = st.1 0 j) → (kys (tmK (st.1 0) a (st.1 0 (28 + 5 * a + 1)) n) (12 - v).toNat v c = kys (tmK (st.1 0) a (st.1 0 (28 + 5 * a + 1)) n) 12 0 0) → mW X cX7_keys 7 (some .int) yX7_keys.cls 7 G (qM μ (sp_keys st a n)) 42 [some (.ref 56), some (.int (iV a)), some (.int (iV n)), some (.int (iV (28 + 5 * a + 2))), some (.int (iV (st.1 0 (28 + 5 * a + 2)))), some (.int (iV c)), some (.int (iV v))] [] m := by
    intro n_
    induction n_ with
    | zero =>
      intro c v m h8 hN h1 h2 h3 h5 h6 h7
      omega
    | succ n_ ih =>
      intro c v m h8 hN h1 h2 h3 h5 h6 h7
      refine mw_iload dX7_keys_42 rfl ?_
      refine mw_bipush dX7_keys_44 (by decide +kernel) ?_
      refine mw_icmp_ge (tgt := 87) dX7_keys_46 (by decide) (by omega) (by omega) (fun c_46 => ?_) (fun c_46 => ?_)
      · refine mw_aload_n dX7_keys_87 rfl ?_
        refine mw_gr_7_0 dX7_keys_88 gs_X7_9 (by first | rfl | assumption) ?_
        refine mw_iload_n dX7_keys_91 rfl ?_
        refine mw_iload dX7_keys_92 rfl ?_
        refine mw_iast 68 dX7_keys_94 (by first | rfl | assumption) (by first | rfl | assumption) (by omega) ?_
        refine mw_iload dX7_keys_95 rfl ?_
        refine mw_iret dX7_keys_97 rfl ?_
        rw [show (12 - v).toNat = 0 by omega, kys] at h7
        refine ⟨_, rfl, ?_⟩
        unfold sp_keys
        rw [if_pos (by omega)]
        exact ⟨h7, hX.same (ROW.back h6) (h5.tr DY.st.dr), (h5.tr DY.st.dr).mf⟩
      · rw [show (12 - v).toNat = (12 - (v + 1)).toNat + 1 by omega, kys] at h7
        have hsd := (hFI.2.2.2.2 a (by omega) (by omega)).2.1
        have hR2 := ROW.put (v := v) h6
        have hI2 : fInv (upF (st.1 0) (28 + 5 * a + 2) v) := upF_inv hFI (by omega) (by omega) (by omega) (by omega) (by omega) (by omega) (by omega)
        refine mw_aload_n dX7_keys_49 rfl ?_
        refine mw_gr_7_0 dX7_keys_50 gs_X7_9 (by first | rfl | assumption) ?_
        refine mw_iload_n dX7_keys_53 rfl ?_
        refine mw_iload dX7_keys_54 rfl ?_
        refine mw_iast 68 dX7_keys_56 (by first | rfl | assumption) (by first | rfl | assumption) (by omega) ?_
        refine mw_iload dX7_keys_57 rfl ?_
        refine mw_aload_n dX7_keys_59 rfl ?_
        refine mw_aload_n dX7_keys_60 rfl ?_
        refine mw_iload_n dX7_keys_61 rfl ?_
        refine mw_iconst dX7_keys_62 ?_
        refine mw_Vpi (ci := 7) dX7_keys_63 ml_X7_120 ok_X7_attacheIs (by decide) (by first | rfl | assumption) (by decide) rfl rfl rfl (Nat.le_of_ble_eq_true rfl) (c_M_attacheIs hR2 (by omega) (by omega)) ?_
        rw [upF_o (by omega)]
        refine mw_iload_n dX7_keys_66 rfl ?_
        refine mw_Vi (ci := 7) dX7_keys_67 ml_X7_209 ok_X7_isHomeOn (by decide) (by first | rfl | assumption) (by decide) rfl rfl rfl (Nat.le_of_ble_eq_true rfl) (c_M_isHomeOn hR2 hI2 (by omega) (by omega) (by rw [upF_o (by omega)]; omega)) (fun z_67 m_67 h_67 => ?_)
        have e_67 := h_67.1
        have hc_ := home_c (st.1 0 (28 + 5 * a + 1)) (daysF n.toNat (upF (st.1 0) (28 + 5 * a + 2) v))
        rw [show homeP (st.1 0 (28 + 5 * a + 1)) (daysF n.toNat (upF (st.1 0) (28 + 5 * a + 2) v)) = tmK (st.1 0) a (st.1 0 (28 + 5 * a + 1)) n v from rfl] at e_67 hc_
        refine mw_if_eq (tgt := 77) dX7_keys_70 (by decide) (by omega) (fun c_70 => ?_) (fun c_70 => ?_)
        · refine mw_iconst dX7_keys_77 ?_
          refine mw_iadd dX7_keys_78 ?_
          refine mw_is5 dX7_keys_79 (by decide) rfl ?_
          refine mw_ii6 dX7_keys_81 (by decide) rfl ?_
          refine mw_goto (tgt := 42) dX7_keys_84 (by decide) ?_
          rw [if_pos (by omega)] at h7
          exact ih _ _ _ h8 hN (by omega) (by omega) (by omega) (h5.tr (DY.st.dr.tr h_67.2.2)) h_67.2.1.but h7
        · refine mw_iconst dX7_keys_73 ?_
          refine mw_goto (tgt := 78) dX7_keys_74 (by decide) ?_
          refine mw_iadd dX7_keys_78 ?_
          refine mw_is5 dX7_keys_79 (by decide) rfl ?_
          refine mw_ii6 dX7_keys_81 (by decide) rfl ?_
          refine mw_goto (tgt := 42) dX7_keys_84 (by decide) ?_
          rw [if_neg (by omega)] at h7
          exact ih _ _ _ h8 hN (by omega) (by omega) (by omega) (h5.tr (DY.st.dr.tr h_67.2.2)) h_67.2.1.but h7
  refine mw_aload_n dX7_keys_0 rfl ?_
  refine mw_iload_n dX7_keys_1 rfl ?_
  refine mw_Vpi (ci := 7) dX7_keys_2 ml_X7_155 ok_X7_isAttache (by decide) (by first | rfl | assumption) (by decide) rfl rfl rfl (Nat.le_of_ble_eq_true rfl) (c_M_isAttache hR hFI (by omega)) ?_
  refine mw_if_eq (tgt := 15) dX7_keys_5 (by decide) (wi_bd _ _ _) (fun c_5 => ?_) (fun c_5 => ?_)
  · have d_5 := wi_0 c_5
    refine mw_aload_n dX7_keys_15 rfl ?_
    refine mw_ldc dX7_keys_16 ct_X7_71 ?_
    refine mw_Vi (ci := 7) dX7_keys_18 ml_X7_77 ok_X7_finding (by decide) (by first | rfl | assumption) (by decide) rfl rfl rfl (Nat.le_of_ble_eq_true rfl) (c_M_find hX hI 0 (by decide) (by decide)) (fun z_18 m_18 h_18 => ?_)
    refine mw_iret dX7_keys_21 rfl ?_
    refine ⟨_, rfl, ?_⟩
    unfold sp_keys
    rw [if_neg (by omega)]
    exact h_18
  · have d_5 := wi_1 c_5
    refine mw_iload_n dX7_keys_8 rfl ?_
    refine mw_Spi dX7_keys_9 ml_X7_183 ok_X7_isOn (by decide) rfl rfl (Nat.le_of_ble_eq_true rfl) (c_M_isOn (by omega)) ?_
    refine mw_if_ne (tgt := 22) dX7_keys_12 (by decide) (wi_bd _ _ _) (fun c_12 => ?_) (fun c_12 => ?_)
    · have d_12 := wi_1 c_12
      refine mw_iload_n dX7_keys_22 rfl ?_
      refine mw_iconst dX7_keys_23 ?_
      refine mw_Spi dX7_keys_24 ml_X7_135 ok_X7_attacheAt (by decide) rfl rfl (Nat.le_of_ble_eq_true rfl) (c_M_attacheAt) ?_
      refine mw_is3 dX7_keys_27 (by decide) rfl ?_
      refine mw_aload_n dX7_keys_28 rfl ?_
      refine mw_gr_7_0 dX7_keys_29 gs_X7_9 (by first | rfl | assumption) ?_
      refine mw_iload_n dX7_keys_32 rfl ?_
      refine mw_iald 68 dX7_keys_33 (by first | rfl | assumption) (by first | rfl | assumption) (by omega) ?_
      rw [hR _ (by omega) (by omega)]
      refine mw_is4 dX7_keys_34 (by decide) rfl ?_
      refine mw_iconst dX7_keys_36 ?_
      refine mw_is5 dX7_keys_37 (by decide) rfl ?_
      refine mw_iconst dX7_keys_39 ?_
      refine mw_is6 dX7_keys_40 (by decide) rfl ?_
      exact lp 13 _ _ _ (by omega) (by omega) (by omega) (by omega) (by omega) DR.rf (fun j q1 q2 _ => hR j q1 q2) rfl
    · have d_12 := wi_0 c_12
      refine mw_aload_n dX7_keys_15 rfl ?_
      refine mw_ldc dX7_keys_16 ct_X7_71 ?_
      refine mw_Vi (ci := 7) dX7_keys_18 ml_X7_77 ok_X7_finding (by decide) (by first | rfl | assumption) (by decide) rfl rfl rfl (Nat.le_of_ble_eq_true rfl) (c_M_find hX hI 0 (by decide) (by decide)) (fun z_18 m_18 h_18 => ?_)
      refine mw_iret dX7_keys_21 rfl ?_
      refine ⟨_, rfl, ?_⟩
      unfold sp_keys
      rw [if_neg (by omega)]
      exact h_18

set_option maxHeartbeats 4000000 in
set_option maxRecDepth 100000 in
theorem c_M_readTune {G : mG} {μ : mMem} {t : Int → Int} {L : Int} (hP : RP μ t L) {e : Int} (hK : RK μ t L e 0) (hE : 0 ≤ e ∧ e ≤ L) {F : Int → Int} (hI : fInv F) (hA : μ.1 56 19 = F 1) {n : Int} (hn : μ.1 56 18 = n) (hN : 0 ≤ n ∧ n < 120) : mM G yX7_readTune cX7_readTune 6 none 4 [.ref 56] μ (qRd μ t L F n (pTune t L F e)) := by
  have E1 := tE_ok (t := t) hE
  have E2 := tE_ok (t := t) E1
  refine mM.of (lv := [some (.ref 56), none, none, none, none, none]) 5 (by decide +kernel) (Nat.le_of_ble_eq_true rfl) rfl ?_
  intro X
  have lp : ∀ (n_ : Nat) (q5 : Option Value) (s k x v : Int) (xs : Int64) (m : mMem), (1 ≤ k ∧ k ≤ 13) → (15 ≤ k + n_) → (RF μ m) → (RK m t L x v) → (0 ≤ x ∧ x ≤ L) → ((v = 1 ∧ (pTune t L F e).1 = 0 ∧ x = (pTune t L F e).2.1) ∨ (v = 0 ∧ ¬ nmI t L (tE t L e) 1 = 0 ∧ s = tV t L (tE t L e) ∧ (1 ≤ k ∧ k ≤ 12) ∧ x = eAt t L k.toNat (tE t L (tE t L e)) ∧ xs = lN (pkT t L (tE t L (tE t L e)) k.toNat) ∧ k.toNat + tuN t L (12 - k).toNat (eAt t L k.toNat (tE t L (tE t L e))) = tuN t L 12 (tE t L (tE t L e)))) → mW X cX7_readTune 6 none yX7_readTune.cls 4 G (qRd μ t L F n (pTune t L F e)) 24 [some (.ref 56), some (.int (iV s)), some (.long xs), none, some (.int (iV k)), q5] [] m := by
    intro n_
    induction n_ with
    | zero =>
      intro q5 s k x v xs m h1 h3 h4 h5 hx h6
      omega
    | succ n_ ih =>
      intro q5 s k x v xs m h1 h3 h4 h5 hx h6
      have hP2 := hP.rf h4
      refine mw_aload_n dX7_readTune_24 rfl ?_
      refine mw_getI 12 dX7_readTune_25 gs_X7_238 (by first | rfl | assumption) rfl rfl ?_
      rw [h5.2.2.2.2]
      refine mw_if_ne (tgt := 106) dX7_readTune_28 (by decide) (by rcases h6 with h | h <;> omega) (fun c_28 => ?_) (fun c_28 => ?_)
      · refine mw_aload_n dX7_readTune_106 rfl ?_
        refine mw_iconst dX7_readTune_107 ?_
        refine mw_iload_n dX7_readTune_108 rfl ?_
        refine mw_iload dX7_readTune_109 rfl ?_
        refine mw_lload_n dX7_readTune_111 rfl ?_
        refine mw_Vpv (ci := 7) dX7_readTune_112 ml_X7_272 ok_X7_addItem (by decide) (by first | rfl | assumption) (by decide) rfl rfl rfl (Nat.le_of_ble_eq_true rfl) (c_M_addItem (by rw [h4.2.2 18 (by omega)]; exact hn) hN) ?_
        refine mw_vret dX7_readTune_115 rfl ?_
        have hn2 : m.1 56 18 = n := by rw [h4.2.2 18 (by omega)]; exact hn
        refine ⟨rfl, h4.af.tr ad_af, fun j p1 p2 => ?_, x, v, ad_rk h5, ?_⟩
        · have f1 := h4.it n j p1 p2
          have f2 := ad_it (μ := m) (n := n) (a := -1) (s := s) (y := k) (x := xs) j p1 p2
          exact ⟨f2.1.trans f1.1, f2.2.1.trans f1.2.1, f2.2.2.1.trans f1.2.2.1, f2.2.2.2.trans f1.2.2.2⟩
        · right
          rcases h6 with h | h
          · exact h
          · omega
      · obtain ⟨g1, g2, g3, g4, g5, g6, g7⟩ := (show v = 0 ∧ ¬ nmI t L (tE t L e) 1 = 0 ∧ s = tV t L (tE t L e) ∧ (1 ≤ k ∧ k ≤ 12) ∧ x = eAt t L k.toNat (tE t L (tE t L e)) ∧ xs = lN (pkT t L (tE t L (tE t L e)) k.toNat) ∧ k.toNat + tuN t L (12 - k).toNat (eAt t L k.toNat (tE t L (tE t L e))) = tuN t L 12 (tE t L (tE t L e)) from by
            rcases h6 with h | h
            · omega
            · exact h)
        refine mw_aload_n dX7_readTune_31 rfl ?_
        refine mw_getI 10 dX7_readTune_32 gs_X7_229 (by first | rfl | assumption) rfl rfl ?_
        rw [h5.2.2.1]
        refine mw_iconst dX7_readTune_35 ?_
        refine mw_icmp_ne (tgt := 106) dX7_readTune_36 (by decide) (by have := tS_c t L x; omega) (by omega) (fun c_36 => ?_) (fun c_36 => ?_)
        · refine mw_aload_n dX7_readTune_106 rfl ?_
          refine mw_iconst dX7_readTune_107 ?_
          refine mw_iload_n dX7_readTune_108 rfl ?_
          refine mw_iload dX7_readTune_109 rfl ?_
          refine mw_lload_n dX7_readTune_111 rfl ?_
          refine mw_Vpv (ci := 7) dX7_readTune_112 ml_X7_272 ok_X7_addItem (by decide) (by first | rfl | assumption) (by decide) rfl rfl rfl (Nat.le_of_ble_eq_true rfl) (c_M_addItem (by rw [h4.2.2 18 (by omega)]; exact hn) hN) ?_
          refine mw_vret dX7_readTune_115 rfl ?_
          have hn2 : m.1 56 18 = n := by rw [h4.2.2 18 (by omega)]; exact hn
          refine ⟨rfl, h4.af.tr ad_af, fun j p1 p2 => ?_, x, v, ad_rk h5, ?_⟩
          · have f1 := h4.it n j p1 p2
            have f2 := ad_it (μ := m) (n := n) (a := -1) (s := s) (y := k) (x := xs) j p1 p2
            exact ⟨f2.1.trans f1.1, f2.2.1.trans f1.2.1, f2.2.2.1.trans f1.2.2.1, f2.2.2.2.trans f1.2.2.2⟩
          · left
            obtain ⟨g1, g2, g3, g4, g5, g6, g7⟩ := (show (v = 0 ∧ ¬ nmI t L (tE t L e) 1 = 0 ∧ s = tV t L (tE t L e) ∧ (1 ≤ k ∧ k ≤ 12) ∧ x = eAt t L k.toNat (tE t L (tE t L e)) ∧ xs = lN (pkT t L (tE t L (tE t L e)) k.toNat) ∧ k.toNat + tuN t L (12 - k).toNat (eAt t L k.toNat (tE t L (tE t L e))) = tuN t L 12 (tE t L (tE t L e))) from ⟨g1, g2, g3, g4, g5, g6, g7⟩)
            have hr := tuN_r t L 12 (tE t L (tE t L e))
            have g8 : tuN t L (12 - k).toNat (eAt t L k.toNat (tE t L (tE t L e))) = 0 := by
              cases hq : (12 - k).toNat with
              | zero => rfl
              | succ q => rw [tuN, if_neg (fun p => c_36 (by rw [g5]; exact p.1))]
            have hkn : k.toNat = tuN t L 12 (tE t L (tE t L e)) := by omega
            have ht3 : ¬ tS t L (eAt t L (tuN t L 12 (tE t L (tE t L e))) (tE t L (tE t L e))) = 2 := by rw [← hkn, ← g5]; exact c_36
            have f2 := ad_at (μ := m) (n := n) (a := -1) (s := s) (y := k) (x := xs)
            unfold pTune
            rw [if_neg g2, if_pos ⟨by omega, ht3⟩, ← hkn]
            have d1 := nm_1 g2
            have v01 := tV_0 t L (tE t L e)
            refine ⟨g1, rfl, g5, f2.2.2.2.2, ?_, ?_, Or.inl ⟨f2.1, by show 0 ≤ (adM m n (-1) s k xs).1 65 n ∧ (adM m n (-1) s k xs).1 65 n ≤ 1; omega, by show 0 ≤ (adM m n (-1) s k xs).1 66 n ∧ (adM m n (-1) s k xs).1 66 n ≤ 12; omega⟩⟩
            · have v00 := tV_0 t L (tE t L e)
              show _ = setT F (tV t L (tE t L e)) ((k.toNat : Nat) : Int) (tuT t L (tE t L (tE t L e))) 1
              rw [setT_o (by omega) (by omega), u1_o (by omega), u2_1, u1_o (by omega), u1_o (by omega), u1_o (by omega), h4.2.2 19 (by omega)]
              exact hA
            · show setT F (tV t L (tE t L e)) ((k.toNat : Nat) : Int) (tuT t L (tE t L (tE t L e))) = itF F ((adM m n (-1) s k xs).1 64 n) ((adM m n (-1) s k xs).1 65 n) ((adM m n (-1) s k xs).1 66 n) ((adM m n (-1) s k xs).2 67 n)
              rw [f2.1, f2.2.1, f2.2.2.1, f2.2.2.2.1, g3, g6]
              unfold itF
              rw [if_pos (by decide), show ((k.toNat : Nat) : Int) = k by omega]
              exact (setT_eq (fun j p1 p2 => nib_pk (by omega) (fun i q => (hr.2 i (by omega)).2) (by omega))).symm
        · have hvb := vl_bd t L x
          have hvv : vl t L x = min (tV t L x) 10000 := by unfold vl; rw [if_pos c_36]
          have hv0 := tV_0 t L x
          have hr := tuN_r t L 12 (tE t L (tE t L e))
          refine mw_iload dX7_readTune_39 rfl ?_
          refine mw_bipush dX7_readTune_41 (by decide +kernel) ?_
          refine mw_icmp_ge (tgt := 50) dX7_readTune_43 (by decide) (by omega) (by omega) (fun c_43 => ?_) (fun c_43 => ?_)
          · refine mw_iconst dX7_readTune_50 ?_
            refine mw_is5 dX7_readTune_51 (by decide) rfl ?_
            refine mw_lload_n dX7_readTune_53 rfl ?_
            refine mw_iload dX7_readTune_54 rfl ?_
            refine mw_if_eq (tgt := 72) dX7_readTune_56 (by decide) (by omega) (fun c_56 => ?_) (fun c_56 => ?_)
            · refine mw_lconst dX7_readTune_72 rfl ?_
              refine mw_lor dX7_readTune_73 ?_
              refine mw_ls2 dX7_readTune_74 (by decide) rfl ?_
              refine mw_aload_n dX7_readTune_75 rfl ?_
              refine mw_iload dX7_readTune_76 rfl ?_
              refine mw_if_eq (tgt := 96) dX7_readTune_78 (by decide) (by omega) (fun c_78 => ?_) (fun c_78 => ?_)
              · refine mw_iconst dX7_readTune_96 ?_
                refine mw_Vv (ci := 7) dX7_readTune_97 ml_X7_245 ok_X7_must (by decide) (by first | rfl | assumption) (by decide) rfl rfl rfl (Nat.le_of_ble_eq_true rfl) (c_M_must hP2 h5 hx (by omega) (by omega)) (fun m_97 h_97 => ?_)
                obtain ⟨r1, x1, v1, k1, q1⟩ := h_97
                have b1 := mP_bd q1 hx
                refine mw_ii4 dX7_readTune_100 (by decide) rfl ?_
                refine mw_goto (tgt := 24) dX7_readTune_103 (by decide) ?_
                first
                | (exfalso; omega)
                | (obtain ⟨rfl, rfl⟩ := mP_n q1 rfl
                   refine ih _ _ _ _ _ _ _ (by omega) (by omega) (h4.tr r1) k1 hx (Or.inl ⟨rfl, ?_⟩)
                   have g8 : tuN t L (12 - k).toNat (eAt t L k.toNat (tE t L (tE t L e))) = 0 := by
                     cases hq : (12 - k).toNat with
                     | zero => rfl
                     | succ q => rw [tuN, if_neg (fun p => by rw [← g5] at p; omega)]
                   have hkn : k.toNat = tuN t L 12 (tE t L (tE t L e)) := by omega
                   unfold pTune
                   rw [if_neg g2, if_neg (fun p => p.2 (by rw [← hkn, ← g5]; exact c_36)), ← hkn]
                   exact ⟨rfl, g5⟩)
                | (subst g1
                   obtain ⟨rfl, rfl⟩ := mP_y q1 (by decide)
                   have hk12 : k < 12 := by omega
                   rw [show (12 - k).toNat = (12 - (k + 1)).toNat + 1 by omega, tuN, if_pos (by rw [← g5]; exact ⟨c_36, by omega⟩)] at g7
                   refine ih _ _ _ _ _ _ _ (by omega) (by omega) (h4.tr r1) k1 b1.1 (Or.inr ⟨rfl, g2, g3, by omega, ?_, ?_, ?_⟩)
                   · rw [show (k + 1).toNat = k.toNat + 1 by omega, eAt_s, ← g5]
                   · rw [g6, show (k + 1).toNat = k.toNat + 1 by omega, pkT, ← g5, show vl t L x = ((tV t L x).toNat : Int) by omega]
                     exact or_pk (by omega) (pkT_lt k.toNat (fun i q => (hr.2 i (by omega)).2)) (by omega)
                   · rw [show (k + 1).toNat = k.toNat + 1 by omega, eAt_s]
                     omega)
              · refine mw_aload_n dX7_readTune_81 rfl ?_
                refine mw_getI 11 dX7_readTune_82 gs_X7_226 (by first | rfl | assumption) rfl rfl ?_
                rw [h5.2.2.2.1]
                refine mw_i2l dX7_readTune_85 ?_
                refine mw_Spi dX7_readTune_86 ml_X7_276 ok_X7_isTone (by decide) rfl rfl (Nat.le_of_ble_eq_true rfl) (c_M_isTone) ?_
                refine mw_if_eq (tgt := 96) dX7_readTune_89 (by decide) (by split <;> omega) (fun c_89 => ?_) (fun c_89 => ?_)
                · have hto : ¬ vl t L x < 12 := fun q => by rw [if_pos ((tone_c hvb).mpr q)] at c_89; exact absurd c_89 (by decide)
                  refine mw_iconst dX7_readTune_96 ?_
                  refine mw_Vv (ci := 7) dX7_readTune_97 ml_X7_245 ok_X7_must (by decide) (by first | rfl | assumption) (by decide) rfl rfl rfl (Nat.le_of_ble_eq_true rfl) (c_M_must hP2 h5 hx (by omega) (by omega)) (fun m_97 h_97 => ?_)
                  obtain ⟨r1, x1, v1, k1, q1⟩ := h_97
                  have b1 := mP_bd q1 hx
                  refine mw_ii4 dX7_readTune_100 (by decide) rfl ?_
                  refine mw_goto (tgt := 24) dX7_readTune_103 (by decide) ?_
                  first
                  | (exfalso; omega)
                  | (obtain ⟨rfl, rfl⟩ := mP_n q1 rfl
                     refine ih _ _ _ _ _ _ _ (by omega) (by omega) (h4.tr r1) k1 hx (Or.inl ⟨rfl, ?_⟩)
                     have g8 : tuN t L (12 - k).toNat (eAt t L k.toNat (tE t L (tE t L e))) = 0 := by
                       cases hq : (12 - k).toNat with
                       | zero => rfl
                       | succ q => rw [tuN, if_neg (fun p => by rw [← g5] at p; omega)]
                     have hkn : k.toNat = tuN t L 12 (tE t L (tE t L e)) := by omega
                     unfold pTune
                     rw [if_neg g2, if_neg (fun p => p.2 (by rw [← hkn, ← g5]; exact c_36)), ← hkn]
                     exact ⟨rfl, g5⟩)
                  | (subst g1
                     obtain ⟨rfl, rfl⟩ := mP_y q1 (by decide)
                     have hk12 : k < 12 := by omega
                     rw [show (12 - k).toNat = (12 - (k + 1)).toNat + 1 by omega, tuN, if_pos (by rw [← g5]; exact ⟨c_36, by omega⟩)] at g7
                     refine ih _ _ _ _ _ _ _ (by omega) (by omega) (h4.tr r1) k1 b1.1 (Or.inr ⟨rfl, g2, g3, by omega, ?_, ?_, ?_⟩)
                     · rw [show (k + 1).toNat = k.toNat + 1 by omega, eAt_s, ← g5]
                     · rw [g6, show (k + 1).toNat = k.toNat + 1 by omega, pkT, ← g5, show vl t L x = ((tV t L x).toNat : Int) by omega]
                       exact or_pk (by omega) (pkT_lt k.toNat (fun i q => (hr.2 i (by omega)).2)) (by omega)
                     · rw [show (k + 1).toNat = k.toNat + 1 by omega, eAt_s]
                       omega)
                · have hto : vl t L x < 12 := (tone_c hvb).mp (Classical.byContradiction (fun q => c_89 (if_neg q)))
                  refine mw_iconst dX7_readTune_92 ?_
                  refine mw_goto (tgt := 97) dX7_readTune_93 (by decide) ?_
                  refine mw_Vv (ci := 7) dX7_readTune_97 ml_X7_245 ok_X7_must (by decide) (by first | rfl | assumption) (by decide) rfl rfl rfl (Nat.le_of_ble_eq_true rfl) (c_M_must hP2 h5 hx (by omega) (by omega)) (fun m_97 h_97 => ?_)
                  obtain ⟨r1, x1, v1, k1, q1⟩ := h_97
                  have b1 := mP_bd q1 hx
                  refine mw_ii4 dX7_readTune_100 (by decide) rfl ?_
                  refine mw_goto (tgt := 24) dX7_readTune_103 (by decide) ?_
                  first
                  | (exfalso; omega)
                  | (obtain ⟨rfl, rfl⟩ := mP_n q1 rfl
                     refine ih _ _ _ _ _ _ _ (by omega) (by omega) (h4.tr r1) k1 hx (Or.inl ⟨rfl, ?_⟩)
                     have g8 : tuN t L (12 - k).toNat (eAt t L k.toNat (tE t L (tE t L e))) = 0 := by
                       cases hq : (12 - k).toNat with
                       | zero => rfl
                       | succ q => rw [tuN, if_neg (fun p => by rw [← g5] at p; omega)]
                     have hkn : k.toNat = tuN t L 12 (tE t L (tE t L e)) := by omega
                     unfold pTune
                     rw [if_neg g2, if_neg (fun p => p.2 (by rw [← hkn, ← g5]; exact c_36)), ← hkn]
                     exact ⟨rfl, g5⟩)
                  | (subst g1
                     obtain ⟨rfl, rfl⟩ := mP_y q1 (by decide)
                     have hk12 : k < 12 := by omega
                     rw [show (12 - k).toNat = (12 - (k + 1)).toNat + 1 by omega, tuN, if_pos (by rw [← g5]; exact ⟨c_36, by omega⟩)] at g7
                     refine ih _ _ _ _ _ _ _ (by omega) (by omega) (h4.tr r1) k1 b1.1 (Or.inr ⟨rfl, g2, g3, by omega, ?_, ?_, ?_⟩)
                     · rw [show (k + 1).toNat = k.toNat + 1 by omega, eAt_s, ← g5]
                     · rw [g6, show (k + 1).toNat = k.toNat + 1 by omega, pkT, ← g5, show vl t L x = ((tV t L x).toNat : Int) by omega]
                       exact or_pk (by omega) (pkT_lt k.toNat (fun i q => (hr.2 i (by omega)).2)) (by omega)
                     · rw [show (k + 1).toNat = k.toNat + 1 by omega, eAt_s]
                       omega)
            · refine mw_aload_n dX7_readTune_59 rfl ?_
              refine mw_getI 11 dX7_readTune_60 gs_X7_226 (by first | rfl | assumption) rfl rfl ?_
              rw [h5.2.2.2.1]
              refine mw_i2l dX7_readTune_63 ?_
              refine mw_iconst dX7_readTune_64 ?_
              refine mw_iload dX7_readTune_65 rfl ?_
              refine mw_imul dX7_readTune_67 ?_
              refine mw_lshl dX7_readTune_68 ?_
              refine mw_goto (tgt := 73) dX7_readTune_69 (by decide) ?_
              refine mw_lor dX7_readTune_73 ?_
              refine mw_ls2 dX7_readTune_74 (by decide) rfl ?_
              refine mw_aload_n dX7_readTune_75 rfl ?_
              refine mw_iload dX7_readTune_76 rfl ?_
              refine mw_if_eq (tgt := 96) dX7_readTune_78 (by decide) (by omega) (fun c_78 => ?_) (fun c_78 => ?_)
              · refine mw_iconst dX7_readTune_96 ?_
                refine mw_Vv (ci := 7) dX7_readTune_97 ml_X7_245 ok_X7_must (by decide) (by first | rfl | assumption) (by decide) rfl rfl rfl (Nat.le_of_ble_eq_true rfl) (c_M_must hP2 h5 hx (by omega) (by omega)) (fun m_97 h_97 => ?_)
                obtain ⟨r1, x1, v1, k1, q1⟩ := h_97
                have b1 := mP_bd q1 hx
                refine mw_ii4 dX7_readTune_100 (by decide) rfl ?_
                refine mw_goto (tgt := 24) dX7_readTune_103 (by decide) ?_
                first
                | (exfalso; omega)
                | (obtain ⟨rfl, rfl⟩ := mP_n q1 rfl
                   refine ih _ _ _ _ _ _ _ (by omega) (by omega) (h4.tr r1) k1 hx (Or.inl ⟨rfl, ?_⟩)
                   have g8 : tuN t L (12 - k).toNat (eAt t L k.toNat (tE t L (tE t L e))) = 0 := by
                     cases hq : (12 - k).toNat with
                     | zero => rfl
                     | succ q => rw [tuN, if_neg (fun p => by rw [← g5] at p; omega)]
                   have hkn : k.toNat = tuN t L 12 (tE t L (tE t L e)) := by omega
                   unfold pTune
                   rw [if_neg g2, if_neg (fun p => p.2 (by rw [← hkn, ← g5]; exact c_36)), ← hkn]
                   exact ⟨rfl, g5⟩)
                | (subst g1
                   obtain ⟨rfl, rfl⟩ := mP_y q1 (by decide)
                   have hk12 : k < 12 := by omega
                   rw [show (12 - k).toNat = (12 - (k + 1)).toNat + 1 by omega, tuN, if_pos (by rw [← g5]; exact ⟨c_36, by omega⟩)] at g7
                   refine ih _ _ _ _ _ _ _ (by omega) (by omega) (h4.tr r1) k1 b1.1 (Or.inr ⟨rfl, g2, g3, by omega, ?_, ?_, ?_⟩)
                   · rw [show (k + 1).toNat = k.toNat + 1 by omega, eAt_s, ← g5]
                   · rw [g6, show (k + 1).toNat = k.toNat + 1 by omega, pkT, ← g5, show vl t L x = ((tV t L x).toNat : Int) by omega]
                     exact or_pk (by omega) (pkT_lt k.toNat (fun i q => (hr.2 i (by omega)).2)) (by omega)
                   · rw [show (k + 1).toNat = k.toNat + 1 by omega, eAt_s]
                     omega)
              · refine mw_aload_n dX7_readTune_81 rfl ?_
                refine mw_getI 11 dX7_readTune_82 gs_X7_226 (by first | rfl | assumption) rfl rfl ?_
                rw [h5.2.2.2.1]
                refine mw_i2l dX7_readTune_85 ?_
                refine mw_Spi dX7_readTune_86 ml_X7_276 ok_X7_isTone (by decide) rfl rfl (Nat.le_of_ble_eq_true rfl) (c_M_isTone) ?_
                refine mw_if_eq (tgt := 96) dX7_readTune_89 (by decide) (by split <;> omega) (fun c_89 => ?_) (fun c_89 => ?_)
                · have hto : ¬ vl t L x < 12 := fun q => by rw [if_pos ((tone_c hvb).mpr q)] at c_89; exact absurd c_89 (by decide)
                  refine mw_iconst dX7_readTune_96 ?_
                  refine mw_Vv (ci := 7) dX7_readTune_97 ml_X7_245 ok_X7_must (by decide) (by first | rfl | assumption) (by decide) rfl rfl rfl (Nat.le_of_ble_eq_true rfl) (c_M_must hP2 h5 hx (by omega) (by omega)) (fun m_97 h_97 => ?_)
                  obtain ⟨r1, x1, v1, k1, q1⟩ := h_97
                  have b1 := mP_bd q1 hx
                  refine mw_ii4 dX7_readTune_100 (by decide) rfl ?_
                  refine mw_goto (tgt := 24) dX7_readTune_103 (by decide) ?_
                  first
                  | (exfalso; omega)
                  | (obtain ⟨rfl, rfl⟩ := mP_n q1 rfl
                     refine ih _ _ _ _ _ _ _ (by omega) (by omega) (h4.tr r1) k1 hx (Or.inl ⟨rfl, ?_⟩)
                     have g8 : tuN t L (12 - k).toNat (eAt t L k.toNat (tE t L (tE t L e))) = 0 := by
                       cases hq : (12 - k).toNat with
                       | zero => rfl
                       | succ q => rw [tuN, if_neg (fun p => by rw [← g5] at p; omega)]
                     have hkn : k.toNat = tuN t L 12 (tE t L (tE t L e)) := by omega
                     unfold pTune
                     rw [if_neg g2, if_neg (fun p => p.2 (by rw [← hkn, ← g5]; exact c_36)), ← hkn]
                     exact ⟨rfl, g5⟩)
                  | (subst g1
                     obtain ⟨rfl, rfl⟩ := mP_y q1 (by decide)
                     have hk12 : k < 12 := by omega
                     rw [show (12 - k).toNat = (12 - (k + 1)).toNat + 1 by omega, tuN, if_pos (by rw [← g5]; exact ⟨c_36, by omega⟩)] at g7
                     refine ih _ _ _ _ _ _ _ (by omega) (by omega) (h4.tr r1) k1 b1.1 (Or.inr ⟨rfl, g2, g3, by omega, ?_, ?_, ?_⟩)
                     · rw [show (k + 1).toNat = k.toNat + 1 by omega, eAt_s, ← g5]
                     · rw [g6, show (k + 1).toNat = k.toNat + 1 by omega, pkT, ← g5, show vl t L x = ((tV t L x).toNat : Int) by omega]
                       exact or_pk (by omega) (pkT_lt k.toNat (fun i q => (hr.2 i (by omega)).2)) (by omega)
                     · rw [show (k + 1).toNat = k.toNat + 1 by omega, eAt_s]
                       omega)
                · have hto : vl t L x < 12 := (tone_c hvb).mp (Classical.byContradiction (fun q => c_89 (if_neg q)))
                  refine mw_iconst dX7_readTune_92 ?_
                  refine mw_goto (tgt := 97) dX7_readTune_93 (by decide) ?_
                  refine mw_Vv (ci := 7) dX7_readTune_97 ml_X7_245 ok_X7_must (by decide) (by first | rfl | assumption) (by decide) rfl rfl rfl (Nat.le_of_ble_eq_true rfl) (c_M_must hP2 h5 hx (by omega) (by omega)) (fun m_97 h_97 => ?_)
                  obtain ⟨r1, x1, v1, k1, q1⟩ := h_97
                  have b1 := mP_bd q1 hx
                  refine mw_ii4 dX7_readTune_100 (by decide) rfl ?_
                  refine mw_goto (tgt := 24) dX7_readTune_103 (by decide) ?_
                  first
                  | (exfalso; omega)
                  | (obtain ⟨rfl, rfl⟩ := mP_n q1 rfl
                     refine ih _ _ _ _ _ _ _ (by omega) (by omega) (h4.tr r1) k1 hx (Or.inl ⟨rfl, ?_⟩)
                     have g8 : tuN t L (12 - k).toNat (eAt t L k.toNat (tE t L (tE t L e))) = 0 := by
                       cases hq : (12 - k).toNat with
                       | zero => rfl
                       | succ q => rw [tuN, if_neg (fun p => by rw [← g5] at p; omega)]
                     have hkn : k.toNat = tuN t L 12 (tE t L (tE t L e)) := by omega
                     unfold pTune
                     rw [if_neg g2, if_neg (fun p => p.2 (by rw [← hkn, ← g5]; exact c_36)), ← hkn]
                     exact ⟨rfl, g5⟩)
                  | (subst g1
                     obtain ⟨rfl, rfl⟩ := mP_y q1 (by decide)
                     have hk12 : k < 12 := by omega
                     rw [show (12 - k).toNat = (12 - (k + 1)).toNat + 1 by omega, tuN, if_pos (by rw [← g5]; exact ⟨c_36, by omega⟩)] at g7
                     refine ih _ _ _ _ _ _ _ (by omega) (by omega) (h4.tr r1) k1 b1.1 (Or.inr ⟨rfl, g2, g3, by omega, ?_, ?_, ?_⟩)
                     · rw [show (k + 1).toNat = k.toNat + 1 by omega, eAt_s, ← g5]
                     · rw [g6, show (k + 1).toNat = k.toNat + 1 by omega, pkT, ← g5, show vl t L x = ((tV t L x).toNat : Int) by omega]
                       exact or_pk (by omega) (pkT_lt k.toNat (fun i q => (hr.2 i (by omega)).2)) (by omega)
                     · rw [show (k + 1).toNat = k.toNat + 1 by omega, eAt_s]
                       omega)
          · refine mw_iconst dX7_readTune_46 ?_
            refine mw_goto (tgt := 51) dX7_readTune_47 (by decide) ?_
            refine mw_is5 dX7_readTune_51 (by decide) rfl ?_
            refine mw_lload_n dX7_readTune_53 rfl ?_
            refine mw_iload dX7_readTune_54 rfl ?_
            refine mw_if_eq (tgt := 72) dX7_readTune_56 (by decide) (by omega) (fun c_56 => ?_) (fun c_56 => ?_)
            · refine mw_lconst dX7_readTune_72 rfl ?_
              refine mw_lor dX7_readTune_73 ?_
              refine mw_ls2 dX7_readTune_74 (by decide) rfl ?_
              refine mw_aload_n dX7_readTune_75 rfl ?_
              refine mw_iload dX7_readTune_76 rfl ?_
              refine mw_if_eq (tgt := 96) dX7_readTune_78 (by decide) (by omega) (fun c_78 => ?_) (fun c_78 => ?_)
              · refine mw_iconst dX7_readTune_96 ?_
                refine mw_Vv (ci := 7) dX7_readTune_97 ml_X7_245 ok_X7_must (by decide) (by first | rfl | assumption) (by decide) rfl rfl rfl (Nat.le_of_ble_eq_true rfl) (c_M_must hP2 h5 hx (by omega) (by omega)) (fun m_97 h_97 => ?_)
                obtain ⟨r1, x1, v1, k1, q1⟩ := h_97
                have b1 := mP_bd q1 hx
                refine mw_ii4 dX7_readTune_100 (by decide) rfl ?_
                refine mw_goto (tgt := 24) dX7_readTune_103 (by decide) ?_
                first
                | (exfalso; omega)
                | (obtain ⟨rfl, rfl⟩ := mP_n q1 rfl
                   refine ih _ _ _ _ _ _ _ (by omega) (by omega) (h4.tr r1) k1 hx (Or.inl ⟨rfl, ?_⟩)
                   have g8 : tuN t L (12 - k).toNat (eAt t L k.toNat (tE t L (tE t L e))) = 0 := by
                     cases hq : (12 - k).toNat with
                     | zero => rfl
                     | succ q => rw [tuN, if_neg (fun p => by rw [← g5] at p; omega)]
                   have hkn : k.toNat = tuN t L 12 (tE t L (tE t L e)) := by omega
                   unfold pTune
                   rw [if_neg g2, if_neg (fun p => p.2 (by rw [← hkn, ← g5]; exact c_36)), ← hkn]
                   exact ⟨rfl, g5⟩)
                | (subst g1
                   obtain ⟨rfl, rfl⟩ := mP_y q1 (by decide)
                   have hk12 : k < 12 := by omega
                   rw [show (12 - k).toNat = (12 - (k + 1)).toNat + 1 by omega, tuN, if_pos (by rw [← g5]; exact ⟨c_36, by omega⟩)] at g7
                   refine ih _ _ _ _ _ _ _ (by omega) (by omega) (h4.tr r1) k1 b1.1 (Or.inr ⟨rfl, g2, g3, by omega, ?_, ?_, ?_⟩)
                   · rw [show (k + 1).toNat = k.toNat + 1 by omega, eAt_s, ← g5]
                   · rw [g6, show (k + 1).toNat = k.toNat + 1 by omega, pkT, ← g5, show vl t L x = ((tV t L x).toNat : Int) by omega]
                     exact or_pk (by omega) (pkT_lt k.toNat (fun i q => (hr.2 i (by omega)).2)) (by omega)
                   · rw [show (k + 1).toNat = k.toNat + 1 by omega, eAt_s]
                     omega)
              · refine mw_aload_n dX7_readTune_81 rfl ?_
                refine mw_getI 11 dX7_readTune_82 gs_X7_226 (by first | rfl | assumption) rfl rfl ?_
                rw [h5.2.2.2.1]
                refine mw_i2l dX7_readTune_85 ?_
                refine mw_Spi dX7_readTune_86 ml_X7_276 ok_X7_isTone (by decide) rfl rfl (Nat.le_of_ble_eq_true rfl) (c_M_isTone) ?_
                refine mw_if_eq (tgt := 96) dX7_readTune_89 (by decide) (by split <;> omega) (fun c_89 => ?_) (fun c_89 => ?_)
                · have hto : ¬ vl t L x < 12 := fun q => by rw [if_pos ((tone_c hvb).mpr q)] at c_89; exact absurd c_89 (by decide)
                  refine mw_iconst dX7_readTune_96 ?_
                  refine mw_Vv (ci := 7) dX7_readTune_97 ml_X7_245 ok_X7_must (by decide) (by first | rfl | assumption) (by decide) rfl rfl rfl (Nat.le_of_ble_eq_true rfl) (c_M_must hP2 h5 hx (by omega) (by omega)) (fun m_97 h_97 => ?_)
                  obtain ⟨r1, x1, v1, k1, q1⟩ := h_97
                  have b1 := mP_bd q1 hx
                  refine mw_ii4 dX7_readTune_100 (by decide) rfl ?_
                  refine mw_goto (tgt := 24) dX7_readTune_103 (by decide) ?_
                  first
                  | (exfalso; omega)
                  | (obtain ⟨rfl, rfl⟩ := mP_n q1 rfl
                     refine ih _ _ _ _ _ _ _ (by omega) (by omega) (h4.tr r1) k1 hx (Or.inl ⟨rfl, ?_⟩)
                     have g8 : tuN t L (12 - k).toNat (eAt t L k.toNat (tE t L (tE t L e))) = 0 := by
                       cases hq : (12 - k).toNat with
                       | zero => rfl
                       | succ q => rw [tuN, if_neg (fun p => by rw [← g5] at p; omega)]
                     have hkn : k.toNat = tuN t L 12 (tE t L (tE t L e)) := by omega
                     unfold pTune
                     rw [if_neg g2, if_neg (fun p => p.2 (by rw [← hkn, ← g5]; exact c_36)), ← hkn]
                     exact ⟨rfl, g5⟩)
                  | (subst g1
                     obtain ⟨rfl, rfl⟩ := mP_y q1 (by decide)
                     have hk12 : k < 12 := by omega
                     rw [show (12 - k).toNat = (12 - (k + 1)).toNat + 1 by omega, tuN, if_pos (by rw [← g5]; exact ⟨c_36, by omega⟩)] at g7
                     refine ih _ _ _ _ _ _ _ (by omega) (by omega) (h4.tr r1) k1 b1.1 (Or.inr ⟨rfl, g2, g3, by omega, ?_, ?_, ?_⟩)
                     · rw [show (k + 1).toNat = k.toNat + 1 by omega, eAt_s, ← g5]
                     · rw [g6, show (k + 1).toNat = k.toNat + 1 by omega, pkT, ← g5, show vl t L x = ((tV t L x).toNat : Int) by omega]
                       exact or_pk (by omega) (pkT_lt k.toNat (fun i q => (hr.2 i (by omega)).2)) (by omega)
                     · rw [show (k + 1).toNat = k.toNat + 1 by omega, eAt_s]
                       omega)
                · have hto : vl t L x < 12 := (tone_c hvb).mp (Classical.byContradiction (fun q => c_89 (if_neg q)))
                  refine mw_iconst dX7_readTune_92 ?_
                  refine mw_goto (tgt := 97) dX7_readTune_93 (by decide) ?_
                  refine mw_Vv (ci := 7) dX7_readTune_97 ml_X7_245 ok_X7_must (by decide) (by first | rfl | assumption) (by decide) rfl rfl rfl (Nat.le_of_ble_eq_true rfl) (c_M_must hP2 h5 hx (by omega) (by omega)) (fun m_97 h_97 => ?_)
                  obtain ⟨r1, x1, v1, k1, q1⟩ := h_97
                  have b1 := mP_bd q1 hx
                  refine mw_ii4 dX7_readTune_100 (by decide) rfl ?_
                  refine mw_goto (tgt := 24) dX7_readTune_103 (by decide) ?_
                  first
                  | (exfalso; omega)
                  | (obtain ⟨rfl, rfl⟩ := mP_n q1 rfl
                     refine ih _ _ _ _ _ _ _ (by omega) (by omega) (h4.tr r1) k1 hx (Or.inl ⟨rfl, ?_⟩)
                     have g8 : tuN t L (12 - k).toNat (eAt t L k.toNat (tE t L (tE t L e))) = 0 := by
                       cases hq : (12 - k).toNat with
                       | zero => rfl
                       | succ q => rw [tuN, if_neg (fun p => by rw [← g5] at p; omega)]
                     have hkn : k.toNat = tuN t L 12 (tE t L (tE t L e)) := by omega
                     unfold pTune
                     rw [if_neg g2, if_neg (fun p => p.2 (by rw [← hkn, ← g5]; exact c_36)), ← hkn]
                     exact ⟨rfl, g5⟩)
                  | (subst g1
                     obtain ⟨rfl, rfl⟩ := mP_y q1 (by decide)
                     have hk12 : k < 12 := by omega
                     rw [show (12 - k).toNat = (12 - (k + 1)).toNat + 1 by omega, tuN, if_pos (by rw [← g5]; exact ⟨c_36, by omega⟩)] at g7
                     refine ih _ _ _ _ _ _ _ (by omega) (by omega) (h4.tr r1) k1 b1.1 (Or.inr ⟨rfl, g2, g3, by omega, ?_, ?_, ?_⟩)
                     · rw [show (k + 1).toNat = k.toNat + 1 by omega, eAt_s, ← g5]
                     · rw [g6, show (k + 1).toNat = k.toNat + 1 by omega, pkT, ← g5, show vl t L x = ((tV t L x).toNat : Int) by omega]
                       exact or_pk (by omega) (pkT_lt k.toNat (fun i q => (hr.2 i (by omega)).2)) (by omega)
                     · rw [show (k + 1).toNat = k.toNat + 1 by omega, eAt_s]
                       omega)
            · refine mw_aload_n dX7_readTune_59 rfl ?_
              refine mw_getI 11 dX7_readTune_60 gs_X7_226 (by first | rfl | assumption) rfl rfl ?_
              rw [h5.2.2.2.1]
              refine mw_i2l dX7_readTune_63 ?_
              refine mw_iconst dX7_readTune_64 ?_
              refine mw_iload dX7_readTune_65 rfl ?_
              refine mw_imul dX7_readTune_67 ?_
              refine mw_lshl dX7_readTune_68 ?_
              refine mw_goto (tgt := 73) dX7_readTune_69 (by decide) ?_
              refine mw_lor dX7_readTune_73 ?_
              refine mw_ls2 dX7_readTune_74 (by decide) rfl ?_
              refine mw_aload_n dX7_readTune_75 rfl ?_
              refine mw_iload dX7_readTune_76 rfl ?_
              refine mw_if_eq (tgt := 96) dX7_readTune_78 (by decide) (by omega) (fun c_78 => ?_) (fun c_78 => ?_)
              · refine mw_iconst dX7_readTune_96 ?_
                refine mw_Vv (ci := 7) dX7_readTune_97 ml_X7_245 ok_X7_must (by decide) (by first | rfl | assumption) (by decide) rfl rfl rfl (Nat.le_of_ble_eq_true rfl) (c_M_must hP2 h5 hx (by omega) (by omega)) (fun m_97 h_97 => ?_)
                obtain ⟨r1, x1, v1, k1, q1⟩ := h_97
                have b1 := mP_bd q1 hx
                refine mw_ii4 dX7_readTune_100 (by decide) rfl ?_
                refine mw_goto (tgt := 24) dX7_readTune_103 (by decide) ?_
                first
                | (exfalso; omega)
                | (obtain ⟨rfl, rfl⟩ := mP_n q1 rfl
                   refine ih _ _ _ _ _ _ _ (by omega) (by omega) (h4.tr r1) k1 hx (Or.inl ⟨rfl, ?_⟩)
                   have g8 : tuN t L (12 - k).toNat (eAt t L k.toNat (tE t L (tE t L e))) = 0 := by
                     cases hq : (12 - k).toNat with
                     | zero => rfl
                     | succ q => rw [tuN, if_neg (fun p => by rw [← g5] at p; omega)]
                   have hkn : k.toNat = tuN t L 12 (tE t L (tE t L e)) := by omega
                   unfold pTune
                   rw [if_neg g2, if_neg (fun p => p.2 (by rw [← hkn, ← g5]; exact c_36)), ← hkn]
                   exact ⟨rfl, g5⟩)
                | (subst g1
                   obtain ⟨rfl, rfl⟩ := mP_y q1 (by decide)
                   have hk12 : k < 12 := by omega
                   rw [show (12 - k).toNat = (12 - (k + 1)).toNat + 1 by omega, tuN, if_pos (by rw [← g5]; exact ⟨c_36, by omega⟩)] at g7
                   refine ih _ _ _ _ _ _ _ (by omega) (by omega) (h4.tr r1) k1 b1.1 (Or.inr ⟨rfl, g2, g3, by omega, ?_, ?_, ?_⟩)
                   · rw [show (k + 1).toNat = k.toNat + 1 by omega, eAt_s, ← g5]
                   · rw [g6, show (k + 1).toNat = k.toNat + 1 by omega, pkT, ← g5, show vl t L x = ((tV t L x).toNat : Int) by omega]
                     exact or_pk (by omega) (pkT_lt k.toNat (fun i q => (hr.2 i (by omega)).2)) (by omega)
                   · rw [show (k + 1).toNat = k.toNat + 1 by omega, eAt_s]
                     omega)
              · refine mw_aload_n dX7_readTune_81 rfl ?_
                refine mw_getI 11 dX7_readTune_82 gs_X7_226 (by first | rfl | assumption) rfl rfl ?_
                rw [h5.2.2.2.1]
                refine mw_i2l dX7_readTune_85 ?_
                refine mw_Spi dX7_readTune_86 ml_X7_276 ok_X7_isTone (by decide) rfl rfl (Nat.le_of_ble_eq_true rfl) (c_M_isTone) ?_
                refine mw_if_eq (tgt := 96) dX7_readTune_89 (by decide) (by split <;> omega) (fun c_89 => ?_) (fun c_89 => ?_)
                · have hto : ¬ vl t L x < 12 := fun q => by rw [if_pos ((tone_c hvb).mpr q)] at c_89; exact absurd c_89 (by decide)
                  refine mw_iconst dX7_readTune_96 ?_
                  refine mw_Vv (ci := 7) dX7_readTune_97 ml_X7_245 ok_X7_must (by decide) (by first | rfl | assumption) (by decide) rfl rfl rfl (Nat.le_of_ble_eq_true rfl) (c_M_must hP2 h5 hx (by omega) (by omega)) (fun m_97 h_97 => ?_)
                  obtain ⟨r1, x1, v1, k1, q1⟩ := h_97
                  have b1 := mP_bd q1 hx
                  refine mw_ii4 dX7_readTune_100 (by decide) rfl ?_
                  refine mw_goto (tgt := 24) dX7_readTune_103 (by decide) ?_
                  first
                  | (exfalso; omega)
                  | (obtain ⟨rfl, rfl⟩ := mP_n q1 rfl
                     refine ih _ _ _ _ _ _ _ (by omega) (by omega) (h4.tr r1) k1 hx (Or.inl ⟨rfl, ?_⟩)
                     have g8 : tuN t L (12 - k).toNat (eAt t L k.toNat (tE t L (tE t L e))) = 0 := by
                       cases hq : (12 - k).toNat with
                       | zero => rfl
                       | succ q => rw [tuN, if_neg (fun p => by rw [← g5] at p; omega)]
                     have hkn : k.toNat = tuN t L 12 (tE t L (tE t L e)) := by omega
                     unfold pTune
                     rw [if_neg g2, if_neg (fun p => p.2 (by rw [← hkn, ← g5]; exact c_36)), ← hkn]
                     exact ⟨rfl, g5⟩)
                  | (subst g1
                     obtain ⟨rfl, rfl⟩ := mP_y q1 (by decide)
                     have hk12 : k < 12 := by omega
                     rw [show (12 - k).toNat = (12 - (k + 1)).toNat + 1 by omega, tuN, if_pos (by rw [← g5]; exact ⟨c_36, by omega⟩)] at g7
                     refine ih _ _ _ _ _ _ _ (by omega) (by omega) (h4.tr r1) k1 b1.1 (Or.inr ⟨rfl, g2, g3, by omega, ?_, ?_, ?_⟩)
                     · rw [show (k + 1).toNat = k.toNat + 1 by omega, eAt_s, ← g5]
                     · rw [g6, show (k + 1).toNat = k.toNat + 1 by omega, pkT, ← g5, show vl t L x = ((tV t L x).toNat : Int) by omega]
                       exact or_pk (by omega) (pkT_lt k.toNat (fun i q => (hr.2 i (by omega)).2)) (by omega)
                     · rw [show (k + 1).toNat = k.toNat + 1 by omega, eAt_s]
                       omega)
                · have hto : vl t L x < 12 := (tone_c hvb).mp (Classical.byContradiction (fun q => c_89 (if_neg q)))
                  refine mw_iconst dX7_readTune_92 ?_
                  refine mw_goto (tgt := 97) dX7_readTune_93 (by decide) ?_
                  refine mw_Vv (ci := 7) dX7_readTune_97 ml_X7_245 ok_X7_must (by decide) (by first | rfl | assumption) (by decide) rfl rfl rfl (Nat.le_of_ble_eq_true rfl) (c_M_must hP2 h5 hx (by omega) (by omega)) (fun m_97 h_97 => ?_)
                  obtain ⟨r1, x1, v1, k1, q1⟩ := h_97
                  have b1 := mP_bd q1 hx
                  refine mw_ii4 dX7_readTune_100 (by decide) rfl ?_
                  refine mw_goto (tgt := 24) dX7_readTune_103 (by decide) ?_
                  first
                  | (exfalso; omega)
                  | (obtain ⟨rfl, rfl⟩ := mP_n q1 rfl
                     refine ih _ _ _ _ _ _ _ (by omega) (by omega) (h4.tr r1) k1 hx (Or.inl ⟨rfl, ?_⟩)
                     have g8 : tuN t L (12 - k).toNat (eAt t L k.toNat (tE t L (tE t L e))) = 0 := by
                       cases hq : (12 - k).toNat with
                       | zero => rfl
                       | succ q => rw [tuN, if_neg (fun p => by rw [← g5] at p; omega)]
                     have hkn : k.toNat = tuN t L 12 (tE t L (tE t L e)) := by omega
                     unfold pTune
                     rw [if_neg g2, if_neg (fun p => p.2 (by rw [← hkn, ← g5]; exact c_36)), ← hkn]
                     exact ⟨rfl, g5⟩)
                  | (subst g1
                     obtain ⟨rfl, rfl⟩ := mP_y q1 (by decide)
                     have hk12 : k < 12 := by omega
                     rw [show (12 - k).toNat = (12 - (k + 1)).toNat + 1 by omega, tuN, if_pos (by rw [← g5]; exact ⟨c_36, by omega⟩)] at g7
                     refine ih _ _ _ _ _ _ _ (by omega) (by omega) (h4.tr r1) k1 b1.1 (Or.inr ⟨rfl, g2, g3, by omega, ?_, ?_, ?_⟩)
                     · rw [show (k + 1).toNat = k.toNat + 1 by omega, eAt_s, ← g5]
                     · rw [g6, show (k + 1).toNat = k.toNat + 1 by omega, pkT, ← g5, show vl t L x = ((tV t L x).toNat : Int) by omega]
                       exact or_pk (by omega) (pkT_lt k.toNat (fun i q => (hr.2 i (by omega)).2)) (by omega)
                     · rw [show (k + 1).toNat = k.toNat + 1 by omega, eAt_s]
                       omega)
  refine mw_aload_n dX7_readTune_0 rfl ?_
  refine mw_iconst dX7_readTune_1 ?_
  refine mw_Vv (ci := 7) dX7_readTune_2 ml_X7_245 ok_X7_must (by decide) (by first | rfl | assumption) (by decide) rfl rfl rfl (Nat.le_of_ble_eq_true rfl) (c_M_must hP hK hE (by omega) (by omega)) (fun m_2 h_2 => ?_)
  obtain ⟨r1, x1, v1, k1, q1⟩ := h_2
  obtain ⟨rfl, rfl⟩ := mP_y q1 (by decide)
  have P1 := hP.rf r1
  refine mw_aload_n dX7_readTune_5 rfl ?_
  refine mw_iconst dX7_readTune_6 ?_
  refine mw_iconst dX7_readTune_7 ?_
  refine mw_Vi (ci := 7) dX7_readTune_8 ml_X7_256 ok_X7_number (by decide) (by first | rfl | assumption) (by decide) rfl rfl rfl (Nat.le_of_ble_eq_true rfl) (c_M_number P1 k1 E1 (by omega) (by omega)) (fun z_8 m_8 h_8 => ?_)
  obtain ⟨g8, r2, x2, v2, k2, q2⟩ := h_8
  have b2 := mP_bd q2 E1
  have P2 := P1.rf r2
  refine mw_is1 dX7_readTune_11 (by decide) rfl ?_
  refine mw_aload_n dX7_readTune_12 rfl ?_
  refine mw_iconst dX7_readTune_13 ?_
  refine mw_bipush dX7_readTune_14 (by decide +kernel) ?_
  refine mw_Vi (ci := 7) dX7_readTune_16 ml_X7_256 ok_X7_number (by decide) (by first | rfl | assumption) (by decide) rfl rfl rfl (Nat.le_of_ble_eq_true rfl) (c_M_number P2 k2 b2.1 b2.2 (by omega)) (fun z_16 m_16 h_16 => ?_)
  obtain ⟨g16, r3, x3, v3, k3, q3⟩ := h_16
  have b3 := mP_bd q3 b2.1
  refine mw_i2l dX7_readTune_19 ?_
  refine mw_ls2 dX7_readTune_20 (by decide) rfl ?_
  refine mw_iconst dX7_readTune_21 ?_
  refine mw_is4 dX7_readTune_22 (by decide) rfl ?_
  refine lp 14 _ _ 1 _ _ _ _ (by omega) (by omega) (r1.tr (r2.tr r3)) k3 b3.1 ?_
  by_cases c1 : nmI t L (tE t L e) 1 = 0
  · left
    obtain ⟨rfl, rfl⟩ := mP_n q2 c1
    obtain ⟨rfl, rfl⟩ := mP_1 q3
    unfold pTune
    rw [if_pos c1]
    exact ⟨rfl, rfl, rfl⟩
  · obtain ⟨rfl, rfl⟩ := mP_y q2 c1
    by_cases c2 : nmI t L (tE t L (tE t L e)) 11 = 0
    · left
      obtain ⟨rfl, rfl⟩ := mP_n q3 c2
      have hz : tuN t L 12 (tE t L (tE t L e)) = 0 := by rw [tuN, if_neg (nm_0 c2)]
      unfold pTune
      rw [if_neg c1, hz, if_neg (fun p => absurd p.1 (by decide))]
      exact ⟨rfl, rfl, rfl⟩
    · right
      obtain ⟨rfl, rfl⟩ := mP_y q3 c2
      have d := nm_1 c2
      have hv0 := tV_0 t L (tE t L (tE t L e))
      refine ⟨rfl, c1, by rw [g8, vl_nm c1 (by decide)], by omega, rfl, ?_, ?_⟩
      · rw [g16, vl_nm c2 (by decide)]
        show _ = lN (0 + (tV t L (tE t L (tE t L e))).toNat * 1)
        rw [Nat.mul_one, Nat.zero_add]
        apply Int64.toBitVec.inj
        have hq := v_tab (tV t L (tE t L (tE t L e))).toNat (by omega)
        rw [show (((tV t L (tE t L (tE t L e))).toNat : Nat) : Int) = tV t L (tE t L (tE t L e)) by omega] at hq
        exact hq
      · show 1 + tuN t L 11 (tE t L (tE t L (tE t L e))) = tuN t L 12 (tE t L (tE t L e))
        exact (show tuN t L (11 + 1) (tE t L (tE t L e)) = 1 + tuN t L 11 (tE t L (tE t L (tE t L e))) by rw [tuN, if_pos d]).symm

set_option maxHeartbeats 4000000 in
set_option maxRecDepth 100000 in
theorem c_C_tellAttache {G : mG} {μ : mMem} {t : Int → Int} {L e : Int} (hT : TP μ t L) (hK : TK μ t L e) (hE : 0 ≤ e ∧ e ≤ L) {F : Int → Int} (hF : FUG μ 29 F) (hI : fInv F) {k : Int} (hk : 0 ≤ k ∧ k < 6) (h8 : F 1 < 8) : mM G yX2_tellAttache cX2_tellAttache 6 (some .boolean) 6 [.ref 45, .ref 29, .int (iV k)] μ (qP μ t L (pAtt t L F k e)) := by
  have E1 := tE_ok (t := t) hE
  have E2 := tE_ok (t := t) E1
  have E3 := tE_ok (t := t) E2
  have E4 := tE_ok (t := t) E3
  have E5 := tE_ok (t := t) E4
  have E6 := tE_ok (t := t) E5
  have E7 := tE_ok (t := t) E6
  have hL := hT.2.1
  refine mM.of (lv := [some (.ref 45), some (.ref 29), some (.int (iV k)), none, none, none]) 3 (by decide +kernel) (Nat.le_of_ble_eq_true rfl) rfl ?_
  intro X
  refine mw_aload_n dX2_tellAttache_0 rfl ?_
  refine mw_Vv (ci := 2) dX2_tellAttache_1 ml_X2_28 ok_X2_advance (by decide) (by first | rfl | assumption) (by decide) rfl rfl rfl (Nat.le_of_ble_eq_true rfl) (c_C_advance hT hK.2.2.1 E1) (fun m_1 h_1 => ?_)
  have s_1 := h_1.1
  have T_1 := hT.sc s_1
  refine mw_aload_n dX2_tellAttache_4 rfl ?_
  refine mw_ldcS (i := 6) (tx := "of") dX2_tellAttache_5 (by decide +kernel) ?_
  refine mw_Vpi (ci := 2) dX2_tellAttache_7 ml_X2_37 ok_X2_isWord (by decide) (by first | rfl | assumption) (by decide) rfl rfl rfl (Nat.le_of_ble_eq_true rfl) (c_C_isWord T_1 h_1.2 E1 (by omega)) ?_
  refine mw_if_ne (tgt := 15) dX2_tellAttache_10 (by decide) (by have := wd_c t L (tE t L e) 6; omega) (fun c_10 => ?_) (fun c_10 => ?_)
  · refine mw_aload_n dX2_tellAttache_15 rfl ?_
    refine mw_Vv (ci := 2) dX2_tellAttache_16 ml_X2_28 ok_X2_advance (by decide) (by first | rfl | assumption) (by decide) rfl rfl rfl (Nat.le_of_ble_eq_true rfl) (c_C_advance T_1 h_1.2.2.2.1 E2) (fun m_16 h_16 => ?_)
    have s_16 := s_1.tr h_16.1
    have T_16 := hT.sc s_16
    refine mw_aload_n dX2_tellAttache_19 rfl ?_
    refine mw_iconst dX2_tellAttache_20 ?_
    refine mw_Vpi (ci := 2) dX2_tellAttache_21 ml_X2_58 ok_X2_isNumberTo (by decide) (by first | rfl | assumption) (by decide) rfl rfl rfl (Nat.le_of_ble_eq_true rfl) (c_C_isNumberTo T_16 h_16.2 E2 (by omega)) ?_
    refine mw_if_ne (tgt := 29) dX2_tellAttache_24 (by decide) (by have := nm_c t L (tE t L (tE t L e)) 1; omega) (fun c_24 => ?_) (fun c_24 => ?_)
    · have d24 := nm_1 c_24
      have v24 := tV_0 t L (tE t L (tE t L e))
      refine mw_aload_n dX2_tellAttache_29 rfl ?_
      refine mw_getI 4 dX2_tellAttache_30 gs_X2_25 (by first | rfl | assumption) rfl rfl ?_
      rw [h_16.2.2.2.2 d24.1, show min (tV t L (tE t L (tE t L e))) 1000 = tV t L (tE t L (tE t L e)) by omega]
      refine mw_is3 dX2_tellAttache_33 (by decide) rfl ?_
      refine mw_iconst dX2_tellAttache_34 ?_
      refine mw_is4 dX2_tellAttache_35 (by decide) rfl ?_
      refine mw_iconst dX2_tellAttache_37 ?_
      refine mw_is5 dX2_tellAttache_38 (by decide) rfl ?_
      refine mw_aload_n dX2_tellAttache_40 rfl ?_
      refine mw_Vv (ci := 2) dX2_tellAttache_41 ml_X2_28 ok_X2_advance (by decide) (by first | rfl | assumption) (by decide) rfl rfl rfl (Nat.le_of_ble_eq_true rfl) (c_C_advance T_16 h_16.2.2.2.1 E3) (fun m_41 h_41 => ?_)
      have s_41 := s_16.tr h_41.1
      have T_41 := hT.sc s_41
      refine mw_aload_n dX2_tellAttache_44 rfl ?_
      refine mw_ldcS (i := 7) (tx := "key") dX2_tellAttache_45 (by decide +kernel) ?_
      refine mw_Vpi (ci := 2) dX2_tellAttache_47 ml_X2_37 ok_X2_isWord (by decide) (by first | rfl | assumption) (by decide) rfl rfl rfl (Nat.le_of_ble_eq_true rfl) (c_C_isWord T_41 h_41.2 E3 (by omega)) ?_
      refine mw_if_eq (tgt := 78) dX2_tellAttache_50 (by decide) (by have := wd_c t L (tE t L (tE t L (tE t L e))) 7; omega) (fun c_50 => ?_) (fun c_50 => ?_)
      · refine mw_aload_n dX2_tellAttache_78 rfl ?_
        refine mw_ldcS (i := 8) (tx := "blot") dX2_tellAttache_79 (by decide +kernel) ?_
        refine mw_Vpi (ci := 2) dX2_tellAttache_81 ml_X2_37 ok_X2_isWord (by decide) (by first | rfl | assumption) (by decide) rfl rfl rfl (Nat.le_of_ble_eq_true rfl) (c_C_isWord T_41 h_41.2 E3 (by omega)) ?_
        refine mw_if_eq (tgt := 114) dX2_tellAttache_84 (by decide) (by have := wd_c t L (tE t L (tE t L (tE t L e))) 8; omega) (fun c_84 => ?_) (fun c_84 => ?_)
        · refine mw_aload_n dX2_tellAttache_114 rfl ?_
          refine mw_iload_n dX2_tellAttache_115 rfl ?_
          refine mw_iload_n dX2_tellAttache_116 rfl ?_
          refine mw_iload dX2_tellAttache_117 rfl ?_
          refine mw_iload dX2_tellAttache_119 rfl ?_
          refine mw_Vv (ci := 1) dX2_tellAttache_121 ml_X2_84 ok_X1_engage (by decide) (by first | rfl | assumption) (by decide) rfl rfl rfl (Nat.le_of_ble_eq_true rfl) (c_F_engage bk29 (hF.sc hI s_41) hI h8) (fun m_121 h_121 => ?_)
          refine mw_iconst dX2_tellAttache_124 ?_
          refine mw_zret dX2_tellAttache_125 rfl (by decide +kernel) ?_
          refine ⟨_, rfl, ?_⟩
          unfold pAtt
          rw [if_neg c_10, if_neg c_24]
          unfold pKey
          rw [if_pos c_50]
          unfold pBlot
          rw [if_pos c_84]
          exact ⟨rfl, h_41.2.fr (h_121.2.1 45 (by omega)), s_41.tf.tr h_121.2.tf, fun _ => h_121.1⟩
        · refine mw_aload_n dX2_tellAttache_87 rfl ?_
          refine mw_Vv (ci := 2) dX2_tellAttache_88 ml_X2_28 ok_X2_advance (by decide) (by first | rfl | assumption) (by decide) rfl rfl rfl (Nat.le_of_ble_eq_true rfl) (c_C_advance T_41 h_41.2.2.2.1 E4) (fun m_88 h_88 => ?_)
          have s_88 := s_41.tr h_88.1
          have T_88 := hT.sc s_88
          refine mw_aload_n dX2_tellAttache_91 rfl ?_
          refine mw_bipush dX2_tellAttache_92 (by decide +kernel) ?_
          refine mw_Vpi (ci := 2) dX2_tellAttache_94 ml_X2_58 ok_X2_isNumberTo (by decide) (by first | rfl | assumption) (by decide) rfl rfl rfl (Nat.le_of_ble_eq_true rfl) (c_C_isNumberTo T_88 h_88.2 E4 (by omega)) ?_
          refine mw_if_ne (tgt := 102) dX2_tellAttache_97 (by decide) (by have := nm_c t L (tE t L (tE t L (tE t L (tE t L e)))) 11; omega) (fun c_97 => ?_) (fun c_97 => ?_)
          · have d97 := nm_1 c_97
            have v97 := tV_0 t L (tE t L (tE t L (tE t L (tE t L e))))
            refine mw_iconst dX2_tellAttache_102 ?_
            refine mw_aload_n dX2_tellAttache_103 rfl ?_
            refine mw_getI 4 dX2_tellAttache_104 gs_X2_25 (by first | rfl | assumption) rfl rfl ?_
            rw [h_88.2.2.2.2 d97.1, show min (tV t L (tE t L (tE t L (tE t L (tE t L e))))) 1000 = tV t L (tE t L (tE t L (tE t L (tE t L e)))) by omega]
            refine mw_ishl dX2_tellAttache_107 ?_
            refine mw_is5 dX2_tellAttache_108 (by decide) rfl ?_
            refine mw_aload_n dX2_tellAttache_110 rfl ?_
            refine mw_Vv (ci := 2) dX2_tellAttache_111 ml_X2_28 ok_X2_advance (by decide) (by first | rfl | assumption) (by decide) rfl rfl rfl (Nat.le_of_ble_eq_true rfl) (c_C_advance T_88 h_88.2.2.2.1 E5) (fun m_111 h_111 => ?_)
            have s_111 := s_88.tr h_111.1
            have T_111 := hT.sc s_111
            refine mw_aload_n dX2_tellAttache_114 rfl ?_
            refine mw_iload_n dX2_tellAttache_115 rfl ?_
            refine mw_iload_n dX2_tellAttache_116 rfl ?_
            refine mw_iload dX2_tellAttache_117 rfl ?_
            refine mw_iload dX2_tellAttache_119 rfl ?_
            refine mw_Vv (ci := 1) dX2_tellAttache_121 ml_X2_84 ok_X1_engage (by decide) (by first | rfl | assumption) (by decide) rfl rfl rfl (Nat.le_of_ble_eq_true rfl) (c_F_engage bk29 (hF.sc hI s_111) hI h8) (fun m_121 h_121 => ?_)
            refine mw_iconst dX2_tellAttache_124 ?_
            refine mw_zret dX2_tellAttache_125 rfl (by decide +kernel) ?_
            refine ⟨_, rfl, ?_⟩
            unfold pAtt
            rw [if_neg c_10, if_neg c_24]
            unfold pKey
            rw [if_pos c_50]
            unfold pBlot
            rw [if_neg c_84, if_neg c_97]
            exact ⟨rfl, h_111.2.fr (h_121.2.1 45 (by omega)), s_111.tf.tr h_121.2.tf, fun _ => h_121.1⟩
          · refine mw_iconst dX2_tellAttache_100 ?_
            refine mw_zret dX2_tellAttache_101 rfl (by decide +kernel) ?_
            refine ⟨_, rfl, ?_⟩
            unfold pAtt
            rw [if_neg c_10, if_neg c_24]
            unfold pKey
            rw [if_pos c_50]
            unfold pBlot
            rw [if_neg c_84, if_pos c_97]
            exact ⟨rfl, h_88.2, s_88.tf, fun q => absurd rfl q⟩
      · refine mw_aload_n dX2_tellAttache_53 rfl ?_
        refine mw_Vv (ci := 2) dX2_tellAttache_54 ml_X2_28 ok_X2_advance (by decide) (by first | rfl | assumption) (by decide) rfl rfl rfl (Nat.le_of_ble_eq_true rfl) (c_C_advance T_41 h_41.2.2.2.1 E4) (fun m_54 h_54 => ?_)
        have s_54 := s_41.tr h_54.1
        have T_54 := hT.sc s_54
        refine mw_aload_n dX2_tellAttache_57 rfl ?_
        refine mw_bipush dX2_tellAttache_58 (by decide +kernel) ?_
        refine mw_Vpi (ci := 2) dX2_tellAttache_60 ml_X2_58 ok_X2_isNumberTo (by decide) (by first | rfl | assumption) (by decide) rfl rfl rfl (Nat.le_of_ble_eq_true rfl) (c_C_isNumberTo T_54 h_54.2 E4 (by omega)) ?_
        refine mw_if_ne (tgt := 68) dX2_tellAttache_63 (by decide) (by have := nm_c t L (tE t L (tE t L (tE t L (tE t L e)))) 11; omega) (fun c_63 => ?_) (fun c_63 => ?_)
        · have d63 := nm_1 c_63
          have v63 := tV_0 t L (tE t L (tE t L (tE t L (tE t L e))))
          refine mw_aload_n dX2_tellAttache_68 rfl ?_
          refine mw_getI 4 dX2_tellAttache_69 gs_X2_25 (by first | rfl | assumption) rfl rfl ?_
          rw [h_54.2.2.2.2 d63.1, show min (tV t L (tE t L (tE t L (tE t L (tE t L e))))) 1000 = tV t L (tE t L (tE t L (tE t L (tE t L e)))) by omega]
          refine mw_is4 dX2_tellAttache_72 (by decide) rfl ?_
          refine mw_aload_n dX2_tellAttache_74 rfl ?_
          refine mw_Vv (ci := 2) dX2_tellAttache_75 ml_X2_28 ok_X2_advance (by decide) (by first | rfl | assumption) (by decide) rfl rfl rfl (Nat.le_of_ble_eq_true rfl) (c_C_advance T_54 h_54.2.2.2.1 E5) (fun m_75 h_75 => ?_)
          have s_75 := s_54.tr h_75.1
          have T_75 := hT.sc s_75
          refine mw_aload_n dX2_tellAttache_78 rfl ?_
          refine mw_ldcS (i := 8) (tx := "blot") dX2_tellAttache_79 (by decide +kernel) ?_
          refine mw_Vpi (ci := 2) dX2_tellAttache_81 ml_X2_37 ok_X2_isWord (by decide) (by first | rfl | assumption) (by decide) rfl rfl rfl (Nat.le_of_ble_eq_true rfl) (c_C_isWord T_75 h_75.2 E5 (by omega)) ?_
          refine mw_if_eq (tgt := 114) dX2_tellAttache_84 (by decide) (by have := wd_c t L (tE t L (tE t L (tE t L (tE t L (tE t L e))))) 8; omega) (fun c_84 => ?_) (fun c_84 => ?_)
          · refine mw_aload_n dX2_tellAttache_114 rfl ?_
            refine mw_iload_n dX2_tellAttache_115 rfl ?_
            refine mw_iload_n dX2_tellAttache_116 rfl ?_
            refine mw_iload dX2_tellAttache_117 rfl ?_
            refine mw_iload dX2_tellAttache_119 rfl ?_
            refine mw_Vv (ci := 1) dX2_tellAttache_121 ml_X2_84 ok_X1_engage (by decide) (by first | rfl | assumption) (by decide) rfl rfl rfl (Nat.le_of_ble_eq_true rfl) (c_F_engage bk29 (hF.sc hI s_75) hI h8) (fun m_121 h_121 => ?_)
            refine mw_iconst dX2_tellAttache_124 ?_
            refine mw_zret dX2_tellAttache_125 rfl (by decide +kernel) ?_
            refine ⟨_, rfl, ?_⟩
            unfold pAtt
            rw [if_neg c_10, if_neg c_24]
            unfold pKey
            rw [if_neg c_50, if_neg c_63]
            unfold pBlot
            rw [if_pos c_84]
            exact ⟨rfl, h_75.2.fr (h_121.2.1 45 (by omega)), s_75.tf.tr h_121.2.tf, fun _ => h_121.1⟩
          · refine mw_aload_n dX2_tellAttache_87 rfl ?_
            refine mw_Vv (ci := 2) dX2_tellAttache_88 ml_X2_28 ok_X2_advance (by decide) (by first | rfl | assumption) (by decide) rfl rfl rfl (Nat.le_of_ble_eq_true rfl) (c_C_advance T_75 h_75.2.2.2.1 E6) (fun m_88 h_88 => ?_)
            have s_88 := s_75.tr h_88.1
            have T_88 := hT.sc s_88
            refine mw_aload_n dX2_tellAttache_91 rfl ?_
            refine mw_bipush dX2_tellAttache_92 (by decide +kernel) ?_
            refine mw_Vpi (ci := 2) dX2_tellAttache_94 ml_X2_58 ok_X2_isNumberTo (by decide) (by first | rfl | assumption) (by decide) rfl rfl rfl (Nat.le_of_ble_eq_true rfl) (c_C_isNumberTo T_88 h_88.2 E6 (by omega)) ?_
            refine mw_if_ne (tgt := 102) dX2_tellAttache_97 (by decide) (by have := nm_c t L (tE t L (tE t L (tE t L (tE t L (tE t L (tE t L e)))))) 11; omega) (fun c_97 => ?_) (fun c_97 => ?_)
            · have d97 := nm_1 c_97
              have v97 := tV_0 t L (tE t L (tE t L (tE t L (tE t L (tE t L (tE t L e))))))
              refine mw_iconst dX2_tellAttache_102 ?_
              refine mw_aload_n dX2_tellAttache_103 rfl ?_
              refine mw_getI 4 dX2_tellAttache_104 gs_X2_25 (by first | rfl | assumption) rfl rfl ?_
              rw [h_88.2.2.2.2 d97.1, show min (tV t L (tE t L (tE t L (tE t L (tE t L (tE t L (tE t L e))))))) 1000 = tV t L (tE t L (tE t L (tE t L (tE t L (tE t L (tE t L e)))))) by omega]
              refine mw_ishl dX2_tellAttache_107 ?_
              refine mw_is5 dX2_tellAttache_108 (by decide) rfl ?_
              refine mw_aload_n dX2_tellAttache_110 rfl ?_
              refine mw_Vv (ci := 2) dX2_tellAttache_111 ml_X2_28 ok_X2_advance (by decide) (by first | rfl | assumption) (by decide) rfl rfl rfl (Nat.le_of_ble_eq_true rfl) (c_C_advance T_88 h_88.2.2.2.1 E7) (fun m_111 h_111 => ?_)
              have s_111 := s_88.tr h_111.1
              have T_111 := hT.sc s_111
              refine mw_aload_n dX2_tellAttache_114 rfl ?_
              refine mw_iload_n dX2_tellAttache_115 rfl ?_
              refine mw_iload_n dX2_tellAttache_116 rfl ?_
              refine mw_iload dX2_tellAttache_117 rfl ?_
              refine mw_iload dX2_tellAttache_119 rfl ?_
              refine mw_Vv (ci := 1) dX2_tellAttache_121 ml_X2_84 ok_X1_engage (by decide) (by first | rfl | assumption) (by decide) rfl rfl rfl (Nat.le_of_ble_eq_true rfl) (c_F_engage bk29 (hF.sc hI s_111) hI h8) (fun m_121 h_121 => ?_)
              refine mw_iconst dX2_tellAttache_124 ?_
              refine mw_zret dX2_tellAttache_125 rfl (by decide +kernel) ?_
              refine ⟨_, rfl, ?_⟩
              unfold pAtt
              rw [if_neg c_10, if_neg c_24]
              unfold pKey
              rw [if_neg c_50, if_neg c_63]
              unfold pBlot
              rw [if_neg c_84, if_neg c_97]
              exact ⟨rfl, h_111.2.fr (h_121.2.1 45 (by omega)), s_111.tf.tr h_121.2.tf, fun _ => h_121.1⟩
            · refine mw_iconst dX2_tellAttache_100 ?_
              refine mw_zret dX2_tellAttache_101 rfl (by decide +kernel) ?_
              refine ⟨_, rfl, ?_⟩
              unfold pAtt
              rw [if_neg c_10, if_neg c_24]
              unfold pKey
              rw [if_neg c_50, if_neg c_63]
              unfold pBlot
              rw [if_neg c_84, if_pos c_97]
              exact ⟨rfl, h_88.2, s_88.tf, fun q => absurd rfl q⟩
        · refine mw_iconst dX2_tellAttache_66 ?_
          refine mw_zret dX2_tellAttache_67 rfl (by decide +kernel) ?_
          refine ⟨_, rfl, ?_⟩
          unfold pAtt
          rw [if_neg c_10, if_neg c_24]
          unfold pKey
          rw [if_neg c_50, if_pos c_63]
          exact ⟨rfl, h_54.2, s_54.tf, fun q => absurd rfl q⟩
    · refine mw_iconst dX2_tellAttache_27 ?_
      refine mw_zret dX2_tellAttache_28 rfl (by decide +kernel) ?_
      refine ⟨_, rfl, ?_⟩
      unfold pAtt
      rw [if_neg c_10, if_pos c_24]
      exact ⟨rfl, h_16.2, s_16.tf, fun q => absurd rfl q⟩
  · refine mw_iconst dX2_tellAttache_13 ?_
    refine mw_zret dX2_tellAttache_14 rfl (by decide +kernel) ?_
    refine ⟨_, rfl, ?_⟩
    unfold pAtt
    rw [if_pos c_10]
    exact ⟨rfl, h_1.2, s_1.tf, fun q => absurd rfl q⟩
set_option maxHeartbeats 4000000 in
set_option maxRecDepth 100000 in
theorem c_C_tellItem {G : mG} {μ : mMem} {t : Int → Int} {L e : Int} (hT : TP μ t L) (hK : TK μ t L e) (hE : 0 ≤ e ∧ e ≤ L) {F : Int → Int} (hF : FUG μ 29 F) (hI : fInv F) : mM G yX2_tellItem cX2_tellItem 3 (some .boolean) 7 [.ref 45, .ref 29] μ (qP μ t L (pItem t L F e)) := by
  have hn := hI.2.1
  have hkd := kdL_r t L e 6 0
  refine mM.of (lv := [some (.ref 45), some (.ref 29), none]) 1 (by decide +kernel) (Nat.le_of_ble_eq_true rfl) rfl ?_
  intro X
  refine mw_aload_n dX2_tellItem_0 rfl ?_
  refine mw_ldcS (i := 9) (tx := "tune") dX2_tellItem_1 (by decide +kernel) ?_
  refine mw_Vpi (ci := 2) dX2_tellItem_3 ml_X2_37 ok_X2_isWord (by decide) (by first | rfl | assumption) (by decide) rfl rfl rfl (Nat.le_of_ble_eq_true rfl) (c_C_isWord hT hK hE (by omega)) ?_
  refine mw_if_eq (tgt := 15) dX2_tellItem_6 (by decide) (by have := wd_c t L e 9; omega) (fun c_6 => ?_) (fun c_6 => ?_)
  · refine mw_aload_n dX2_tellItem_15 rfl ?_
    refine mw_Vpi (ci := 2) dX2_tellItem_16 ml_X2_44 ok_X2_kindNamed (by decide) (by first | rfl | assumption) (by decide) rfl rfl rfl (Nat.le_of_ble_eq_true rfl) (c_C_kindNamed hT hK hE) ?_
    refine mw_is2 dX2_tellItem_19 (by decide) rfl ?_
    refine mw_iload_n dX2_tellItem_20 rfl ?_
    refine mw_iconst dX2_tellItem_21 ?_
    refine mw_icmp_eq (tgt := 32) dX2_tellItem_22 (by decide) (by omega) (by omega) (fun c_22 => ?_) (fun c_22 => ?_)
    · refine mw_iconst dX2_tellItem_32 ?_
      refine mw_zret dX2_tellItem_33 rfl (by decide +kernel) ?_
      refine ⟨_, rfl, ?_⟩
      unfold pItem
      rw [if_pos c_6, if_pos (by omega)]
      exact ⟨rfl, hK, TF.rf, fun q => absurd rfl q⟩
    · refine mw_aload_n dX2_tellItem_25 rfl ?_
      refine mw_Vpi (ci := 1) dX2_tellItem_26 ml_X2_48 ok_X1_isFull (by decide) (by first | rfl | assumption) (by decide) rfl rfl rfl (Nat.le_of_ble_eq_true rfl) (c_F_isFull bk29 (by rw [hF.1]; exact hn)) ?_
      rw [hF.1]
      refine mw_if_eq (tgt := 34) dX2_tellItem_29 (by decide) (by unfold fullI; split <;> omega) (fun c_29 => ?_) (fun c_29 => ?_)
      · have d_29 : F 1 < 8 := by
          unfold fullI at c_29
          split at c_29
          · cases c_29
          · omega
        refine mw_aload_n dX2_tellItem_34 rfl ?_
        refine mw_aload_n dX2_tellItem_35 rfl ?_
        refine mw_iload_n dX2_tellItem_36 rfl ?_
        refine mw_Vi (ci := 2) dX2_tellItem_37 ml_X2_54 ok_X2_tellAttache (by decide) (by first | rfl | assumption) (by decide) rfl rfl rfl (Nat.le_of_ble_eq_true rfl) (c_C_tellAttache hT hK hE hF hI (by omega) (by omega)) (fun z_37 m_37 h_37 => ?_)
        refine mw_zret dX2_tellItem_40 rfl (by rw [h_37.1]; rcases (pAtt_ok (t := t) (k := kdL t L e 6 0) hI (by omega) (by omega) hE).1 with h | h <;> rw [h] <;> decide +kernel) ?_
        refine ⟨_, rfl, ?_⟩
        unfold pItem
        rw [if_pos c_6, if_neg (by omega)]
        exact h_37
      · have d_29 : F 1 = 8 := by
          unfold fullI at c_29
          split at c_29
          · omega
          · exact absurd rfl c_29
        refine mw_iconst dX2_tellItem_32 ?_
        refine mw_zret dX2_tellItem_33 rfl (by decide +kernel) ?_
        refine ⟨_, rfl, ?_⟩
        unfold pItem
        rw [if_pos c_6, if_pos (by omega)]
        exact ⟨rfl, hK, TF.rf, fun q => absurd rfl q⟩
  · refine mw_aload_n dX2_tellItem_9 rfl ?_
    refine mw_aload_n dX2_tellItem_10 rfl ?_
    refine mw_Vi (ci := 2) dX2_tellItem_11 ml_X2_41 ok_X2_tellTune (by decide) (by first | rfl | assumption) (by decide) rfl rfl rfl (Nat.le_of_ble_eq_true rfl) (c_C_tellTune hT hK hE hF hI) (fun z_11 m_11 h_11 => ?_)
    refine mw_zret dX2_tellItem_14 rfl (by rw [h_11.1]; rcases (pTune_ok (t := t) hI hE).1 with h | h <;> rw [h] <;> decide +kernel) ?_
    refine ⟨_, rfl, ?_⟩
    unfold pItem
    rw [if_neg c_6]
    exact h_11
theorem pAff_in (t : Int → Int) {L : Int} (hL : L ≤ 120) : ∀ (n : Nat) (i e : Int) (F : Int → Int), 0 ≤ i → fInv F → (0 ≤ e ∧ e ≤ L) → -121 ≤ (pAff t L n i e F).1 ∧ (pAff t L n i e F).1 ≤ i + n
  | 0, i, e, F, h0, _, he => by
    have := tB_bd t he
    rw [pAff]
    show -121 ≤ -1 - tB t L e ∧ -1 - tB t L e ≤ i + (0 : Nat)
    omega
  | n + 1, i, e, F, h0, hI, he => by
    have hp := pItem_ok (t := t) hI he
    have hp6 : 0 ≤ (pItem t L F e).2.1 ∧ (pItem t L F e).2.1 ≤ L := by have := hp.2.1; omega
    have hb := tB_bd t hp6
    rw [pAff]
    split
    · show -121 ≤ -1 - tB t L _ ∧ -1 - tB t L _ ≤ _
      omega
    · split
      · show -121 ≤ i ∧ i ≤ _
        omega
      · split
        · rename_i h _ _
          have := pAff_in t hL n (i + 1) (tE t L (pItem t L F e).2.1) (pItem t L F e).2.2 (by omega) (hp.2.2 h) (tE_ok hp6)
          omega
        · show -121 ≤ -1 - tB t L _ ∧ -1 - tB t L _ ≤ _
          omega
theorem pAff_bd {t : Int → Int} {L : Int} (h : 0 ≤ L ∧ L ≤ 120) {F : Int → Int} (hI : fInv F) : -2147483648 ≤ (pAff t L 120 1 0 F).1 ∧ (pAff t L 120 1 0 F).1 ≤ 2147483647 := by
  have := pAff_in t h.2 120 1 0 F (by omega) hI (by omega)
  omega
theorem pAff_neg (t : Int → Int) {L : Int} {e : Int} (h : 0 ≤ e ∧ e ≤ L) : -1 - tB t L e < 0 := by
  have := tB_bd t h
  omega
set_option maxHeartbeats 4000000 in
set_option maxRecDepth 100000 in
theorem c_C_tellTo {G : mG} {μ : mMem} {t : Int → Int} {L : Int} (hT : TP μ t L) {F : Int → Int} (hF : FUG μ 29 F) (hI : fInv F) : mM G yX2_tellTo cX2_tellTo 3 (some .int) 8 [.ref 45, .ref 29] μ (qI (fun z m => z = (pAff t L 120 1 0 F).1 ∧ TF μ m ∧ (0 ≤ (pAff t L 120 1 0 F).1 → FUG m 29 (pAff t L 120 1 0 F).2 ∧ fInv (pAff t L 120 1 0 F).2))) := by
  have hL := hT.2.1
  refine mM.of (lv := [some (.ref 45), some (.ref 29), none]) 1 (by decide +kernel) (Nat.le_of_ble_eq_true rfl) rfl ?_
  intro X
  have lp : ∀ (n_ : Nat) (i e : Int) (F1 : Int → Int) (m : mMem), (1 ≤ i) → (i ≤ 121) → (122 ≤ i + n_) → (TF μ m) → (TK m t L e) → (0 ≤ e ∧ e ≤ L) → (FUG m 29 F1) → (fInv F1) → (pAff t L (121 - i).toNat i e F1 = pAff t L 120 1 0 F) → mW X cX2_tellTo 3 (some .int) yX2_tellTo.cls 8 G (qI (fun z m => z = (pAff t L 120 1 0 F).1 ∧ TF μ m ∧ (0 ≤ (pAff t L 120 1 0 F).1 → FUG m 29 (pAff t L 120 1 0 F).2 ∧ fInv (pAff t L 120 1 0 F).2))) 11 [some (.ref 45), some (.ref 29), some (.int (iV i))] [] m := by
    intro n_
    induction n_ with
    | zero =>
      intro i e F1 m h1 h2 h3 h4 h5 h6 h7 h8 h9
      omega
    | succ n_ ih =>
      intro i e F1 m h1 h2 h3 h4 h5 h6 h7 h8 h9
      have hT2 := hT.tf h4
      refine mw_iload_n dX2_tellTo_11 rfl ?_
      refine mw_bipush dX2_tellTo_12 (by decide +kernel) ?_
      refine mw_icmp_gt (tgt := 58) dX2_tellTo_14 (by decide) (by omega) (by omega) (fun c_14 => ?_) (fun c_14 => ?_)
      · refine mw_iconst dX2_tellTo_58 ?_
        refine mw_aload_n dX2_tellTo_59 rfl ?_
        refine mw_getI 2 dX2_tellTo_60 gs_X2_19 (by first | rfl | assumption) rfl rfl ?_
        rw [h5.2.1]
        refine mw_isub dX2_tellTo_63 ?_
        refine mw_iret dX2_tellTo_64 rfl ?_
        rw [show (121 - i).toNat = 0 by omega, pAff] at h9
        exact ⟨_, rfl, by rw [← h9], h4, fun q => by rw [← h9] at q; exact absurd q (Int.not_le.mpr (pAff_neg t h6))⟩
      · have hp := pItem_ok (t := t) h8 h6
        rw [show (121 - i).toNat = (121 - (i + 1)).toNat + 1 by omega, pAff] at h9
        refine mw_aload_n dX2_tellTo_17 rfl ?_
        refine mw_aload_n dX2_tellTo_18 rfl ?_
        refine mw_Vi (ci := 2) dX2_tellTo_19 ml_X2_31 ok_X2_tellItem (by decide) (by first | rfl | assumption) (by decide) rfl rfl rfl (Nat.le_of_ble_eq_true rfl) (c_C_tellItem hT2 h5 h6 h7 h8) (fun z_19 m_19 h_19 => ?_)
        obtain ⟨g1, g2, g3, g4⟩ := h_19
        have hT3 := hT2.tf g3
        have hc := cK_bd t L (pItem t L F1 e).2.1
        have hp6 : 0 ≤ (pItem t L F1 e).2.1 ∧ (pItem t L F1 e).2.1 ≤ L := by have := hp.2.1; omega
        have hng := pAff_neg t hp6
        refine mw_if_ne (tgt := 28) dX2_tellTo_22 (by decide) (by have := hp.1; omega) (fun c_22 => ?_) (fun c_22 => ?_)
        · refine mw_aload_n dX2_tellTo_28 rfl ?_
          refine mw_getI 1 dX2_tellTo_29 gs_X2_15 (by first | rfl | assumption) rfl rfl ?_
          rw [g2.1]
          refine mw_if_ne (tgt := 37) dX2_tellTo_32 (by decide) (by omega) (fun c_32 => ?_) (fun c_32 => ?_)
          · refine mw_aload_n dX2_tellTo_37 rfl ?_
            refine mw_getI 1 dX2_tellTo_38 gs_X2_15 (by first | rfl | assumption) rfl rfl ?_
            rw [g2.1]
            refine mw_iconst dX2_tellTo_41 ?_
            refine mw_icmp_eq (tgt := 48) dX2_tellTo_42 (by decide) (by omega) (by omega) (fun c_42 => ?_) (fun c_42 => ?_)
            · refine mw_aload_n dX2_tellTo_48 rfl ?_
              refine mw_Vv (ci := 2) dX2_tellTo_49 ml_X2_28 ok_X2_advance (by decide) (by first | rfl | assumption) (by decide) rfl rfl rfl (Nat.le_of_ble_eq_true rfl) (c_C_advance hT3 g2.2.2.1 (tE_ok hp6)) (fun m_49 h_49 => ?_)
              refine mw_ii2 dX2_tellTo_52 (by decide) rfl ?_
              refine mw_goto (tgt := 11) dX2_tellTo_55 (by decide) ?_
              rw [if_neg (by omega), if_neg (fun q => c_32 (cK_0.mpr q)), if_pos c_42] at h9
              exact ih _ _ _ _ (by omega) (by omega) (by omega) (h4.tr (g3.tr h_49.1.tf)) h_49.2 (tE_ok hp6) ((g4 (by omega)).sc (hp.2.2 (by omega)) h_49.1) (hp.2.2 (by omega)) h9
            · refine mw_goto (tgt := 58) dX2_tellTo_45 (by decide) ?_
              refine mw_iconst dX2_tellTo_58 ?_
              refine mw_aload_n dX2_tellTo_59 rfl ?_
              refine mw_getI 2 dX2_tellTo_60 gs_X2_19 (by first | rfl | assumption) rfl rfl ?_
              rw [g2.2.1]
              refine mw_isub dX2_tellTo_63 ?_
              refine mw_iret dX2_tellTo_64 rfl ?_
              rw [if_neg (by omega), if_neg (fun q => c_32 (cK_0.mpr q)), if_neg c_42] at h9
              exact ⟨_, rfl, by rw [← h9], h4.tr g3, fun q => by rw [← h9] at q; exact absurd q (Int.not_le.mpr hng)⟩
          · refine mw_iload_n dX2_tellTo_35 rfl ?_
            refine mw_iret dX2_tellTo_36 rfl ?_
            rw [if_neg (by omega), if_pos (cK_0.mp c_32)] at h9
            exact ⟨_, rfl, by rw [← h9], h4.tr g3, fun _ => by rw [← h9]; exact ⟨g4 (by omega), hp.2.2 (by omega)⟩⟩
        · refine mw_goto (tgt := 58) dX2_tellTo_25 (by decide) ?_
          refine mw_iconst dX2_tellTo_58 ?_
          refine mw_aload_n dX2_tellTo_59 rfl ?_
          refine mw_getI 2 dX2_tellTo_60 gs_X2_19 (by first | rfl | assumption) rfl rfl ?_
          rw [g2.2.1]
          refine mw_isub dX2_tellTo_63 ?_
          refine mw_iret dX2_tellTo_64 rfl ?_
          rw [if_pos (by omega)] at h9
          exact ⟨_, rfl, by rw [← h9], h4.tr g3, fun q => by rw [← h9] at q; exact absurd q (Int.not_le.mpr hng)⟩
  refine mw_aload_n dX2_tellTo_0 rfl ?_
  refine mw_iconst dX2_tellTo_1 ?_
  refine mw_putI 3 dX2_tellTo_2 ps_X2_22 (by first | rfl | assumption) rfl rfl ?_
  refine mw_aload_n dX2_tellTo_5 rfl ?_
  refine mw_Vv (ci := 2) dX2_tellTo_6 ml_X2_28 ok_X2_advance (by decide) (by first | rfl | assumption) (by decide) rfl rfl rfl (Nat.le_of_ble_eq_true rfl) (c_C_advance (hT.sc SC.st) (u1_s _ _ _ _) (by omega)) (fun m_6 h_6 => ?_)
  refine mw_iconst dX2_tellTo_9 ?_
  refine mw_is2 dX2_tellTo_10 (by decide) rfl ?_
  exact lp 121 _ _ _ _ (by omega) (by omega) (by omega) ((SC.st.tr h_6.1).tf) h_6.2 (by omega) (hF.sc hI (SC.st.tr h_6.1)) hI rfl
theorem XR.clear {μ : mMem} {st : aS} (h : XR μ st) (hI : SI st) : XR (u1 μ 43 1 0) (stT st (st.1 3) 0) := h.tape hI (fun c q1 q2 => by funext j; rw [u1_o (by omega)]) rfl (u1_s _ _ _ _) (fun i q1 q2 => by omega)
theorem clr_si {st : aS} (h : SI st) : SI (stT st (st.1 3) 0) := ⟨h.1, h.2.1, h.2.2.1, h.2.2.2.1, h.2.2.2.2.1, ⟨by show (0 : Int) ≤ 0; omega, by show (0 : Int) ≤ 120; omega⟩, h.2.2.2.2.2.2.1, h.2.2.2.2.2.2.2⟩
set_option maxHeartbeats 4000000 in
set_option maxRecDepth 100000 in
theorem c_X_affair {G : mG} {μ : mMem} {st : aS} (hX : XR μ st) (hI : SI st) : mM G yX6_affair cX6_affair 2 (some .int) 9 [.ref 0] μ (qX μ (sp_affair st)) := by
  obtain ⟨hF, hK, hkp, htl, htb, hfd, hsh⟩ := id hX
  have hFI := hI.1
  have ec := hF.1
  have hn := hFI.2.1
  have ed := hF.2.1
  have h0 := hFI.1
  have h99 := hI.2.1
  have hTP : TP μ (st.1 3) (st.1 2 1) := ⟨htl, hI.2.2.2.2.2.1, htb, fun i q1 q2 => hI.2.2.2.2.2.2.1 i q1 (by have := hI.2.2.2.2.2.1; omega)⟩
  refine mM.of (lv := [some (.ref 0), none]) 1 (by decide +kernel) (Nat.le_of_ble_eq_true rfl) rfl ?_
  intro X
  refine mw_aload_n dX6_affair_0 rfl ?_
  refine mw_Vv (ci := 6) dX6_affair_1 ml_X6_183 ok_X6_startTrial (by decide) (by first | rfl | assumption) (by decide) rfl rfl rfl (Nat.le_of_ble_eq_true rfl) (c_X_startTrial hF hFI) (fun m_1 h_1 => ?_)
  refine mw_aload_n dX6_affair_4 rfl ?_
  refine mw_gr_6_5 dX6_affair_5 gs_X6_38 (by first | rfl | assumption) ?_
  refine mw_aload_n dX6_affair_8 rfl ?_
  refine mw_gr_6_3 dX6_affair_9 gs_X6_23 (by first | rfl | assumption) ?_
  refine mw_Vi (ci := 2) dX6_affair_12 ml_X6_210 ok_X2_tellTo (by decide) (by first | rfl | assumption) (by decide) rfl rfl rfl (Nat.le_of_ble_eq_true rfl) (c_C_tellTo (hTP.tf h_1.2.tf) h_1.1 hFI) (fun z_12 m_12 h_12 => ?_)
  obtain ⟨g1, g2, g3⟩ := h_12
  have tf := h_1.2.tf.tr g2
  have hX2 := (hX.tf hI tf).clear hI
  have xf2 := tf.xf.tr (xf_0 (c := 43) (j := 1) (v := 0) (by omega))
  refine mw_is1 dX6_affair_15 (by decide) rfl ?_
  refine mw_aload_n dX6_affair_16 rfl ?_
  refine mw_gr_6_4 dX6_affair_17 gs_X6_29 (by first | rfl | assumption) ?_
  refine mw_Vpv (ci := 4) dX6_affair_20 ml_X6_209 ok_X4_clear (by decide) (by first | rfl | assumption) (by decide) rfl rfl rfl (Nat.le_of_ble_eq_true rfl) (c_P_clear rfl) ?_
  refine mw_iload_n dX6_affair_23 rfl ?_
  refine mw_if_lt (tgt := 38) dX6_affair_24 (by decide) (by rw [g1]; exact pAff_bd hI.2.2.2.2.2.1 hFI) (fun c_24 => ?_) (fun c_24 => ?_)
  · refine mw_iload_n dX6_affair_38 rfl ?_
    refine mw_iret dX6_affair_39 rfl ?_
    refine ⟨_, rfl, ?_⟩
    unfold sp_affair
    rw [if_pos (by omega)]
    exact ⟨g1, hX2, xf2⟩
  · have hf29 : 0 ≤ (pAff (st.1 3) (st.1 2 1) 120 1 0 (st.1 0)).1 → FUG (u1 m_12 43 1 0) 29 (pAff (st.1 3) (st.1 2 1) 120 1 0 (st.1 0)).2 := fun q => (g3 q).1.keep (g3 q).2.2.1.2 (fun c q1 q2 => by funext j; rw [u1_o (by omega)])
    refine mw_aload_n dX6_affair_27 rfl ?_
    refine mw_gr_6_0 dX6_affair_28 gs_X6_10 (by first | rfl | assumption) ?_
    refine mw_aload_n dX6_affair_31 rfl ?_
    refine mw_gr_6_3 dX6_affair_32 gs_X6_23 (by first | rfl | assumption) ?_
    refine mw_Vv (ci := 1) dX6_affair_35 ml_X6_214 ok_X1_become (by decide) (by first | rfl | assumption) (by decide) rfl rfl rfl (Nat.le_of_ble_eq_true rfl) (c_F_become bk1 bk29 (by decide) (hf29 (by omega)) (g3 (by omega)).2) (fun m_35 h_35 => ?_)
    refine mw_iload_n dX6_affair_38 rfl ?_
    refine mw_iret dX6_affair_39 rfl ?_
    refine ⟨_, rfl, ?_⟩
    unfold sp_affair
    rw [if_neg (by omega)]
    have hX3 := hX2.row (clr_si hI) h_35.1 h_35.2
    exact ⟨g1, hX3, xf2.tr (h_35.2.xf bk1)⟩

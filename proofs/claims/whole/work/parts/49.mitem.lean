theorem wd_S {t : Int → Int} {L e : Int} {i : Nat} (h : ¬ wdI t L e i = 0) : tS t L e = 1 := by
  unfold wdI at h
  by_cases q : tS t L e = 1 ∧ tE t L e - tB t L e = sLI i
  · exact q.1
  · rw [if_neg q] at h
    exact absurd rfl h
set_option maxHeartbeats 4000000 in
set_option maxRecDepth 100000 in
theorem c_M_readItem {G : mG} {μ : mMem} {t : Int → Int} {L : Int} (hP : RP μ t L) {e : Int} (hK : RK μ t L e 0) (hE : 0 ≤ e ∧ e ≤ L) {F : Int → Int} (hI : fInv F) (hA : μ.1 56 19 = F 1) {n : Int} (hn : μ.1 56 18 = n) (hN : 0 ≤ n ∧ n ≤ e) : mM G yX7_readItem cX7_readItem 3 none 8 [.ref 56] μ (qRd μ t L F n (pItem t L F e)) := by
  have h8 := hI.2.1
  refine mM.of (lv := [some (.ref 56), none, none]) 2 (by decide +kernel) (Nat.le_of_ble_eq_true rfl) rfl ?_
  intro X
  have lp : ∀ (n_ : Nat) (y k : Int), (0 ≤ k) → (k ≤ 6) → (7 ≤ k + n_) → ((y = -1 ∧ kdL t L e (6 - k).toNat k = kdL t L e 6 0) ∨ (0 ≤ y ∧ y < k ∧ y = kdL t L e 6 0 ∧ wdI t L e y.toNat = 1)) → mW X cX7_readItem 3 none yX7_readItem.cls 8 G (qRd μ t L F n (pItem t L F e)) 4 [some (.ref 56), some (.int (iV y)), some (.int (iV k))] [] μ := by
    intro n_
    induction n_ with
    | zero =>
      intro y k h1 h2 h3 h4
      omega
    | succ n_ ih =>
      intro y k h1 h2 h3 h4
      refine mw_iload_n dX7_readItem_4 rfl ?_
      refine mw_aload_n dX7_readItem_5 rfl ?_
      refine mw_gr_7_13 dX7_readItem_6 gs_X7_42 (by first | rfl | assumption) ?_
      refine mw_alen 6 dX7_readItem_9 (by decide) rfl ?_
      refine mw_icmp_ge (tgt := 38) dX7_readItem_10 (by decide) (by omega) (by omega) (fun c_10 => ?_) (fun c_10 => ?_)
      · rw [show (6 - k).toNat = 0 by omega, kdL] at h4
        refine mw_iload_n dX7_readItem_38 rfl ?_
        refine mw_if_lt (tgt := 50) dX7_readItem_39 (by decide) (by omega) (fun c_39 => ?_) (fun c_39 => ?_)
        · have hkd : kdL t L e 6 0 = -1 := by
            rcases h4 with h | h
            · exact h.2.symm
            · omega
          refine mw_aload_n dX7_readItem_50 rfl ?_
          refine mw_ldcSw (i := 9) (tx := "tune") dX7_readItem_51 (by decide +kernel) ?_
          refine mw_Vpi (ci := 7) dX7_readItem_54 ml_X7_252 ok_X7_isWord (by decide) (by first | rfl | assumption) (by decide) rfl rfl rfl (Nat.le_of_ble_eq_true rfl) (c_M_isWord hP hK hE (by omega) (by omega)) ?_
          refine mw_if_eq (tgt := 67) dX7_readItem_57 (by decide) (by have := wd_c t L e 9; omega) (fun c_57 => ?_) (fun c_57 => ?_)
          · refine mw_aload_n dX7_readItem_67 rfl ?_
            refine mw_iconst dX7_readItem_68 ?_
            refine mw_Vv (ci := 7) dX7_readItem_69 ml_X7_245 ok_X7_must (by decide) (by first | rfl | assumption) (by decide) rfl rfl rfl (Nat.le_of_ble_eq_true rfl) (c_M_must hP hK hE (by omega) (by omega)) (fun m_69 h_69 => ?_)
            refine mw_vret dX7_readItem_72 rfl ?_
            first
            | (obtain ⟨_, g⟩ := h_44
               have h9 := wd_one (i := y.toNat) (j := 9) (by omega) (by omega) (by omega) y3
               have ep : pItem t L F e = pA8 t L F y e := by
                 unfold pItem pA8
                 rw [if_pos h9, ← y2]
                 by_cases q : F 1 = 8
                 · rw [if_pos q, if_pos (Or.inr q)]
                 · rw [if_neg q, if_neg (by omega)]
               rw [ep]
               exact ⟨rfl, ‹_›, g⟩)
            | (have ep : pItem t L F e = pTune t L F e := by
                 unfold pItem
                 rw [if_neg c_57]
               rw [ep]
               exact ⟨rfl, h_61⟩)
            | (obtain ⟨r1, x1, v1, k1, q1⟩ := h_69
               obtain ⟨rfl, rfl⟩ := mP_n q1 rfl
               have ep : pItem t L F x1 = (0, x1, F) := by
                 unfold pItem
                 rw [if_pos c_57, if_pos (Or.inl hkd)]
               rw [ep]
               exact ⟨rfl, r1.af, r1.it n, _, _, k1, Or.inr ⟨rfl, rfl, rfl⟩⟩)
          · have hnn : n < 120 := (by have hs1 := wd_S c_57; have hsc := tS_c t L e; have hbb := tB_bd t hE; have hL := hP.2.1; omega)
            refine mw_aload_n dX7_readItem_60 rfl ?_
            refine mw_Vv (ci := 7) dX7_readItem_61 ml_X7_285 ok_X7_readTune (by decide) (by first | rfl | assumption) (by decide) rfl rfl rfl (Nat.le_of_ble_eq_true rfl) (c_M_readTune hP hK hE hI hA hn (by omega)) (fun m_61 h_61 => ?_)
            refine mw_goto (tgt := 72) dX7_readItem_64 (by decide) ?_
            refine mw_vret dX7_readItem_72 rfl ?_
            first
            | (obtain ⟨_, g⟩ := h_44
               have h9 := wd_one (i := y.toNat) (j := 9) (by omega) (by omega) (by omega) y3
               have ep : pItem t L F e = pA8 t L F y e := by
                 unfold pItem pA8
                 rw [if_pos h9, ← y2]
                 by_cases q : F 1 = 8
                 · rw [if_pos q, if_pos (Or.inr q)]
                 · rw [if_neg q, if_neg (by omega)]
               rw [ep]
               exact ⟨rfl, ‹_›, g⟩)
            | (have ep : pItem t L F e = pTune t L F e := by
                 unfold pItem
                 rw [if_neg c_57]
               rw [ep]
               exact ⟨rfl, h_61⟩)
            | (obtain ⟨r1, x1, v1, k1, q1⟩ := h_69
               obtain ⟨rfl, rfl⟩ := mP_n q1 rfl
               have ep : pItem t L F x1 = (0, x1, F) := by
                 unfold pItem
                 rw [if_pos c_57, if_pos (Or.inl hkd)]
               rw [ep]
               exact ⟨rfl, r1.af, r1.it n, _, _, k1, Or.inr ⟨rfl, rfl, rfl⟩⟩)
        · obtain ⟨y0, y1, y2, y3⟩ : 0 ≤ y ∧ y < k ∧ y = kdL t L e 6 0 ∧ wdI t L e y.toNat = 1 := by
            rcases h4 with h | h
            · omega
            · exact h
          have hnn : n < 120 := (by have hs1 := wd_S (t := t) (L := L) (e := e) (i := y.toNat) (by omega); have hsc := tS_c t L e; have hbb := tB_bd t hE; have hL := hP.2.1; omega)
          refine mw_aload_n dX7_readItem_42 rfl ?_
          refine mw_iload_n dX7_readItem_43 rfl ?_
          refine mw_Vv (ci := 7) dX7_readItem_44 ml_X7_280 ok_X7_readAttache (by decide) (by first | rfl | assumption) (by decide) rfl rfl rfl (Nat.le_of_ble_eq_true rfl) (c_M_readAttache hP hK hE hA h8 hn (by omega) (by omega)) (fun m_44 h_44 => ?_)
          refine mw_goto (tgt := 72) dX7_readItem_47 (by decide) ?_
          refine mw_vret dX7_readItem_72 rfl ?_
          first
          | (obtain ⟨_, g⟩ := h_44
             have h9 := wd_one (i := y.toNat) (j := 9) (by omega) (by omega) (by omega) y3
             have ep : pItem t L F e = pA8 t L F y e := by
               unfold pItem pA8
               rw [if_pos h9, ← y2]
               by_cases q : F 1 = 8
               · rw [if_pos q, if_pos (Or.inr q)]
               · rw [if_neg q, if_neg (by omega)]
             rw [ep]
             exact ⟨rfl, ‹_›, g⟩)
          | (have ep : pItem t L F e = pTune t L F e := by
               unfold pItem
               rw [if_neg c_57]
             rw [ep]
             exact ⟨rfl, h_61⟩)
          | (obtain ⟨r1, x1, v1, k1, q1⟩ := h_69
             obtain ⟨rfl, rfl⟩ := mP_n q1 rfl
             have ep : pItem t L F x1 = (0, x1, F) := by
               unfold pItem
               rw [if_pos c_57, if_pos (Or.inl hkd)]
             rw [ep]
             exact ⟨rfl, r1.af, r1.it n, _, _, k1, Or.inr ⟨rfl, rfl, rfl⟩⟩)
      · rw [show (6 - k).toNat = (6 - (k + 1)).toNat + 1 by omega, kdL] at h4
        refine mw_aload_n dX7_readItem_13 rfl ?_
        refine mw_aload_n dX7_readItem_14 rfl ?_
        refine mw_gr_7_13 dX7_readItem_15 gs_X7_42 (by first | rfl | assumption) ?_
        refine mw_iload_n dX7_readItem_18 rfl ?_
        refine mw_aa12 dX7_readItem_19 (by first | rfl | assumption) (by first | rfl | assumption) (by omega) ?_
        refine mw_Vpi (ci := 7) dX7_readItem_20 ml_X7_252 ok_X7_isWord (by decide) (by first | rfl | assumption) (by decide) rfl rfl rfl (Nat.le_of_ble_eq_true rfl) (c_M_isWord hP hK hE (by omega) (by omega)) ?_
        refine mw_if_eq (tgt := 30) dX7_readItem_23 (by decide) (by have := wd_c t L e k.toNat; omega) (fun c_23 => ?_) (fun c_23 => ?_)
        · rw [if_pos c_23] at h4
          refine mw_iload_n dX7_readItem_30 rfl ?_
          refine mw_is1 dX7_readItem_31 (by decide) rfl ?_
          refine mw_ii2 dX7_readItem_32 (by decide) rfl ?_
          refine mw_goto (tgt := 4) dX7_readItem_35 (by decide) ?_
          exact ih _ _ (by omega) (by omega) (by omega) (h4.imp (fun h => h) (fun h => ⟨h.1, by omega, h.2.2⟩))
        · rw [if_neg c_23] at h4
          have hk1 := (wd_c t L e k.toNat).resolve_left c_23
          refine mw_iload_n dX7_readItem_26 rfl ?_
          refine mw_goto (tgt := 31) dX7_readItem_27 (by decide) ?_
          refine mw_is1 dX7_readItem_31 (by decide) rfl ?_
          refine mw_ii2 dX7_readItem_32 (by decide) rfl ?_
          refine mw_goto (tgt := 4) dX7_readItem_35 (by decide) ?_
          refine ih _ _ (by omega) (by omega) (by omega) (Or.inr ⟨by omega, by omega, ?_, hk1⟩)
          rcases h4 with h | h
          · exact h.2
          · have := wd_one (i := y.toNat) (j := k.toNat) (by omega) (by omega) (by omega) h.2.2.2
            exact absurd this c_23
  refine mw_iconst dX7_readItem_0 ?_
  refine mw_is1 dX7_readItem_1 (by decide) rfl ?_
  refine mw_iconst dX7_readItem_2 ?_
  refine mw_is2 dX7_readItem_3 (by decide) rfl ?_
  exact lp 7 _ _ (by omega) (by omega) (by omega) (Or.inl ⟨rfl, rfl⟩)
set_option maxHeartbeats 4000000 in
set_option maxRecDepth 100000 in
theorem c_M_isToldSo {G : mG} {μ : mMem} {F : Int → Int} (hR : ROW μ 57 F) (hI : fInv F) {k : Int} (hk : 0 ≤ k ∧ k < 120) (hV : itV F (μ.1 64 k) (μ.1 65 k) (μ.1 66 k)) : mM G yX7_isToldSo cX7_isToldSo 2 (some .int) 2 [.ref 56, .int (iV k)] μ (qI (fun z m => (0 ≤ z ∧ z ≤ 12) ∧ ROW m 57 (itF F (μ.1 64 k) (μ.1 65 k) (μ.1 66 k) (μ.2 67 k)) ∧ DY μ m)) := by
  have hn := hI.2.1
  have hb : -10 ≤ μ.1 64 k ∧ μ.1 64 k ≤ 10 := by rcases hV with h | h <;> omega
  refine mM.of (lv := [some (.ref 56), some (.int (iV k))]) 0 (by decide +kernel) (Nat.le_of_ble_eq_true rfl) rfl ?_
  intro X
  refine mw_aload_n dX7_isToldSo_0 rfl ?_
  refine mw_gr_7_14 dX7_isToldSo_1 gs_X7_46 (by first | rfl | assumption) ?_
  refine mw_iload_n dX7_isToldSo_4 rfl ?_
  refine mw_iald 120 dX7_isToldSo_5 (by first | rfl | assumption) (by first | rfl | assumption) (by omega) ?_
  refine mw_if_ge (tgt := 34) dX7_isToldSo_6 (by decide) (by omega) (fun c_6 => ?_) (fun c_6 => ?_)
  · refine mw_aload_n dX7_isToldSo_34 rfl ?_
    refine mw_aload_n dX7_isToldSo_35 rfl ?_
    refine mw_gr_7_14 dX7_isToldSo_36 gs_X7_46 (by first | rfl | assumption) ?_
    refine mw_iload_n dX7_isToldSo_39 rfl ?_
    refine mw_iald 120 dX7_isToldSo_40 (by first | rfl | assumption) (by first | rfl | assumption) (by omega) ?_
    refine mw_aload_n dX7_isToldSo_41 rfl ?_
    refine mw_gr_7_15 dX7_isToldSo_42 gs_X7_49 (by first | rfl | assumption) ?_
    refine mw_iload_n dX7_isToldSo_45 rfl ?_
    refine mw_iald 120 dX7_isToldSo_46 (by first | rfl | assumption) (by first | rfl | assumption) (by omega) ?_
    refine mw_aload_n dX7_isToldSo_47 rfl ?_
    refine mw_gr_7_16 dX7_isToldSo_48 gs_X7_52 (by first | rfl | assumption) ?_
    refine mw_iload_n dX7_isToldSo_51 rfl ?_
    refine mw_iald 120 dX7_isToldSo_52 (by first | rfl | assumption) (by first | rfl | assumption) (by omega) ?_
    refine mw_aload_n dX7_isToldSo_53 rfl ?_
    refine mw_gr_7_17 dX7_isToldSo_54 gs_X7_55 (by first | rfl | assumption) ?_
    refine mw_iload_n dX7_isToldSo_57 rfl ?_
    refine mw_lald 120 dX7_isToldSo_58 (by first | rfl | assumption) (by first | rfl | assumption) (by omega) ?_
    refine mw_l2i dX7_isToldSo_59 ?_
    refine mw_Vi (ci := 7) dX7_isToldSo_60 ml_X7_144 ok_X7_comes (by decide) (by first | rfl | assumption) (by decide) rfl rfl rfl (Nat.le_of_ble_eq_true rfl) (c_M_comes hR hI (by rcases hV with h | h <;> omega)) (fun z_60 m_60 h_60 => ?_)
    refine mw_iret dX7_isToldSo_63 rfl ?_
    refine ⟨_, rfl, by rw [h_60.1]; omega, ?_, h_60.2.2⟩
    unfold itF
    rw [if_neg (by omega)]
    exact h_60.2.1
  · refine mw_aload_n dX7_isToldSo_9 rfl ?_
    refine mw_aload_n dX7_isToldSo_10 rfl ?_
    refine mw_gr_7_15 dX7_isToldSo_11 gs_X7_49 (by first | rfl | assumption) ?_
    refine mw_iload_n dX7_isToldSo_14 rfl ?_
    refine mw_iald 120 dX7_isToldSo_15 (by first | rfl | assumption) (by first | rfl | assumption) (by omega) ?_
    refine mw_aload_n dX7_isToldSo_16 rfl ?_
    refine mw_gr_7_16 dX7_isToldSo_17 gs_X7_52 (by first | rfl | assumption) ?_
    refine mw_iload_n dX7_isToldSo_20 rfl ?_
    refine mw_iald 120 dX7_isToldSo_21 (by first | rfl | assumption) (by first | rfl | assumption) (by omega) ?_
    refine mw_aload_n dX7_isToldSo_22 rfl ?_
    refine mw_gr_7_17 dX7_isToldSo_23 gs_X7_55 (by first | rfl | assumption) ?_
    refine mw_iload_n dX7_isToldSo_26 rfl ?_
    refine mw_lald 120 dX7_isToldSo_27 (by first | rfl | assumption) (by first | rfl | assumption) (by omega) ?_
    refine mw_Vi (ci := 7) dX7_isToldSo_28 ml_X7_95 ok_X7_laysTune (by decide) (by first | rfl | assumption) (by decide) rfl rfl rfl (Nat.le_of_ble_eq_true rfl) (c_M_laysTune hR hI (by rcases hV with h | h <;> omega) (by rcases hV with h | h <;> omega)) (fun z_28 m_28 h_28 => ?_)
    refine mw_goto (tgt := 63) dX7_isToldSo_31 (by decide) ?_
    refine mw_iret dX7_isToldSo_63 rfl ?_
    have hl := hI.2.2.1 (μ.1 65 k) (by rcases hV with h | h <;> omega) (by rcases hV with h | h <;> omega)
    refine ⟨_, rfl, by rw [h_28.1]; exact hl, ?_, h_28.2.2⟩
    unfold itF
    rw [if_pos (by omega)]
    exact h_28.2.1

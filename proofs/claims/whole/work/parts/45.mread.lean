def mP (t : Int → Int) (L e w b x v : Int) : Prop := (w = 0 ∧ ¬ b = 0 ∧ x = tE t L e ∧ v = 0) ∨ (¬ (w = 0 ∧ ¬ b = 0) ∧ x = e ∧ v = 1)
theorem mP_1 {t : Int → Int} {L e b x v : Int} (h : mP t L e 1 b x v) : x = e ∧ v = 1 := by
  rcases h with h | h
  · exact absurd h.1 (by decide)
  · exact h.2
theorem mP_n {t : Int → Int} {L e w b x v : Int} (h : mP t L e w b x v) (hb : b = 0) : x = e ∧ v = 1 := by
  rcases h with h | h
  · exact absurd hb h.2.1
  · exact h.2
theorem mP_y {t : Int → Int} {L e b x v : Int} (h : mP t L e 0 b x v) (hb : ¬ b = 0) : x = tE t L e ∧ v = 0 := by
  rcases h with h | h
  · exact h.2.2
  · exact absurd ⟨rfl, hb⟩ h.1
theorem mP_bd {t : Int → Int} {L e w b x v : Int} (h : mP t L e w b x v) (he : 0 ≤ e ∧ e ≤ L) : (0 ≤ x ∧ x ≤ L) ∧ (v = 0 ∨ v = 1) := by
  have := tE_ok (t := t) he
  rcases h with h | h
  · rw [h.2.2.1, h.2.2.2]; exact ⟨this, Or.inl rfl⟩
  · rw [h.2.1, h.2.2]; exact ⟨he, Or.inr rfl⟩
def pP (t : Int → Int) (L e w : Int) (i : Nat) (wo z x v : Int) : Prop := ((¬ w = 0 ∨ wdI t L e i = 0) ∧ z = wo ∧ x = e ∧ v = w) ∨ (w = 0 ∧ ¬ wdI t L e i = 0 ∧ z = vl t L (tE t L e) ∧ mP t L (tE t L e) 0 (nmI t L (tE t L e) 11) x v)
theorem vl_nm {t : Int → Int} {L e M : Int} (h : ¬ nmI t L e M = 0) (hM : M ≤ 10000) : vl t L e = tV t L e := by
  have d := nm_1 h
  unfold vl
  rw [if_pos d.1]
  omega
theorem pP_1 {t : Int → Int} {L e wo z x v : Int} {i : Nat} (h : pP t L e 1 i wo z x v) : z = wo ∧ x = e ∧ v = 1 := by
  rcases h with h | h
  · exact h.2
  · exact absurd h.1 (by decide)
theorem pP_n {t : Int → Int} {L e wo z x v : Int} {i : Nat} (h : pP t L e 0 i wo z x v) (hw : wdI t L e i = 0) : z = wo ∧ x = e ∧ v = 0 := by
  rcases h with h | h
  · exact h.2
  · exact absurd hw h.2.1
theorem pP_f {t : Int → Int} {L e wo z x v : Int} {i : Nat} (h : pP t L e 0 i wo z x v) (hw : ¬ wdI t L e i = 0) (hn : nmI t L (tE t L e) 11 = 0) : x = tE t L e ∧ v = 1 := by
  rcases h with h | h
  · rcases h.1 with q | q
    · exact absurd rfl q
    · exact absurd q hw
  · exact mP_n h.2.2.2 hn
theorem pP_y {t : Int → Int} {L e wo z x v : Int} {i : Nat} (h : pP t L e 0 i wo z x v) (hw : ¬ wdI t L e i = 0) (hn : ¬ nmI t L (tE t L e) 11 = 0) : z = tV t L (tE t L e) ∧ x = tE t L (tE t L e) ∧ v = 0 := by
  rcases h with h | h
  · rcases h.1 with q | q
    · exact absurd rfl q
    · exact absurd q hw
  · exact ⟨h.2.2.1.trans (vl_nm hn (by decide)), mP_y h.2.2.2 hn⟩
theorem pP_bd {t : Int → Int} {L e w wo z x v : Int} {i : Nat} (h : pP t L e w i wo z x v) (he : 0 ≤ e ∧ e ≤ L) (hw : w = 0 ∨ w = 1) (ho : -1 ≤ wo ∧ wo ≤ 0) : (0 ≤ x ∧ x ≤ L) ∧ (v = 0 ∨ v = 1) ∧ (-1 ≤ z ∧ z ≤ 10000) := by
  have e1 := tE_ok (t := t) he
  rcases h with h | h
  · rw [h.2.1, h.2.2.1, h.2.2.2]; exact ⟨he, hw, by omega⟩
  · have := mP_bd h.2.2.2 e1
    have := vl_bd t L (tE t L e)
    rw [h.2.2.1]
    exact ⟨by omega, by omega, by omega⟩
def pA8 (t : Int → Int) (L : Int) (F : Int → Int) (k e : Int) : pR3 := if F 1 = 8 then (0, e, F) else pAtt t L F k e
theorem rdA {t : Int → Int} {L k e : Int} {F : Int → Int} {b1 x1 v1 x2 v2 x3 v3 z4 x4 v4 z5 x5 v5 : Int} (hb : (b1 = 1 ∧ F 1 < 8) ∨ (b1 = 0 ∧ F 1 = 8)) (q1 : mP t L e 0 b1 x1 v1) (q2 : mP t L x1 v1 (wdI t L x1 6) x2 v2) (q3 : mP t L x2 v2 (nmI t L x2 1) x3 v3) (q4 : pP t L x3 v3 7 0 z4 x4 v4) (q5 : pP t L x4 v4 8 (-1) z5 x5 v5) :
    (v5 = 0 ∧ (pA8 t L F k e).1 = 1 ∧ x5 = (pA8 t L F k e).2.1 ∧ F 1 < 8 ∧ (pA8 t L F k e).2.2 = engF F k (vl t L x2) z4 (if z5 < 0 then 0 else bShl 1 z5) ∧ z5 < 12) ∨ (v5 = 1 ∧ (pA8 t L F k e).1 = 0 ∧ x5 = (pA8 t L F k e).2.1) := by
  unfold pA8
  rcases hb with ⟨hb, hA⟩ | ⟨hb, hA⟩
  · rw [if_neg (by omega)]
    obtain ⟨rfl, rfl⟩ := mP_y q1 (by omega)
    unfold pAtt
    by_cases c1 : wdI t L (tE t L e) 6 = 0
    · rw [if_pos c1]
      obtain ⟨rfl, rfl⟩ := mP_n q2 c1
      obtain ⟨rfl, rfl⟩ := mP_1 q3
      obtain ⟨rfl, rfl, rfl⟩ := pP_1 q4
      obtain ⟨rfl, rfl, rfl⟩ := pP_1 q5
      exact Or.inr ⟨rfl, rfl, rfl⟩
    · rw [if_neg c1]
      obtain ⟨rfl, rfl⟩ := mP_y q2 c1
      by_cases c2 : nmI t L (tE t L (tE t L e)) 1 = 0
      · rw [if_pos c2]
        obtain ⟨rfl, rfl⟩ := mP_n q3 c2
        obtain ⟨rfl, rfl, rfl⟩ := pP_1 q4
        obtain ⟨rfl, rfl, rfl⟩ := pP_1 q5
        exact Or.inr ⟨rfl, rfl, rfl⟩
      · rw [if_neg c2, vl_nm c2 (by decide)]
        obtain ⟨rfl, rfl⟩ := mP_y q3 c2
        have blot : ∀ y x : Int, pP t L x 0 8 (-1) z5 x5 v5 → (v5 = 0 ∧ (pBlot t L F k (tV t L (tE t L (tE t L e))) y x).1 = 1 ∧ x5 = (pBlot t L F k (tV t L (tE t L (tE t L e))) y x).2.1 ∧ F 1 < 8 ∧ (pBlot t L F k (tV t L (tE t L (tE t L e))) y x).2.2 = engF F k (tV t L (tE t L (tE t L e))) y (if z5 < 0 then 0 else bShl 1 z5) ∧ z5 < 12) ∨ (v5 = 1 ∧ (pBlot t L F k (tV t L (tE t L (tE t L e))) y x).1 = 0 ∧ x5 = (pBlot t L F k (tV t L (tE t L (tE t L e))) y x).2.1) := by
          intro y x q5
          unfold pBlot
          by_cases c5 : wdI t L x 8 = 0
          · rw [if_pos c5]
            obtain ⟨rfl, rfl, rfl⟩ := pP_n q5 c5
            exact Or.inl ⟨rfl, rfl, rfl, hA, by rw [if_pos (by decide)], by decide⟩
          · rw [if_neg c5]
            by_cases c6 : nmI t L (tE t L x) 11 = 0
            · rw [if_pos c6]
              obtain ⟨rfl, rfl⟩ := pP_f q5 c5 c6
              exact Or.inr ⟨rfl, rfl, rfl⟩
            · rw [if_neg c6]
              obtain ⟨e1, rfl, rfl⟩ := pP_y q5 c5 c6
              have d := nm_1 c6
              have v0 := tV_0 t L (tE t L x)
              exact Or.inl ⟨rfl, rfl, rfl, hA, by rw [if_neg (by omega), e1], by omega⟩
        unfold pKey
        by_cases c3 : wdI t L (tE t L (tE t L (tE t L e))) 7 = 0
        · rw [if_pos c3]
          obtain ⟨rfl, rfl, rfl⟩ := pP_n q4 c3
          exact blot _ _ q5
        · rw [if_neg c3]
          by_cases c4 : nmI t L (tE t L (tE t L (tE t L (tE t L e)))) 11 = 0
          · rw [if_pos c4]
            obtain ⟨rfl, rfl⟩ := pP_f q4 c3 c4
            obtain ⟨rfl, rfl, rfl⟩ := pP_1 q5
            exact Or.inr ⟨rfl, rfl, rfl⟩
          · rw [if_neg c4]
            obtain ⟨rfl, rfl, rfl⟩ := pP_y q4 c3 c4
            exact blot _ _ q5
  · rw [if_pos hA]
    obtain ⟨rfl, rfl⟩ := mP_n q1 hb
    obtain ⟨rfl, rfl⟩ := mP_1 q2
    obtain ⟨rfl, rfl⟩ := mP_1 q3
    obtain ⟨rfl, rfl, rfl⟩ := pP_1 q4
    obtain ⟨rfl, rfl, rfl⟩ := pP_1 q5
    exact Or.inr ⟨rfl, rfl, rfl⟩
theorem RK.st {m : mMem} {t : Int → Int} {L e w : Int} (h : RK m t L e w) {j v : Int} (hj : 12 < j) : RK (u1 m 56 j v) t L e w := ⟨by rw [u1_o (by omega)]; exact h.1, by rw [u1_o (by omega)]; exact h.2.1, by rw [u1_o (by omega)]; exact h.2.2.1, by rw [u1_o (by omega)]; exact h.2.2.2.1, by rw [u1_o (by omega)]; exact h.2.2.2.2⟩
theorem RK.wr {m : mMem} {t : Int → Int} {L e w : Int} (h : RK m t L e w) {v : Int} : RK (u1 m 56 12 v) t L e v := ⟨by rw [u1_o (by omega)]; exact h.1, by rw [u1_o (by omega)]; exact h.2.1, by rw [u1_o (by omega)]; exact h.2.2.1, by rw [u1_o (by omega)]; exact h.2.2.2.1, u1_s _ _ _ _⟩
set_option maxHeartbeats 4000000 in
set_option maxRecDepth 100000 in
theorem c_M_must {G : mG} {μ : mMem} {t : Int → Int} {L : Int} (hP : RP μ t L) {e w : Int} (hK : RK μ t L e w) (hE : 0 ≤ e ∧ e ≤ L) (hw : w = 0 ∨ w = 1) {b : Int} (hb : b = 0 ∨ b = 1) : mM G yX7_must cX7_must 2 none 2 [.ref 56, .int (iV b)] μ (qV (fun m => RF μ m ∧ ∃ x v : Int, RK m t L x v ∧ mP t L e w b x v)) := by
  refine mM.of (lv := [some (.ref 56), some (.int (iV b))]) 0 (by decide +kernel) (Nat.le_of_ble_eq_true rfl) rfl ?_
  intro X
  refine mw_aload_n dX7_must_0 rfl ?_
  refine mw_aload_n dX7_must_1 rfl ?_
  refine mw_getI 12 dX7_must_2 gs_X7_238 (by first | rfl | assumption) rfl rfl ?_
  rw [hK.2.2.2.2]
  refine mw_if_ne (tgt := 12) dX7_must_5 (by decide) (by omega) (fun c_5 => ?_) (fun c_5 => ?_)
  · refine mw_iconst dX7_must_12 ?_
    refine mw_goto (tgt := 17) dX7_must_13 (by decide) ?_
    refine mw_putZ 12 dX7_must_17 ps_X7_238 (by first | rfl | assumption) rfl rfl (by omega) ?_
    refine mw_aload_n dX7_must_20 rfl ?_
    refine mw_getI 12 dX7_must_21 gs_X7_238 (by first | rfl | assumption) rfl rfl ?_
    rw [u1_s]
    refine mw_if_ne (tgt := 31) dX7_must_24 (by decide) (by omega) (fun c_24 => ?_) (fun c_24 => ?_)
    · refine mw_vret dX7_must_31 rfl ?_
      first
      | (exfalso; omega)
      | exact ⟨rfl, RF.st (by omega), _, _, hK.wr, Or.inr ⟨by omega, rfl, rfl⟩⟩
      | (obtain ⟨g1, g2⟩ := h_28
         rw [u1_s] at g2
         exact ⟨rfl, (RF.st (by omega)).tr g1, _, _, g2, Or.inl ⟨by omega, by omega, rfl, rfl⟩⟩)
    · refine mw_aload_n dX7_must_27 rfl ?_
      refine mw_Vv (ci := 7) dX7_must_28 ml_X7_242 ok_X7_next (by decide) (by first | rfl | assumption) (by decide) rfl rfl rfl (Nat.le_of_ble_eq_true rfl) (c_M_next (e := tE t L e) (hP.rf (RF.st (by omega))) (by rw [u1_o (by omega)]; exact hK.2.1) (tE_ok hE)) (fun m_28 h_28 => ?_)
      refine mw_vret dX7_must_31 rfl ?_
      first
      | (exfalso; omega)
      | exact ⟨rfl, RF.st (by omega), _, _, hK.wr, Or.inr ⟨by omega, rfl, rfl⟩⟩
      | (obtain ⟨g1, g2⟩ := h_28
         rw [u1_s] at g2
         exact ⟨rfl, (RF.st (by omega)).tr g1, _, _, g2, Or.inl ⟨by omega, by omega, rfl, rfl⟩⟩)
  · refine mw_iload_n dX7_must_8 rfl ?_
    refine mw_if_ne (tgt := 16) dX7_must_9 (by decide) (by omega) (fun c_9 => ?_) (fun c_9 => ?_)
    · refine mw_iconst dX7_must_16 ?_
      refine mw_putZ 12 dX7_must_17 ps_X7_238 (by first | rfl | assumption) rfl rfl (by omega) ?_
      refine mw_aload_n dX7_must_20 rfl ?_
      refine mw_getI 12 dX7_must_21 gs_X7_238 (by first | rfl | assumption) rfl rfl ?_
      rw [u1_s]
      refine mw_if_ne (tgt := 31) dX7_must_24 (by decide) (by omega) (fun c_24 => ?_) (fun c_24 => ?_)
      · refine mw_vret dX7_must_31 rfl ?_
        first
        | (exfalso; omega)
        | exact ⟨rfl, RF.st (by omega), _, _, hK.wr, Or.inr ⟨by omega, rfl, rfl⟩⟩
        | (obtain ⟨g1, g2⟩ := h_28
           rw [u1_s] at g2
           exact ⟨rfl, (RF.st (by omega)).tr g1, _, _, g2, Or.inl ⟨by omega, by omega, rfl, rfl⟩⟩)
      · refine mw_aload_n dX7_must_27 rfl ?_
        refine mw_Vv (ci := 7) dX7_must_28 ml_X7_242 ok_X7_next (by decide) (by first | rfl | assumption) (by decide) rfl rfl rfl (Nat.le_of_ble_eq_true rfl) (c_M_next (e := tE t L e) (hP.rf (RF.st (by omega))) (by rw [u1_o (by omega)]; exact hK.2.1) (tE_ok hE)) (fun m_28 h_28 => ?_)
        refine mw_vret dX7_must_31 rfl ?_
        first
        | (exfalso; omega)
        | exact ⟨rfl, RF.st (by omega), _, _, hK.wr, Or.inr ⟨by omega, rfl, rfl⟩⟩
        | (obtain ⟨g1, g2⟩ := h_28
           rw [u1_s] at g2
           exact ⟨rfl, (RF.st (by omega)).tr g1, _, _, g2, Or.inl ⟨by omega, by omega, rfl, rfl⟩⟩)
    · refine mw_iconst dX7_must_12 ?_
      refine mw_goto (tgt := 17) dX7_must_13 (by decide) ?_
      refine mw_putZ 12 dX7_must_17 ps_X7_238 (by first | rfl | assumption) rfl rfl (by omega) ?_
      refine mw_aload_n dX7_must_20 rfl ?_
      refine mw_getI 12 dX7_must_21 gs_X7_238 (by first | rfl | assumption) rfl rfl ?_
      rw [u1_s]
      refine mw_if_ne (tgt := 31) dX7_must_24 (by decide) (by omega) (fun c_24 => ?_) (fun c_24 => ?_)
      · refine mw_vret dX7_must_31 rfl ?_
        first
        | (exfalso; omega)
        | exact ⟨rfl, RF.st (by omega), _, _, hK.wr, Or.inr ⟨by omega, rfl, rfl⟩⟩
        | (obtain ⟨g1, g2⟩ := h_28
           rw [u1_s] at g2
           exact ⟨rfl, (RF.st (by omega)).tr g1, _, _, g2, Or.inl ⟨by omega, by omega, rfl, rfl⟩⟩)
      · refine mw_aload_n dX7_must_27 rfl ?_
        refine mw_Vv (ci := 7) dX7_must_28 ml_X7_242 ok_X7_next (by decide) (by first | rfl | assumption) (by decide) rfl rfl rfl (Nat.le_of_ble_eq_true rfl) (c_M_next (e := tE t L e) (hP.rf (RF.st (by omega))) (by rw [u1_o (by omega)]; exact hK.2.1) (tE_ok hE)) (fun m_28 h_28 => ?_)
        refine mw_vret dX7_must_31 rfl ?_
        first
        | (exfalso; omega)
        | exact ⟨rfl, RF.st (by omega), _, _, hK.wr, Or.inr ⟨by omega, rfl, rfl⟩⟩
        | (obtain ⟨g1, g2⟩ := h_28
           rw [u1_s] at g2
           exact ⟨rfl, (RF.st (by omega)).tr g1, _, _, g2, Or.inl ⟨by omega, by omega, rfl, rfl⟩⟩)
set_option maxHeartbeats 4000000 in
set_option maxRecDepth 100000 in
theorem c_M_number {G : mG} {μ : mMem} {t : Int → Int} {L : Int} (hP : RP μ t L) {e w : Int} (hK : RK μ t L e w) (hE : 0 ≤ e ∧ e ≤ L) (hw : w = 0 ∨ w = 1) {M : Int} (hM : 0 ≤ M ∧ M ≤ 11) : mM G yX7_number cX7_number 4 (some .int) 3 [.ref 56, .int (iV 0), .int (iV M)] μ (qI (fun z m => z = vl t L e ∧ RF μ m ∧ ∃ x v : Int, RK m t L x v ∧ mP t L e w (nmI t L e M) x v)) := by
  have hvl := vl_bd t L e
  have hts := tS_c t L e
  have hv0 := tV_0 t L e
  refine mM.of (lv := [some (.ref 56), some (.int (iV 0)), some (.int (iV M)), none]) 1 (by decide +kernel) (Nat.le_of_ble_eq_true rfl) rfl ?_
  intro X
  refine mw_aload_n dX7_number_0 rfl ?_
  refine mw_getI 11 dX7_number_1 gs_X7_226 (by first | rfl | assumption) rfl rfl ?_
  rw [hK.2.2.2.1]
  refine mw_is3 dX7_number_4 (by decide) rfl ?_
  refine mw_aload_n dX7_number_5 rfl ?_
  refine mw_aload_n dX7_number_6 rfl ?_
  refine mw_getI 10 dX7_number_7 gs_X7_229 (by first | rfl | assumption) rfl rfl ?_
  rw [hK.2.2.1]
  refine mw_iconst dX7_number_10 ?_
  refine mw_icmp_ne (tgt := 27) dX7_number_11 (by decide) (by omega) (by omega) (fun c_11 => ?_) (fun c_11 => ?_)
  · refine mw_iconst dX7_number_27 ?_
    refine mw_Vv (ci := 7) dX7_number_28 ml_X7_245 ok_X7_must (by decide) (by first | rfl | assumption) (by decide) rfl rfl rfl (Nat.le_of_ble_eq_true rfl) (c_M_must hP hK hE hw (by omega)) (fun m_28 h_28 => ?_)
    refine mw_iload_n dX7_number_31 rfl ?_
    refine mw_iret dX7_number_32 rfl ?_
    exact ⟨_, rfl, rfl, h_28.1, by rw [show nmI t L e M = 0 by unfold nmI; rw [if_neg (fun q => c_11 q.1)]]; exact h_28.2⟩
  · have e2 : vl t L e = min (tV t L e) 10000 := by unfold vl; rw [if_pos c_11]
    refine mw_iload_n dX7_number_14 rfl ?_
    refine mw_iload_n dX7_number_15 rfl ?_
    refine mw_iload_n dX7_number_16 rfl ?_
    refine mw_Spi dX7_number_17 ml_X7_81 ok_X7_within (by decide) rfl rfl (Nat.le_of_ble_eq_true rfl) (c_M_within (by omega) (by omega) (by omega)) ?_
    refine mw_if_eq (tgt := 27) dX7_number_20 (by decide) (wi_bd _ _ _) (fun c_20 => ?_) (fun c_20 => ?_)
    · have d_20 := wi_0 c_20
      refine mw_iconst dX7_number_27 ?_
      refine mw_Vv (ci := 7) dX7_number_28 ml_X7_245 ok_X7_must (by decide) (by first | rfl | assumption) (by decide) rfl rfl rfl (Nat.le_of_ble_eq_true rfl) (c_M_must hP hK hE hw (by omega)) (fun m_28 h_28 => ?_)
      refine mw_iload_n dX7_number_31 rfl ?_
      refine mw_iret dX7_number_32 rfl ?_
      exact ⟨_, rfl, rfl, h_28.1, by rw [show nmI t L e M = 0 by unfold nmI; rw [if_neg (by omega)]]; exact h_28.2⟩
    · have d_20 := wi_1 c_20
      refine mw_iconst dX7_number_23 ?_
      refine mw_goto (tgt := 28) dX7_number_24 (by decide) ?_
      refine mw_Vv (ci := 7) dX7_number_28 ml_X7_245 ok_X7_must (by decide) (by first | rfl | assumption) (by decide) rfl rfl rfl (Nat.le_of_ble_eq_true rfl) (c_M_must hP hK hE hw (by omega)) (fun m_28 h_28 => ?_)
      refine mw_iload_n dX7_number_31 rfl ?_
      refine mw_iret dX7_number_32 rfl ?_
      exact ⟨_, rfl, rfl, h_28.1, by rw [show nmI t L e M = 1 by unfold nmI; rw [if_pos ⟨c_11, by omega⟩]]; exact h_28.2⟩
set_option maxHeartbeats 4000000 in
set_option maxRecDepth 100000 in
theorem c_M_isWord {G : mG} {μ : mMem} {t : Int → Int} {L : Int} (hP : RP μ t L) {e w : Int} (hK : RK μ t L e w) (hE : 0 ≤ e ∧ e ≤ L) (hw : w = 0 ∨ w = 1) {i : Nat} (hi : i < 10) : mM G yX7_isWord cX7_isWord 4 (some .boolean) 5 [.ref 56, .ref (100 + i)] μ (pI (wdI t L e i) μ) := by
  have hts := tS_c t L e
  have hb := tB_bd t hE
  have he := tE_bd t hE
  have hL := hP.2.1
  have hs := (s_tab i hi).1
  refine mM.of (lv := [some (.ref 56), some (.ref (100 + i)), none, none]) 2 (by decide +kernel) (Nat.le_of_ble_eq_true rfl) rfl ?_
  intro X
  have lp : ∀ (n_ : Nat) (y j : Int), (0 ≤ j) → (j ≤ sLI i) → (8 ≤ j + n_) → ((y = 1 ∧ tS t L e = 1 ∧ tE t L e - tB t L e = sLI i ∧ wdL t (tB t L e) i (sLI i - j).toNat j = wdI t L e i) ∨ (y = 0 ∧ wdI t L e i = 0)) → mW X cX7_isWord 4 (some .boolean) yX7_isWord.cls 5 G (pI (wdI t L e i) μ) 32 [some (.ref 56), some (.ref (100 + i)), some (.int (iV y)), some (.int (iV j))] [] μ := by
    intro n_
    induction n_ with
    | zero =>
      intro y j h1 h2 h3 h4
      omega
    | succ n_ ih =>
      intro y j h1 h2 h3 h4
      refine mw_iload_n dX7_isWord_32 rfl ?_
      refine mw_aload_n dX7_isWord_33 rfl ?_
      refine mw_Tpi dX7_isWord_34 ml_X7_232 ok_J0_length_8abf5 (by decide) hi rfl rfl rfl (Nat.le_of_ble_eq_true rfl) (c_len hi) ?_
      refine mw_icmp_ge (tgt := 75) dX7_isWord_37 (by decide) (by omega) (by omega) (fun c_37 => ?_) (fun c_37 => ?_)
      · refine mw_iload_n dX7_isWord_75 rfl ?_
        refine mw_zret dX7_isWord_76 rfl (by rcases h4 with h | h <;> rw [h.1] <;> decide +kernel) ?_
        refine ⟨?_, rfl⟩
        rcases h4 with h | h
        · first
          | (exfalso; omega)
          | (have e4 := h.2.2.2
             rw [show (sLI i - j).toNat = 0 by omega, wdL] at e4
             rw [h.1, ← e4])
        · rw [h.1, h.2]
      · refine mw_iload_n dX7_isWord_40 rfl ?_
        refine mw_if_eq (tgt := 75) dX7_isWord_41 (by decide) (by omega) (fun c_41 => ?_) (fun c_41 => ?_)
        · refine mw_iload_n dX7_isWord_75 rfl ?_
          refine mw_zret dX7_isWord_76 rfl (by rcases h4 with h | h <;> rw [h.1] <;> decide +kernel) ?_
          refine ⟨?_, rfl⟩
          rcases h4 with h | h
          · first
            | (exfalso; omega)
            | (have e4 := h.2.2.2
               rw [show (sLI i - j).toNat = 0 by omega, wdL] at e4
               rw [h.1, ← e4])
          · rw [h.1, h.2]
        · obtain ⟨g1, g2, g3, g4⟩ : y = 1 ∧ tS t L e = 1 ∧ tE t L e - tB t L e = sLI i ∧ wdL t (tB t L e) i (sLI i - j).toNat j = wdI t L e i := by
            rcases h4 with h | h
            · exact h
            · omega
          have hB := (b_at hi (z := j) (by omega)).1
          have tk := hP.2.2.2 (tB t L e + j) (by omega) (by omega)
          rw [show (sLI i - j).toNat = (sLI i - (j + 1)).toNat + 1 by omega, wdL] at g4
          refine mw_aload_n dX7_isWord_44 rfl ?_
          refine mw_gr_7_6 dX7_isWord_45 gs_X7_25 (by first | rfl | assumption) ?_
          refine mw_aload_n dX7_isWord_48 rfl ?_
          refine mw_getI 8 dX7_isWord_49 gs_X7_220 (by first | rfl | assumption) rfl rfl ?_
          rw [hK.1]
          refine mw_iload_n dX7_isWord_52 rfl ?_
          refine mw_iadd dX7_isWord_53 ?_
          refine mw_iald 120 dX7_isWord_54 (by first | rfl | assumption) (by first | rfl | assumption) (by omega) ?_
          rw [hP.2.2.1 _ (by omega) (by omega)]
          refine mw_aload_n dX7_isWord_55 rfl ?_
          refine mw_iload_n dX7_isWord_56 rfl ?_
          refine mw_Tpi dX7_isWord_57 ml_X7_234 ok_J0_charAt_5068e (by decide) hi rfl rfl rfl (Nat.le_of_ble_eq_true rfl) (c_charAt hi (by omega)) ?_
          refine mw_icmp_ne (tgt := 67) dX7_isWord_60 (by decide) (by omega) (by omega) (fun c_60 => ?_) (fun c_60 => ?_)
          · rw [if_neg c_60] at g4
            refine mw_iconst dX7_isWord_67 ?_
            refine mw_is2 dX7_isWord_68 (by decide) rfl ?_
            refine mw_ii3 dX7_isWord_69 (by decide) rfl ?_
            refine mw_goto (tgt := 32) dX7_isWord_72 (by decide) ?_
            exact ih _ _ (by omega) (by omega) (by omega) (Or.inr ⟨rfl, g4.symm⟩)
          · rw [if_pos c_60] at g4
            refine mw_iconst dX7_isWord_63 ?_
            refine mw_goto (tgt := 68) dX7_isWord_64 (by decide) ?_
            refine mw_is2 dX7_isWord_68 (by decide) rfl ?_
            refine mw_ii3 dX7_isWord_69 (by decide) rfl ?_
            refine mw_goto (tgt := 32) dX7_isWord_72 (by decide) ?_
            exact ih _ _ (by omega) (by omega) (by omega) (Or.inl ⟨rfl, g2, g3, g4⟩)
  refine mw_aload_n dX7_isWord_0 rfl ?_
  refine mw_getI 10 dX7_isWord_1 gs_X7_229 (by first | rfl | assumption) rfl rfl ?_
  rw [hK.2.2.1]
  refine mw_iconst dX7_isWord_4 ?_
  refine mw_icmp_ne (tgt := 28) dX7_isWord_5 (by decide) (by omega) (by omega) (fun c_5 => ?_) (fun c_5 => ?_)
  · refine mw_iconst dX7_isWord_28 ?_
    refine mw_is2 dX7_isWord_29 (by decide) rfl ?_
    refine mw_iconst dX7_isWord_30 ?_
    refine mw_is3 dX7_isWord_31 (by decide) rfl ?_
    exact lp 8 _ _ (by omega) (by omega) (by omega) (Or.inr ⟨rfl, by unfold wdI; rw [if_neg (fun q => c_5 q.1)]⟩)
  · refine mw_aload_n dX7_isWord_8 rfl ?_
    refine mw_getI 9 dX7_isWord_9 gs_X7_217 (by first | rfl | assumption) rfl rfl ?_
    rw [hK.2.1]
    refine mw_aload_n dX7_isWord_12 rfl ?_
    refine mw_getI 8 dX7_isWord_13 gs_X7_220 (by first | rfl | assumption) rfl rfl ?_
    rw [hK.1]
    refine mw_isub dX7_isWord_16 ?_
    refine mw_aload_n dX7_isWord_17 rfl ?_
    refine mw_Tpi dX7_isWord_18 ml_X7_232 ok_J0_length_8abf5 (by decide) hi rfl rfl rfl (Nat.le_of_ble_eq_true rfl) (c_len hi) ?_
    refine mw_icmp_ne (tgt := 28) dX7_isWord_21 (by decide) (by omega) (by omega) (fun c_21 => ?_) (fun c_21 => ?_)
    · refine mw_iconst dX7_isWord_28 ?_
      refine mw_is2 dX7_isWord_29 (by decide) rfl ?_
      refine mw_iconst dX7_isWord_30 ?_
      refine mw_is3 dX7_isWord_31 (by decide) rfl ?_
      exact lp 8 _ _ (by omega) (by omega) (by omega) (Or.inr ⟨rfl, by unfold wdI; rw [if_neg (fun q => c_21 q.2)]⟩)
    · refine mw_iconst dX7_isWord_24 ?_
      refine mw_goto (tgt := 29) dX7_isWord_25 (by decide) ?_
      refine mw_is2 dX7_isWord_29 (by decide) rfl ?_
      refine mw_iconst dX7_isWord_30 ?_
      refine mw_is3 dX7_isWord_31 (by decide) rfl ?_
      exact lp 8 _ _ (by omega) (by omega) (by omega) (Or.inl ⟨rfl, c_5, c_21, by unfold wdI; rw [if_pos ⟨c_5, c_21⟩, Int.sub_zero]⟩)
set_option maxHeartbeats 4000000 in
set_option maxRecDepth 100000 in
theorem c_M_perhaps {G : mG} {μ : mMem} {t : Int → Int} {L : Int} (hP : RP μ t L) {e w : Int} (hK : RK μ t L e w) (hE : 0 ≤ e ∧ e ≤ L) (hw : w = 0 ∨ w = 1) {i : Nat} (hi : i < 10) {wo : Int} : mM G yX7_perhaps cX7_perhaps 3 (some .int) 6 [.ref 56, .ref (100 + i), .int (iV wo)] μ (qI (fun z m => RF μ m ∧ ∃ x v : Int, RK m t L x v ∧ pP t L e w i wo z x v)) := by
  refine mM.of (lv := [some (.ref 56), some (.ref (100 + i)), some (.int (iV wo))]) 0 (by decide +kernel) (Nat.le_of_ble_eq_true rfl) rfl ?_
  intro X
  refine mw_aload_n dX7_perhaps_0 rfl ?_
  refine mw_getI 12 dX7_perhaps_1 gs_X7_238 (by first | rfl | assumption) rfl rfl ?_
  rw [hK.2.2.2.2]
  refine mw_if_ne (tgt := 15) dX7_perhaps_4 (by decide) (by omega) (fun c_4 => ?_) (fun c_4 => ?_)
  · refine mw_iload_n dX7_perhaps_15 rfl ?_
    refine mw_iret dX7_perhaps_16 rfl ?_
    exact ⟨_, rfl, RF.rf, _, _, hK, Or.inl ⟨by omega, rfl, rfl, rfl⟩⟩
  · refine mw_aload_n dX7_perhaps_7 rfl ?_
    refine mw_aload_n dX7_perhaps_8 rfl ?_
    refine mw_Vpi (ci := 7) dX7_perhaps_9 ml_X7_252 ok_X7_isWord (by decide) (by first | rfl | assumption) (by decide) rfl rfl rfl (Nat.le_of_ble_eq_true rfl) (c_M_isWord hP hK hE hw hi) ?_
    refine mw_if_ne (tgt := 17) dX7_perhaps_12 (by decide) (by have := wd_c t L e i; omega) (fun c_12 => ?_) (fun c_12 => ?_)
    · refine mw_aload_n dX7_perhaps_17 rfl ?_
      refine mw_iconst dX7_perhaps_18 ?_
      refine mw_Vv (ci := 7) dX7_perhaps_19 ml_X7_245 ok_X7_must (by decide) (by first | rfl | assumption) (by decide) rfl rfl rfl (Nat.le_of_ble_eq_true rfl) (c_M_must hP hK hE hw (by omega)) (fun m_19 h_19 => ?_)
      obtain ⟨r1, x1, v1, k1, q1⟩ := h_19
      have w0 : w = 0 := by omega
      subst w0
      obtain ⟨rfl, rfl⟩ := mP_y q1 (by decide)
      refine mw_aload_n dX7_perhaps_22 rfl ?_
      refine mw_iconst dX7_perhaps_23 ?_
      refine mw_bipush dX7_perhaps_24 (by decide +kernel) ?_
      refine mw_Vi (ci := 7) dX7_perhaps_26 ml_X7_256 ok_X7_number (by decide) (by first | rfl | assumption) (by decide) rfl rfl rfl (Nat.le_of_ble_eq_true rfl) (c_M_number (hP.rf r1) k1 (tE_ok hE) (by omega) (by omega)) (fun z_26 m_26 h_26 => ?_)
      refine mw_iret dX7_perhaps_29 rfl ?_
      obtain ⟨g1, g2, x2, v2, k2, q2⟩ := h_26
      exact ⟨_, rfl, r1.tr g2, _, _, k2, Or.inr ⟨rfl, c_12, g1, q2⟩⟩
    · refine mw_iload_n dX7_perhaps_15 rfl ?_
      refine mw_iret dX7_perhaps_16 rfl ?_
      exact ⟨_, rfl, RF.rf, _, _, hK, Or.inl ⟨by omega, rfl, rfl, rfl⟩⟩
theorem u2_1 (m : mMem) (c : Nat) (j : Int) (v : Int64) : (u2 m c j v).1 = m.1 := rfl
theorem u1_2 (m : mMem) (c : Nat) (j v : Int) : (u1 m c j v).2 = m.2 := rfl
set_option maxHeartbeats 4000000 in
set_option maxRecDepth 100000 in
theorem c_M_addItem {G : mG} {μ : mMem} {n a s y : Int} {x : Int64} (hn : μ.1 56 18 = n) (hN : 0 ≤ n ∧ n < 120) : mM G yX7_addItem cX7_addItem 6 none 0 [.ref 56, .int (iV a), .int (iV s), .int (iV y), .long x] μ (pV (u1 (u2 (u1 (u1 (u1 μ 64 n a) 65 n s) 66 n y) 67 n x) 56 18 (n + 1))) := by
  refine mM.of (lv := [some (.ref 56), some (.int (iV a)), some (.int (iV s)), some (.int (iV y)), some (.long x), none]) 0 (by decide +kernel) (Nat.le_of_ble_eq_true rfl) rfl ?_
  intro X
  refine mw_aload_n dX7_addItem_0 rfl ?_
  refine mw_gr_7_14 dX7_addItem_1 gs_X7_46 (by first | rfl | assumption) ?_
  refine mw_aload_n dX7_addItem_4 rfl ?_
  refine mw_getI 18 dX7_addItem_5 gs_X7_249 (by first | rfl | assumption) rfl rfl ?_
  rw [hn]
  refine mw_iload_n dX7_addItem_8 rfl ?_
  refine mw_iast 120 dX7_addItem_9 (by first | rfl | assumption) (by first | rfl | assumption) (by omega) ?_
  refine mw_aload_n dX7_addItem_10 rfl ?_
  refine mw_gr_7_15 dX7_addItem_11 gs_X7_49 (by first | rfl | assumption) ?_
  refine mw_aload_n dX7_addItem_14 rfl ?_
  refine mw_getI 18 dX7_addItem_15 gs_X7_249 (by first | rfl | assumption) rfl rfl ?_
  rw [u1_o (by omega), hn]
  refine mw_iload_n dX7_addItem_18 rfl ?_
  refine mw_iast 120 dX7_addItem_19 (by first | rfl | assumption) (by first | rfl | assumption) (by omega) ?_
  refine mw_aload_n dX7_addItem_20 rfl ?_
  refine mw_gr_7_16 dX7_addItem_21 gs_X7_52 (by first | rfl | assumption) ?_
  refine mw_aload_n dX7_addItem_24 rfl ?_
  refine mw_getI 18 dX7_addItem_25 gs_X7_249 (by first | rfl | assumption) rfl rfl ?_
  rw [u1_o (by omega), u1_o (by omega), hn]
  refine mw_iload_n dX7_addItem_28 rfl ?_
  refine mw_iast 120 dX7_addItem_29 (by first | rfl | assumption) (by first | rfl | assumption) (by omega) ?_
  refine mw_aload_n dX7_addItem_30 rfl ?_
  refine mw_gr_7_17 dX7_addItem_31 gs_X7_55 (by first | rfl | assumption) ?_
  refine mw_aload_n dX7_addItem_34 rfl ?_
  refine mw_getI 18 dX7_addItem_35 gs_X7_249 (by first | rfl | assumption) rfl rfl ?_
  rw [u1_o (by omega), u1_o (by omega), u1_o (by omega), hn]
  refine mw_lload dX7_addItem_38 rfl ?_
  refine mw_last 120 dX7_addItem_40 (by first | rfl | assumption) (by first | rfl | assumption) (by omega) ?_
  refine mw_aload_n dX7_addItem_41 rfl ?_
  refine mw_dup dX7_addItem_42 rfl ?_
  refine mw_getI 18 dX7_addItem_43 gs_X7_249 (by first | rfl | assumption) rfl rfl ?_
  rw [u2_1, u1_o (by omega), u1_o (by omega), u1_o (by omega), hn]
  refine mw_iconst dX7_addItem_46 ?_
  refine mw_iadd dX7_addItem_47 ?_
  refine mw_putI 18 dX7_addItem_48 ps_X7_249 (by first | rfl | assumption) rfl rfl ?_
  refine mw_vret dX7_addItem_51 rfl ?_
  exact ⟨rfl, rfl⟩

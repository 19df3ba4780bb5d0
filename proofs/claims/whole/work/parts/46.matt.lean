def AF (μ m : mMem) : Prop := (∀ c : Nat, c ≠ 56 → c ≠ 64 → c ≠ 65 → c ≠ 66 → m.1 c = μ.1 c) ∧ (∀ c : Nat, c ≠ 67 → m.2 c = μ.2 c) ∧ ∀ j : Int, j < 8 → m.1 56 j = μ.1 56 j
theorem AF.rf {μ : mMem} : AF μ μ := ⟨fun _ _ _ _ _ => rfl, fun _ _ => rfl, fun _ _ => rfl⟩
theorem AF.tr {μ m m2 : mMem} (h : AF μ m) (h2 : AF m m2) : AF μ m2 := ⟨fun c q1 q2 q3 q4 => (h2.1 c q1 q2 q3 q4).trans (h.1 c q1 q2 q3 q4), fun c q => (h2.2.1 c q).trans (h.2.1 c q), fun j q => (h2.2.2 j q).trans (h.2.2 j q)⟩
theorem RF.af {μ m : mMem} (h : RF μ m) : AF μ m := ⟨fun c q _ _ _ => h.1 c q, fun c _ => by rw [h.2.1], fun j q => h.2.2 j (by omega)⟩
theorem RP.af {μ m : mMem} {t : Int → Int} {L : Int} (h : RP μ t L) (hs : AF μ m) : RP m t L := ⟨by rw [hs.2.2 7 (by omega)]; exact h.1, h.2.1, fun i q1 q2 => by rw [hs.1 _ (by omega) (by omega) (by omega) (by omega)]; exact h.2.2.1 i q1 q2, h.2.2.2⟩
def IT (μ m : mMem) (n : Int) : Prop := ∀ j : Int, 0 ≤ j → j < n → m.1 64 j = μ.1 64 j ∧ m.1 65 j = μ.1 65 j ∧ m.1 66 j = μ.1 66 j ∧ m.2 67 j = μ.2 67 j
theorem RF.it {μ m : mMem} (h : RF μ m) (n : Int) : IT μ m n := fun j _ _ => ⟨by rw [h.1 _ (by omega)], by rw [h.1 _ (by omega)], by rw [h.1 _ (by omega)], by rw [h.2.1]⟩
/-- what an item makes of a row -/
def itF (F : Int → Int) (a s y : Int) (x : Int64) : Int → Int := if a < 0 then setT F s y (nib x) else engF F a s y x.toInt32.toInt
def adM (μ : mMem) (n a s y : Int) (x : Int64) : mMem := u1 (u2 (u1 (u1 (u1 μ 64 n a) 65 n s) 66 n y) 67 n x) 56 18 (n + 1)
theorem ad_af {μ : mMem} {n a s y : Int} {x : Int64} : AF μ (adM μ n a s y x) := by
  unfold adM
  refine ⟨fun c q1 q2 q3 q4 => ?_, fun c q => ?_, fun j q => ?_⟩
  · funext j
    rw [u1_o (by omega), u2_1, u1_o (by omega), u1_o (by omega), u1_o (by omega)]
  · rw [u1_2]
    funext j
    rw [u2_o (by omega)]
    rfl
  · rw [u1_o (by omega), u2_1, u1_o (by omega), u1_o (by omega), u1_o (by omega)]
theorem ad_it {μ : mMem} {n a s y : Int} {x : Int64} : IT μ (adM μ n a s y x) n := by
  unfold adM
  intro j q1 q2
  refine ⟨?_, ?_, ?_, ?_⟩
  · rw [u1_o (by omega), u2_1, u1_o (by omega), u1_o (by omega), u1_o (by omega)]
  · rw [u1_o (by omega), u2_1, u1_o (by omega), u1_o (by omega), u1_o (by omega)]
  · rw [u1_o (by omega), u2_1, u1_o (by omega), u1_o (by omega), u1_o (by omega)]
  · rw [u1_2, u2_o (by omega)]
    rfl
theorem ad_at {μ : mMem} {n a s y : Int} {x : Int64} : (adM μ n a s y x).1 64 n = a ∧ (adM μ n a s y x).1 65 n = s ∧ (adM μ n a s y x).1 66 n = y ∧ (adM μ n a s y x).2 67 n = x ∧ (adM μ n a s y x).1 56 18 = n + 1 := by
  unfold adM
  refine ⟨?_, ?_, ?_, ?_, u1_s _ _ _ _⟩
  · rw [u1_o (by omega), u2_1, u1_o (by omega), u1_o (by omega), u1_s]
  · rw [u1_o (by omega), u2_1, u1_o (by omega), u1_s]
  · rw [u1_o (by omega), u2_1, u1_s]
  · rw [u1_2, u2_s]
theorem ad_rk {μ : mMem} {t : Int → Int} {L e w n a s y : Int} {x : Int64} (h : RK μ t L e w) : RK (adM μ n a s y x) t L e w := by
  unfold adM
  refine RK.st ?_ (by omega)
  unfold RK
  rw [u2_1]
  refine ⟨?_, ?_, ?_, ?_, ?_⟩
  · rw [u1_o (by omega), u1_o (by omega), u1_o (by omega)]; exact h.1
  · rw [u1_o (by omega), u1_o (by omega), u1_o (by omega)]; exact h.2.1
  · rw [u1_o (by omega), u1_o (by omega), u1_o (by omega)]; exact h.2.2.1
  · rw [u1_o (by omega), u1_o (by omega), u1_o (by omega)]; exact h.2.2.2.1
  · rw [u1_o (by omega), u1_o (by omega), u1_o (by omega)]; exact h.2.2.2.2
def itV (F : Int → Int) (a s y : Int) : Prop := (a = -1 ∧ (0 ≤ s ∧ s ≤ 1) ∧ (0 ≤ y ∧ y ≤ 12)) ∨ ((0 ≤ a ∧ a < 6) ∧ F 1 < 8)
def qRd (μ : mMem) (t : Int → Int) (L : Int) (F : Int → Int) (n : Int) (p : pR3) : Option Value → mMem → Prop := qV (fun m => AF μ m ∧ IT μ m n ∧ ∃ x v : Int, RK m t L x v ∧ ((v = 0 ∧ p.1 = 1 ∧ x = p.2.1 ∧ m.1 56 18 = n + 1 ∧ m.1 56 19 = p.2.2 1 ∧ p.2.2 = itF F (m.1 64 n) (m.1 65 n) (m.1 66 n) (m.2 67 n) ∧ itV F (m.1 64 n) (m.1 65 n) (m.1 66 n)) ∨ (v = 1 ∧ p.1 = 0 ∧ x = p.2.1)))
theorem blt_tab : ∀ n : Nat, n < 12 → ((1 : Int64) <<< ((iV (bAnd (n : Int) 31)).toInt64 &&& 63)).toInt32.toInt = bShl 1 (n : Int) := by decide +kernel
theorem blt {z : Int} (h : 0 ≤ z ∧ z < 12) : ((1 : Int64) <<< ((iV (bAnd z 31)).toInt64 &&& 63)).toInt32.toInt = bShl 1 z := by
  have := blt_tab z.toNat (by omega)
  rw [show ((z.toNat : Nat) : Int) = z by omega] at this
  exact this
set_option maxHeartbeats 4000000 in
set_option maxRecDepth 100000 in
theorem c_M_readAttache {G : mG} {μ : mMem} {t : Int → Int} {L : Int} (hP : RP μ t L) {e : Int} (hK : RK μ t L e 0) (hE : 0 ≤ e ∧ e ≤ L) {F : Int → Int} (hA : μ.1 56 19 = F 1) (h8 : 0 ≤ F 1 ∧ F 1 ≤ 8) {n : Int} (hn : μ.1 56 18 = n) (hN : 0 ≤ n ∧ n < 120) {k : Int} (hk : 0 ≤ k ∧ k < 6) : mM G yX7_readAttache cX7_readAttache 5 none 7 [.ref 56, .int (iV k)] μ (qRd μ t L F n (pA8 t L F k e)) := by
  refine mM.of (lv := [some (.ref 56), some (.int (iV k)), none, none, none]) 3 (by decide +kernel) (Nat.le_of_ble_eq_true rfl) rfl ?_
  intro X
  refine mw_aload_n dX7_readAttache_0 rfl ?_
  refine mw_aload_n dX7_readAttache_1 rfl ?_
  refine mw_getI 19 dX7_readAttache_2 gs_X7_259 (by first | rfl | assumption) rfl rfl ?_
  rw [hA]
  refine mw_bipush dX7_readAttache_5 (by decide +kernel) ?_
  refine mw_icmp_ge (tgt := 14) dX7_readAttache_7 (by decide) (by omega) (by omega) (fun c_7 => ?_) (fun c_7 => ?_)
  · have hb1 : ((0 : Int) = 1 ∧ F 1 < 8) ∨ ((0 : Int) = 0 ∧ F 1 = 8) := by omega
    refine mw_iconst dX7_readAttache_14 ?_
    refine mw_Vv (ci := 7) dX7_readAttache_15 ml_X7_245 ok_X7_must (by decide) (by first | rfl | assumption) (by decide) rfl rfl rfl (Nat.le_of_ble_eq_true rfl) (c_M_must hP hK hE (by omega) (by omega)) (fun m_15 h_15 => ?_)
    obtain ⟨r1, x1, v1, k1, q1⟩ := h_15
    have b1 := mP_bd q1 hE
    have P1 := hP.rf r1
    refine mw_aload_n dX7_readAttache_18 rfl ?_
    refine mw_aload_n dX7_readAttache_19 rfl ?_
    refine mw_ldcSw (i := 6) (tx := "of") dX7_readAttache_20 (by decide +kernel) ?_
    refine mw_Vpi (ci := 7) dX7_readAttache_23 ml_X7_252 ok_X7_isWord (by decide) (by first | rfl | assumption) (by decide) rfl rfl rfl (Nat.le_of_ble_eq_true rfl) (c_M_isWord P1 k1 b1.1 b1.2 (by omega)) ?_
    refine mw_Vv (ci := 7) dX7_readAttache_26 ml_X7_245 ok_X7_must (by decide) (by first | rfl | assumption) (by decide) rfl rfl rfl (Nat.le_of_ble_eq_true rfl) (c_M_must P1 k1 b1.1 b1.2 (wd_c t L x1 6)) (fun m_26 h_26 => ?_)
    obtain ⟨r2, x2, v2, k2, q2⟩ := h_26
    have b2 := mP_bd q2 b1.1
    have P2 := P1.rf r2
    refine mw_aload_n dX7_readAttache_29 rfl ?_
    refine mw_iconst dX7_readAttache_30 ?_
    refine mw_iconst dX7_readAttache_31 ?_
    refine mw_Vi (ci := 7) dX7_readAttache_32 ml_X7_256 ok_X7_number (by decide) (by first | rfl | assumption) (by decide) rfl rfl rfl (Nat.le_of_ble_eq_true rfl) (c_M_number P2 k2 b2.1 b2.2 (by omega)) (fun z_32 m_32 h_32 => ?_)
    obtain ⟨g32, r3, x3, v3, k3, q3⟩ := h_32
    have b3 := mP_bd q3 b2.1
    have P3 := P2.rf r3
    refine mw_is2 dX7_readAttache_35 (by decide) rfl ?_
    refine mw_aload_n dX7_readAttache_36 rfl ?_
    refine mw_ldcSw (i := 7) (tx := "key") dX7_readAttache_37 (by decide +kernel) ?_
    refine mw_iconst dX7_readAttache_40 ?_
    refine mw_Vi (ci := 7) dX7_readAttache_41 ml_X7_266 ok_X7_perhaps (by decide) (by first | rfl | assumption) (by decide) rfl rfl rfl (Nat.le_of_ble_eq_true rfl) (c_M_perhaps P3 k3 b3.1 b3.2 (by omega)) (fun z_41 m_41 h_41 => ?_)
    obtain ⟨r4, x4, v4, k4, q4⟩ := h_41
    have b4 := pP_bd q4 b3.1 b3.2 (by omega)
    have P4 := P3.rf r4
    refine mw_is3 dX7_readAttache_44 (by decide) rfl ?_
    refine mw_aload_n dX7_readAttache_45 rfl ?_
    refine mw_ldcSw (i := 8) (tx := "blot") dX7_readAttache_46 (by decide +kernel) ?_
    refine mw_iconst dX7_readAttache_49 ?_
    refine mw_Vi (ci := 7) dX7_readAttache_50 ml_X7_266 ok_X7_perhaps (by decide) (by first | rfl | assumption) (by decide) rfl rfl rfl (Nat.le_of_ble_eq_true rfl) (c_M_perhaps P4 k4 b4.1 b4.2.1 (by omega)) (fun z_50 m_50 h_50 => ?_)
    obtain ⟨r5, x5, v5, k5, q5⟩ := h_50
    have b5 := pP_bd q5 b4.1 b4.2.1 (by omega)
    have R5 := r1.tr (r2.tr (r3.tr (r4.tr r5)))
    refine mw_is4 dX7_readAttache_53 (by decide) rfl ?_
    refine mw_aload_n dX7_readAttache_55 rfl ?_
    refine mw_iload_n dX7_readAttache_56 rfl ?_
    refine mw_iload_n dX7_readAttache_57 rfl ?_
    refine mw_iload_n dX7_readAttache_58 rfl ?_
    refine mw_iload dX7_readAttache_59 rfl ?_
    refine mw_if_ge (tgt := 68) dX7_readAttache_61 (by decide) (by omega) (fun c_61 => ?_) (fun c_61 => ?_)
    · refine mw_lconst dX7_readAttache_68 rfl ?_
      refine mw_iload dX7_readAttache_69 rfl ?_
      refine mw_bipush dX7_readAttache_71 (by decide +kernel) ?_
      refine mw_iand dX7_readAttache_73 ?_
      refine mw_lshl dX7_readAttache_74 ?_
      refine mw_Vpv (ci := 7) dX7_readAttache_75 ml_X7_272 ok_X7_addItem (by decide) (by first | rfl | assumption) (by decide) rfl rfl rfl (Nat.le_of_ble_eq_true rfl) (c_M_addItem (by rw [R5.2.2 18 (by omega)]; exact hn) hN) ?_
      refine mw_aload_n dX7_readAttache_78 rfl ?_
      refine mw_dup dX7_readAttache_79 rfl ?_
      refine mw_getI 19 dX7_readAttache_80 gs_X7_259 (by first | rfl | assumption) rfl rfl ?_
      rw [show (u1 (u2 (u1 (u1 (u1 m_50 64 n k) 65 n z_32) 66 n z_41) 67 n _) 56 18 (n + 1)) = adM m_50 n k z_32 z_41 _ from rfl, show (adM m_50 n k z_32 z_41 _).1 56 19 = F 1 by unfold adM; rw [u1_o (by omega), u2_1, u1_o (by omega), u1_o (by omega), u1_o (by omega), R5.2.2 19 (by omega)]; exact hA, g32]
      refine mw_iconst dX7_readAttache_83 ?_
      refine mw_iadd dX7_readAttache_84 ?_
      refine mw_putI 19 dX7_readAttache_85 ps_X7_259 (by first | rfl | assumption) rfl rfl ?_
      refine mw_vret dX7_readAttache_88 rfl ?_
      refine ⟨rfl, (R5.af.tr ad_af).tr ⟨fun c p1 _ _ _ => u56 p1, fun c _ => rfl, fun j p => u1_o (by omega)⟩, fun j p1 p2 => ?_, x5, v5, (ad_rk k5).st (by omega), ?_⟩
      · have f1 := R5.it n j p1 p2
        have f2 := ad_it (μ := m_50) (n := n) (a := k) (s := vl t L x2) (y := z_41) (x := ((Int64.ofNat ((1 : Fin 2) : Nat)) <<< ((iV (bAnd z_50 31)).toInt64 &&& 63))) j p1 p2
        rw [u1_2, u1_o (by omega), u1_o (by omega), u1_o (by omega), f2.1, f2.2.1, f2.2.2.1, f2.2.2.2]
        exact f1
      · rcases rdA (k := k) hb1 q1 q2 q3 q4 q5 with g | g
        · left
          obtain ⟨g1, g2, g3, g4, g5, g6⟩ := g
          have f2 := ad_at (μ := m_50) (n := n) (a := k) (s := vl t L x2) (y := z_41) (x := ((Int64.ofNat ((1 : Fin 2) : Nat)) <<< ((iV (bAnd z_50 31)).toInt64 &&& 63)))
          refine ⟨g1, g2, g3, ?_, ?_, ?_, Or.inr ⟨by rw [u1_o (by omega), f2.1]; exact hk, g4⟩⟩
          · rw [u1_o (by omega)]; exact f2.2.2.2.2
          · rw [u1_s, g5, eng_1]
          · rw [u1_2, u1_o (by omega), u1_o (by omega), u1_o (by omega), f2.1, f2.2.1, f2.2.2.1, f2.2.2.2.1, g5]
            unfold itF
            rw [if_neg (by omega), if_neg (by omega), show ((Int64.ofNat ((1 : Fin 2) : Nat)) <<< ((iV (bAnd z_50 31)).toInt64 &&& 63)).toInt32.toInt = bShl 1 z_50 from blt ⟨by omega, g6⟩]
        · right
          exact g
    · refine mw_lconst dX7_readAttache_64 rfl ?_
      refine mw_goto (tgt := 75) dX7_readAttache_65 (by decide) ?_
      refine mw_Vpv (ci := 7) dX7_readAttache_75 ml_X7_272 ok_X7_addItem (by decide) (by first | rfl | assumption) (by decide) rfl rfl rfl (Nat.le_of_ble_eq_true rfl) (c_M_addItem (by rw [R5.2.2 18 (by omega)]; exact hn) hN) ?_
      refine mw_aload_n dX7_readAttache_78 rfl ?_
      refine mw_dup dX7_readAttache_79 rfl ?_
      refine mw_getI 19 dX7_readAttache_80 gs_X7_259 (by first | rfl | assumption) rfl rfl ?_
      rw [show (u1 (u2 (u1 (u1 (u1 m_50 64 n k) 65 n z_32) 66 n z_41) 67 n _) 56 18 (n + 1)) = adM m_50 n k z_32 z_41 _ from rfl, show (adM m_50 n k z_32 z_41 _).1 56 19 = F 1 by unfold adM; rw [u1_o (by omega), u2_1, u1_o (by omega), u1_o (by omega), u1_o (by omega), R5.2.2 19 (by omega)]; exact hA, g32]
      refine mw_iconst dX7_readAttache_83 ?_
      refine mw_iadd dX7_readAttache_84 ?_
      refine mw_putI 19 dX7_readAttache_85 ps_X7_259 (by first | rfl | assumption) rfl rfl ?_
      refine mw_vret dX7_readAttache_88 rfl ?_
      refine ⟨rfl, (R5.af.tr ad_af).tr ⟨fun c p1 _ _ _ => u56 p1, fun c _ => rfl, fun j p => u1_o (by omega)⟩, fun j p1 p2 => ?_, x5, v5, (ad_rk k5).st (by omega), ?_⟩
      · have f1 := R5.it n j p1 p2
        have f2 := ad_it (μ := m_50) (n := n) (a := k) (s := vl t L x2) (y := z_41) (x := (Int64.ofNat ((0 : Fin 2) : Nat))) j p1 p2
        rw [u1_2, u1_o (by omega), u1_o (by omega), u1_o (by omega), f2.1, f2.2.1, f2.2.2.1, f2.2.2.2]
        exact f1
      · rcases rdA (k := k) hb1 q1 q2 q3 q4 q5 with g | g
        · left
          obtain ⟨g1, g2, g3, g4, g5, g6⟩ := g
          have f2 := ad_at (μ := m_50) (n := n) (a := k) (s := vl t L x2) (y := z_41) (x := (Int64.ofNat ((0 : Fin 2) : Nat)))
          refine ⟨g1, g2, g3, ?_, ?_, ?_, Or.inr ⟨by rw [u1_o (by omega), f2.1]; exact hk, g4⟩⟩
          · rw [u1_o (by omega)]; exact f2.2.2.2.2
          · rw [u1_s, g5, eng_1]
          · rw [u1_2, u1_o (by omega), u1_o (by omega), u1_o (by omega), f2.1, f2.2.1, f2.2.2.1, f2.2.2.2.1, g5]
            unfold itF
            rw [if_pos c_61, if_neg (by omega), show (Int64.ofNat ((0 : Fin 2) : Nat)).toInt32.toInt = 0 by decide +kernel]
        · right
          exact g
  · have hb1 : ((1 : Int) = 1 ∧ F 1 < 8) ∨ ((1 : Int) = 0 ∧ F 1 = 8) := by omega
    refine mw_iconst dX7_readAttache_10 ?_
    refine mw_goto (tgt := 15) dX7_readAttache_11 (by decide) ?_
    refine mw_Vv (ci := 7) dX7_readAttache_15 ml_X7_245 ok_X7_must (by decide) (by first | rfl | assumption) (by decide) rfl rfl rfl (Nat.le_of_ble_eq_true rfl) (c_M_must hP hK hE (by omega) (by omega)) (fun m_15 h_15 => ?_)
    obtain ⟨r1, x1, v1, k1, q1⟩ := h_15
    have b1 := mP_bd q1 hE
    have P1 := hP.rf r1
    refine mw_aload_n dX7_readAttache_18 rfl ?_
    refine mw_aload_n dX7_readAttache_19 rfl ?_
    refine mw_ldcSw (i := 6) (tx := "of") dX7_readAttache_20 (by decide +kernel) ?_
    refine mw_Vpi (ci := 7) dX7_readAttache_23 ml_X7_252 ok_X7_isWord (by decide) (by first | rfl | assumption) (by decide) rfl rfl rfl (Nat.le_of_ble_eq_true rfl) (c_M_isWord P1 k1 b1.1 b1.2 (by omega)) ?_
    refine mw_Vv (ci := 7) dX7_readAttache_26 ml_X7_245 ok_X7_must (by decide) (by first | rfl | assumption) (by decide) rfl rfl rfl (Nat.le_of_ble_eq_true rfl) (c_M_must P1 k1 b1.1 b1.2 (wd_c t L x1 6)) (fun m_26 h_26 => ?_)
    obtain ⟨r2, x2, v2, k2, q2⟩ := h_26
    have b2 := mP_bd q2 b1.1
    have P2 := P1.rf r2
    refine mw_aload_n dX7_readAttache_29 rfl ?_
    refine mw_iconst dX7_readAttache_30 ?_
    refine mw_iconst dX7_readAttache_31 ?_
    refine mw_Vi (ci := 7) dX7_readAttache_32 ml_X7_256 ok_X7_number (by decide) (by first | rfl | assumption) (by decide) rfl rfl rfl (Nat.le_of_ble_eq_true rfl) (c_M_number P2 k2 b2.1 b2.2 (by omega)) (fun z_32 m_32 h_32 => ?_)
    obtain ⟨g32, r3, x3, v3, k3, q3⟩ := h_32
    have b3 := mP_bd q3 b2.1
    have P3 := P2.rf r3
    refine mw_is2 dX7_readAttache_35 (by decide) rfl ?_
    refine mw_aload_n dX7_readAttache_36 rfl ?_
    refine mw_ldcSw (i := 7) (tx := "key") dX7_readAttache_37 (by decide +kernel) ?_
    refine mw_iconst dX7_readAttache_40 ?_
    refine mw_Vi (ci := 7) dX7_readAttache_41 ml_X7_266 ok_X7_perhaps (by decide) (by first | rfl | assumption) (by decide) rfl rfl rfl (Nat.le_of_ble_eq_true rfl) (c_M_perhaps P3 k3 b3.1 b3.2 (by omega)) (fun z_41 m_41 h_41 => ?_)
    obtain ⟨r4, x4, v4, k4, q4⟩ := h_41
    have b4 := pP_bd q4 b3.1 b3.2 (by omega)
    have P4 := P3.rf r4
    refine mw_is3 dX7_readAttache_44 (by decide) rfl ?_
    refine mw_aload_n dX7_readAttache_45 rfl ?_
    refine mw_ldcSw (i := 8) (tx := "blot") dX7_readAttache_46 (by decide +kernel) ?_
    refine mw_iconst dX7_readAttache_49 ?_
    refine mw_Vi (ci := 7) dX7_readAttache_50 ml_X7_266 ok_X7_perhaps (by decide) (by first | rfl | assumption) (by decide) rfl rfl rfl (Nat.le_of_ble_eq_true rfl) (c_M_perhaps P4 k4 b4.1 b4.2.1 (by omega)) (fun z_50 m_50 h_50 => ?_)
    obtain ⟨r5, x5, v5, k5, q5⟩ := h_50
    have b5 := pP_bd q5 b4.1 b4.2.1 (by omega)
    have R5 := r1.tr (r2.tr (r3.tr (r4.tr r5)))
    refine mw_is4 dX7_readAttache_53 (by decide) rfl ?_
    refine mw_aload_n dX7_readAttache_55 rfl ?_
    refine mw_iload_n dX7_readAttache_56 rfl ?_
    refine mw_iload_n dX7_readAttache_57 rfl ?_
    refine mw_iload_n dX7_readAttache_58 rfl ?_
    refine mw_iload dX7_readAttache_59 rfl ?_
    refine mw_if_ge (tgt := 68) dX7_readAttache_61 (by decide) (by omega) (fun c_61 => ?_) (fun c_61 => ?_)
    · refine mw_lconst dX7_readAttache_68 rfl ?_
      refine mw_iload dX7_readAttache_69 rfl ?_
      refine mw_bipush dX7_readAttache_71 (by decide +kernel) ?_
      refine mw_iand dX7_readAttache_73 ?_
      refine mw_lshl dX7_readAttache_74 ?_
      refine mw_Vpv (ci := 7) dX7_readAttache_75 ml_X7_272 ok_X7_addItem (by decide) (by first | rfl | assumption) (by decide) rfl rfl rfl (Nat.le_of_ble_eq_true rfl) (c_M_addItem (by rw [R5.2.2 18 (by omega)]; exact hn) hN) ?_
      refine mw_aload_n dX7_readAttache_78 rfl ?_
      refine mw_dup dX7_readAttache_79 rfl ?_
      refine mw_getI 19 dX7_readAttache_80 gs_X7_259 (by first | rfl | assumption) rfl rfl ?_
      rw [show (u1 (u2 (u1 (u1 (u1 m_50 64 n k) 65 n z_32) 66 n z_41) 67 n _) 56 18 (n + 1)) = adM m_50 n k z_32 z_41 _ from rfl, show (adM m_50 n k z_32 z_41 _).1 56 19 = F 1 by unfold adM; rw [u1_o (by omega), u2_1, u1_o (by omega), u1_o (by omega), u1_o (by omega), R5.2.2 19 (by omega)]; exact hA, g32]
      refine mw_iconst dX7_readAttache_83 ?_
      refine mw_iadd dX7_readAttache_84 ?_
      refine mw_putI 19 dX7_readAttache_85 ps_X7_259 (by first | rfl | assumption) rfl rfl ?_
      refine mw_vret dX7_readAttache_88 rfl ?_
      refine ⟨rfl, (R5.af.tr ad_af).tr ⟨fun c p1 _ _ _ => u56 p1, fun c _ => rfl, fun j p => u1_o (by omega)⟩, fun j p1 p2 => ?_, x5, v5, (ad_rk k5).st (by omega), ?_⟩
      · have f1 := R5.it n j p1 p2
        have f2 := ad_it (μ := m_50) (n := n) (a := k) (s := vl t L x2) (y := z_41) (x := ((Int64.ofNat ((1 : Fin 2) : Nat)) <<< ((iV (bAnd z_50 31)).toInt64 &&& 63))) j p1 p2
        rw [u1_2, u1_o (by omega), u1_o (by omega), u1_o (by omega), f2.1, f2.2.1, f2.2.2.1, f2.2.2.2]
        exact f1
      · rcases rdA (k := k) hb1 q1 q2 q3 q4 q5 with g | g
        · left
          obtain ⟨g1, g2, g3, g4, g5, g6⟩ := g
          have f2 := ad_at (μ := m_50) (n := n) (a := k) (s := vl t L x2) (y := z_41) (x := ((Int64.ofNat ((1 : Fin 2) : Nat)) <<< ((iV (bAnd z_50 31)).toInt64 &&& 63)))
          refine ⟨g1, g2, g3, ?_, ?_, ?_, Or.inr ⟨by rw [u1_o (by omega), f2.1]; exact hk, g4⟩⟩
          · rw [u1_o (by omega)]; exact f2.2.2.2.2
          · rw [u1_s, g5, eng_1]
          · rw [u1_2, u1_o (by omega), u1_o (by omega), u1_o (by omega), f2.1, f2.2.1, f2.2.2.1, f2.2.2.2.1, g5]
            unfold itF
            rw [if_neg (by omega), if_neg (by omega), show ((Int64.ofNat ((1 : Fin 2) : Nat)) <<< ((iV (bAnd z_50 31)).toInt64 &&& 63)).toInt32.toInt = bShl 1 z_50 from blt ⟨by omega, g6⟩]
        · right
          exact g
    · refine mw_lconst dX7_readAttache_64 rfl ?_
      refine mw_goto (tgt := 75) dX7_readAttache_65 (by decide) ?_
      refine mw_Vpv (ci := 7) dX7_readAttache_75 ml_X7_272 ok_X7_addItem (by decide) (by first | rfl | assumption) (by decide) rfl rfl rfl (Nat.le_of_ble_eq_true rfl) (c_M_addItem (by rw [R5.2.2 18 (by omega)]; exact hn) hN) ?_
      refine mw_aload_n dX7_readAttache_78 rfl ?_
      refine mw_dup dX7_readAttache_79 rfl ?_
      refine mw_getI 19 dX7_readAttache_80 gs_X7_259 (by first | rfl | assumption) rfl rfl ?_
      rw [show (u1 (u2 (u1 (u1 (u1 m_50 64 n k) 65 n z_32) 66 n z_41) 67 n _) 56 18 (n + 1)) = adM m_50 n k z_32 z_41 _ from rfl, show (adM m_50 n k z_32 z_41 _).1 56 19 = F 1 by unfold adM; rw [u1_o (by omega), u2_1, u1_o (by omega), u1_o (by omega), u1_o (by omega), R5.2.2 19 (by omega)]; exact hA, g32]
      refine mw_iconst dX7_readAttache_83 ?_
      refine mw_iadd dX7_readAttache_84 ?_
      refine mw_putI 19 dX7_readAttache_85 ps_X7_259 (by first | rfl | assumption) rfl rfl ?_
      refine mw_vret dX7_readAttache_88 rfl ?_
      refine ⟨rfl, (R5.af.tr ad_af).tr ⟨fun c p1 _ _ _ => u56 p1, fun c _ => rfl, fun j p => u1_o (by omega)⟩, fun j p1 p2 => ?_, x5, v5, (ad_rk k5).st (by omega), ?_⟩
      · have f1 := R5.it n j p1 p2
        have f2 := ad_it (μ := m_50) (n := n) (a := k) (s := vl t L x2) (y := z_41) (x := (Int64.ofNat ((0 : Fin 2) : Nat))) j p1 p2
        rw [u1_2, u1_o (by omega), u1_o (by omega), u1_o (by omega), f2.1, f2.2.1, f2.2.2.1, f2.2.2.2]
        exact f1
      · rcases rdA (k := k) hb1 q1 q2 q3 q4 q5 with g | g
        · left
          obtain ⟨g1, g2, g3, g4, g5, g6⟩ := g
          have f2 := ad_at (μ := m_50) (n := n) (a := k) (s := vl t L x2) (y := z_41) (x := (Int64.ofNat ((0 : Fin 2) : Nat)))
          refine ⟨g1, g2, g3, ?_, ?_, ?_, Or.inr ⟨by rw [u1_o (by omega), f2.1]; exact hk, g4⟩⟩
          · rw [u1_o (by omega)]; exact f2.2.2.2.2
          · rw [u1_s, g5, eng_1]
          · rw [u1_2, u1_o (by omega), u1_o (by omega), u1_o (by omega), f2.1, f2.2.1, f2.2.2.1, f2.2.2.2.1, g5]
            unfold itF
            rw [if_pos c_61, if_neg (by omega), show (Int64.ofNat ((0 : Fin 2) : Nat)).toInt32.toInt = 0 by decide +kernel]
        · right
          exact g

def tb (kind n : Int) (t : Int → Int) (i : Int) : Int := if kind = 1 then 2 * t 0 - t i else if kind = 2 then t (n - 1 - i) else if kind = 3 then t 0 else if kind = 4 then 2 * t (n - 1) - t (n - 1 - i) else if kind = 5 then t (n - 1 - i) + i % 2 else t i
def blB (blots i : Int) : Int := bAnd (bShr blots i) 1
def lng (kind n : Int) : Int := if kind = 3 ∧ 6 < n then n - 1 else n
def ansI (kind key blots n : Int) (t : Int → Int) (i : Int) : Int := (tb kind n t i + key + 6 * blB blots i) % 12
theorem and1 (a : Int) : bAnd a 1 = 0 ∨ bAnd a 1 = 1 := by
  have h := pk_and (iV a) (m := iV 1) 1 (by decide +kernel)
  unfold bAnd
  rw [h, nI_toInt (by omega)]
  omega
theorem blB_c (b i : Int) : blB b i = 0 ∨ blB b i = 1 := and1 _
theorem par_tab : ∀ n : Nat, n < 12 → bAnd (n : Int) 1 = (n : Int) % 2 := by decide +kernel
theorem par {i : Int} (h : 0 ≤ i ∧ i < 12) : bAnd i 1 = i % 2 := by
  have := par_tab i.toNat (by omega)
  rwa [show ((i.toNat : Nat) : Int) = i by omega] at this
theorem tb_bd {kind n i : Int} {t : Int → Int} (hi : 0 ≤ i ∧ i < n) (ht : ∀ j : Int, 0 ≤ j → j < n → 0 ≤ t j ∧ t j < 12) : -11 ≤ tb kind n t i ∧ tb kind n t i ≤ 22 := by
  have h0 := ht 0 (by omega) (by omega)
  have h1 := ht i (by omega) (by omega)
  have h2 := ht (n - 1) (by omega) (by omega)
  have h3 := ht (n - 1 - i) (by omega) (by omega)
  unfold tb
  repeat' split
  all_goals omega
theorem ans_bd (kind key blots n : Int) (t : Int → Int) (i : Int) : 0 ≤ ansI kind key blots n t i ∧ ansI kind key blots n t i < 12 := by
  unfold ansI
  omega
theorem tb_congr {kind n i : Int} {t u : Int → Int} (hi : 0 ≤ i ∧ i < n) (h : ∀ j : Int, 0 ≤ j → j < n → t j = u j) : tb kind n t i = tb kind n u i := by
  unfold tb
  rw [h 0 (by omega) (by omega), h i (by omega) (by omega), h (n - 1) (by omega) (by omega), h (n - 1 - i) (by omega) (by omega)]
theorem ans_congr {kind key blots n i : Int} {t u : Int → Int} (hi : 0 ≤ i ∧ i < n) (h : ∀ j : Int, 0 ≤ j → j < n → t j = u j) : ansI kind key blots n t i = ansI kind key blots n u i := by
  unfold ansI
  rw [tb_congr hi h]
theorem lng_bd {kind n : Int} (h : 0 ≤ n) : 0 ≤ lng kind n ∧ lng kind n ≤ n := by
  unfold lng
  split <;> omega
theorem lng_pos {kind n : Int} (h : 0 ≤ n) : 0 < lng kind n ↔ 0 < n := by
  unfold lng
  split <;> omega
set_option maxHeartbeats 4000000 in
set_option maxRecDepth 100000 in
theorem c_A_become {G : mG} {μ : mMem} {k k2 : Nat} (hk : mCls k = 0) (hk2 : mCls k2 = 0) (hne : k2 ≠ k) : mM G yX0_become cX0_become 2 none 0 [.ref k, .ref k2] μ (qV (fun m => (∀ c : Nat, c ≠ k → m.1 c = μ.1 c) ∧ m.2 = μ.2 ∧ ∀ f : Int, 0 ≤ f → f < 5 → m.1 k f = μ.1 k2 f)) := by
  refine mM.of (lv := [some (.ref k), some (.ref k2)]) 0 (by decide +kernel) (Nat.le_of_ble_eq_true rfl) rfl ?_
  intro X
  refine mw_aload_n dX0_become_0 rfl ?_
  refine mw_aload_n dX0_become_1 rfl ?_
  refine mw_getI 0 dX0_become_2 gs_X0_9 (by first | rfl | assumption) rfl rfl ?_
  refine mw_putI 0 dX0_become_5 ps_X0_9 (by first | rfl | assumption) rfl rfl ?_
  refine mw_aload_n dX0_become_8 rfl ?_
  refine mw_aload_n dX0_become_9 rfl ?_
  refine mw_getI 1 dX0_become_10 gs_X0_15 (by first | rfl | assumption) rfl rfl ?_
  refine mw_putI 1 dX0_become_13 ps_X0_15 (by first | rfl | assumption) rfl rfl ?_
  refine mw_aload_n dX0_become_16 rfl ?_
  refine mw_aload_n dX0_become_17 rfl ?_
  refine mw_getI 2 dX0_become_18 gs_X0_18 (by first | rfl | assumption) rfl rfl ?_
  refine mw_putI 2 dX0_become_21 ps_X0_18 (by first | rfl | assumption) rfl rfl ?_
  refine mw_aload_n dX0_become_24 rfl ?_
  refine mw_aload_n dX0_become_25 rfl ?_
  refine mw_getI 3 dX0_become_26 gs_X0_21 (by first | rfl | assumption) rfl rfl ?_
  refine mw_putI 3 dX0_become_29 ps_X0_21 (by first | rfl | assumption) rfl rfl ?_
  refine mw_aload_n dX0_become_32 rfl ?_
  refine mw_aload_n dX0_become_33 rfl ?_
  refine mw_getI 4 dX0_become_34 gs_X0_24 (by first | rfl | assumption) rfl rfl ?_
  refine mw_putI 4 dX0_become_37 ps_X0_24 (by first | rfl | assumption) rfl rfl ?_
  refine mw_vret dX0_become_40 rfl ?_
  refine ⟨rfl, fun c h1 => ?_, rfl, fun f h1 h2 => ?_⟩
  · funext j
    simp [u1, h1]
  · rcases (show f = 0 ∨ f = 1 ∨ f = 2 ∨ f = 3 ∨ f = 4 by omega) with rfl | rfl | rfl | rfl | rfl <;> simp [u1, hne]
set_option maxHeartbeats 4000000 in
set_option maxRecDepth 100000 in
theorem c_A_chKey {G : mG} {μ : mMem} {k : Nat} (hk : mCls k = 0) {v : Int} : mM G yX0_change cX0_change 3 none 0 [.ref k, .int (iV 0), .int (iV v)] μ (pV (u1 μ k 2 v)) := by
  refine mM.of (lv := [some (.ref k), some (.int (iV 0)), some (.int (iV v))]) 0 (by decide +kernel) (Nat.le_of_ble_eq_true rfl) rfl ?_
  intro X
  refine mw_iload_n dX0_change_0 rfl ?_
  refine mw_lkp (off := 27) (tgt := 28) dX0_change_1 (by decide) (by decide) (by decide) (by decide) ?_
  refine mw_aload_n dX0_change_28 rfl ?_
  refine mw_iload_n dX0_change_29 rfl ?_
  refine mw_putI 2 dX0_change_30 ps_X0_18 (by first | rfl | assumption) rfl rfl ?_
  refine mw_goto (tgt := 56) dX0_change_33 (by decide) ?_
  refine mw_vret dX0_change_56 rfl ?_
  exact ⟨rfl, rfl⟩
set_option maxHeartbeats 4000000 in
set_option maxRecDepth 100000 in
theorem c_A_chKind {G : mG} {μ : mMem} {k : Nat} (hk : mCls k = 0) {v : Int} : mM G yX0_change cX0_change 3 none 0 [.ref k, .int (iV 1), .int (iV v)] μ (pV (u1 μ k 0 v)) := by
  refine mM.of (lv := [some (.ref k), some (.int (iV 1)), some (.int (iV v))]) 0 (by decide +kernel) (Nat.le_of_ble_eq_true rfl) rfl ?_
  intro X
  refine mw_iload_n dX0_change_0 rfl ?_
  refine mw_lkp (off := 35) (tgt := 36) dX0_change_1 (by decide) (by decide) (by decide) (by decide) ?_
  refine mw_aload_n dX0_change_36 rfl ?_
  refine mw_iload_n dX0_change_37 rfl ?_
  refine mw_putI 0 dX0_change_38 ps_X0_9 (by first | rfl | assumption) rfl rfl ?_
  refine mw_goto (tgt := 56) dX0_change_41 (by decide) ?_
  refine mw_vret dX0_change_56 rfl ?_
  exact ⟨rfl, rfl⟩
set_option maxHeartbeats 4000000 in
set_option maxRecDepth 100000 in
theorem c_A_chBlot {G : mG} {μ : mMem} {k : Nat} (hk : mCls k = 0) {v : Int} : mM G yX0_change cX0_change 3 none 0 [.ref k, .int (iV 2), .int (iV v)] μ (pV (u1 μ k 3 (bXor (μ.1 k 3) (bShl 1 v)))) := by
  refine mM.of (lv := [some (.ref k), some (.int (iV 2)), some (.int (iV v))]) 0 (by decide +kernel) (Nat.le_of_ble_eq_true rfl) rfl ?_
  intro X
  refine mw_iload_n dX0_change_0 rfl ?_
  refine mw_lkp (off := 43) (tgt := 44) dX0_change_1 (by decide) (by decide) (by decide) (by decide) ?_
  refine mw_aload_n dX0_change_44 rfl ?_
  refine mw_dup dX0_change_45 rfl ?_
  refine mw_getI 3 dX0_change_46 gs_X0_21 (by first | rfl | assumption) rfl rfl ?_
  refine mw_iconst dX0_change_49 ?_
  refine mw_iload_n dX0_change_50 rfl ?_
  refine mw_ishl dX0_change_51 ?_
  refine mw_ixor dX0_change_52 ?_
  refine mw_putI 3 dX0_change_53 ps_X0_21 (by first | rfl | assumption) rfl rfl ?_
  refine mw_vret dX0_change_56 rfl ?_
  exact ⟨rfl, rfl⟩
set_option maxHeartbeats 4000000 in
set_option maxRecDepth 100000 in
theorem c_A_long {G : mG} {μ : mMem} {k : Nat} (hk : mCls k = 0) {h : Nat} (hh : mCls h = 5) (hh1 : mCls (h + 1) = 8) (hl : mLen (h + 1) = 12) (hn : 0 ≤ μ.1 h 1 ∧ μ.1 h 1 ≤ 12) (hkd : 0 ≤ μ.1 k 0 ∧ μ.1 k 0 < 6) : mM G yX0_lengthTo cX0_lengthTo 2 (some .int) 0 [.ref k, .ref h] μ (pI (lng (μ.1 k 0) (μ.1 h 1)) μ) := by
  refine mM.of (lv := [some (.ref k), some (.ref h)]) 0 (by decide +kernel) (Nat.le_of_ble_eq_true rfl) rfl ?_
  intro X
  refine mw_aload_n dX0_lengthTo_0 rfl ?_
  refine mw_getI 0 dX0_lengthTo_1 gs_X0_9 (by first | rfl | assumption) rfl rfl ?_
  refine mw_iconst dX0_lengthTo_4 ?_
  refine mw_icmp_ne (tgt := 24) dX0_lengthTo_5 (by decide) (by omega) (by omega) (fun c_5 => ?_) (fun c_5 => ?_)
  · refine mw_aload_n dX0_lengthTo_24 rfl ?_
    refine mw_getI 1 dX0_lengthTo_25 gs_X0_27 (by first | rfl | assumption) rfl rfl ?_
    refine mw_iret dX0_lengthTo_28 rfl ?_
    exact ⟨by unfold lng; rw [if_neg (fun q => c_5 q.1)], rfl⟩
  · refine mw_aload_n dX0_lengthTo_8 rfl ?_
    refine mw_getI 1 dX0_lengthTo_9 gs_X0_27 (by first | rfl | assumption) rfl rfl ?_
    refine mw_bipush dX0_lengthTo_12 (by decide +kernel) ?_
    refine mw_icmp_le (tgt := 24) dX0_lengthTo_14 (by decide) (by omega) (by omega) (fun c_14 => ?_) (fun c_14 => ?_)
    · refine mw_aload_n dX0_lengthTo_24 rfl ?_
      refine mw_getI 1 dX0_lengthTo_25 gs_X0_27 (by first | rfl | assumption) rfl rfl ?_
      refine mw_iret dX0_lengthTo_28 rfl ?_
      exact ⟨by unfold lng; rw [if_neg (by omega)], rfl⟩
    · refine mw_aload_n dX0_lengthTo_17 rfl ?_
      refine mw_getI 1 dX0_lengthTo_18 gs_X0_27 (by first | rfl | assumption) rfl rfl ?_
      refine mw_iconst dX0_lengthTo_21 ?_
      refine mw_isub dX0_lengthTo_22 ?_
      refine mw_iret dX0_lengthTo_23 rfl ?_
      exact ⟨by unfold lng; rw [if_pos ⟨c_5, c_14⟩], rfl⟩
set_option maxHeartbeats 4000000 in
set_option maxRecDepth 100000 in
theorem c_A_blot {G : mG} {μ : mMem} {k : Nat} (hk : mCls k = 0) {i : Int} (hi : 0 ≤ i ∧ i < 12) : mM G yX0_isBlotted cX0_isBlotted 2 (some .boolean) 0 [.ref k, .int (iV i)] μ (pI (blB (μ.1 k 3) i) μ) := by
  have hb := blB_c (μ.1 k 3) i
  unfold blB at hb
  refine mM.of (lv := [some (.ref k), some (.int (iV i))]) 0 (by decide +kernel) (Nat.le_of_ble_eq_true rfl) rfl ?_
  intro X
  refine mw_iload_n dX0_isBlotted_0 rfl ?_
  refine mw_if_lt (tgt := 26) dX0_isBlotted_1 (by decide) (by omega) (fun c_1 => ?_) (fun c_1 => ?_)
  · exact absurd c_1 (by omega)
  · refine mw_iload_n dX0_isBlotted_4 rfl ?_
    refine mw_bipush dX0_isBlotted_5 (by decide +kernel) ?_
    refine mw_icmp_ge (tgt := 26) dX0_isBlotted_7 (by decide) (by omega) (by omega) (fun c_7 => ?_) (fun c_7 => ?_)
    · exact absurd c_7 (by omega)
    · refine mw_aload_n dX0_isBlotted_10 rfl ?_
      refine mw_getI 3 dX0_isBlotted_11 gs_X0_21 (by first | rfl | assumption) rfl rfl ?_
      refine mw_iload_n dX0_isBlotted_14 rfl ?_
      refine mw_ishr dX0_isBlotted_15 ?_
      refine mw_iconst dX0_isBlotted_16 ?_
      refine mw_iand dX0_isBlotted_17 ?_
      refine mw_iconst dX0_isBlotted_18 ?_
      refine mw_icmp_ne (tgt := 26) dX0_isBlotted_19 (by decide) (by omega) (by omega) (fun c_19 => ?_) (fun c_19 => ?_)
      · refine mw_iconst dX0_isBlotted_26 ?_
        refine mw_zret dX0_isBlotted_27 rfl (by decide +kernel) ?_
        exact ⟨by unfold blB; rw [show bAnd (bShr (μ.1 k 3) i) 1 = 0 by omega], rfl⟩
      · refine mw_iconst dX0_isBlotted_22 ?_
        refine mw_goto (tgt := 27) dX0_isBlotted_23 (by decide) ?_
        refine mw_zret dX0_isBlotted_27 rfl (by decide +kernel) ?_
        exact ⟨by unfold blB; rw [c_19], rfl⟩
set_option maxHeartbeats 4000000 in
set_option maxRecDepth 100000 in
theorem c_A_turned {G : mG} {μ : mMem} {k : Nat} (hk : mCls k = 0) {h : Nat} (hh : mCls h = 5) (hh1 : mCls (h + 1) = 8) (hl : mLen (h + 1) = 12) (hn : 0 ≤ μ.1 h 1 ∧ μ.1 h 1 ≤ 12) (hkd : 0 ≤ μ.1 k 0 ∧ μ.1 k 0 < 6) {i : Int} (hi : 0 ≤ i ∧ i < μ.1 h 1) : mM G yX0_turnedAbout cX0_turnedAbout 5 (some .int) 0 [.ref k, .ref h, .int (iV i)] μ (pI (tb (μ.1 k 0) (μ.1 h 1) (μ.1 (h + 1)) i) μ) := by
  refine mM.of (lv := [some (.ref k), some (.ref h), some (.int (iV i)), none, none]) 2 (by decide +kernel) (Nat.le_of_ble_eq_true rfl) rfl ?_
  intro X
  refine mw_iload_n dX0_turnedAbout_0 rfl ?_
  refine mw_if_lt (tgt := 12) dX0_turnedAbout_1 (by decide) (by omega) (fun c_1 => ?_) (fun c_1 => ?_)
  · exact absurd c_1 (by omega)
  · refine mw_iload_n dX0_turnedAbout_4 rfl ?_
    refine mw_aload_n dX0_turnedAbout_5 rfl ?_
    refine mw_getI 1 dX0_turnedAbout_6 gs_X0_27 (by first | rfl | assumption) rfl rfl ?_
    refine mw_icmp_lt (tgt := 14) dX0_turnedAbout_9 (by decide) (by omega) (by omega) (fun c_9 => ?_) (fun c_9 => ?_)
    · refine mw_aload_n dX0_turnedAbout_14 rfl ?_
      refine mw_gr_5_0 dX0_turnedAbout_15 gs_X0_63 (by first | rfl | assumption) ?_
      refine mw_as3 dX0_turnedAbout_18 (by decide) rfl ?_
      refine mw_aload_n dX0_turnedAbout_19 rfl ?_
      refine mw_getI 1 dX0_turnedAbout_20 gs_X0_27 (by first | rfl | assumption) rfl rfl ?_
      refine mw_iconst dX0_turnedAbout_23 ?_
      refine mw_isub dX0_turnedAbout_24 ?_
      refine mw_is4 dX0_turnedAbout_25 (by decide) rfl ?_
      refine mw_aload_n dX0_turnedAbout_27 rfl ?_
      refine mw_getI 0 dX0_turnedAbout_28 gs_X0_9 (by first | rfl | assumption) rfl rfl ?_
      obtain ⟨kd, ekd⟩ : ∃ z, z = μ.1 k 0 := ⟨_, rfl⟩
      rw [← ekd] at hkd ⊢
      rcases (show kd = 1 ∨ kd = 2 ∨ kd = 3 ∨ kd = 4 ∨ kd = 5 ∨ (kd < 1 ∨ 5 < kd) by omega) with rfl | rfl | rfl | rfl | rfl | c_31
      · refine mw_tblIn (off := 33) (tgt := 64) dX0_turnedAbout_31 (by decide) (by decide) (by decide) (by decide) (by decide) ?_
        refine mw_iconst dX0_turnedAbout_64 ?_
        refine mw_aload_n dX0_turnedAbout_65 rfl ?_
        refine mw_iconst dX0_turnedAbout_66 ?_
        refine mw_iald 12 dX0_turnedAbout_67 (by first | rfl | assumption) (by first | rfl | assumption) (by omega) ?_
        refine mw_imul dX0_turnedAbout_68 ?_
        refine mw_aload_n dX0_turnedAbout_69 rfl ?_
        refine mw_iload_n dX0_turnedAbout_70 rfl ?_
        refine mw_iald 12 dX0_turnedAbout_71 (by first | rfl | assumption) (by first | rfl | assumption) (by omega) ?_
        refine mw_isub dX0_turnedAbout_72 ?_
        refine mw_iret dX0_turnedAbout_73 rfl ?_
        exact ⟨by unfold tb; rw [if_pos rfl], rfl⟩
      · refine mw_tblIn (off := 43) (tgt := 74) dX0_turnedAbout_31 (by decide) (by decide) (by decide) (by decide) (by decide) ?_
        refine mw_aload_n dX0_turnedAbout_74 rfl ?_
        refine mw_iload dX0_turnedAbout_75 rfl ?_
        refine mw_iload_n dX0_turnedAbout_77 rfl ?_
        refine mw_isub dX0_turnedAbout_78 ?_
        refine mw_iald 12 dX0_turnedAbout_79 (by first | rfl | assumption) (by first | rfl | assumption) (by omega) ?_
        refine mw_iret dX0_turnedAbout_80 rfl ?_
        exact ⟨by unfold tb; rw [if_neg (by decide), if_pos rfl], rfl⟩
      · refine mw_tblIn (off := 50) (tgt := 81) dX0_turnedAbout_31 (by decide) (by decide) (by decide) (by decide) (by decide) ?_
        refine mw_aload_n dX0_turnedAbout_81 rfl ?_
        refine mw_iconst dX0_turnedAbout_82 ?_
        refine mw_iald 12 dX0_turnedAbout_83 (by first | rfl | assumption) (by first | rfl | assumption) (by omega) ?_
        refine mw_iret dX0_turnedAbout_84 rfl ?_
        exact ⟨by unfold tb; rw [if_neg (by decide), if_neg (by decide), if_pos rfl], rfl⟩
      · refine mw_tblIn (off := 54) (tgt := 85) dX0_turnedAbout_31 (by decide) (by decide) (by decide) (by decide) (by decide) ?_
        refine mw_iconst dX0_turnedAbout_85 ?_
        refine mw_aload_n dX0_turnedAbout_86 rfl ?_
        refine mw_iload dX0_turnedAbout_87 rfl ?_
        refine mw_iald 12 dX0_turnedAbout_89 (by first | rfl | assumption) (by first | rfl | assumption) (by omega) ?_
        refine mw_imul dX0_turnedAbout_90 ?_
        refine mw_aload_n dX0_turnedAbout_91 rfl ?_
        refine mw_iload dX0_turnedAbout_92 rfl ?_
        refine mw_iload_n dX0_turnedAbout_94 rfl ?_
        refine mw_isub dX0_turnedAbout_95 ?_
        refine mw_iald 12 dX0_turnedAbout_96 (by first | rfl | assumption) (by first | rfl | assumption) (by omega) ?_
        refine mw_isub dX0_turnedAbout_97 ?_
        refine mw_iret dX0_turnedAbout_98 rfl ?_
        exact ⟨by unfold tb; rw [if_neg (by decide), if_neg (by decide), if_neg (by decide), if_pos rfl], rfl⟩
      · refine mw_tblIn (off := 68) (tgt := 99) dX0_turnedAbout_31 (by decide) (by decide) (by decide) (by decide) (by decide) ?_
        refine mw_aload_n dX0_turnedAbout_99 rfl ?_
        refine mw_iload dX0_turnedAbout_100 rfl ?_
        refine mw_iload_n dX0_turnedAbout_102 rfl ?_
        refine mw_isub dX0_turnedAbout_103 ?_
        refine mw_iald 12 dX0_turnedAbout_104 (by first | rfl | assumption) (by first | rfl | assumption) (by omega) ?_
        refine mw_iload_n dX0_turnedAbout_105 rfl ?_
        refine mw_iconst dX0_turnedAbout_106 ?_
        refine mw_iand dX0_turnedAbout_107 ?_
        refine mw_iadd dX0_turnedAbout_108 ?_
        refine mw_iret dX0_turnedAbout_109 rfl ?_
        exact ⟨by unfold tb; rw [if_neg (by decide), if_neg (by decide), if_neg (by decide), if_neg (by decide), if_pos rfl, par (by omega)], rfl⟩
      · refine mw_tblOut (tgt := 110) dX0_turnedAbout_31 (by omega) c_31 (by decide) ?_
        refine mw_aload_n dX0_turnedAbout_110 rfl ?_
        refine mw_iload_n dX0_turnedAbout_111 rfl ?_
        refine mw_iald 12 dX0_turnedAbout_112 (by first | rfl | assumption) (by first | rfl | assumption) (by omega) ?_
        refine mw_iret dX0_turnedAbout_113 rfl ?_
        exact ⟨by unfold tb; rw [if_neg (by omega), if_neg (by omega), if_neg (by omega), if_neg (by omega), if_neg (by omega)], rfl⟩
    · exact absurd c_9 (by omega)
set_option maxHeartbeats 4000000 in
set_option maxRecDepth 100000 in
theorem c_A_tone {G : mG} {μ : mMem} {k : Nat} (hk : mCls k = 0) {h : Nat} (hh : mCls h = 5) (hh1 : mCls (h + 1) = 8) (hl : mLen (h + 1) = 12) (hn : 0 ≤ μ.1 h 1 ∧ μ.1 h 1 ≤ 12) (ht : ∀ j : Int, 0 ≤ j → j < μ.1 h 1 → 0 ≤ μ.1 (h + 1) j ∧ μ.1 (h + 1) j < 12) (hkd : 0 ≤ μ.1 k 0 ∧ μ.1 k 0 < 6) (hky : 0 ≤ μ.1 k 2 ∧ μ.1 k 2 < 12) {i : Int} (hi : 0 ≤ i ∧ i < μ.1 h 1) : mM G yX0_toneTo cX0_toneTo 4 (some .int) 1 [.ref k, .ref h, .int (iV i)] μ (pI (ansI (μ.1 k 0) (μ.1 k 2) (μ.1 k 3) (μ.1 h 1) (μ.1 (h + 1)) i) μ) := by
  have hb := blB_c (μ.1 k 3) i
  have htb := tb_bd (kind := μ.1 k 0) hi ht
  refine mM.of (lv := [some (.ref k), some (.ref h), some (.int (iV i)), none]) 1 (by decide +kernel) (Nat.le_of_ble_eq_true rfl) rfl ?_
  intro X
  refine mw_aload_n dX0_toneTo_0 rfl ?_
  refine mw_aload_n dX0_toneTo_1 rfl ?_
  refine mw_iload_n dX0_toneTo_2 rfl ?_
  refine mw_Vpi (ci := 0) dX0_toneTo_3 ml_X0_32 ok_X0_turnedAbout (by decide) (by first | rfl | assumption) (by decide) rfl rfl rfl (Nat.le_of_ble_eq_true rfl) (c_A_turned hk hh hh1 hl hn hkd hi) ?_
  refine mw_aload_n dX0_toneTo_6 rfl ?_
  refine mw_getI 2 dX0_toneTo_7 gs_X0_18 (by first | rfl | assumption) rfl rfl ?_
  refine mw_iadd dX0_toneTo_10 ?_
  refine mw_is3 dX0_toneTo_11 (by decide) rfl ?_
  refine mw_aload_n dX0_toneTo_12 rfl ?_
  refine mw_iload_n dX0_toneTo_13 rfl ?_
  refine mw_Vpi (ci := 0) dX0_toneTo_14 ml_X0_36 ok_X0_isBlotted (by decide) (by first | rfl | assumption) (by decide) rfl rfl rfl (Nat.le_of_ble_eq_true rfl) (c_A_blot hk (by omega)) ?_
  refine mw_if_eq (tgt := 23) dX0_toneTo_17 (by decide) (by omega) (fun c_17 => ?_) (fun c_17 => ?_)
  · refine mw_iload_n dX0_toneTo_23 rfl ?_
    refine mw_bipush dX0_toneTo_24 (by decide +kernel) ?_
    refine mw_Spi dX0_toneTo_26 ml_X0_40 ok_J9_floorMod_7cf53 (by decide) rfl rfl (Nat.le_of_ble_eq_true rfl) (c_floorMod (by omega)) ?_
    refine mw_iret dX0_toneTo_29 rfl ?_
    exact ⟨by unfold ansI; rw [show blB (μ.1 k 3) i = 0 by omega]; congr 3; omega, rfl⟩
  · refine mw_ii3 dX0_toneTo_20 (by decide) rfl ?_
    refine mw_iload_n dX0_toneTo_23 rfl ?_
    refine mw_bipush dX0_toneTo_24 (by decide +kernel) ?_
    refine mw_Spi dX0_toneTo_26 ml_X0_40 ok_J9_floorMod_7cf53 (by decide) rfl rfl (Nat.le_of_ble_eq_true rfl) (c_floorMod (by omega)) ?_
    refine mw_iret dX0_toneTo_29 rfl ?_
    exact ⟨by unfold ansI; rw [show blB (μ.1 k 3) i = 1 by omega, Int.mul_one], rfl⟩
set_option maxHeartbeats 4000000 in
set_option maxRecDepth 100000 in
theorem c_A_write {G : mG} {μ : mMem} {k : Nat} (hk : mCls k = 0) {h : Nat} (hh : mCls h = 5) (hh1 : mCls (h + 1) = 8) (hl : mLen (h + 1) = 12) (hn : 0 ≤ μ.1 h 1 ∧ μ.1 h 1 ≤ 12) (ht : ∀ j : Int, 0 ≤ j → j < μ.1 h 1 → 0 ≤ μ.1 (h + 1) j ∧ μ.1 (h + 1) j < 12) (hkd : 0 ≤ μ.1 k 0 ∧ μ.1 k 0 < 6) (hky : 0 ≤ μ.1 k 2 ∧ μ.1 k 2 < 12) (hwr : 0 ≤ μ.1 k 4 ∧ μ.1 k 4 ≤ 9999) {o : Nat} (ho : mCls o = 5) (ho1 : mCls (o + 1) = 8) (hlo : mLen (o + 1) = 12) (hne : k ≠ o ∧ k ≠ o + 1 ∧ h ≠ o ∧ h ≠ o + 1 ∧ h + 1 ≠ o) : mM G yX0_writeTo cX0_writeTo 5 none 2 [.ref k, .ref h, .ref o] μ (qV (fun m => (∀ c : Nat, c ≠ o → c ≠ o + 1 → c ≠ k → m.1 c = μ.1 c) ∧ m.2 = μ.2 ∧ m.1 o 1 = lng (μ.1 k 0) (μ.1 h 1) ∧ (∀ i : Int, 0 ≤ i → i < lng (μ.1 k 0) (μ.1 h 1) → m.1 (o + 1) i = ansI (μ.1 k 0) (μ.1 k 2) (μ.1 k 3) (μ.1 h 1) (μ.1 (h + 1)) i) ∧ (∀ f : Int, f ≠ 4 → m.1 k f = μ.1 k f) ∧ m.1 k 4 = min (μ.1 k 4 + 1) 9999)) := by
  have hL := lng_bd (kind := μ.1 k 0) hn.1
  refine mM.of (lv := [some (.ref k), some (.ref h), some (.ref o), none, none]) 2 (by decide +kernel) (Nat.le_of_ble_eq_true rfl) rfl ?_
  intro X
  have lp : ∀ (n_ : Nat) (i : Int) (m : mMem), (0 ≤ i) → (i ≤ lng (μ.1 k 0) (μ.1 h 1)) → (13 ≤ i + n_) → (∀ c : Nat, c ≠ o → c ≠ o + 1 → m.1 c = μ.1 c) → (m.2 = μ.2) → (m.1 o 1 = i) → (∀ j : Int, 0 ≤ j → j < i → m.1 (o + 1) j = ansI (μ.1 k 0) (μ.1 k 2) (μ.1 k 3) (μ.1 h 1) (μ.1 (h + 1)) j) → mW X cX0_writeTo 5 none yX0_writeTo.cls 2 G (qV (fun m => (∀ c : Nat, c ≠ o → c ≠ o + 1 → c ≠ k → m.1 c = μ.1 c) ∧ m.2 = μ.2 ∧ m.1 o 1 = lng (μ.1 k 0) (μ.1 h 1) ∧ (∀ i : Int, 0 ≤ i → i < lng (μ.1 k 0) (μ.1 h 1) → m.1 (o + 1) i = ansI (μ.1 k 0) (μ.1 k 2) (μ.1 k 3) (μ.1 h 1) (μ.1 (h + 1)) i) ∧ (∀ f : Int, f ≠ 4 → m.1 k f = μ.1 k f) ∧ m.1 k 4 = min (μ.1 k 4 + 1) 9999)) 13 [some (.ref k), some (.ref h), some (.ref o), some (.int (iV (lng (μ.1 k 0) (μ.1 h 1)))), some (.int (iV i))] [] m := by
    intro n_
    induction n_ with
    | zero =>
      intro i m h1 h2 h3 h4 h5 h6 h7
      omega
    | succ n_ ih =>
      intro i m h1 h2 h3 h4 h5 h6 h7
      have ek_k := h4 k hne.1 hne.2.1
      have ek_h := h4 h hne.2.2.1 hne.2.2.2.1
      have ek_h1 := h4 (h + 1) hne.2.2.2.2 (by omega)
      refine mw_iload dX0_writeTo_13 rfl ?_
      refine mw_iload_n dX0_writeTo_15 rfl ?_
      refine mw_icmp_ge (tgt := 36) dX0_writeTo_16 (by decide) (by omega) (by omega) (fun c_16 => ?_) (fun c_16 => ?_)
      · refine mw_aload_n dX0_writeTo_36 rfl ?_
        refine mw_aload_n dX0_writeTo_37 rfl ?_
        refine mw_getI 4 dX0_writeTo_38 gs_X0_24 hk rfl rfl ?_
        refine mw_iconst dX0_writeTo_41 ?_
        refine mw_iadd dX0_writeTo_42 ?_
        refine mw_sipush dX0_writeTo_43 (by decide +kernel) ?_
        refine mw_Spi dX0_writeTo_46 ml_X0_60 ok_J9_min_7cf53 (by decide) rfl rfl (Nat.le_of_ble_eq_true rfl) (c_min (by rw [ek_k]; omega) (by omega)) ?_
        refine mw_putI 4 dX0_writeTo_49 ps_X0_24 hk rfl rfl ?_
        refine mw_vret dX0_writeTo_52 rfl ?_
        refine ⟨rfl, fun c q1 q2 q3 => ?_, by rw [← h5]; rfl, ?_, fun j q1 q2 => ?_, fun f q1 => ?_, ?_⟩
        · rw [← h4 c q1 q2]
          funext j
          rw [u1_o (by omega)]
        · rw [u1_o (by omega), h6]
          omega
        · rw [u1_o (by omega)]
          exact h7 j q1 (by omega)
        · rw [u1_o (by omega), ek_k]
        · rw [u1_s, ek_k]
      · refine mw_aload_n dX0_writeTo_19 rfl ?_
        refine mw_aload_n dX0_writeTo_20 rfl ?_
        refine mw_aload_n dX0_writeTo_21 rfl ?_
        refine mw_iload dX0_writeTo_22 rfl ?_
        refine mw_Vpi (ci := 0) dX0_writeTo_24 ml_X0_53 ok_X0_toneTo (by decide) (by first | rfl | assumption) (by decide) rfl rfl rfl (Nat.le_of_ble_eq_true rfl) (c_A_tone hk hh hh1 hl (by rw [ek_h]; exact hn) (by rw [ek_h, ek_h1]; exact ht) (by rw [ek_k]; exact hkd) (by rw [ek_k]; exact hky) (by rw [ek_h]; omega)) ?_
        refine mw_Vpv (ci := 5) dX0_writeTo_27 ml_X0_56 ok_X5_append (by decide) ho (by decide) rfl rfl rfl (Nat.le_of_ble_eq_true rfl) (c_T_append ho ho1 hlo (by rw [h6]; omega)) ?_
        refine mw_ii4 dX0_writeTo_30 (by decide) rfl ?_
        refine mw_goto (tgt := 13) dX0_writeTo_33 (by decide) ?_
        refine ih _ _ (by omega) (by omega) (by omega) (fun c q1 q2 => ?_) (by rw [← h5]; rfl) (by rw [u1_s, h6]) (fun j q1 q2 => ?_)
        · rw [← h4 c q1 q2]
          funext j
          rw [u1_o (by omega), u1_o (by omega)]
        · rw [u1_o (by omega)]
          by_cases hj : j = i
          · rw [hj, h6, u1_s, ek_k, ek_h, ek_h1]
          · rw [u1_o (by omega)]
            exact h7 j q1 (by omega)
  refine mw_aload_n dX0_writeTo_0 rfl ?_
  refine mw_aload_n dX0_writeTo_1 rfl ?_
  refine mw_Vpi (ci := 0) dX0_writeTo_2 ml_X0_46 ok_X0_lengthTo (by decide) (by first | rfl | assumption) (by decide) rfl rfl rfl (Nat.le_of_ble_eq_true rfl) (c_A_long hk hh hh1 hl hn hkd) ?_
  refine mw_is3 dX0_writeTo_5 (by decide) rfl ?_
  refine mw_aload_n dX0_writeTo_6 rfl ?_
  refine mw_Vpv (ci := 5) dX0_writeTo_7 ml_X0_50 ok_X5_clear (by decide) ho (by decide) rfl rfl rfl (Nat.le_of_ble_eq_true rfl) (c_T_clear ho) ?_
  refine mw_iconst dX0_writeTo_10 ?_
  refine mw_is4 dX0_writeTo_11 (by decide) rfl ?_
  refine lp 13 _ _ (by omega) (by omega) (by omega) (fun c q1 q2 => ?_) rfl (u1_s _ _ _ _) (fun j q1 q2 => by omega)
  funext j
  rw [u1_o (by omega)]

set_option maxHeartbeats 4000000 in
set_option maxRecDepth 100000 in
theorem c_T_clear {G : mG} {μ : mMem} {k : Nat} (hk : mCls k = 5) : mM G yX5_clear cX5_clear 1 none 0 [.ref k] μ (pV (u1 μ k 1 0)) := by
  refine mM.of (lv := [some (.ref k)]) 0 (by decide +kernel) (Nat.le_of_ble_eq_true rfl) rfl ?_
  intro X
  refine mw_aload_n dX5_clear_0 rfl ?_
  refine mw_iconst dX5_clear_1 ?_
  refine mw_putI 1 dX5_clear_2 ps_X5_15 (by first | rfl | assumption) rfl rfl ?_
  refine mw_vret dX5_clear_5 rfl ?_
  exact ⟨rfl, rfl⟩
set_option maxHeartbeats 4000000 in
set_option maxRecDepth 100000 in
theorem c_T_append {G : mG} {μ : mMem} {k : Nat} (hk : mCls k = 5) (hk1 : mCls (k + 1) = 8) (hl1 : mLen (k + 1) = 12) {x : Int} (hn : 0 ≤ μ.1 k 1 ∧ μ.1 k 1 < 12) : mM G yX5_append cX5_append 2 none 0 [.ref k, .int (iV x)] μ (pV (u1 (u1 μ (k + 1) (μ.1 k 1) x) k 1 (μ.1 k 1 + 1))) := by
  refine mM.of (lv := [some (.ref k), some (.int (iV x))]) 0 (by decide +kernel) (Nat.le_of_ble_eq_true rfl) rfl ?_
  intro X
  refine mw_aload_n dX5_append_0 rfl ?_
  refine mw_getI 1 dX5_append_1 gs_X5_15 (by first | rfl | assumption) rfl rfl ?_
  refine mw_bipush dX5_append_4 (by decide +kernel) ?_
  refine mw_icmp_ge (tgt := 29) dX5_append_6 (by decide) (by omega) (by omega) (fun c_6 => ?_) (fun c_6 => ?_)
  · exact absurd c_6 (by omega)
  · refine mw_aload_n dX5_append_9 rfl ?_
    refine mw_gr_5_0 dX5_append_10 gs_X5_9 (by first | rfl | assumption) ?_
    refine mw_aload_n dX5_append_13 rfl ?_
    refine mw_getI 1 dX5_append_14 gs_X5_15 (by first | rfl | assumption) rfl rfl ?_
    refine mw_iload_n dX5_append_17 rfl ?_
    refine mw_iast 12 dX5_append_18 (by first | rfl | assumption) (by first | rfl | assumption) (by omega) ?_
    refine mw_aload_n dX5_append_19 rfl ?_
    refine mw_dup dX5_append_20 rfl ?_
    refine mw_getI 1 dX5_append_21 gs_X5_15 (by first | rfl | assumption) rfl rfl ?_
    rw [u1_o (by omega)]
    refine mw_iconst dX5_append_24 ?_
    refine mw_iadd dX5_append_25 ?_
    refine mw_putI 1 dX5_append_26 ps_X5_15 (by first | rfl | assumption) rfl rfl ?_
    refine mw_vret dX5_append_29 rfl ?_
    exact ⟨rfl, rfl⟩
set_option maxHeartbeats 4000000 in
set_option maxRecDepth 100000 in
theorem c_T_become {G : mG} {μ : mMem} {k k2 : Nat} (hk : mCls k = 5) (hk1 : mCls (k + 1) = 8) (hl1 : mLen (k + 1) = 12) (hk2 : mCls k2 = 5) (hk21 : mCls (k2 + 1) = 8) (hl2 : mLen (k2 + 1) = 12) (hne : k2 ≠ k ∧ k2 ≠ k + 1) : mM G yX5_become cX5_become 2 none 1 [.ref k, .ref k2] μ (qV (fun m => (∀ c : Nat, c ≠ k → c ≠ k + 1 → m.1 c = μ.1 c) ∧ m.2 = μ.2 ∧ m.1 k 1 = μ.1 k2 1 ∧ ∀ i : Int, 0 ≤ i → i < 12 → m.1 (k + 1) i = μ.1 (k2 + 1) i)) := by
  refine mM.of (lv := [some (.ref k), some (.ref k2)]) 0 (by decide +kernel) (Nat.le_of_ble_eq_true rfl) rfl ?_
  intro X
  refine mw_aload_n dX5_become_0 rfl ?_
  refine mw_gr_5_0 dX5_become_1 gs_X5_9 (by first | rfl | assumption) ?_
  refine mw_iconst dX5_become_4 ?_
  refine mw_aload_n dX5_become_5 rfl ?_
  refine mw_gr_5_0 dX5_become_6 gs_X5_9 (by first | rfl | assumption) ?_
  refine mw_iconst dX5_become_9 ?_
  refine mw_bipush dX5_become_10 (by decide +kernel) ?_
  refine mw_copyi 12 12 dX5_become_12 ac_X5_19 hk21 hk1 hl2 hl1 (by omega) (by decide) (by decide +kernel) ?_
  refine mw_aload_n dX5_become_15 rfl ?_
  refine mw_aload_n dX5_become_16 rfl ?_
  refine mw_getI 1 dX5_become_17 gs_X5_15 (by first | rfl | assumption) rfl rfl ?_
  refine mw_putI 1 dX5_become_20 ps_X5_15 (by first | rfl | assumption) rfl rfl ?_
  refine mw_vret dX5_become_23 rfl ?_
  refine ⟨rfl, fun c h1 h2 => ?_, rfl, ?_, fun i h1 h2 => ?_⟩
  · funext j
    rw [u1_o (by omega)]
    simp [cpm, h2]
  · rw [u1_s]
    simp [cpm, hne.2]
  · rw [u1_o (by omega)]
    simp [cpm, h1, h2]
set_option maxHeartbeats 4000000 in
set_option maxRecDepth 100000 in
theorem c_T_toneAt {G : mG} {μ : mMem} {k : Nat} (hk : mCls k = 5) (hk1 : mCls (k + 1) = 8) (hl1 : mLen (k + 1) = 12) {i : Int} (hi : 0 ≤ i ∧ i < μ.1 k 1) (hn : μ.1 k 1 ≤ 12) : mM G yX5_toneAt cX5_toneAt 2 (some .int) 0 [.ref k, .int (iV i)] μ (pI (μ.1 (k + 1) i) μ) := by
  refine mM.of (lv := [some (.ref k), some (.int (iV i))]) 0 (by decide +kernel) (Nat.le_of_ble_eq_true rfl) rfl ?_
  intro X
  refine mw_iload_n dX5_toneAt_0 rfl ?_
  refine mw_if_lt (tgt := 21) dX5_toneAt_1 (by decide) (by omega) (fun c_1 => ?_) (fun c_1 => ?_)
  · exact absurd c_1 (by omega)
  · refine mw_iload_n dX5_toneAt_4 rfl ?_
    refine mw_aload_n dX5_toneAt_5 rfl ?_
    refine mw_getI 1 dX5_toneAt_6 gs_X5_15 (by first | rfl | assumption) rfl rfl ?_
    refine mw_icmp_ge (tgt := 21) dX5_toneAt_9 (by decide) (by omega) (by omega) (fun c_9 => ?_) (fun c_9 => ?_)
    · exact absurd c_9 (by omega)
    · refine mw_aload_n dX5_toneAt_12 rfl ?_
      refine mw_gr_5_0 dX5_toneAt_13 gs_X5_9 (by first | rfl | assumption) ?_
      refine mw_iload_n dX5_toneAt_16 rfl ?_
      refine mw_iald 12 dX5_toneAt_17 (by first | rfl | assumption) (by first | rfl | assumption) (by omega) ?_
      refine mw_goto (tgt := 22) dX5_toneAt_18 (by decide) ?_
      refine mw_iret dX5_toneAt_22 rfl ?_
      exact ⟨rfl, rfl⟩
def homeI (n : Int) (t : Int → Int) : Int := if 0 < n ∧ t (n - 1) = 0 then 1 else 0
theorem homeI_c (n : Int) (t : Int → Int) : homeI n t = 0 ∨ homeI n t = 1 := by unfold homeI; split <;> simp
set_option maxHeartbeats 4000000 in
set_option maxRecDepth 100000 in
theorem c_T_isHome {G : mG} {μ : mMem} {k : Nat} (hk : mCls k = 5) (hk1 : mCls (k + 1) = 8) (hl1 : mLen (k + 1) = 12) (hn : 0 ≤ μ.1 k 1 ∧ μ.1 k 1 ≤ 12) (ht : 0 < μ.1 k 1 → 0 ≤ μ.1 (k + 1) (μ.1 k 1 - 1) ∧ μ.1 (k + 1) (μ.1 k 1 - 1) < 12) : mM G yX5_isHome cX5_isHome 1 (some .boolean) 0 [.ref k] μ (pI (homeI (μ.1 k 1) (μ.1 (k + 1))) μ) := by
  refine mM.of (lv := [some (.ref k)]) 0 (by decide +kernel) (Nat.le_of_ble_eq_true rfl) rfl ?_
  intro X
  refine mw_aload_n dX5_isHome_0 rfl ?_
  refine mw_getI 1 dX5_isHome_1 gs_X5_15 (by first | rfl | assumption) rfl rfl ?_
  refine mw_if_le (tgt := 25) dX5_isHome_4 (by decide) (by omega) (fun c_4 => ?_) (fun c_4 => ?_)
  · refine mw_iconst dX5_isHome_25 ?_
    refine mw_zret dX5_isHome_26 rfl (by decide +kernel) ?_
    exact ⟨by unfold homeI; rw [if_neg (by omega)], rfl⟩
  · refine mw_aload_n dX5_isHome_7 rfl ?_
    refine mw_gr_5_0 dX5_isHome_8 gs_X5_9 (by first | rfl | assumption) ?_
    refine mw_aload_n dX5_isHome_11 rfl ?_
    refine mw_getI 1 dX5_isHome_12 gs_X5_15 (by first | rfl | assumption) rfl rfl ?_
    refine mw_iconst dX5_isHome_15 ?_
    refine mw_isub dX5_isHome_16 ?_
    refine mw_iald 12 dX5_isHome_17 (by first | rfl | assumption) (by first | rfl | assumption) (by omega) ?_
    refine mw_if_ne (tgt := 25) dX5_isHome_18 (by decide) (by have := ht c_4; omega) (fun c_18 => ?_) (fun c_18 => ?_)
    · refine mw_iconst dX5_isHome_25 ?_
      refine mw_zret dX5_isHome_26 rfl (by decide +kernel) ?_
      exact ⟨by unfold homeI; rw [if_neg (fun q => c_18 q.2)], rfl⟩
    · refine mw_iconst dX5_isHome_21 ?_
      refine mw_goto (tgt := 26) dX5_isHome_22 (by decide) ?_
      refine mw_zret dX5_isHome_26 rfl (by decide +kernel) ?_
      exact ⟨by unfold homeI; rw [if_pos ⟨c_4, c_18⟩], rfl⟩
set_option maxHeartbeats 4000000 in
set_option maxRecDepth 100000 in
theorem c_T_leap {G : mG} {μ : mMem} {a b : Int} (ha : 0 ≤ a ∧ a < 12) (hb : 0 ≤ b ∧ b < 12) : mM G yX5_leapBetween cX5_leapBetween 3 (some .int) 1 [.int (iV a), .int (iV b)] μ (pI (leap a b) μ) := by
  refine mM.of (lv := [some (.int (iV a)), some (.int (iV b)), none]) 1 (by decide +kernel) (Nat.le_of_ble_eq_true rfl) rfl ?_
  intro X
  refine mw_iload_n dX5_leapBetween_0 rfl ?_
  refine mw_iload_n dX5_leapBetween_1 rfl ?_
  refine mw_isub dX5_leapBetween_2 ?_
  refine mw_Spi dX5_leapBetween_3 ml_X5_41 ok_J9_abs_0f7a4 (by decide) rfl rfl (Nat.le_of_ble_eq_true rfl) (c_abs (by omega)) ?_
  refine mw_is2 dX5_leapBetween_6 (by decide) rfl ?_
  refine mw_iload_n dX5_leapBetween_7 rfl ?_
  refine mw_bipush dX5_leapBetween_8 (by decide +kernel) ?_
  refine mw_iload_n dX5_leapBetween_10 rfl ?_
  refine mw_isub dX5_leapBetween_11 ?_
  refine mw_Spi dX5_leapBetween_12 ml_X5_29 ok_J9_min_7cf53 (by decide) rfl rfl (Nat.le_of_ble_eq_true rfl) (c_min (by omega) (by omega)) ?_
  refine mw_iret dX5_leapBetween_15 rfl ?_
  exact ⟨rfl, rfl⟩
theorem leap_bd {a b : Int} (ha : 0 ≤ a ∧ a < 12) (hb : 0 ≤ b ∧ b < 12) : 0 ≤ leap a b ∧ leap a b ≤ 12 := by unfold leap; omega
set_option maxHeartbeats 4000000 in
set_option maxRecDepth 100000 in
theorem c_T_wide {G : mG} {μ : mMem} {k : Nat} (hk : mCls k = 5) (hk1 : mCls (k + 1) = 8) (hl1 : mLen (k + 1) = 12) (hn : 0 ≤ μ.1 k 1 ∧ μ.1 k 1 ≤ 12) (ht : ∀ i : Int, 0 ≤ i → i < μ.1 k 1 → 0 ≤ μ.1 (k + 1) i ∧ μ.1 (k + 1) i < 12) : mM G yX5_wideLeaps cX5_wideLeaps 3 (some .int) 2 [.ref k] μ (pI (tens (μ.1 (k + 1)) (μ.1 k 1).toNat) μ) := by
  refine mM.of (lv := [some (.ref k), none, none]) 2 (by decide +kernel) (Nat.le_of_ble_eq_true rfl) rfl ?_
  intro X
  have lp : ∀ (n_ : Nat) (i v : Int), 1 ≤ i → i ≤ 12 → 13 ≤ i + n_ → i ≤ max 1 (μ.1 k 1) → v = tens (μ.1 (k + 1)) i.toNat → mW X cX5_wideLeaps 3 (some .int) yX5_wideLeaps.cls 2 G (pI (tens (μ.1 (k + 1)) (μ.1 k 1).toNat) μ) 4 [some (.ref k), some (.int (iV v)), some (.int (iV i))] [] μ := by
    intro n_
    induction n_ with
    | zero =>
      intro i v h1 h2 h3 h4 h5
      omega
    | succ n_ ih =>
      intro i v h1 h2 h3 h4 h5
      refine mw_iload_n dX5_wideLeaps_4 rfl ?_
      refine mw_aload_n dX5_wideLeaps_5 rfl ?_
      refine mw_getI 1 dX5_wideLeaps_6 gs_X5_15 (by first | rfl | assumption) rfl rfl ?_
      refine mw_icmp_ge (tgt := 42) dX5_wideLeaps_9 (by decide) (by omega) (by omega) (fun c_9 => ?_) (fun c_9 => ?_)
      · refine mw_iload_n dX5_wideLeaps_42 rfl ?_
        refine mw_iret dX5_wideLeaps_43 rfl ?_
        refine ⟨?_, rfl⟩
        rw [h5]
        by_cases hq : μ.1 k 1 ≤ 0
        · rw [show i.toNat = 1 by omega, show (μ.1 k 1).toNat = 0 by omega]
          rfl
        · rw [show (μ.1 k 1).toNat = i.toNat by omega]
      · have hle := leap_bd (ht (i - 1) (by omega) (by omega)) (ht i (by omega) (by omega))
        have hst : tens (μ.1 (k + 1)) (i + 1).toNat = tens (μ.1 (k + 1)) i.toNat + (if 4 ≤ leap (μ.1 (k + 1) (i - 1)) (μ.1 (k + 1) i) then 1 else 0) := by
          rw [show (i + 1).toNat = i.toNat + 1 by omega, tens, show ((i.toNat : Nat) : Int) = i by omega]
          congr 1
          by_cases hq : 4 ≤ leap (μ.1 (k + 1) (i - 1)) (μ.1 (k + 1) i)
          · rw [if_pos ⟨by omega, hq⟩, if_pos hq]
          · rw [if_neg (fun q => hq q.2), if_neg hq]
        refine mw_aload_n dX5_wideLeaps_12 rfl ?_
        refine mw_gr_5_0 dX5_wideLeaps_13 gs_X5_9 (by first | rfl | assumption) ?_
        refine mw_iload_n dX5_wideLeaps_16 rfl ?_
        refine mw_iconst dX5_wideLeaps_17 ?_
        refine mw_isub dX5_wideLeaps_18 ?_
        refine mw_iald 12 dX5_wideLeaps_19 (by first | rfl | assumption) (by first | rfl | assumption) (by omega) ?_
        refine mw_aload_n dX5_wideLeaps_20 rfl ?_
        refine mw_gr_5_0 dX5_wideLeaps_21 gs_X5_9 (by first | rfl | assumption) ?_
        refine mw_iload_n dX5_wideLeaps_24 rfl ?_
        refine mw_iald 12 dX5_wideLeaps_25 (by first | rfl | assumption) (by first | rfl | assumption) (by omega) ?_
        refine mw_Spi dX5_wideLeaps_26 ml_X5_38 ok_X5_leapBetween (by decide) rfl rfl (Nat.le_of_ble_eq_true rfl) (c_T_leap (ht _ (by omega) (by omega)) (ht _ (by omega) (by omega))) ?_
        refine mw_iconst dX5_wideLeaps_29 ?_
        refine mw_icmp_lt (tgt := 36) dX5_wideLeaps_30 (by decide) (by omega) (by omega) (fun c_30 => ?_) (fun c_30 => ?_)
        · refine mw_ii2 dX5_wideLeaps_36 (by decide) rfl ?_
          refine mw_goto (tgt := 4) dX5_wideLeaps_39 (by decide) ?_
          exact ih _ _ (by omega) (by omega) (by omega) (by omega) (by rw [hst, if_neg (by omega), h5]; omega)
        · refine mw_ii1 dX5_wideLeaps_33 (by decide) rfl ?_
          refine mw_ii2 dX5_wideLeaps_36 (by decide) rfl ?_
          refine mw_goto (tgt := 4) dX5_wideLeaps_39 (by decide) ?_
          exact ih _ _ (by omega) (by omega) (by omega) (by omega) (by rw [hst, if_pos (by omega), h5])
  refine mw_iconst dX5_wideLeaps_0 ?_
  refine mw_is1 dX5_wideLeaps_1 (by decide) rfl ?_
  refine mw_iconst dX5_wideLeaps_2 ?_
  refine mw_is2 dX5_wideLeaps_3 (by decide) rfl ?_
  exact lp 12 _ _ (by omega) (by omega) (by omega) (by omega) rfl
set_option maxHeartbeats 4000000 in
set_option maxRecDepth 100000 in
theorem c_T_set {G : mG} {μ : mMem} {k : Nat} (hk : mCls k = 5) (hk1 : mCls (k + 1) = 8) (hl1 : mLen (k + 1) = 12) (hn : 0 ≤ μ.1 k 1 ∧ μ.1 k 1 ≤ 12) : mM G yX5_toneSet cX5_toneSet 3 (some .int) 0 [.ref k] μ (pI (tset (μ.1 (k + 1)) (μ.1 k 1).toNat) μ) := by
  refine mM.of (lv := [some (.ref k), none, none]) 2 (by decide +kernel) (Nat.le_of_ble_eq_true rfl) rfl ?_
  intro X
  have lp : ∀ (n_ : Nat) (i v : Int), 0 ≤ i → i ≤ μ.1 k 1 → 13 ≤ i + n_ → v = tset (μ.1 (k + 1)) i.toNat → mW X cX5_toneSet 3 (some .int) yX5_toneSet.cls 0 G (pI (tset (μ.1 (k + 1)) (μ.1 k 1).toNat) μ) 4 [some (.ref k), some (.int (iV v)), some (.int (iV i))] [] μ := by
    intro n_
    induction n_ with
    | zero =>
      intro i v h1 h2 h3 h5
      omega
    | succ n_ ih =>
      intro i v h1 h2 h3 h5
      refine mw_iload_n dX5_toneSet_4 rfl ?_
      refine mw_aload_n dX5_toneSet_5 rfl ?_
      refine mw_getI 1 dX5_toneSet_6 gs_X5_15 (by first | rfl | assumption) rfl rfl ?_
      refine mw_icmp_ge (tgt := 29) dX5_toneSet_9 (by decide) (by omega) (by omega) (fun c_9 => ?_) (fun c_9 => ?_)
      · refine mw_iload_n dX5_toneSet_29 rfl ?_
        refine mw_iret dX5_toneSet_30 rfl ?_
        exact ⟨by rw [h5, show (μ.1 k 1).toNat = i.toNat by omega], rfl⟩
      · refine mw_iload_n dX5_toneSet_12 rfl ?_
        refine mw_iconst dX5_toneSet_13 ?_
        refine mw_aload_n dX5_toneSet_14 rfl ?_
        refine mw_gr_5_0 dX5_toneSet_15 gs_X5_9 (by first | rfl | assumption) ?_
        refine mw_iload_n dX5_toneSet_18 rfl ?_
        refine mw_iald 12 dX5_toneSet_19 (by first | rfl | assumption) (by first | rfl | assumption) (by omega) ?_
        refine mw_ishl dX5_toneSet_20 ?_
        refine mw_ior dX5_toneSet_21 ?_
        refine mw_is1 dX5_toneSet_22 (by decide) rfl ?_
        refine mw_ii2 dX5_toneSet_23 (by decide) rfl ?_
        refine mw_goto (tgt := 4) dX5_toneSet_26 (by decide) ?_
        exact ih _ _ (by omega) (by omega) (by omega) (by rw [show (i + 1).toNat = i.toNat + 1 by omega, tset, h5, show ((i.toNat : Nat) : Int) = i by omega])
  refine mw_iconst dX5_toneSet_0 ?_
  refine mw_is1 dX5_toneSet_1 (by decide) rfl ?_
  refine mw_iconst dX5_toneSet_2 ?_
  refine mw_is2 dX5_toneSet_3 (by decide) rfl ?_
  exact lp 13 _ _ (by omega) (by omega) (by omega) rfl
set_option maxHeartbeats 4000000 in
set_option maxRecDepth 100000 in
theorem c_T_unlike {G : mG} {μ : mMem} {k : Nat} (hk : mCls k = 5) (hk1 : mCls (k + 1) = 8) (hl1 : mLen (k + 1) = 12) (hn : 0 ≤ μ.1 k 1 ∧ μ.1 k 1 ≤ 12) (ht : ∀ i : Int, 0 ≤ i → i < μ.1 k 1 → 0 ≤ μ.1 (k + 1) i ∧ μ.1 (k + 1) i < 12) {k2 : Nat} (hk2 : mCls k2 = 5) (hk21 : mCls (k2 + 1) = 8) (hl2 : mLen (k2 + 1) = 12) (hn2 : 0 ≤ μ.1 k2 1 ∧ μ.1 k2 1 ≤ 12) (ht2 : ∀ i : Int, 0 ≤ i → i < μ.1 k2 1 → 0 ≤ μ.1 (k2 + 1) i ∧ μ.1 (k2 + 1) i < 12) : mM G yX5_placesUnlike cX5_placesUnlike 5 (some .int) 1 [.ref k, .ref k2] μ (pI (unlk (μ.1 (k + 1)) (μ.1 (k2 + 1)) (μ.1 k 1) (μ.1 k2 1) (max (μ.1 k 1) (μ.1 k2 1)).toNat) μ) := by
  refine mM.of (lv := [some (.ref k), some (.ref k2), none, none, none]) 3 (by decide +kernel) (Nat.le_of_ble_eq_true rfl) rfl ?_
  intro X
  have lp : ∀ (n_ : Nat) (i v : Int), 0 ≤ i → i ≤ min (μ.1 k 1) (μ.1 k2 1) → 13 ≤ i + n_ → v = max (μ.1 k 1) (μ.1 k2 1) - min (μ.1 k 1) (μ.1 k2 1) + unlk (μ.1 (k + 1)) (μ.1 (k2 + 1)) (μ.1 k 1) (μ.1 k2 1) i.toNat → mW X cX5_placesUnlike 5 (some .int) yX5_placesUnlike.cls 1 G (pI (unlk (μ.1 (k + 1)) (μ.1 (k2 + 1)) (μ.1 k 1) (μ.1 k2 1) (max (μ.1 k 1) (μ.1 k2 1)).toNat) μ) 29 [some (.ref k), some (.ref k2), some (.int (iV (min (μ.1 k 1) (μ.1 k2 1)))), some (.int (iV v)), some (.int (iV i))] [] μ := by
    intro n_
    induction n_ with
    | zero =>
      intro i v h1 h2 h3 h5
      omega
    | succ n_ ih =>
      intro i v h1 h2 h3 h5
      refine mw_iload dX5_placesUnlike_29 rfl ?_
      refine mw_iload_n dX5_placesUnlike_31 rfl ?_
      refine mw_icmp_ge (tgt := 61) dX5_placesUnlike_32 (by decide) (by omega) (by omega) (fun c_32 => ?_) (fun c_32 => ?_)
      · refine mw_iload_n dX5_placesUnlike_61 rfl ?_
        refine mw_iret dX5_placesUnlike_62 rfl ?_
        refine ⟨?_, rfl⟩
        have hf := unlk_far (t := μ.1 (k + 1)) (u := μ.1 (k2 + 1)) (a := μ.1 k 1) (b := μ.1 k2 1) (n := i.toNat) (by omega) ((max (μ.1 k 1) (μ.1 k2 1)).toNat - i.toNat)
        rw [show i.toNat + ((max (μ.1 k 1) (μ.1 k2 1)).toNat - i.toNat) = (max (μ.1 k 1) (μ.1 k2 1)).toNat by omega] at hf
        rw [show v = unlk (μ.1 (k + 1)) (μ.1 (k2 + 1)) (μ.1 k 1) (μ.1 k2 1) (max (μ.1 k 1) (μ.1 k2 1)).toNat by rw [hf, h5]; omega]
      · have hst : unlk (μ.1 (k + 1)) (μ.1 (k2 + 1)) (μ.1 k 1) (μ.1 k2 1) (i + 1).toNat = unlk (μ.1 (k + 1)) (μ.1 (k2 + 1)) (μ.1 k 1) (μ.1 k2 1) i.toNat + (if μ.1 (k + 1) i = μ.1 (k2 + 1) i then 0 else 1) := by
          rw [show (i + 1).toNat = i.toNat + 1 by omega, unlk, show ((i.toNat : Nat) : Int) = i by omega]
          congr 1
          by_cases hq : μ.1 (k + 1) i = μ.1 (k2 + 1) i
          · rw [if_pos ⟨by omega, hq⟩, if_pos hq]
          · rw [if_neg (fun q => hq q.2), if_neg hq]
        refine mw_aload_n dX5_placesUnlike_35 rfl ?_
        refine mw_gr_5_0 dX5_placesUnlike_36 gs_X5_9 (by first | rfl | assumption) ?_
        refine mw_iload dX5_placesUnlike_39 rfl ?_
        refine mw_iald 12 dX5_placesUnlike_41 (by first | rfl | assumption) (by first | rfl | assumption) (by omega) ?_
        refine mw_aload_n dX5_placesUnlike_42 rfl ?_
        refine mw_gr_5_0 dX5_placesUnlike_43 gs_X5_9 (by first | rfl | assumption) ?_
        refine mw_iload dX5_placesUnlike_46 rfl ?_
        refine mw_iald 12 dX5_placesUnlike_48 (by first | rfl | assumption) (by first | rfl | assumption) (by omega) ?_
        refine mw_icmp_eq (tgt := 55) dX5_placesUnlike_49 (by decide) (by have := ht i (by omega) (by omega); have := ht2 i (by omega) (by omega); omega) (by have := ht i (by omega) (by omega); have := ht2 i (by omega) (by omega); omega) (fun c_49 => ?_) (fun c_49 => ?_)
        · refine mw_ii4 dX5_placesUnlike_55 (by decide) rfl ?_
          refine mw_goto (tgt := 29) dX5_placesUnlike_58 (by decide) ?_
          exact ih _ _ (by omega) (by omega) (by omega) (by rw [hst, if_pos c_49, h5]; omega)
        · refine mw_ii3 dX5_placesUnlike_52 (by decide) rfl ?_
          refine mw_ii4 dX5_placesUnlike_55 (by decide) rfl ?_
          refine mw_goto (tgt := 29) dX5_placesUnlike_58 (by decide) ?_
          exact ih _ _ (by omega) (by omega) (by omega) (by rw [hst, if_neg c_49, h5]; omega)
  refine mw_aload_n dX5_placesUnlike_0 rfl ?_
  refine mw_getI 1 dX5_placesUnlike_1 gs_X5_15 (by first | rfl | assumption) rfl rfl ?_
  refine mw_aload_n dX5_placesUnlike_4 rfl ?_
  refine mw_getI 1 dX5_placesUnlike_5 gs_X5_15 (by first | rfl | assumption) rfl rfl ?_
  refine mw_Spi dX5_placesUnlike_8 ml_X5_29 ok_J9_min_7cf53 (by decide) rfl rfl (Nat.le_of_ble_eq_true rfl) (c_min (by omega) (by omega)) ?_
  refine mw_is2 dX5_placesUnlike_11 (by decide) rfl ?_
  refine mw_aload_n dX5_placesUnlike_12 rfl ?_
  refine mw_getI 1 dX5_placesUnlike_13 gs_X5_15 (by first | rfl | assumption) rfl rfl ?_
  refine mw_aload_n dX5_placesUnlike_16 rfl ?_
  refine mw_getI 1 dX5_placesUnlike_17 gs_X5_15 (by first | rfl | assumption) rfl rfl ?_
  refine mw_Spi dX5_placesUnlike_20 ml_X5_35 ok_J9_max_7cf53 (by decide) rfl rfl (Nat.le_of_ble_eq_true rfl) (c_max (by omega) (by omega)) ?_
  refine mw_iload_n dX5_placesUnlike_23 rfl ?_
  refine mw_isub dX5_placesUnlike_24 ?_
  refine mw_is3 dX5_placesUnlike_25 (by decide) rfl ?_
  refine mw_iconst dX5_placesUnlike_26 ?_
  refine mw_is4 dX5_placesUnlike_27 (by decide) rfl ?_
  exact lp 13 _ _ (by omega) (by omega) (by omega) (by show _ = _ + 0; omega)
def sameI (z : Int) : Int := if z = 0 then 1 else 0
set_option maxHeartbeats 4000000 in
set_option maxRecDepth 100000 in
theorem c_T_same {G : mG} {μ : mMem} {k : Nat} (hk : mCls k = 5) (hk1 : mCls (k + 1) = 8) (hl1 : mLen (k + 1) = 12) (hn : 0 ≤ μ.1 k 1 ∧ μ.1 k 1 ≤ 12) (ht : ∀ i : Int, 0 ≤ i → i < μ.1 k 1 → 0 ≤ μ.1 (k + 1) i ∧ μ.1 (k + 1) i < 12) {k2 : Nat} (hk2 : mCls k2 = 5) (hk21 : mCls (k2 + 1) = 8) (hl2 : mLen (k2 + 1) = 12) (hn2 : 0 ≤ μ.1 k2 1 ∧ μ.1 k2 1 ≤ 12) (ht2 : ∀ i : Int, 0 ≤ i → i < μ.1 k2 1 → 0 ≤ μ.1 (k2 + 1) i ∧ μ.1 (k2 + 1) i < 12) : mM G yX5_isSameAs cX5_isSameAs 2 (some .boolean) 2 [.ref k, .ref k2] μ (pI (sameI (unlk (μ.1 (k + 1)) (μ.1 (k2 + 1)) (μ.1 k 1) (μ.1 k2 1) (max (μ.1 k 1) (μ.1 k2 1)).toNat)) μ) := by
  have hb := unlk_bd (μ.1 (k + 1)) (μ.1 (k2 + 1)) (μ.1 k 1) (μ.1 k2 1) (max (μ.1 k 1) (μ.1 k2 1)).toNat
  refine mM.of (lv := [some (.ref k), some (.ref k2)]) 0 (by decide +kernel) (Nat.le_of_ble_eq_true rfl) rfl ?_
  intro X
  refine mw_aload_n dX5_isSameAs_0 rfl ?_
  refine mw_aload_n dX5_isSameAs_1 rfl ?_
  refine mw_Vpi (ci := 5) dX5_isSameAs_2 ml_X5_25 ok_X5_placesUnlike (by decide) (by first | rfl | assumption) (by decide) rfl rfl rfl (Nat.le_of_ble_eq_true rfl) (c_T_unlike hk hk1 hl1 hn ht hk2 hk21 hl2 hn2 ht2) ?_
  refine mw_if_ne (tgt := 12) dX5_isSameAs_5 (by decide) (by omega) (fun c_5 => ?_) (fun c_5 => ?_)
  · refine mw_iconst dX5_isSameAs_12 ?_
    refine mw_zret dX5_isSameAs_13 rfl (by decide +kernel) ?_
    exact ⟨by unfold sameI; rw [if_neg c_5], rfl⟩
  · refine mw_iconst dX5_isSameAs_8 ?_
    refine mw_goto (tgt := 13) dX5_isSameAs_9 (by decide) ?_
    refine mw_zret dX5_isSameAs_13 rfl (by decide +kernel) ?_
    exact ⟨by unfold sameI; rw [if_pos c_5], rfl⟩

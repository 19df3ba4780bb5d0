set_option maxHeartbeats 4000000 in
set_option maxRecDepth 100000 in
theorem c_P_clear {G : mG} {μ : mMem} {k : Nat} (hk : mCls k = 4) : mM G yX4_clear cX4_clear 1 none 0 [.ref k] μ (pV (u1 μ k 1 0)) := by
  refine mM.of (lv := [some (.ref k)]) 0 (by decide +kernel) (Nat.le_of_ble_eq_true rfl) rfl ?_
  intro X
  refine mw_aload_n dX4_clear_0 rfl ?_
  refine mw_iconst dX4_clear_1 ?_
  refine mw_putI 1 dX4_clear_2 ps_X4_15 (by first | rfl | assumption) rfl rfl ?_
  refine mw_vret dX4_clear_5 rfl ?_
  exact ⟨rfl, rfl⟩
set_option maxHeartbeats 4000000 in
set_option maxRecDepth 100000 in
theorem c_P_append {G : mG} {μ : mMem} {k : Nat} (hk : mCls k = 4) (hk1 : mCls (k + 1) = 8) (hl1 : mLen (k + 1) = 120) {x : Int} (hn : 0 ≤ μ.1 k 1 ∧ μ.1 k 1 < 120) : mM G yX4_append cX4_append 2 none 0 [.ref k, .int (iV x)] μ (pV (u1 (u1 μ (k + 1) (μ.1 k 1) x) k 1 (μ.1 k 1 + 1))) := by
  refine mM.of (lv := [some (.ref k), some (.int (iV x))]) 0 (by decide +kernel) (Nat.le_of_ble_eq_true rfl) rfl ?_
  intro X
  refine mw_aload_n dX4_append_0 rfl ?_
  refine mw_getI 1 dX4_append_1 gs_X4_15 (by first | rfl | assumption) rfl rfl ?_
  refine mw_bipush dX4_append_4 (by decide +kernel) ?_
  refine mw_icmp_ge (tgt := 29) dX4_append_6 (by decide) (by omega) (by omega) (fun c_6 => ?_) (fun c_6 => ?_)
  · exact absurd c_6 (by omega)
  · refine mw_aload_n dX4_append_9 rfl ?_
    refine mw_gr_4_0 dX4_append_10 gs_X4_9 (by first | rfl | assumption) ?_
    refine mw_aload_n dX4_append_13 rfl ?_
    refine mw_getI 1 dX4_append_14 gs_X4_15 (by first | rfl | assumption) rfl rfl ?_
    refine mw_iload_n dX4_append_17 rfl ?_
    refine mw_iast 120 dX4_append_18 (by first | rfl | assumption) (by first | rfl | assumption) (by omega) ?_
    refine mw_aload_n dX4_append_19 rfl ?_
    refine mw_dup dX4_append_20 rfl ?_
    refine mw_getI 1 dX4_append_21 gs_X4_15 (by first | rfl | assumption) rfl rfl ?_
    rw [u1_o (by omega)]
    refine mw_iconst dX4_append_24 ?_
    refine mw_iadd dX4_append_25 ?_
    refine mw_putI 1 dX4_append_26 ps_X4_15 (by first | rfl | assumption) rfl rfl ?_
    refine mw_vret dX4_append_29 rfl ?_
    exact ⟨rfl, rfl⟩
def bAt (n : Int) (t : Int → Int) (i : Int) : Int := if 0 ≤ i ∧ i < n then t i else -1
set_option maxHeartbeats 4000000 in
set_option maxRecDepth 100000 in
theorem c_P_byteAt {G : mG} {μ : mMem} {k : Nat} (hk : mCls k = 4) (hk1 : mCls (k + 1) = 8) (hl1 : mLen (k + 1) = 120) {i : Int} (hi : -2147483648 ≤ i ∧ i ≤ 2147483647) (hn : 0 ≤ μ.1 k 1 ∧ μ.1 k 1 ≤ 120) : mM G yX4_byteAt cX4_byteAt 2 (some .int) 0 [.ref k, .int (iV i)] μ (pI (bAt (μ.1 k 1) (μ.1 (k + 1)) i) μ) := by
  refine mM.of (lv := [some (.ref k), some (.int (iV i))]) 0 (by decide +kernel) (Nat.le_of_ble_eq_true rfl) rfl ?_
  intro X
  refine mw_iload_n dX4_byteAt_0 rfl ?_
  refine mw_if_lt (tgt := 21) dX4_byteAt_1 (by decide) (by omega) (fun c_1 => ?_) (fun c_1 => ?_)
  · refine mw_iconst dX4_byteAt_21 ?_
    refine mw_iret dX4_byteAt_22 rfl ?_
    exact ⟨by unfold bAt; rw [if_neg (by omega)], rfl⟩
  · refine mw_iload_n dX4_byteAt_4 rfl ?_
    refine mw_aload_n dX4_byteAt_5 rfl ?_
    refine mw_getI 1 dX4_byteAt_6 gs_X4_15 (by first | rfl | assumption) rfl rfl ?_
    refine mw_icmp_ge (tgt := 21) dX4_byteAt_9 (by decide) (by omega) (by omega) (fun c_9 => ?_) (fun c_9 => ?_)
    · refine mw_iconst dX4_byteAt_21 ?_
      refine mw_iret dX4_byteAt_22 rfl ?_
      exact ⟨by unfold bAt; rw [if_neg (by omega)], rfl⟩
    · refine mw_aload_n dX4_byteAt_12 rfl ?_
      refine mw_gr_4_0 dX4_byteAt_13 gs_X4_9 (by first | rfl | assumption) ?_
      refine mw_iload_n dX4_byteAt_16 rfl ?_
      refine mw_iald 120 dX4_byteAt_17 (by first | rfl | assumption) (by first | rfl | assumption) (by omega) ?_
      refine mw_goto (tgt := 22) dX4_byteAt_18 (by decide) ?_
      refine mw_iret dX4_byteAt_22 rfl ?_
      exact ⟨by unfold bAt; rw [if_pos (by omega)], rfl⟩
set_option maxHeartbeats 4000000 in
set_option maxRecDepth 100000 in
theorem c_S_begin {G : mG} {μ : mMem} {k : Nat} (hk : mCls k = 3) (hk1 : mCls (k + 1) = 9) (hl1 : mLen (k + 1) = 40) {b n : Int} : mM G yX3_begin cX3_begin 4 none 0 [.ref k, .int (iV b), .int (iV n)] μ (qV (fun m => (∀ c : Nat, c ≠ k → m.1 c = μ.1 c) ∧ m.1 k 1 = b ∧ m.1 k 2 = n ∧ (∀ c : Nat, c ≠ k + 1 → m.2 c = μ.2 c) ∧ ∀ i : Int, 0 ≤ i → i < 40 → m.2 (k + 1) i = 0)) := by
  refine mM.of (lv := [some (.ref k), some (.int (iV b)), some (.int (iV n)), none]) 1 (by decide +kernel) (Nat.le_of_ble_eq_true rfl) rfl ?_
  intro X
  have lp : ∀ (n_ : Nat) (i : Int) (m : mMem), (0 ≤ i) → (i ≤ 40) → (41 ≤ i + n_) → (m.1 = (u1 (u1 μ k 1 b) k 2 n).1) → (∀ c : Nat, c ≠ k + 1 → m.2 c = μ.2 c) → (∀ j : Int, 0 ≤ j → j < i → m.2 (k + 1) j = 0) → mW X cX3_begin 4 none yX3_begin.cls 0 G (qV (fun m => (∀ c : Nat, c ≠ k → m.1 c = μ.1 c) ∧ m.1 k 1 = b ∧ m.1 k 2 = n ∧ (∀ c : Nat, c ≠ k + 1 → m.2 c = μ.2 c) ∧ ∀ i : Int, 0 ≤ i → i < 40 → m.2 (k + 1) i = 0)) 12 [some (.ref k), some (.int (iV b)), some (.int (iV n)), some (.int (iV i))] [] m := by
    intro n_
    induction n_ with
    | zero =>
      intro i m h1 h2 h3 h4 h5 h6
      omega
    | succ n_ ih =>
      intro i m h1 h2 h3 h4 h5 h6
      refine mw_iload_n dX3_begin_12 rfl ?_
      refine mw_bipush dX3_begin_13 (by decide +kernel) ?_
      refine mw_icmp_ge (tgt := 31) dX3_begin_15 (by decide) (by omega) (by omega) (fun c_15 => ?_) (fun c_15 => ?_)
      · refine mw_vret dX3_begin_31 rfl ?_
        refine ⟨rfl, fun c q => ?_, ?_, ?_, h5, fun j q1 q2 => h6 j q1 (by omega)⟩
        · rw [h4]
          funext j
          rw [u1_o (by omega), u1_o (by omega)]
        · rw [h4, u1_o (by omega), u1_s]
        · rw [h4, u1_s]
      · refine mw_aload_n dX3_begin_18 rfl ?_
        refine mw_gr_3_0 dX3_begin_19 gs_X3_9 (by first | rfl | assumption) ?_
        refine mw_iload_n dX3_begin_22 rfl ?_
        refine mw_lconst dX3_begin_23 rfl ?_
        refine mw_last 40 dX3_begin_24 (by first | rfl | assumption) (by first | rfl | assumption) (by omega) ?_
        refine mw_ii3 dX3_begin_25 (by decide) rfl ?_
        refine mw_goto (tgt := 12) dX3_begin_28 (by decide) ?_
        refine ih _ _ (by omega) (by omega) (by omega) (by rw [← h4]; rfl) (fun c q => ?_) (fun j q1 q2 => ?_)
        · rw [← h5 c q]
          funext j
          rw [u2_o (by omega)]
        · by_cases hj : j = i
          · rw [hj, u2_s]
            rfl
          · rw [u2_o (by omega)]
            exact h6 j q1 (by omega)
  refine mw_aload_n dX3_begin_0 rfl ?_
  refine mw_iload_n dX3_begin_1 rfl ?_
  refine mw_putI 1 dX3_begin_2 ps_X3_15 (by first | rfl | assumption) rfl rfl ?_
  refine mw_aload_n dX3_begin_5 rfl ?_
  refine mw_iload_n dX3_begin_6 rfl ?_
  refine mw_putI 2 dX3_begin_7 ps_X3_19 (by first | rfl | assumption) rfl rfl ?_
  refine mw_iconst dX3_begin_10 ?_
  refine mw_is3 dX3_begin_11 (by decide) rfl ?_
  exact lp 41 _ _ (by omega) (by omega) (by omega) rfl (fun c q => rfl) (fun j q1 q2 => by omega)
def misI (b : Int) : Int := if b = 0 then 1 else 0
set_option maxHeartbeats 4000000 in
set_option maxRecDepth 100000 in
theorem c_S_missing {G : mG} {μ : mMem} {k : Nat} (hk : mCls k = 3) (hb : -2147483648 ≤ μ.1 k 1 ∧ μ.1 k 1 ≤ 2147483647) : mM G yX3_isMissing cX3_isMissing 1 (some .boolean) 0 [.ref k] μ (pI (misI (μ.1 k 1)) μ) := by
  refine mM.of (lv := [some (.ref k)]) 0 (by decide +kernel) (Nat.le_of_ble_eq_true rfl) rfl ?_
  intro X
  refine mw_aload_n dX3_isMissing_0 rfl ?_
  refine mw_getI 1 dX3_isMissing_1 gs_X3_15 (by first | rfl | assumption) rfl rfl ?_
  refine mw_if_ne (tgt := 11) dX3_isMissing_4 (by decide) (by omega) (fun c_4 => ?_) (fun c_4 => ?_)
  · refine mw_iconst dX3_isMissing_11 ?_
    refine mw_zret dX3_isMissing_12 rfl (by decide +kernel) ?_
    exact ⟨by unfold misI; rw [if_neg c_4], rfl⟩
  · refine mw_iconst dX3_isMissing_7 ?_
    refine mw_goto (tgt := 12) dX3_isMissing_8 (by decide) ?_
    refine mw_zret dX3_isMissing_12 rfl (by decide +kernel) ?_
    exact ⟨by unfold misI; rw [if_pos c_4], rfl⟩
def rowI (size a n : Int) : Int := if 0 ≤ a ∧ 0 ≤ n ∧ n ≤ size ∧ a ≤ size - n then 1 else 0
set_option maxHeartbeats 4000000 in
set_option maxRecDepth 100000 in
theorem c_S_hasRow {G : mG} {μ : mMem} {k : Nat} (hk : mCls k = 3) (hb : 0 ≤ μ.1 k 2 ∧ μ.1 k 2 ≤ 40) {a n : Int} (ha : -2147483648 ≤ a ∧ a ≤ 2147483647) (hn : -2147483648 ≤ n ∧ n ≤ 2147483647) : mM G yX3_hasRow cX3_hasRow 3 (some .boolean) 0 [.ref k, .int (iV a), .int (iV n)] μ (pI (rowI (μ.1 k 2) a n) μ) := by
  refine mM.of (lv := [some (.ref k), some (.int (iV a)), some (.int (iV n))]) 0 (by decide +kernel) (Nat.le_of_ble_eq_true rfl) rfl ?_
  intro X
  refine mw_iload_n dX3_hasRow_0 rfl ?_
  refine mw_if_lt (tgt := 30) dX3_hasRow_1 (by decide) (by omega) (fun c_1 => ?_) (fun c_1 => ?_)
  · refine mw_iconst dX3_hasRow_30 ?_
    refine mw_zret dX3_hasRow_31 rfl (by decide +kernel) ?_
    exact ⟨by unfold rowI; rw [if_neg (by omega)], rfl⟩
  · refine mw_iload_n dX3_hasRow_4 rfl ?_
    refine mw_if_lt (tgt := 30) dX3_hasRow_5 (by decide) (by omega) (fun c_5 => ?_) (fun c_5 => ?_)
    · refine mw_iconst dX3_hasRow_30 ?_
      refine mw_zret dX3_hasRow_31 rfl (by decide +kernel) ?_
      exact ⟨by unfold rowI; rw [if_neg (by omega)], rfl⟩
    · refine mw_iload_n dX3_hasRow_8 rfl ?_
      refine mw_aload_n dX3_hasRow_9 rfl ?_
      refine mw_getI 2 dX3_hasRow_10 gs_X3_19 (by first | rfl | assumption) rfl rfl ?_
      refine mw_icmp_gt (tgt := 30) dX3_hasRow_13 (by decide) (by omega) (by omega) (fun c_13 => ?_) (fun c_13 => ?_)
      · refine mw_iconst dX3_hasRow_30 ?_
        refine mw_zret dX3_hasRow_31 rfl (by decide +kernel) ?_
        exact ⟨by unfold rowI; rw [if_neg (by omega)], rfl⟩
      · refine mw_iload_n dX3_hasRow_16 rfl ?_
        refine mw_aload_n dX3_hasRow_17 rfl ?_
        refine mw_getI 2 dX3_hasRow_18 gs_X3_19 (by first | rfl | assumption) rfl rfl ?_
        refine mw_iload_n dX3_hasRow_21 rfl ?_
        refine mw_isub dX3_hasRow_22 ?_
        refine mw_icmp_gt (tgt := 30) dX3_hasRow_23 (by decide) (by omega) (by omega) (fun c_23 => ?_) (fun c_23 => ?_)
        · refine mw_iconst dX3_hasRow_30 ?_
          refine mw_zret dX3_hasRow_31 rfl (by decide +kernel) ?_
          exact ⟨by unfold rowI; rw [if_neg (by omega)], rfl⟩
        · refine mw_iconst dX3_hasRow_26 ?_
          refine mw_goto (tgt := 31) dX3_hasRow_27 (by decide) ?_
          refine mw_zret dX3_hasRow_31 rfl (by decide +kernel) ?_
          exact ⟨by unfold rowI; rw [if_pos (by omega)], rfl⟩
def cutL (v : Int64) (b : Int) : Int64 := if b = 8 then (iV (iV v.toInt32.toInt).toInt8.toInt32.toInt).toInt64 else if b = 16 then (iV (iV v.toInt32.toInt).toInt16.toInt32.toInt).toInt64 else v
set_option maxHeartbeats 4000000 in
set_option maxRecDepth 100000 in
theorem c_S_lowest {G : mG} {μ : mMem} {k : Nat} (hk : mCls k = 3) (hb : -2147483648 ≤ μ.1 k 1 ∧ μ.1 k 1 ≤ 2147483647) {v : Int64} : mM G yX3_lowestBits cX3_lowestBits 3 (some .long) 0 [.ref k, .long v] μ (pL (cutL v (μ.1 k 1)) μ) := by
  refine mM.of (lv := [some (.ref k), some (.long v), none]) 0 (by decide +kernel) (Nat.le_of_ble_eq_true rfl) rfl ?_
  intro X
  refine mw_aload_n dX3_lowestBits_0 rfl ?_
  refine mw_getI 1 dX3_lowestBits_1 gs_X3_15 (by first | rfl | assumption) rfl rfl ?_
  obtain ⟨kd, ekd⟩ : ∃ z, z = μ.1 k 1 := ⟨_, rfl⟩
  rw [← ekd] at hb ⊢
  rcases (show kd = 8 ∨ kd = 16 ∨ (kd ≠ 8 ∧ kd ≠ 16) by omega) with rfl | rfl | c_4
  · refine mw_lkp (off := 28) (tgt := 32) dX3_lowestBits_4 (by decide) (by decide) (by decide) (by decide) ?_
    refine mw_lload_n dX3_lowestBits_32 rfl ?_
    refine mw_l2i dX3_lowestBits_33 ?_
    refine mw_i2b dX3_lowestBits_34 ?_
    refine mw_i2l dX3_lowestBits_35 ?_
    refine mw_lret dX3_lowestBits_36 rfl ?_
    exact ⟨by unfold cutL; rw [if_pos rfl], rfl⟩
  · refine mw_lkp (off := 33) (tgt := 37) dX3_lowestBits_4 (by decide) (by decide) (by decide) (by decide) ?_
    refine mw_lload_n dX3_lowestBits_37 rfl ?_
    refine mw_l2i dX3_lowestBits_38 ?_
    refine mw_i2s dX3_lowestBits_39 ?_
    refine mw_i2l dX3_lowestBits_40 ?_
    refine mw_lret dX3_lowestBits_41 rfl ?_
    exact ⟨by unfold cutL; rw [if_neg (by decide), if_pos rfl], rfl⟩
  · refine mw_lkp (off := 38) (tgt := 42) dX3_lowestBits_4 (by omega) (by decide) (by show Op.lookupswitch.offset [(8, 28), (16, 33)] _ _ = _; rw [Op.lookupswitch.offset_cons, if_neg (by omega)]; rw [Op.lookupswitch.offset_cons, if_neg (by omega)]; rfl) (by decide) ?_
    refine mw_lload_n dX3_lowestBits_42 rfl ?_
    refine mw_lret dX3_lowestBits_43 rfl ?_
    exact ⟨by unfold cutL; rw [if_neg c_4.1, if_neg c_4.2], rfl⟩
set_option maxHeartbeats 4000000 in
set_option maxRecDepth 100000 in
theorem c_S_put {G : mG} {μ : mMem} {k : Nat} (hk : mCls k = 3) (hk1 : mCls (k + 1) = 9) (hl1 : mLen (k + 1) = 40) (hb : -2147483648 ≤ μ.1 k 1 ∧ μ.1 k 1 ≤ 2147483647) (hs : μ.1 k 2 ≤ 40) {i : Int} (hi : 0 ≤ i ∧ i < μ.1 k 2) {v : Int64} : mM G yX3_put cX3_put 4 none 1 [.ref k, .int (iV i), .long v] μ (pV (u2 μ (k + 1) i (cutL v (μ.1 k 1)))) := by
  refine mM.of (lv := [some (.ref k), some (.int (iV i)), some (.long v), none]) 0 (by decide +kernel) (Nat.le_of_ble_eq_true rfl) rfl ?_
  intro X
  refine mw_iload_n dX3_put_0 rfl ?_
  refine mw_if_lt (tgt := 23) dX3_put_1 (by decide) (by omega) (fun c_1 => ?_) (fun c_1 => ?_)
  · exact absurd c_1 (by omega)
  · refine mw_iload_n dX3_put_4 rfl ?_
    refine mw_aload_n dX3_put_5 rfl ?_
    refine mw_getI 2 dX3_put_6 gs_X3_19 (by first | rfl | assumption) rfl rfl ?_
    refine mw_icmp_ge (tgt := 23) dX3_put_9 (by decide) (by omega) (by omega) (fun c_9 => ?_) (fun c_9 => ?_)
    · exact absurd c_9 (by omega)
    · refine mw_aload_n dX3_put_12 rfl ?_
      refine mw_gr_3_0 dX3_put_13 gs_X3_9 (by first | rfl | assumption) ?_
      refine mw_iload_n dX3_put_16 rfl ?_
      refine mw_aload_n dX3_put_17 rfl ?_
      refine mw_lload_n dX3_put_18 rfl ?_
      refine mw_Vpl (ci := 3) dX3_put_19 ml_X3_22 ok_X3_lowestBits (by decide) (by first | rfl | assumption) (by decide) rfl rfl rfl (Nat.le_of_ble_eq_true rfl) (c_S_lowest hk hb) ?_
      refine mw_last 40 dX3_put_22 (by first | rfl | assumption) (by first | rfl | assumption) (by omega) ?_
      refine mw_vret dX3_put_23 rfl ?_
      exact ⟨rfl, rfl⟩

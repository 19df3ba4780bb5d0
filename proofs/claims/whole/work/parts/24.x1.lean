/-! ===== what each call answers, and what the state is then: one function a call, for the class and for the reference ===== -/
def TN (F : Int → Int) (s : Int) : Int := tens (tn F s) (F (2 + s)).toNat
def sp_tune (st : aS) (s n : Int) (x : Int64) : Int × aS := if (0 ≤ s ∧ s ≤ 1) ∧ (0 ≤ n ∧ n ≤ 12) then (st.1 0 (2 + s), sU st 0 (setT (st.1 0) s n (nib x))) else fnd st 0
def sp_tone (st : aS) (s i : Int) : Int × aS := if (0 ≤ s ∧ s ≤ 1) ∧ 0 ≤ i then (if i < st.1 0 (2 + s) then (st.1 0 (4 + 12 * s + i), st) else fnd st 3) else fnd st 0
def sp_side (st : aS) (s v : Int) : Int × aS := if 0 ≤ s ∧ s ≤ 1 then (if v = 0 then (st.1 0 (2 + s), st) else if v = 1 then (TN (st.1 0) s, st) else if v = 2 then (homeP s (st.1 0), st) else if v = 3 then (tset (tn (st.1 0) s) (st.1 0 (2 + s)).toNat, st) else if v = 4 then (many (st.1 0) s (st.1 0 1).toNat, st) else fnd st 0) else fnd st 0
def sp_attache (st : aS) (k s : Int) : Int × aS := if (0 ≤ k ∧ k ≤ 5) ∧ (0 ≤ s ∧ s ≤ 1) then (if st.1 0 1 = 8 then fnd st 1 else (st.1 0 1, sU st 0 (engF (st.1 0) k s 0 0))) else fnd st 0
/-- the length of an attache's answer, its tone i -/
def lgF (F : Int → Int) (a : Int) : Int := lng (F (28 + 5 * a + 0)) (F (2 + (1 - F (28 + 5 * a + 1))))
def anF (F : Int → Int) (a i : Int) : Int := ansI (F (28 + 5 * a + 0)) (F (28 + 5 * a + 2)) (F (28 + 5 * a + 3)) (F (2 + (1 - F (28 + 5 * a + 1)))) (tn F (1 - F (28 + 5 * a + 1))) i
def sp_of (st : aS) (a v : Int) : Int × aS := if (0 ≤ a ∧ a < st.1 0 1) ∧ (0 ≤ v ∧ v ≤ 5) then (if v < 5 then (st.1 0 (28 + 5 * a + v), st) else (lgF (st.1 0) a, st)) else fnd st 0
def sp_answer (st : aS) (a i : Int) : Int × aS := if (0 ≤ a ∧ a < st.1 0 1) ∧ 0 ≤ i then (if i < lgF (st.1 0) a then (anF (st.1 0) a i, st) else fnd st 3) else fnd st 0
def mostS (v : Int) : Int := if v = 1 then 1 else if v = 2 then 11 else if v = 3 then 4095 else if v = 4 then 9999 else -1
def sp_set (st : aS) (a v x : Int) : Int × aS := if (0 ≤ a ∧ a < st.1 0 1) ∧ (0 ≤ x ∧ x ≤ mostS v) then (st.1 0 (28 + 5 * a + v), sU st 0 (upF (st.1 0) (28 + 5 * a + v) x)) else fnd st 0
def sp_turn (st : aS) (a k : Int) : Int × aS := if (0 ≤ a ∧ a < st.1 0 1) ∧ (0 ≤ k ∧ k ≤ 5) then (st.1 0 (28 + 5 * a + 0), sU st 0 (upF (st.1 0) (28 + 5 * a + 0) k)) else fnd st 0
def sp_as (st : aS) (a k : Int) : Int × aS := if (0 ≤ a ∧ a < st.1 0 1) ∧ (0 ≤ k ∧ k ≤ 5) then (if ofK (st.1 0 (28 + 5 * a + 0)) k = 0 then fnd st 2 else (st.1 0 (28 + 5 * a + 2), st)) else fnd st 0
theorem mostS_c {v x : Int} (h : 0 ≤ x ∧ x ≤ mostS v) : 1 ≤ v ∧ v ≤ 4 := by
  unfold mostS at h
  split at h
  · omega
  · split at h
    · omega
    · split at h
      · omega
      · split at h <;> omega
theorem mostS_bd (v : Int) : -1 ≤ mostS v ∧ mostS v ≤ 9999 := by
  unfold mostS
  repeat' split
  all_goals omega
theorem tn_len {F : Int → Int} (h : fInv F) (s : Int) (hs : 0 ≤ s ∧ s ≤ 1) : 0 ≤ TN F s ∧ TN F s ≤ 12 := by
  have h1 := tens_bd (tn F s) (F (2 + s)).toNat
  have h2 := h.2.2.1 s hs.1 hs.2
  unfold TN
  omega
theorem tens_eq {μ : mMem} {b : Nat} {F : Int → Int} (hF : FUG μ b F) (hI : fInv F) {s : Int} (hs : 0 ≤ s ∧ s ≤ 1) : tens (μ.1 (tc b s + 1)) (μ.1 (tc b s) 1).toNat = TN F s := by
  have h := hF.tn hI hs
  have h2 := hI.2.2.1 s hs.1 hs.2
  unfold TN
  rw [h.1]
  exact tens_congr _ (fun i q1 q2 => h.2.2.2 i q1 (by omega))
theorem tset_eq {μ : mMem} {b : Nat} {F : Int → Int} (hF : FUG μ b F) (hI : fInv F) {s : Int} (hs : 0 ≤ s ∧ s ≤ 1) : tset (μ.1 (tc b s + 1)) (μ.1 (tc b s) 1).toNat = tset (tn F s) (F (2 + s)).toNat := by
  have h := hF.tn hI hs
  have h2 := hI.2.2.1 s hs.1 hs.2
  rw [h.1]
  exact tset_congr _ (fun i q1 q2 => h.2.2.2 i q1 (by omega))
set_option maxHeartbeats 4000000 in
set_option maxRecDepth 100000 in
theorem c_X_tune {G : mG} {μ : mMem} {st : aS} (hX : XR μ st) (hI : SI st) {s n : Int} {x : Int64} (hs_ : -2147483648 ≤ s ∧ s ≤ 2147483647) (hn_ : -2147483648 ≤ n ∧ n ≤ 2147483647) : mM G yX6_tune cX6_tune 9 (some .int) 2 [.ref 0, .int (iV s), .int (iV n), .long x] μ (qX μ (sp_tune st s n x)) := by
  obtain ⟨hF, hK, hkp, htl, htb, hfd, hsh⟩ := id hX
  have hFI := hI.1
  have ec := hF.1
  have hn := hFI.2.1
  have ed := hF.2.1
  refine mM.of (lv := [some (.ref 0), some (.int (iV s)), some (.int (iV n)), some (.long x), none, none, none, none, none]) 4 (by decide +kernel) (Nat.le_of_ble_eq_true rfl) rfl ?_
  intro X
  have lp : ∀ (n_ : Nat) (q8 : Option Value) (i : Int) (m : mMem), (0 ≤ s ∧ s ≤ 1) → (0 ≤ n ∧ n ≤ 12) → (0 ≤ i) → (i ≤ n) → (13 ≤ i + n_) → (∀ c : Nat, c ≠ tc 1 s → c ≠ tc 1 s + 1 → m.1 c = μ.1 c) → (m.2 = μ.2) → (m.1 (tc 1 s) 1 = i) → (∀ j : Int, 0 ≤ j → j < i → m.1 (tc 1 s + 1) j = nib x j) → mW X cX6_tune 9 (some .int) yX6_tune.cls 2 G (qX μ (sp_tune st s n x)) 49 [some (.ref 0), some (.int (iV s)), some (.int (iV n)), some (.long x), none, some (.ref (tc 1 s)), some (.int (iV (st.1 0 (2 + s)))), some (.int (iV i)), q8] [] m := by
    intro n_
    induction n_ with
    | zero =>
      intro q8 i m hs hn2 h1 h2 h3 h4 h5 h6 h7
      omega
    | succ n_ ih =>
      intro q8 i m hs hn2 h1 h2 h3 h4 h5 h6 h7
      have th := bk_t bk1 s
      refine mw_iload dX6_tune_49 rfl ?_
      refine mw_iload_n dX6_tune_51 rfl ?_
      refine mw_icmp_ge (tgt := 84) dX6_tune_52 (by decide) (by omega) (by omega) (fun c_52 => ?_) (fun c_52 => ?_)
      · refine mw_iload dX6_tune_84 rfl ?_
        refine mw_iret dX6_tune_86 rfl ?_
        have g := setT_fug (t := nib x) hF hFI hs hn2 h4 h5 (by omega) (fun j q1 q2 => h7 j q1 (by omega))
        refine ⟨_, rfl, ?_⟩
        unfold sp_tune
        rw [if_pos (by omega)]
        exact ⟨rfl, hX.row hI g.1 g.2, g.2.xf bk1⟩
      · refine mw_lload_n dX6_tune_55 rfl ?_
        refine mw_iconst dX6_tune_56 ?_
        refine mw_iload dX6_tune_57 rfl ?_
        refine mw_imul dX6_tune_59 ?_
        refine mw_lushr dX6_tune_60 ?_
        refine mw_ldc2 dX6_tune_61 cl_X6_79 ?_
        refine mw_land dX6_tune_64 ?_
        refine mw_l2i dX6_tune_65 ?_
        rw [nibU x (by omega)]
        refine mw_is8 dX6_tune_66 (by decide) rfl ?_
        refine mw_aload dX6_tune_68 rfl ?_
        refine mw_iload dX6_tune_70 rfl ?_
        refine mw_bipush dX6_tune_72 (by decide +kernel) ?_
        refine mw_iremN dX6_tune_74 (by omega) (by omega) ?_
        refine mw_Vpv (ci := 5) dX6_tune_75 ml_X6_81 ok_X5_append (by decide) th.1 (by decide) rfl rfl rfl (Nat.le_of_ble_eq_true rfl) (c_T_append th.1 th.2.1 th.2.2 (by rw [h6]; omega)) ?_
        refine mw_ii7 dX6_tune_78 (by decide) rfl ?_
        refine mw_goto (tgt := 49) dX6_tune_81 (by decide) ?_
        refine ih (some _) _ _ hs hn2 (by omega) (by omega) (by omega) (fun c q1 q2 => ?_) h5 (by rw [u1_s, h6]) (fun j q1 q2 => ?_)
        · rw [← h4 c q1 q2]
          funext j
          rw [u1_o (by omega), u1_o (by omega)]
        · rw [u1_o (by omega)]
          by_cases hj : j = i
          · rw [hj, h6, u1_s]
            rfl
          · rw [u1_o (by omega)]
            exact h7 j q1 (by omega)
  refine mw_iload_n dX6_tune_0 rfl ?_
  refine mw_Spi dX6_tune_1 ml_X6_53 ok_X6_isSide (by decide) rfl rfl (Nat.le_of_ble_eq_true rfl) (c_X_isSide (by omega)) ?_
  refine mw_if_eq (tgt := 17) dX6_tune_4 (by decide) (wi_bd _ _ _) (fun c_4 => ?_) (fun c_4 => ?_)
  · have d_4 := wi_0 c_4
    refine mw_aload_n dX6_tune_17 rfl ?_
    refine mw_ldc dX6_tune_18 ct_X6_61 ?_
    refine mw_Vi (ci := 6) dX6_tune_20 ml_X6_62 ok_X6_found (by decide) (by first | rfl | assumption) (by decide) rfl rfl rfl (Nat.le_of_ble_eq_true rfl) (c_X_find hX hI 0 (by decide) (by decide)) (fun z_20 m_20 h_20 => ?_)
    refine mw_iret dX6_tune_23 rfl ?_
    refine ⟨_, rfl, ?_⟩
    unfold sp_tune
    rw [if_neg (by omega)]
    exact h_20
  · have d_4 := wi_1 c_4
    refine mw_iload_n dX6_tune_7 rfl ?_
    refine mw_iconst dX6_tune_8 ?_
    refine mw_bipush dX6_tune_9 (by decide +kernel) ?_
    refine mw_Spi dX6_tune_11 ml_X6_57 ok_X6_isWithin (by decide) rfl rfl (Nat.le_of_ble_eq_true rfl) (c_X_within (by omega) (by omega) (by omega)) ?_
    refine mw_if_ne (tgt := 24) dX6_tune_14 (by decide) (wi_bd _ _ _) (fun c_14 => ?_) (fun c_14 => ?_)
    · have d_14 := wi_1 c_14
      have th := bk_t bk1 s
      have tnh := hF.tn hFI (s := s) (by omega)
      refine mw_aload_n dX6_tune_24 rfl ?_
      refine mw_gr_6_0 dX6_tune_25 gs_X6_10 (by first | rfl | assumption) ?_
      refine mw_iload_n dX6_tune_28 rfl ?_
      refine mw_Vpr (ci := 1) dX6_tune_29 ml_X6_66 ok_X1_tuneOf (by decide) (by first | rfl | assumption) (by decide) rfl rfl rfl (Nat.le_of_ble_eq_true rfl) (c_F_tuneOf bk1 (by omega)) ?_
      refine mw_as5 dX6_tune_32 (by decide) rfl ?_
      refine mw_aload dX6_tune_34 rfl ?_
      refine mw_getI 1 dX6_tune_36 gs_X6_70 th.1 rfl rfl ?_
      rw [tnh.1]
      refine mw_is6 dX6_tune_39 (by decide) rfl ?_
      refine mw_aload dX6_tune_41 rfl ?_
      refine mw_Vpv (ci := 5) dX6_tune_43 ml_X6_76 ok_X5_clear (by decide) th.1 (by decide) rfl rfl rfl (Nat.le_of_ble_eq_true rfl) (c_T_clear th.1) ?_
      refine mw_iconst dX6_tune_46 ?_
      refine mw_is7 dX6_tune_47 (by decide) rfl ?_
      refine lp 13 none _ _ (by omega) (by omega) (by omega) (by omega) (by omega) (fun c q1 q2 => ?_) rfl (u1_s _ _ _ _) (fun j q1 q2 => by omega)
      funext j
      rw [u1_o (by omega)]
    · have d_14 := wi_0 c_14
      refine mw_aload_n dX6_tune_17 rfl ?_
      refine mw_ldc dX6_tune_18 ct_X6_61 ?_
      refine mw_Vi (ci := 6) dX6_tune_20 ml_X6_62 ok_X6_found (by decide) (by first | rfl | assumption) (by decide) rfl rfl rfl (Nat.le_of_ble_eq_true rfl) (c_X_find hX hI 0 (by decide) (by decide)) (fun z_20 m_20 h_20 => ?_)
      refine mw_iret dX6_tune_23 rfl ?_
      refine ⟨_, rfl, ?_⟩
      unfold sp_tune
      rw [if_neg (by omega)]
      exact h_20
set_option maxHeartbeats 4000000 in
set_option maxRecDepth 100000 in
theorem c_X_toneOrNone {G : mG} {μ : mMem} {st : aS} (hX : XR μ st) (hI : SI st) {k : Nat} (hk : mCls k = 5) (hk1 : mCls (k + 1) = 8) (hl1 : mLen (k + 1) = 12) (hn0 : 0 ≤ μ.1 k 1 ∧ μ.1 k 1 ≤ 12) {i : Int} (hi : 0 ≤ i ∧ i ≤ 2147483647) : mM G yX6_toneOrNone cX6_toneOrNone 3 (some .int) 2 [.ref 0, .ref k, .int (iV i)] μ (qX μ (if i < μ.1 k 1 then (μ.1 (k + 1) i, st) else fnd st 3)) := by
  refine mM.of (lv := [some (.ref 0), some (.ref k), some (.int (iV i))]) 0 (by decide +kernel) (Nat.le_of_ble_eq_true rfl) rfl ?_
  intro X
  refine mw_iload_n dX6_toneOrNone_0 rfl ?_
  refine mw_aload_n dX6_toneOrNone_1 rfl ?_
  refine mw_getI 1 dX6_toneOrNone_2 gs_X6_70 (by first | rfl | assumption) rfl rfl ?_
  refine mw_icmp_ge (tgt := 16) dX6_toneOrNone_5 (by decide) (by omega) (by omega) (fun c_5 => ?_) (fun c_5 => ?_)
  · refine mw_aload_n dX6_toneOrNone_16 rfl ?_
    refine mw_ldc dX6_toneOrNone_17 ct_X6_149 ?_
    refine mw_Vi (ci := 6) dX6_toneOrNone_19 ml_X6_62 ok_X6_found (by decide) (by first | rfl | assumption) (by decide) rfl rfl rfl (Nat.le_of_ble_eq_true rfl) (c_X_find hX hI 3 (by decide) (by decide)) (fun z_19 m_19 h_19 => ?_)
    refine mw_iret dX6_toneOrNone_22 rfl ?_
    refine ⟨_, rfl, ?_⟩
    rw [if_neg (by omega)]
    exact h_19
  · refine mw_aload_n dX6_toneOrNone_8 rfl ?_
    refine mw_iload_n dX6_toneOrNone_9 rfl ?_
    refine mw_Vpi (ci := 5) dX6_toneOrNone_10 ml_X6_274 ok_X5_toneAt (by decide) (by first | rfl | assumption) (by decide) rfl rfl rfl (Nat.le_of_ble_eq_true rfl) (c_T_toneAt hk hk1 hl1 ⟨hi.1, c_5⟩ hn0.2) ?_
    refine mw_goto (tgt := 22) dX6_toneOrNone_13 (by decide) ?_
    refine mw_iret dX6_toneOrNone_22 rfl ?_
    refine ⟨_, rfl, ?_⟩
    rw [if_pos c_5]
    exact ⟨rfl, hX, XF.rf⟩
set_option maxHeartbeats 4000000 in
set_option maxRecDepth 100000 in
theorem c_X_tone {G : mG} {μ : mMem} {st : aS} (hX : XR μ st) (hI : SI st) {s i : Int} (hs_ : -2147483648 ≤ s ∧ s ≤ 2147483647) (hi_ : -2147483648 ≤ i ∧ i ≤ 2147483647) : mM G yX6_tone cX6_tone 3 (some .int) 3 [.ref 0, .int (iV s), .int (iV i)] μ (qX μ (sp_tone st s i)) := by
  obtain ⟨hF, hK, hkp, htl, htb, hfd, hsh⟩ := id hX
  have hFI := hI.1
  have ec := hF.1
  have hn := hFI.2.1
  have ed := hF.2.1
  refine mM.of (lv := [some (.ref 0), some (.int (iV s)), some (.int (iV i))]) 0 (by decide +kernel) (Nat.le_of_ble_eq_true rfl) rfl ?_
  intro X
  refine mw_iload_n dX6_tone_0 rfl ?_
  refine mw_Spi dX6_tone_1 ml_X6_53 ok_X6_isSide (by decide) rfl rfl (Nat.le_of_ble_eq_true rfl) (c_X_isSide (by omega)) ?_
  refine mw_if_eq (tgt := 11) dX6_tone_4 (by decide) (wi_bd _ _ _) (fun c_4 => ?_) (fun c_4 => ?_)
  · have d_4 := wi_0 c_4
    refine mw_aload_n dX6_tone_11 rfl ?_
    refine mw_ldc dX6_tone_12 ct_X6_61 ?_
    refine mw_Vi (ci := 6) dX6_tone_14 ml_X6_62 ok_X6_found (by decide) (by first | rfl | assumption) (by decide) rfl rfl rfl (Nat.le_of_ble_eq_true rfl) (c_X_find hX hI 0 (by decide) (by decide)) (fun z_14 m_14 h_14 => ?_)
    refine mw_iret dX6_tone_17 rfl ?_
    refine ⟨_, rfl, ?_⟩
    unfold sp_tone
    rw [if_neg (by omega)]
    exact h_14
  · have d_4 := wi_1 c_4
    refine mw_iload_n dX6_tone_7 rfl ?_
    refine mw_if_ge (tgt := 18) dX6_tone_8 (by decide) (by omega) (fun c_8 => ?_) (fun c_8 => ?_)
    · have th := bk_t bk1 s
      have tnh := hF.tn hFI (s := s) (by omega)
      refine mw_aload_n dX6_tone_18 rfl ?_
      refine mw_aload_n dX6_tone_19 rfl ?_
      refine mw_gr_6_0 dX6_tone_20 gs_X6_10 (by first | rfl | assumption) ?_
      refine mw_iload_n dX6_tone_23 rfl ?_
      refine mw_Vpr (ci := 1) dX6_tone_24 ml_X6_66 ok_X1_tuneOf (by decide) (by first | rfl | assumption) (by decide) rfl rfl rfl (Nat.le_of_ble_eq_true rfl) (c_F_tuneOf bk1 (by omega)) ?_
      refine mw_iload_n dX6_tone_27 rfl ?_
      refine mw_Vi (ci := 6) dX6_tone_28 ml_X6_85 ok_X6_toneOrNone (by decide) (by first | rfl | assumption) (by decide) rfl rfl rfl (Nat.le_of_ble_eq_true rfl) (c_X_toneOrNone hX hI th.1 th.2.1 th.2.2 tnh.2.1 (by omega)) (fun z_28 m_28 h_28 => ?_)
      refine mw_iret dX6_tone_31 rfl ?_
      refine ⟨_, rfl, ?_⟩
      unfold sp_tone
      rw [if_pos (by omega)]
      by_cases hc : i < st.1 0 (2 + s)
      · rw [tnh.1, if_pos hc, tnh.2.2.2 i (by omega) hc] at h_28
        rw [if_pos hc]
        exact h_28
      · rw [tnh.1, if_neg hc] at h_28
        rw [if_neg hc]
        exact h_28
    · refine mw_aload_n dX6_tone_11 rfl ?_
      refine mw_ldc dX6_tone_12 ct_X6_61 ?_
      refine mw_Vi (ci := 6) dX6_tone_14 ml_X6_62 ok_X6_found (by decide) (by first | rfl | assumption) (by decide) rfl rfl rfl (Nat.le_of_ble_eq_true rfl) (c_X_find hX hI 0 (by decide) (by decide)) (fun z_14 m_14 h_14 => ?_)
      refine mw_iret dX6_tone_17 rfl ?_
      refine ⟨_, rfl, ?_⟩
      unfold sp_tone
      rw [if_neg (by omega)]
      exact h_14
set_option maxHeartbeats 4000000 in
set_option maxRecDepth 100000 in
theorem c_X_side {G : mG} {μ : mMem} {st : aS} (hX : XR μ st) (hI : SI st) {s v : Int} (hs_ : -2147483648 ≤ s ∧ s ≤ 2147483647) (hv_ : -2147483648 ≤ v ∧ v ≤ 2147483647) : mM G yX6_side cX6_side 4 (some .int) 3 [.ref 0, .int (iV s), .int (iV v)] μ (qX μ (sp_side st s v)) := by
  obtain ⟨hF, hK, hkp, htl, htb, hfd, hsh⟩ := id hX
  have hFI := hI.1
  have ec := hF.1
  have hn := hFI.2.1
  have ed := hF.2.1
  refine mM.of (lv := [some (.ref 0), some (.int (iV s)), some (.int (iV v)), none]) 1 (by decide +kernel) (Nat.le_of_ble_eq_true rfl) rfl ?_
  intro X
  refine mw_iload_n dX6_side_0 rfl ?_
  refine mw_Spi dX6_side_1 ml_X6_53 ok_X6_isSide (by decide) rfl rfl (Nat.le_of_ble_eq_true rfl) (c_X_isSide (by omega)) ?_
  refine mw_if_ne (tgt := 14) dX6_side_4 (by decide) (wi_bd _ _ _) (fun c_4 => ?_) (fun c_4 => ?_)
  · have d_4 := wi_1 c_4
    have th := bk_t bk1 s
    have tnh := hF.tn hFI (s := s) (by omega)
    have hhb := home_c s (st.1 0)
    refine mw_aload_n dX6_side_14 rfl ?_
    refine mw_gr_6_0 dX6_side_15 gs_X6_10 (by first | rfl | assumption) ?_
    refine mw_iload_n dX6_side_18 rfl ?_
    refine mw_Vpr (ci := 1) dX6_side_19 ml_X6_66 ok_X1_tuneOf (by decide) (by first | rfl | assumption) (by decide) rfl rfl rfl (Nat.le_of_ble_eq_true rfl) (c_F_tuneOf bk1 (by omega)) ?_
    refine mw_as3 dX6_side_22 (by decide) rfl ?_
    refine mw_iload_n dX6_side_23 rfl ?_
    rcases (show v = 0 ∨ v = 1 ∨ v = 2 ∨ v = 3 ∨ v = 4 ∨ (v < 0 ∨ 4 < v) by omega) with rfl | rfl | rfl | rfl | rfl | c_24
    · refine mw_tblIn (off := 36) (tgt := 60) dX6_side_24 (by decide) (by decide) (by decide) (by decide) (by decide) ?_
      refine mw_aload_n dX6_side_60 rfl ?_
      refine mw_getI 1 dX6_side_61 gs_X6_70 th.1 rfl rfl ?_
      rw [tnh.1]
      refine mw_iret dX6_side_64 rfl ?_
      refine ⟨_, rfl, ?_⟩
      unfold sp_side
      rw [if_pos (by omega), if_pos rfl]
      exact ⟨rfl, hX, XF.rf⟩
    · refine mw_tblIn (off := 41) (tgt := 65) dX6_side_24 (by decide) (by decide) (by decide) (by decide) (by decide) ?_
      refine mw_aload_n dX6_side_65 rfl ?_
      refine mw_Vpi (ci := 5) dX6_side_66 ml_X6_89 ok_X5_wideLeaps (by decide) th.1 (by decide) rfl rfl rfl (Nat.le_of_ble_eq_true rfl) (c_T_wide th.1 th.2.1 th.2.2 tnh.2.1 tnh.2.2.1) ?_
      rw [tens_eq hF hFI (by omega)]
      refine mw_iret dX6_side_69 rfl ?_
      refine ⟨_, rfl, ?_⟩
      unfold sp_side
      rw [if_pos (by omega), if_neg (by omega), if_pos rfl]
      exact ⟨rfl, hX, XF.rf⟩
    · refine mw_tblIn (off := 46) (tgt := 70) dX6_side_24 (by decide) (by decide) (by decide) (by decide) (by decide) ?_
      refine mw_aload_n dX6_side_70 rfl ?_
      refine mw_Vpi (ci := 5) dX6_side_71 ml_X6_93 ok_X5_isHome (by decide) th.1 (by decide) rfl rfl rfl (Nat.le_of_ble_eq_true rfl) (c_T_isHome th.1 th.2.1 th.2.2 tnh.2.1 (fun q => tnh.2.2.1 _ (by omega) (by omega))) ?_
      rw [home_eq hF hFI (by omega)]
      refine mw_if_eq (tgt := 81) dX6_side_74 (by decide) (by omega) (fun c_74 => ?_) (fun c_74 => ?_)
      · refine mw_iconst dX6_side_81 ?_
        refine mw_iret dX6_side_82 rfl ?_
        refine ⟨_, rfl, ?_⟩
        unfold sp_side
        rw [if_pos (by omega), if_neg (by omega), if_neg (by omega), if_pos rfl]
        exact ⟨by rw [c_74], hX, XF.rf⟩
      · refine mw_iconst dX6_side_77 ?_
        refine mw_goto (tgt := 82) dX6_side_78 (by decide) ?_
        refine mw_iret dX6_side_82 rfl ?_
        refine ⟨_, rfl, ?_⟩
        unfold sp_side
        rw [if_pos (by omega), if_neg (by omega), if_neg (by omega), if_pos rfl]
        exact ⟨by omega, hX, XF.rf⟩
    · refine mw_tblIn (off := 59) (tgt := 83) dX6_side_24 (by decide) (by decide) (by decide) (by decide) (by decide) ?_
      refine mw_aload_n dX6_side_83 rfl ?_
      refine mw_Vpi (ci := 5) dX6_side_84 ml_X6_97 ok_X5_toneSet (by decide) th.1 (by decide) rfl rfl rfl (Nat.le_of_ble_eq_true rfl) (c_T_set th.1 th.2.1 th.2.2 tnh.2.1) ?_
      rw [tset_eq hF hFI (by omega)]
      refine mw_iret dX6_side_87 rfl ?_
      refine ⟨_, rfl, ?_⟩
      unfold sp_side
      rw [if_pos (by omega), if_neg (by omega), if_neg (by omega), if_neg (by omega), if_pos rfl]
      exact ⟨rfl, hX, XF.rf⟩
    · refine mw_tblIn (off := 64) (tgt := 88) dX6_side_24 (by decide) (by decide) (by decide) (by decide) (by decide) ?_
      refine mw_aload_n dX6_side_88 rfl ?_
      refine mw_gr_6_0 dX6_side_89 gs_X6_10 (by first | rfl | assumption) ?_
      refine mw_iload_n dX6_side_92 rfl ?_
      refine mw_Vpi (ci := 1) dX6_side_93 ml_X6_100 ok_X1_attachesOf (by decide) (by first | rfl | assumption) (by decide) rfl rfl rfl (Nat.le_of_ble_eq_true rfl) (c_F_attachesOf bk1 hF hFI (by omega)) ?_
      refine mw_iret dX6_side_96 rfl ?_
      refine ⟨_, rfl, ?_⟩
      unfold sp_side
      rw [if_pos (by omega), if_neg (by omega), if_neg (by omega), if_neg (by omega), if_neg (by omega), if_pos rfl]
      exact ⟨rfl, hX, XF.rf⟩
    · refine mw_tblOut (tgt := 97) dX6_side_24 (by omega) c_24 (by decide) ?_
      refine mw_aload_n dX6_side_97 rfl ?_
      refine mw_ldc dX6_side_98 ct_X6_61 ?_
      refine mw_Vi (ci := 6) dX6_side_100 ml_X6_62 ok_X6_found (by decide) (by first | rfl | assumption) (by decide) rfl rfl rfl (Nat.le_of_ble_eq_true rfl) (c_X_find hX hI 0 (by decide) (by decide)) (fun z_100 m_100 h_100 => ?_)
      refine mw_iret dX6_side_103 rfl ?_
      refine ⟨_, rfl, ?_⟩
      unfold sp_side
      rw [if_pos (by omega), if_neg (by omega), if_neg (by omega), if_neg (by omega), if_neg (by omega), if_neg (by omega)]
      exact h_100
  · have d_4 := wi_0 c_4
    refine mw_aload_n dX6_side_7 rfl ?_
    refine mw_ldc dX6_side_8 ct_X6_61 ?_
    refine mw_Vi (ci := 6) dX6_side_10 ml_X6_62 ok_X6_found (by decide) (by first | rfl | assumption) (by decide) rfl rfl rfl (Nat.le_of_ble_eq_true rfl) (c_X_find hX hI 0 (by decide) (by decide)) (fun z_10 m_10 h_10 => ?_)
    refine mw_iret dX6_side_13 rfl ?_
    refine ⟨_, rfl, ?_⟩
    unfold sp_side
    rw [if_neg (by omega)]
    exact h_10
set_option maxHeartbeats 4000000 in
set_option maxRecDepth 100000 in
theorem c_X_attache {G : mG} {μ : mMem} {st : aS} (hX : XR μ st) (hI : SI st) {k s : Int} (hk_ : -2147483648 ≤ k ∧ k ≤ 2147483647) (hs_ : -2147483648 ≤ s ∧ s ≤ 2147483647) : mM G yX6_attache cX6_attache 4 (some .int) 2 [.ref 0, .int (iV k), .int (iV s)] μ (qX μ (sp_attache st k s)) := by
  obtain ⟨hF, hK, hkp, htl, htb, hfd, hsh⟩ := id hX
  have hFI := hI.1
  have ec := hF.1
  have hn := hFI.2.1
  have ed := hF.2.1
  refine mM.of (lv := [some (.ref 0), some (.int (iV k)), some (.int (iV s)), none]) 1 (by decide +kernel) (Nat.le_of_ble_eq_true rfl) rfl ?_
  intro X
  refine mw_iload_n dX6_attache_0 rfl ?_
  refine mw_Spi dX6_attache_1 ml_X6_103 ok_X6_isKind (by decide) rfl rfl (Nat.le_of_ble_eq_true rfl) (c_X_isKind (by omega)) ?_
  refine mw_if_eq (tgt := 14) dX6_attache_4 (by decide) (wi_bd _ _ _) (fun c_4 => ?_) (fun c_4 => ?_)
  · have d_4 := wi_0 c_4
    refine mw_aload_n dX6_attache_14 rfl ?_
    refine mw_ldc dX6_attache_15 ct_X6_61 ?_
    refine mw_Vi (ci := 6) dX6_attache_17 ml_X6_62 ok_X6_found (by decide) (by first | rfl | assumption) (by decide) rfl rfl rfl (Nat.le_of_ble_eq_true rfl) (c_X_find hX hI 0 (by decide) (by decide)) (fun z_17 m_17 h_17 => ?_)
    refine mw_iret dX6_attache_20 rfl ?_
    refine ⟨_, rfl, ?_⟩
    unfold sp_attache
    rw [if_neg (by omega)]
    exact h_17
  · have d_4 := wi_1 c_4
    refine mw_iload_n dX6_attache_7 rfl ?_
    refine mw_Spi dX6_attache_8 ml_X6_53 ok_X6_isSide (by decide) rfl rfl (Nat.le_of_ble_eq_true rfl) (c_X_isSide (by omega)) ?_
    refine mw_if_ne (tgt := 21) dX6_attache_11 (by decide) (wi_bd _ _ _) (fun c_11 => ?_) (fun c_11 => ?_)
    · have d_11 := wi_1 c_11
      refine mw_aload_n dX6_attache_21 rfl ?_
      refine mw_gr_6_0 dX6_attache_22 gs_X6_10 (by first | rfl | assumption) ?_
      refine mw_Vpi (ci := 1) dX6_attache_25 ml_X6_106 ok_X1_isFull (by decide) (by first | rfl | assumption) (by decide) rfl rfl rfl (Nat.le_of_ble_eq_true rfl) (c_F_isFull bk1 (by rw [ec]; exact hn)) ?_
      refine mw_if_eq (tgt := 38) dX6_attache_28 (by decide) (by unfold fullI; split <;> omega) (fun c_28 => ?_) (fun c_28 => ?_)
      · have d_28 : st.1 0 1 < 8 := by
          unfold fullI at c_28
          split at c_28
          · cases c_28
          · omega
        refine mw_aload_n dX6_attache_38 rfl ?_
        refine mw_gr_6_0 dX6_attache_39 gs_X6_10 (by first | rfl | assumption) ?_
        refine mw_getI 3 dX6_attache_42 gs_X6_110 (by first | rfl | assumption) rfl rfl ?_
        rw [ec]
        refine mw_is3 dX6_attache_45 (by decide) rfl ?_
        refine mw_aload_n dX6_attache_46 rfl ?_
        refine mw_gr_6_0 dX6_attache_47 gs_X6_10 (by first | rfl | assumption) ?_
        refine mw_iload_n dX6_attache_50 rfl ?_
        refine mw_iload_n dX6_attache_51 rfl ?_
        refine mw_iconst dX6_attache_52 ?_
        refine mw_iconst dX6_attache_53 ?_
        refine mw_Vv (ci := 1) dX6_attache_54 ml_X6_113 ok_X1_engage (by decide) (by first | rfl | assumption) (by decide) rfl rfl rfl (Nat.le_of_ble_eq_true rfl) (c_F_engage bk1 hF hFI (by omega)) (fun m_54 h_54 => ?_)
        refine mw_iload_n dX6_attache_57 rfl ?_
        refine mw_iret dX6_attache_58 rfl ?_
        refine ⟨_, rfl, ?_⟩
        unfold sp_attache
        rw [if_pos (by omega), if_neg (by omega)]
        exact ⟨rfl, hX.row hI h_54.1 h_54.2, h_54.2.xf bk1⟩
      · have d_28 : st.1 0 1 = 8 := by
          unfold fullI at c_28
          split at c_28
          · omega
          · exact absurd rfl c_28
        refine mw_aload_n dX6_attache_31 rfl ?_
        refine mw_ldc dX6_attache_32 ct_X6_109 ?_
        refine mw_Vi (ci := 6) dX6_attache_34 ml_X6_62 ok_X6_found (by decide) (by first | rfl | assumption) (by decide) rfl rfl rfl (Nat.le_of_ble_eq_true rfl) (c_X_find hX hI 1 (by decide) (by decide)) (fun z_34 m_34 h_34 => ?_)
        refine mw_iret dX6_attache_37 rfl ?_
        refine ⟨_, rfl, ?_⟩
        unfold sp_attache
        rw [if_pos (by omega), if_pos (by omega)]
        exact h_34
    · have d_11 := wi_0 c_11
      refine mw_aload_n dX6_attache_14 rfl ?_
      refine mw_ldc dX6_attache_15 ct_X6_61 ?_
      refine mw_Vi (ci := 6) dX6_attache_17 ml_X6_62 ok_X6_found (by decide) (by first | rfl | assumption) (by decide) rfl rfl rfl (Nat.le_of_ble_eq_true rfl) (c_X_find hX hI 0 (by decide) (by decide)) (fun z_17 m_17 h_17 => ?_)
      refine mw_iret dX6_attache_20 rfl ?_
      refine ⟨_, rfl, ?_⟩
      unfold sp_attache
      rw [if_neg (by omega)]
      exact h_17
set_option maxHeartbeats 4000000 in
set_option maxRecDepth 100000 in
theorem c_X_of {G : mG} {μ : mMem} {st : aS} (hX : XR μ st) (hI : SI st) {a v : Int} (ha_ : -2147483648 ≤ a ∧ a ≤ 2147483647) (hv_ : -2147483648 ≤ v ∧ v ≤ 2147483647) : mM G yX6_of cX6_of 4 (some .int) 2 [.ref 0, .int (iV a), .int (iV v)] μ (qX μ (sp_of st a v)) := by
  obtain ⟨hF, hK, hkp, htl, htb, hfd, hsh⟩ := id hX
  have hFI := hI.1
  have ec := hF.1
  have hn := hFI.2.1
  have ed := hF.2.1
  refine mM.of (lv := [some (.ref 0), some (.int (iV a)), some (.int (iV v)), none]) 1 (by decide +kernel) (Nat.le_of_ble_eq_true rfl) rfl ?_
  intro X
  refine mw_aload_n dX6_of_0 rfl ?_
  refine mw_gr_6_0 dX6_of_1 gs_X6_10 (by first | rfl | assumption) ?_
  refine mw_iload_n dX6_of_4 rfl ?_
  refine mw_Vpi (ci := 1) dX6_of_5 ml_X6_117 ok_X1_has (by decide) (by first | rfl | assumption) (by decide) rfl rfl rfl (Nat.le_of_ble_eq_true rfl) (c_F_has bk1 (by rw [ec]; exact hn) (by omega)) ?_
  refine mw_if_ne (tgt := 18) dX6_of_8 (by decide) (hasI_bd _ _) (fun c_8 => ?_) (fun c_8 => ?_)
  · have d_8 := hasI_1 c_8
    have ea := hF.at hFI (a := a) (by omega)
    have kat := bk_a bk1 (a := a) (by omega)
    have th := bk_t bk1 (1 - st.1 0 (28 + 5 * a + 1))
    have tnh := hF.tn hFI (s := 1 - st.1 0 (28 + 5 * a + 1)) (by omega)
    refine mw_aload_n dX6_of_18 rfl ?_
    refine mw_gr_6_0 dX6_of_19 gs_X6_10 (by first | rfl | assumption) ?_
    refine mw_gr_1_2 dX6_of_22 gs_X6_120 (by first | rfl | assumption) ?_
    refine mw_iload_n dX6_of_25 rfl ?_
    refine mw_aa10 dX6_of_26 (by first | rfl | assumption) (by first | rfl | assumption) (by omega) ?_
    refine mw_as3 dX6_of_27 (by decide) rfl ?_
    refine mw_iload_n dX6_of_28 rfl ?_
    rcases (show v = 0 ∨ v = 1 ∨ v = 2 ∨ v = 3 ∨ v = 4 ∨ v = 5 ∨ (v < 0 ∨ 5 < v) by omega) with rfl | rfl | rfl | rfl | rfl | rfl | c_29
    · refine mw_tblIn (off := 39) (tgt := 68) dX6_of_29 (by decide) (by decide) (by decide) (by decide) (by decide) ?_
      refine mw_aload_n dX6_of_68 rfl ?_
      refine mw_getI 0 dX6_of_69 gs_X6_124 kat rfl rfl ?_
      refine mw_iret dX6_of_72 rfl ?_
      refine ⟨_, rfl, ?_⟩
      unfold sp_of
      rw [if_pos (by omega), if_pos (by omega)]
      exact ⟨ea.1, hX, XF.rf⟩
    · refine mw_tblIn (off := 44) (tgt := 73) dX6_of_29 (by decide) (by decide) (by decide) (by decide) (by decide) ?_
      refine mw_aload_n dX6_of_73 rfl ?_
      refine mw_getI 1 dX6_of_74 gs_X6_129 kat rfl rfl ?_
      refine mw_iret dX6_of_77 rfl ?_
      refine ⟨_, rfl, ?_⟩
      unfold sp_of
      rw [if_pos (by omega), if_pos (by omega)]
      exact ⟨ea.2.1, hX, XF.rf⟩
    · refine mw_tblIn (off := 49) (tgt := 78) dX6_of_29 (by decide) (by decide) (by decide) (by decide) (by decide) ?_
      refine mw_aload_n dX6_of_78 rfl ?_
      refine mw_getI 2 dX6_of_79 gs_X6_132 kat rfl rfl ?_
      refine mw_iret dX6_of_82 rfl ?_
      refine ⟨_, rfl, ?_⟩
      unfold sp_of
      rw [if_pos (by omega), if_pos (by omega)]
      exact ⟨ea.2.2.1, hX, XF.rf⟩
    · refine mw_tblIn (off := 54) (tgt := 83) dX6_of_29 (by decide) (by decide) (by decide) (by decide) (by decide) ?_
      refine mw_aload_n dX6_of_83 rfl ?_
      refine mw_getI 3 dX6_of_84 gs_X6_135 kat rfl rfl ?_
      refine mw_iret dX6_of_87 rfl ?_
      refine ⟨_, rfl, ?_⟩
      unfold sp_of
      rw [if_pos (by omega), if_pos (by omega)]
      exact ⟨ea.2.2.2.1, hX, XF.rf⟩
    · refine mw_tblIn (off := 59) (tgt := 88) dX6_of_29 (by decide) (by decide) (by decide) (by decide) (by decide) ?_
      refine mw_aload_n dX6_of_88 rfl ?_
      refine mw_getI 4 dX6_of_89 gs_X6_138 kat rfl rfl ?_
      refine mw_iret dX6_of_92 rfl ?_
      refine ⟨_, rfl, ?_⟩
      unfold sp_of
      rw [if_pos (by omega), if_pos (by omega)]
      exact ⟨ea.2.2.2.2.1, hX, XF.rf⟩
    · refine mw_tblIn (off := 64) (tgt := 93) dX6_of_29 (by decide) (by decide) (by decide) (by decide) (by decide) ?_
      refine mw_aload_n dX6_of_93 rfl ?_
      refine mw_aload_n dX6_of_94 rfl ?_
      refine mw_gr_6_0 dX6_of_95 gs_X6_10 (by first | rfl | assumption) ?_
      refine mw_aload_n dX6_of_98 rfl ?_
      refine mw_Vpr (ci := 1) dX6_of_99 ml_X6_141 ok_X1_heardBy (by decide) (by first | rfl | assumption) (by decide) rfl rfl rfl (Nat.le_of_ble_eq_true rfl) (c_F_heardBy bk1 kat (by rw [ea.2.1]; omega)) ?_
      rw [ea.2.1]
      refine mw_Vpi (ci := 0) dX6_of_102 ml_X6_145 ok_X0_lengthTo (by decide) kat (by decide) rfl rfl rfl (Nat.le_of_ble_eq_true rfl) (c_A_long kat th.1 th.2.1 th.2.2 tnh.2.1 (by rw [ea.1]; exact ea.2.2.2.2.2.1)) ?_
      rw [ea.1, tnh.1]
      refine mw_iret dX6_of_105 rfl ?_
      refine ⟨_, rfl, ?_⟩
      unfold sp_of
      rw [if_pos (by omega), if_neg (by omega)]
      exact ⟨rfl, hX, XF.rf⟩
    · refine mw_tblOut (tgt := 106) dX6_of_29 (by omega) c_29 (by decide) ?_
      refine mw_aload_n dX6_of_106 rfl ?_
      refine mw_ldc dX6_of_107 ct_X6_61 ?_
      refine mw_Vi (ci := 6) dX6_of_109 ml_X6_62 ok_X6_found (by decide) (by first | rfl | assumption) (by decide) rfl rfl rfl (Nat.le_of_ble_eq_true rfl) (c_X_find hX hI 0 (by decide) (by decide)) (fun z_109 m_109 h_109 => ?_)
      refine mw_iret dX6_of_112 rfl ?_
      refine ⟨_, rfl, ?_⟩
      unfold sp_of
      rw [if_neg (by omega)]
      exact h_109
  · have d_8 := hasI_0 c_8
    refine mw_aload_n dX6_of_11 rfl ?_
    refine mw_ldc dX6_of_12 ct_X6_61 ?_
    refine mw_Vi (ci := 6) dX6_of_14 ml_X6_62 ok_X6_found (by decide) (by first | rfl | assumption) (by decide) rfl rfl rfl (Nat.le_of_ble_eq_true rfl) (c_X_find hX hI 0 (by decide) (by decide)) (fun z_14 m_14 h_14 => ?_)
    refine mw_iret dX6_of_17 rfl ?_
    refine ⟨_, rfl, ?_⟩
    unfold sp_of
    rw [if_neg (by omega)]
    exact h_14
set_option maxHeartbeats 4000000 in
set_option maxRecDepth 100000 in
theorem c_X_answer {G : mG} {μ : mMem} {st : aS} (hX : XR μ st) (hI : SI st) {a i : Int} (ha_ : -2147483648 ≤ a ∧ a ≤ 2147483647) (hi_ : -2147483648 ≤ i ∧ i ≤ 2147483647) : mM G yX6_answer cX6_answer 5 (some .int) 2 [.ref 0, .int (iV a), .int (iV i)] μ (qX μ (sp_answer st a i)) := by
  obtain ⟨hF, hK, hkp, htl, htb, hfd, hsh⟩ := id hX
  have hFI := hI.1
  have ec := hF.1
  have hn := hFI.2.1
  have ed := hF.2.1
  refine mM.of (lv := [some (.ref 0), some (.int (iV a)), some (.int (iV i)), none, none]) 2 (by decide +kernel) (Nat.le_of_ble_eq_true rfl) rfl ?_
  intro X
  refine mw_aload_n dX6_answer_0 rfl ?_
  refine mw_gr_6_0 dX6_answer_1 gs_X6_10 (by first | rfl | assumption) ?_
  refine mw_iload_n dX6_answer_4 rfl ?_
  refine mw_Vpi (ci := 1) dX6_answer_5 ml_X6_117 ok_X1_has (by decide) (by first | rfl | assumption) (by decide) rfl rfl rfl (Nat.le_of_ble_eq_true rfl) (c_F_has bk1 (by rw [ec]; exact hn) (by omega)) ?_
  refine mw_if_eq (tgt := 15) dX6_answer_8 (by decide) (hasI_bd _ _) (fun c_8 => ?_) (fun c_8 => ?_)
  · have d_8 := hasI_0 c_8
    refine mw_aload_n dX6_answer_15 rfl ?_
    refine mw_ldc dX6_answer_16 ct_X6_61 ?_
    refine mw_Vi (ci := 6) dX6_answer_18 ml_X6_62 ok_X6_found (by decide) (by first | rfl | assumption) (by decide) rfl rfl rfl (Nat.le_of_ble_eq_true rfl) (c_X_find hX hI 0 (by decide) (by decide)) (fun z_18 m_18 h_18 => ?_)
    refine mw_iret dX6_answer_21 rfl ?_
    refine ⟨_, rfl, ?_⟩
    unfold sp_answer
    rw [if_neg (by omega)]
    exact h_18
  · have d_8 := hasI_1 c_8
    refine mw_iload_n dX6_answer_11 rfl ?_
    refine mw_if_ge (tgt := 22) dX6_answer_12 (by decide) (by omega) (fun c_12 => ?_) (fun c_12 => ?_)
    · have ea := hF.at hFI (a := a) (by omega)
      have kat := bk_a bk1 (a := a) (by omega)
      have th := bk_t bk1 (1 - st.1 0 (28 + 5 * a + 1))
      have tnh := hF.tn hFI (s := 1 - st.1 0 (28 + 5 * a + 1)) (by omega)
      refine mw_aload_n dX6_answer_22 rfl ?_
      refine mw_gr_6_0 dX6_answer_23 gs_X6_10 (by first | rfl | assumption) ?_
      refine mw_gr_1_2 dX6_answer_26 gs_X6_120 (by first | rfl | assumption) ?_
      refine mw_iload_n dX6_answer_29 rfl ?_
      refine mw_aa10 dX6_answer_30 (by first | rfl | assumption) (by first | rfl | assumption) (by omega) ?_
      refine mw_as3 dX6_answer_31 (by decide) rfl ?_
      refine mw_aload_n dX6_answer_32 rfl ?_
      refine mw_gr_6_0 dX6_answer_33 gs_X6_10 (by first | rfl | assumption) ?_
      refine mw_aload_n dX6_answer_36 rfl ?_
      refine mw_Vpr (ci := 1) dX6_answer_37 ml_X6_141 ok_X1_heardBy (by decide) (by first | rfl | assumption) (by decide) rfl rfl rfl (Nat.le_of_ble_eq_true rfl) (c_F_heardBy bk1 kat (by rw [ea.2.1]; omega)) ?_
      rw [ea.2.1]
      refine mw_as4 dX6_answer_40 (by decide) rfl ?_
      refine mw_iload_n dX6_answer_42 rfl ?_
      refine mw_aload_n dX6_answer_43 rfl ?_
      refine mw_aload dX6_answer_44 rfl ?_
      refine mw_Vpi (ci := 0) dX6_answer_46 ml_X6_145 ok_X0_lengthTo (by decide) kat (by decide) rfl rfl rfl (Nat.le_of_ble_eq_true rfl) (c_A_long kat th.1 th.2.1 th.2.2 tnh.2.1 (by rw [ea.1]; exact ea.2.2.2.2.2.1)) ?_
      rw [ea.1, tnh.1, show lng (st.1 0 (28 + 5 * a + 0)) (st.1 0 (2 + (1 - st.1 0 (28 + 5 * a + 1)))) = lgF (st.1 0) a from rfl]
      have hL := lng_bd (kind := st.1 0 (28 + 5 * a + 0)) tnh.2.1.1
      rw [tnh.1, show lng (st.1 0 (28 + 5 * a + 0)) (st.1 0 (2 + (1 - st.1 0 (28 + 5 * a + 1)))) = lgF (st.1 0) a from rfl] at hL
      have hl12 := tnh.2.1
      rw [tnh.1] at hl12
      refine mw_icmp_lt (tgt := 59) dX6_answer_49 (by decide) (by omega) (by omega) (fun c_49 => ?_) (fun c_49 => ?_)
      · refine mw_aload_n dX6_answer_59 rfl ?_
        refine mw_aload dX6_answer_60 rfl ?_
        refine mw_iload_n dX6_answer_62 rfl ?_
        refine mw_Vpi (ci := 0) dX6_answer_63 ml_X6_150 ok_X0_toneTo (by decide) kat (by decide) rfl rfl rfl (Nat.le_of_ble_eq_true rfl) (c_A_tone kat th.1 th.2.1 th.2.2 tnh.2.1 tnh.2.2.1 (by rw [ea.1]; exact ea.2.2.2.2.2.1) (by rw [ea.2.2.1]; exact ea.2.2.2.2.2.2.2.1) (by have hL := lng_bd (kind := st.1 0 (28 + 5 * a + 0)) tnh.2.1.1; rw [tnh.1] at hL ⊢; unfold lgF at *; omega)) ?_
        refine mw_iret dX6_answer_66 rfl ?_
        refine ⟨_, rfl, ?_⟩
        unfold sp_answer
        rw [if_pos (by omega), if_pos (by omega)]
        exact ⟨by rw [ea.1, ea.2.2.1, ea.2.2.2.1, tnh.1]; exact ans_congr (by omega) tnh.2.2.2, hX, XF.rf⟩
      · refine mw_aload_n dX6_answer_52 rfl ?_
        refine mw_ldc dX6_answer_53 ct_X6_149 ?_
        refine mw_Vi (ci := 6) dX6_answer_55 ml_X6_62 ok_X6_found (by decide) (by first | rfl | assumption) (by decide) rfl rfl rfl (Nat.le_of_ble_eq_true rfl) (c_X_find hX hI 3 (by decide) (by decide)) (fun z_55 m_55 h_55 => ?_)
        refine mw_iret dX6_answer_58 rfl ?_
        refine ⟨_, rfl, ?_⟩
        unfold sp_answer
        rw [if_pos (by omega), if_neg (by omega)]
        exact h_55
    · refine mw_aload_n dX6_answer_15 rfl ?_
      refine mw_ldc dX6_answer_16 ct_X6_61 ?_
      refine mw_Vi (ci := 6) dX6_answer_18 ml_X6_62 ok_X6_found (by decide) (by first | rfl | assumption) (by decide) rfl rfl rfl (Nat.le_of_ble_eq_true rfl) (c_X_find hX hI 0 (by decide) (by decide)) (fun z_18 m_18 h_18 => ?_)
      refine mw_iret dX6_answer_21 rfl ?_
      refine ⟨_, rfl, ?_⟩
      unfold sp_answer
      rw [if_neg (by omega)]
      exact h_18

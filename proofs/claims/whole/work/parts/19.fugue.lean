set_option maxHeartbeats 4000000 in
set_option maxRecDepth 100000 in
theorem c_F_tuneOf {G : mG} {μ : mMem} {b : Nat} (hb : BK b) {s : Int} (hs : 0 ≤ s ∧ s ≤ 1) : mM G yX1_tuneOf cX1_tuneOf 2 (some (.object "FugueNotes$Tune")) 0 [.ref b, .int (iV s)] μ (pR (tc b s) μ) := by
  obtain ⟨kb, kt0, ka0, kl0, kt1, ka1, kl1, kaa, kal⟩ := bk_at hb
  refine mM.of (lv := [some (.ref b), some (.int (iV s))]) 0 (by decide +kernel) (Nat.le_of_ble_eq_true rfl) rfl ?_
  intro X
  refine mw_iload_n dX1_tuneOf_0 rfl ?_
  refine mw_if_ne (tgt := 11) dX1_tuneOf_1 (by decide) (by omega) (fun c_1 => ?_) (fun c_1 => ?_)
  · refine mw_aload_n dX1_tuneOf_11 rfl ?_
    refine mw_gr_1_1 dX1_tuneOf_12 gs_X1_18 (by first | rfl | assumption) ?_
    refine mw_aret dX1_tuneOf_15 rfl (Or.inl ⟨_, rfl⟩) ?_
    exact ⟨by unfold tc; rw [if_neg c_1], rfl⟩
  · refine mw_aload_n dX1_tuneOf_4 rfl ?_
    refine mw_gr_1_0 dX1_tuneOf_5 gs_X1_12 (by first | rfl | assumption) ?_
    refine mw_goto (tgt := 15) dX1_tuneOf_8 (by decide) ?_
    refine mw_aret dX1_tuneOf_15 rfl (Or.inl ⟨_, rfl⟩) ?_
    exact ⟨by unfold tc; rw [if_pos c_1], rfl⟩
set_option maxHeartbeats 4000000 in
set_option maxRecDepth 100000 in
theorem c_F_heardBy {G : mG} {μ : mMem} {b : Nat} (hb : BK b) {k : Nat} (hk : mCls k = 0) (hs : 0 ≤ μ.1 k 1 ∧ μ.1 k 1 ≤ 1) : mM G yX1_heardBy cX1_heardBy 2 (some (.object "FugueNotes$Tune")) 1 [.ref b, .ref k] μ (pR (tc b (1 - μ.1 k 1)) μ) := by
  obtain ⟨kb, kt0, ka0, kl0, kt1, ka1, kl1, kaa, kal⟩ := bk_at hb
  refine mM.of (lv := [some (.ref b), some (.ref k)]) 0 (by decide +kernel) (Nat.le_of_ble_eq_true rfl) rfl ?_
  intro X
  refine mw_aload_n dX1_heardBy_0 rfl ?_
  refine mw_iconst dX1_heardBy_1 ?_
  refine mw_aload_n dX1_heardBy_2 rfl ?_
  refine mw_getI 1 dX1_heardBy_3 gs_X1_42 (by first | rfl | assumption) rfl rfl ?_
  refine mw_isub dX1_heardBy_6 ?_
  refine mw_Vpr (ci := 1) dX1_heardBy_7 ml_X1_45 ok_X1_tuneOf (by decide) kb (by decide) rfl rfl rfl (Nat.le_of_ble_eq_true rfl) (c_F_tuneOf hb (by omega)) ?_
  refine mw_aret dX1_heardBy_10 rfl (Or.inl ⟨_, rfl⟩) ?_
  exact ⟨rfl, rfl⟩
def hasI (n a : Int) : Int := if 0 ≤ a ∧ a < n then 1 else 0
theorem hasI_c (n a : Int) : hasI n a = 0 ∨ hasI n a = 1 := by unfold hasI; split <;> simp
theorem hasI_1 {n a : Int} (h : ¬ hasI n a = 0) : 0 ≤ a ∧ a < n := by
  unfold hasI at h
  split at h
  · assumption
  · exact absurd rfl h
theorem hasI_0 {n a : Int} (h : hasI n a = 0) : ¬ (0 ≤ a ∧ a < n) := by
  unfold hasI at h
  split at h
  · cases h
  · assumption
set_option maxHeartbeats 4000000 in
set_option maxRecDepth 100000 in
theorem c_F_has {G : mG} {μ : mMem} {b : Nat} (hb : BK b) (hn : 0 ≤ μ.1 b 3 ∧ μ.1 b 3 ≤ 8) {a : Int} (ha : -2147483648 ≤ a ∧ a ≤ 2147483647) : mM G yX1_has cX1_has 2 (some .boolean) 0 [.ref b, .int (iV a)] μ (pI (hasI (μ.1 b 3) a) μ) := by
  obtain ⟨kb, kt0, ka0, kl0, kt1, ka1, kl1, kaa, kal⟩ := bk_at hb
  refine mM.of (lv := [some (.ref b), some (.int (iV a))]) 0 (by decide +kernel) (Nat.le_of_ble_eq_true rfl) rfl ?_
  intro X
  refine mw_iload_n dX1_has_0 rfl ?_
  refine mw_if_lt (tgt := 16) dX1_has_1 (by decide) (by omega) (fun c_1 => ?_) (fun c_1 => ?_)
  · refine mw_iconst dX1_has_16 ?_
    refine mw_zret dX1_has_17 rfl (by decide +kernel) ?_
    exact ⟨by unfold hasI; rw [if_neg (by omega)], rfl⟩
  · refine mw_iload_n dX1_has_4 rfl ?_
    refine mw_aload_n dX1_has_5 rfl ?_
    refine mw_getI 3 dX1_has_6 gs_X1_28 (by first | rfl | assumption) rfl rfl ?_
    refine mw_icmp_ge (tgt := 16) dX1_has_9 (by decide) (by omega) (by omega) (fun c_9 => ?_) (fun c_9 => ?_)
    · refine mw_iconst dX1_has_16 ?_
      refine mw_zret dX1_has_17 rfl (by decide +kernel) ?_
      exact ⟨by unfold hasI; rw [if_neg (by omega)], rfl⟩
    · refine mw_iconst dX1_has_12 ?_
      refine mw_goto (tgt := 17) dX1_has_13 (by decide) ?_
      refine mw_zret dX1_has_17 rfl (by decide +kernel) ?_
      exact ⟨by unfold hasI; rw [if_pos (by omega)], rfl⟩
def fullI (n : Int) : Int := if 8 ≤ n then 1 else 0
set_option maxHeartbeats 4000000 in
set_option maxRecDepth 100000 in
theorem c_F_isFull {G : mG} {μ : mMem} {b : Nat} (hb : BK b) (hn : 0 ≤ μ.1 b 3 ∧ μ.1 b 3 ≤ 8) : mM G yX1_isFull cX1_isFull 1 (some .boolean) 0 [.ref b] μ (pI (fullI (μ.1 b 3)) μ) := by
  obtain ⟨kb, kt0, ka0, kl0, kt1, ka1, kl1, kaa, kal⟩ := bk_at hb
  refine mM.of (lv := [some (.ref b)]) 0 (by decide +kernel) (Nat.le_of_ble_eq_true rfl) rfl ?_
  intro X
  refine mw_aload_n dX1_isFull_0 rfl ?_
  refine mw_getI 3 dX1_isFull_1 gs_X1_28 (by first | rfl | assumption) rfl rfl ?_
  refine mw_bipush dX1_isFull_4 (by decide +kernel) ?_
  refine mw_icmp_lt (tgt := 13) dX1_isFull_6 (by decide) (by omega) (by omega) (fun c_6 => ?_) (fun c_6 => ?_)
  · refine mw_iconst dX1_isFull_13 ?_
    refine mw_zret dX1_isFull_14 rfl (by decide +kernel) ?_
    exact ⟨by unfold fullI; rw [if_neg (by omega)], rfl⟩
  · refine mw_iconst dX1_isFull_9 ?_
    refine mw_goto (tgt := 14) dX1_isFull_10 (by decide) ?_
    refine mw_zret dX1_isFull_14 rfl (by decide +kernel) ?_
    exact ⟨by unfold fullI; rw [if_pos (by omega)], rfl⟩
def engF (F : Int → Int) (kind side key blots : Int) : Int → Int := fun j => if j = 1 then F 1 + 1 else if j = 28 + 5 * F 1 + 0 then kind else if j = 28 + 5 * F 1 + 1 then side else if j = 28 + 5 * F 1 + 2 then key else if j = 28 + 5 * F 1 + 3 then blots else if j = 28 + 5 * F 1 + 4 then 0 else F j
theorem eng_o {F : Int → Int} {kind side key blots j : Int} (h1 : j ≠ 1) (h2 : j < 28 + 5 * F 1 ∨ 28 + 5 * F 1 + 5 ≤ j) : engF F kind side key blots j = F j := by
  unfold engF
  rw [if_neg h1, if_neg (by omega), if_neg (by omega), if_neg (by omega), if_neg (by omega), if_neg (by omega)]
theorem eng_1 {F : Int → Int} {kind side key blots : Int} : engF F kind side key blots 1 = F 1 + 1 := by unfold engF; rw [if_pos rfl]
theorem eng_k {F : Int → Int} {kind side key blots : Int} (h : 0 ≤ F 1) : engF F kind side key blots (28 + 5 * F 1 + 0) = kind ∧ engF F kind side key blots (28 + 5 * F 1 + 1) = side ∧ engF F kind side key blots (28 + 5 * F 1 + 2) = key ∧ engF F kind side key blots (28 + 5 * F 1 + 3) = blots ∧ engF F kind side key blots (28 + 5 * F 1 + 4) = 0 := by
  unfold engF
  refine ⟨?_, ?_, ?_, ?_, ?_⟩
  · rw [if_neg (by omega), if_pos rfl]
  · rw [if_neg (by omega), if_neg (by omega), if_pos rfl]
  · rw [if_neg (by omega), if_neg (by omega), if_neg (by omega), if_pos rfl]
  · rw [if_neg (by omega), if_neg (by omega), if_neg (by omega), if_neg (by omega), if_pos rfl]
  · rw [if_neg (by omega), if_neg (by omega), if_neg (by omega), if_neg (by omega), if_neg (by omega), if_pos rfl]
theorem eng_inv {F : Int → Int} {kind side key blots : Int} (h : fInv F) (h8 : F 1 < 8) (hk : 0 ≤ kind ∧ kind < 6) (hs : 0 ≤ side ∧ side ≤ 1) (hy : 0 ≤ key ∧ key < 12) (hb : 0 ≤ blots ∧ blots < 4096) : fInv (engF F kind side key blots) := by
  obtain ⟨g0, g1, g2, g3, g4⟩ := h
  refine ⟨by rw [eng_o (by omega) (by omega)]; exact g0, by rw [eng_1]; omega, fun s q1 q2 => ?_, fun s i q1 q2 q3 q4 => ?_, fun a q1 q2 => ?_⟩
  · rw [eng_o (by omega) (by omega)]; exact g2 s q1 q2
  · rw [eng_o (by omega) (by omega)]; exact g3 s i q1 q2 q3 q4
  · by_cases ha : a = F 1
    · obtain ⟨e0, e1, e2, e3, e4⟩ := eng_k (F := F) (kind := kind) (side := side) (key := key) (blots := blots) g1.1
      rw [ha, e0, e1, e2, e3, e4]
      exact ⟨hk, hs, hy, hb, by omega⟩
    · rw [eng_o (by omega) (by omega), eng_o (by omega) (by omega), eng_o (by omega) (by omega), eng_o (by omega) (by omega), eng_o (by omega) (by omega)]
      exact g4 a q1 q2
theorem eng_fug {μ : mMem} {b : Nat} (hb : BK b) {F : Int → Int} (hF : FUG μ b F) (hI : fInv F) {kind side key blots : Int} (h8 : F 1 < 8) : FUG (u1 (u1 (u1 (u1 (u1 (u1 μ (b + 5 + 1 + (F 1).toNat) 0 kind) (b + 5 + 1 + (F 1).toNat) 1 side) (b + 5 + 1 + (F 1).toNat) 2 key) (b + 5 + 1 + (F 1).toNat) 3 blots) (b + 5 + 1 + (F 1).toNat) 4 0) b 3 (F 1 + 1)) b (engF F kind side key blots) ∧ FR b μ (u1 (u1 (u1 (u1 (u1 (u1 μ (b + 5 + 1 + (F 1).toNat) 0 kind) (b + 5 + 1 + (F 1).toNat) 1 side) (b + 5 + 1 + (F 1).toNat) 2 key) (b + 5 + 1 + (F 1).toNat) 3 blots) (b + 5 + 1 + (F 1).toNat) 4 0) b 3 (F 1 + 1)) := by
  obtain ⟨g0, g1, g2, g3, g4⟩ := id hI
  obtain ⟨h1, h2, h3, h4⟩ := hF
  refine ⟨⟨by rw [u1_s, eng_1], ?_, fun s q1 q2 => ?_, fun a q1 q2 f q3 q4 => ?_⟩, fun c hc => ?_, rfl⟩
  · rw [u1_o (by omega), u1_o (by omega), u1_o (by omega), u1_o (by omega), u1_o (by omega), u1_o (by omega), eng_o (by omega) (by omega)]
    exact h2
  · have ht := tc_c ⟨q1, q2⟩ b
    rw [eng_o (by omega) (by omega)]
    refine ⟨?_, fun i q3 q4 => ?_⟩
    · rw [u1_o (by omega), u1_o (by omega), u1_o (by omega), u1_o (by omega), u1_o (by omega), u1_o (by omega)]
      exact (h3 s q1 q2).1
    · have hn := g2 s q1 q2
      rw [u1_o (by omega), u1_o (by omega), u1_o (by omega), u1_o (by omega), u1_o (by omega), u1_o (by omega), eng_o (by omega) (by omega)]
      exact (h3 s q1 q2).2 i q3 q4
  · rw [eng_1] at q2
    rw [u1_o (by omega)]
    by_cases ha : a = F 1
    · obtain ⟨e0, e1, e2, e3, e4⟩ := eng_k (F := F) (kind := kind) (side := side) (key := key) (blots := blots) g1.1
      subst ha
      rcases (show f = 0 ∨ f = 1 ∨ f = 2 ∨ f = 3 ∨ f = 4 by omega) with rfl | rfl | rfl | rfl | rfl
      · rw [e0, u1_o (by omega), u1_o (by omega), u1_o (by omega), u1_o (by omega), u1_s]
      · rw [e1, u1_o (by omega), u1_o (by omega), u1_o (by omega), u1_s]
      · rw [e2, u1_o (by omega), u1_o (by omega), u1_s]
      · rw [e3, u1_o (by omega), u1_s]
      · rw [e4, u1_s]
    · rw [u1_o (by omega), u1_o (by omega), u1_o (by omega), u1_o (by omega), u1_o (by omega), eng_o (by omega) (by omega)]
      exact h4 a q1 (by omega) f q3 q4
  · funext j
    rw [u1_o (by omega), u1_o (by omega), u1_o (by omega), u1_o (by omega), u1_o (by omega), u1_o (by omega)]
set_option maxHeartbeats 4000000 in
set_option maxRecDepth 100000 in
theorem c_F_engage {G : mG} {μ : mMem} {b : Nat} (hb : BK b) {F : Int → Int} (hF : FUG μ b F) (hI : fInv F) {kind side key blots : Int} (h8 : F 1 < 8) : mM G yX1_engage cX1_engage 6 none 1 [.ref b, .int (iV kind), .int (iV side), .int (iV key), .int (iV blots)] μ (qV (fun m => FUG m b (engF F kind side key blots) ∧ FR b μ m)) := by
  obtain ⟨kb, kt0, ka0, kl0, kt1, ka1, kl1, kaa, kal⟩ := bk_at hb
  have hn := hI.2.1
  have kat := bk_a hb (a := F 1) (by omega)
  have ec := hF.1
  refine mM.of (lv := [some (.ref b), some (.int (iV kind)), some (.int (iV side)), some (.int (iV key)), some (.int (iV blots)), none]) 1 (by decide +kernel) (Nat.le_of_ble_eq_true rfl) rfl ?_
  intro X
  refine mw_aload_n dX1_engage_0 rfl ?_
  refine mw_Vpi (ci := 1) dX1_engage_1 ml_X1_49 ok_X1_isFull (by decide) kb (by decide) rfl rfl rfl (Nat.le_of_ble_eq_true rfl) (c_F_isFull hb (by rw [ec]; exact hn)) ?_
  rw [ec, show fullI (F 1) = 0 by unfold fullI; rw [if_neg (by omega)]]
  refine mw_if_eq (tgt := 8) dX1_engage_4 (by decide) (by omega) (fun c_4 => ?_) (fun c_4 => ?_)
  · refine mw_aload_n dX1_engage_8 rfl ?_
    refine mw_gr_1_2 dX1_engage_9 gs_X1_23 (by first | rfl | assumption) ?_
    refine mw_aload_n dX1_engage_12 rfl ?_
    refine mw_getI 3 dX1_engage_13 gs_X1_28 (by first | rfl | assumption) rfl rfl ?_
    rw [ec]
    refine mw_aa10 dX1_engage_16 (by first | rfl | assumption) (by first | rfl | assumption) (by omega) ?_
    refine mw_as5 dX1_engage_17 (by decide) rfl ?_
    refine mw_aload dX1_engage_19 rfl ?_
    refine mw_iload_n dX1_engage_21 rfl ?_
    refine mw_putI 0 dX1_engage_22 ps_X1_53 (by first | rfl | assumption) rfl rfl ?_
    refine mw_aload dX1_engage_25 rfl ?_
    refine mw_iload_n dX1_engage_27 rfl ?_
    refine mw_putI 1 dX1_engage_28 ps_X1_42 (by first | rfl | assumption) rfl rfl ?_
    refine mw_aload dX1_engage_31 rfl ?_
    refine mw_iload_n dX1_engage_33 rfl ?_
    refine mw_putI 2 dX1_engage_34 ps_X1_56 (by first | rfl | assumption) rfl rfl ?_
    refine mw_aload dX1_engage_37 rfl ?_
    refine mw_iload dX1_engage_39 rfl ?_
    refine mw_putI 3 dX1_engage_41 ps_X1_59 (by first | rfl | assumption) rfl rfl ?_
    refine mw_aload dX1_engage_44 rfl ?_
    refine mw_iconst dX1_engage_46 ?_
    refine mw_putI 4 dX1_engage_47 ps_X1_62 (by first | rfl | assumption) rfl rfl ?_
    refine mw_aload_n dX1_engage_50 rfl ?_
    refine mw_dup dX1_engage_51 rfl ?_
    refine mw_getI 3 dX1_engage_52 gs_X1_28 (by first | rfl | assumption) rfl rfl ?_
    rw [u1_o (by omega), u1_o (by omega), u1_o (by omega), u1_o (by omega), u1_o (by omega), ec]
    refine mw_iconst dX1_engage_55 ?_
    refine mw_iadd dX1_engage_56 ?_
    refine mw_putI 3 dX1_engage_57 ps_X1_28 (by first | rfl | assumption) rfl rfl ?_
    refine mw_vret dX1_engage_60 rfl ?_
    exact ⟨rfl, eng_fug hb hF hI h8⟩
  · exact absurd rfl c_4
set_option maxHeartbeats 4000000 in
set_option maxRecDepth 100000 in
theorem c_F_attachesOf {G : mG} {μ : mMem} {b : Nat} (hb : BK b) {F : Int → Int} (hF : FUG μ b F) (hI : fInv F) {s : Int} (hs : 0 ≤ s ∧ s ≤ 1) : mM G yX1_attachesOf cX1_attachesOf 4 (some .int) 0 [.ref b, .int (iV s)] μ (pI (many F s (F 1).toNat) μ) := by
  obtain ⟨kb, kt0, ka0, kl0, kt1, ka1, kl1, kaa, kal⟩ := bk_at hb
  have hn := hI.2.1
  have ec := hF.1
  refine mM.of (lv := [some (.ref b), some (.int (iV s)), none, none]) 2 (by decide +kernel) (Nat.le_of_ble_eq_true rfl) rfl ?_
  intro X
  have lp : ∀ (n_ : Nat) (i v : Int), (0 ≤ i) → (i ≤ F 1) → (9 ≤ i + n_) → (v = many F s i.toNat) → mW X cX1_attachesOf 4 (some .int) yX1_attachesOf.cls 0 G (pI (many F s (F 1).toNat) μ) 4 [some (.ref b), some (.int (iV s)), some (.int (iV v)), some (.int (iV i))] [] μ := by
    intro n_
    induction n_ with
    | zero =>
      intro i v h1 h2 h3 h5
      omega
    | succ n_ ih =>
      intro i v h1 h2 h3 h5
      refine mw_iload_n dX1_attachesOf_4 rfl ?_
      refine mw_aload_n dX1_attachesOf_5 rfl ?_
      refine mw_getI 3 dX1_attachesOf_6 gs_X1_28 (by first | rfl | assumption) rfl rfl ?_
      rw [ec]
      refine mw_icmp_ge (tgt := 34) dX1_attachesOf_9 (by decide) (by omega) (by omega) (fun c_9 => ?_) (fun c_9 => ?_)
      · refine mw_iload_n dX1_attachesOf_34 rfl ?_
        refine mw_iret dX1_attachesOf_35 rfl ?_
        exact ⟨by rw [h5, show (F 1).toNat = i.toNat by omega], rfl⟩
      · have ea := hF.at hI (a := i) (by omega)
        have kat := bk_a hb (a := i) (by omega)
        have hst : many F s (i + 1).toNat = many F s i.toNat + (if F (28 + 5 * i + 1) = s then 1 else 0) := by
          rw [show (i + 1).toNat = i.toNat + 1 by omega, many, show ((i.toNat : Nat) : Int) = i by omega]
        refine mw_aload_n dX1_attachesOf_12 rfl ?_
        refine mw_gr_1_2 dX1_attachesOf_13 gs_X1_23 (by first | rfl | assumption) ?_
        refine mw_iload_n dX1_attachesOf_16 rfl ?_
        refine mw_aa10 dX1_attachesOf_17 (by first | rfl | assumption) (by first | rfl | assumption) (by omega) ?_
        refine mw_getI 1 dX1_attachesOf_18 gs_X1_42 (by first | rfl | assumption) rfl rfl ?_
        rw [ea.2.1]
        refine mw_iload_n dX1_attachesOf_21 rfl ?_
        refine mw_icmp_ne (tgt := 28) dX1_attachesOf_22 (by decide) (by omega) (by omega) (fun c_22 => ?_) (fun c_22 => ?_)
        · refine mw_ii3 dX1_attachesOf_28 (by decide) rfl ?_
          refine mw_goto (tgt := 4) dX1_attachesOf_31 (by decide) ?_
          exact ih _ _ (by omega) (by omega) (by omega) (by rw [hst, if_neg c_22, h5]; omega)
        · refine mw_ii2 dX1_attachesOf_25 (by decide) rfl ?_
          refine mw_ii3 dX1_attachesOf_28 (by decide) rfl ?_
          refine mw_goto (tgt := 4) dX1_attachesOf_31 (by decide) ?_
          exact ih _ _ (by omega) (by omega) (by omega) (by rw [hst, if_pos c_22, h5])
  refine mw_iconst dX1_attachesOf_0 ?_
  refine mw_is2 dX1_attachesOf_1 (by decide) rfl ?_
  refine mw_iconst dX1_attachesOf_2 ?_
  refine mw_is3 dX1_attachesOf_3 (by decide) rfl ?_
  exact lp 9 _ _ (by omega) (by omega) (by omega) rfl
set_option maxHeartbeats 4000000 in
set_option maxRecDepth 100000 in
theorem c_F_writingSide {G : mG} {μ : mMem} {b : Nat} (hb : BK b) (hd : 0 ≤ μ.1 b 4 ∧ μ.1 b 4 ≤ 100000) : mM G yX1_writingSide cX1_writingSide 1 (some .int) 0 [.ref b] μ (pI (μ.1 b 4 % 2) μ) := by
  obtain ⟨kb, kt0, ka0, kl0, kt1, ka1, kl1, kaa, kal⟩ := bk_at hb
  refine mM.of (lv := [some (.ref b)]) 0 (by decide +kernel) (Nat.le_of_ble_eq_true rfl) rfl ?_
  intro X
  refine mw_aload_n dX1_writingSide_0 rfl ?_
  refine mw_getI 4 dX1_writingSide_1 gs_X1_32 (by first | rfl | assumption) rfl rfl ?_
  refine mw_iconst dX1_writingSide_4 ?_
  refine mw_iremN dX1_writingSide_5 (by omega) (by omega) ?_
  refine mw_iret dX1_writingSide_6 rfl ?_
  exact ⟨rfl, rfl⟩
set_option maxHeartbeats 4000000 in
set_option maxRecDepth 100000 in
theorem c_F_writer {G : mG} {μ : mMem} {b : Nat} (hb : BK b) {F : Int → Int} (hF : FUG μ b F) (hI : fInv F) (hd : F 0 ≤ 100000) : mM G yX1_writer cX1_writer 5 (some .int) 1 [.ref b] μ (pI (whose F) μ) := by
  obtain ⟨kb, kt0, ka0, kl0, kt1, ka1, kl1, kaa, kal⟩ := bk_at hb
  have hn := hI.2.1
  have ec := hF.1
  have ed := hF.2.1
  have h0 := hI.1
  have hm := many_bd F (F 0 % 2) (F 1).toNat
  refine mM.of (lv := [some (.ref b), none, none, none, none]) 4 (by decide +kernel) (Nat.le_of_ble_eq_true rfl) rfl ?_
  intro X
  have lp : ∀ (n_ : Nat) (i l : Int), (0 ≤ i) → (i ≤ F 1) → (9 ≤ i + n_) → (-100 ≤ l + i ∧ l ≤ 100) → (¬ many F (F 0 % 2) (F 1).toNat = 0) → (whL F (F 0 % 2) (F 1 - i).toNat i l = whose F) → mW X cX1_writer 5 (some .int) yX1_writer.cls 1 G (pI (whose F) μ) 29 [some (.ref b), some (.int (iV (F 0 % 2))), some (.int (iV (many F (F 0 % 2) (F 1).toNat))), some (.int (iV l)), some (.int (iV i))] [] μ := by
    intro n_
    induction n_ with
    | zero =>
      intro i l h1 h2 h3 h4 h5 h6
      omega
    | succ n_ ih =>
      intro i l h1 h2 h3 h4 h5 h6
      refine mw_iload dX1_writer_29 rfl ?_
      refine mw_aload_n dX1_writer_31 rfl ?_
      refine mw_getI 3 dX1_writer_32 gs_X1_28 (by first | rfl | assumption) rfl rfl ?_
      rw [ec]
      refine mw_icmp_ge (tgt := 68) dX1_writer_35 (by decide) (by omega) (by omega) (fun c_35 => ?_) (fun c_35 => ?_)
      · refine mw_iconst dX1_writer_68 ?_
        refine mw_iret dX1_writer_69 rfl ?_
        exact ⟨by rw [show (F 1 - i).toNat = 0 by omega] at h6; rw [← h6]; rfl, rfl⟩
      · have ea := hF.at hI (a := i) (by omega)
        have kat := bk_a hb (a := i) (by omega)
        rw [show (F 1 - i).toNat = (F 1 - (i + 1)).toNat + 1 by omega, whL] at h6
        refine mw_aload_n dX1_writer_38 rfl ?_
        refine mw_gr_1_2 dX1_writer_39 gs_X1_23 (by first | rfl | assumption) ?_
        refine mw_iload dX1_writer_42 rfl ?_
        refine mw_aa10 dX1_writer_44 (by first | rfl | assumption) (by first | rfl | assumption) (by omega) ?_
        refine mw_getI 1 dX1_writer_45 gs_X1_42 (by first | rfl | assumption) rfl rfl ?_
        rw [ea.2.1]
        refine mw_iload_n dX1_writer_48 rfl ?_
        refine mw_icmp_ne (tgt := 62) dX1_writer_49 (by decide) (by omega) (by omega) (fun c_49 => ?_) (fun c_49 => ?_)
        · rw [if_neg c_49] at h6
          refine mw_ii4 dX1_writer_62 (by decide) rfl ?_
          refine mw_goto (tgt := 29) dX1_writer_65 (by decide) ?_
          exact ih _ _ (by omega) (by omega) (by omega) (by omega) h5 h6
        · rw [if_pos c_49] at h6
          refine mw_iload_n dX1_writer_52 rfl ?_
          refine mw_if_ne (tgt := 59) dX1_writer_53 (by decide) (by omega) (fun c_53 => ?_) (fun c_53 => ?_)
          · rw [if_neg c_53] at h6
            refine mw_ii3 dX1_writer_59 (by decide) rfl ?_
            refine mw_ii4 dX1_writer_62 (by decide) rfl ?_
            refine mw_goto (tgt := 29) dX1_writer_65 (by decide) ?_
            exact ih _ _ (by omega) (by omega) (by omega) (by omega) h5 h6
          · refine mw_iload dX1_writer_56 rfl ?_
            refine mw_iret dX1_writer_58 rfl ?_
            exact ⟨by rw [if_pos c_53] at h6; rw [h6], rfl⟩
  refine mw_aload_n dX1_writer_0 rfl ?_
  refine mw_Vpi (ci := 1) dX1_writer_1 ml_X1_65 ok_X1_writingSide (by decide) kb (by decide) rfl rfl rfl (Nat.le_of_ble_eq_true rfl) (c_F_writingSide hb (by rw [ed]; omega)) ?_
  rw [ed]
  refine mw_is1 dX1_writer_4 (by decide) rfl ?_
  refine mw_aload_n dX1_writer_5 rfl ?_
  refine mw_iload_n dX1_writer_6 rfl ?_
  refine mw_Vpi (ci := 1) dX1_writer_7 ml_X1_69 ok_X1_attachesOf (by decide) kb (by decide) rfl rfl rfl (Nat.le_of_ble_eq_true rfl) (c_F_attachesOf hb hF hI (by omega)) ?_
  refine mw_is2 dX1_writer_10 (by decide) rfl ?_
  refine mw_iload_n dX1_writer_11 rfl ?_
  refine mw_if_ne (tgt := 17) dX1_writer_12 (by decide) (by omega) (fun c_12 => ?_) (fun c_12 => ?_)
  · refine mw_aload_n dX1_writer_17 rfl ?_
    refine mw_getI 4 dX1_writer_18 gs_X1_32 (by first | rfl | assumption) rfl rfl ?_
    rw [ed]
    refine mw_iconst dX1_writer_21 ?_
    refine mw_idivN dX1_writer_22 (by omega) (by omega) ?_
    refine mw_iload_n dX1_writer_23 rfl ?_
    refine mw_iremN dX1_writer_24 (by omega) (by omega) ?_
    refine mw_is3 dX1_writer_25 (by decide) rfl ?_
    refine mw_iconst dX1_writer_26 ?_
    refine mw_is4 dX1_writer_27 (by decide) rfl ?_
    have hm1 := Int.emod_nonneg (F 0 / 2) c_12
    have hm2 := Int.emod_lt_of_pos (F 0 / 2) (show 0 < many F (F 0 % 2) (F 1).toNat by omega)
    exact lp 9 _ _ (by omega) (by omega) (by omega) (by omega) c_12 (by unfold whose; rw [if_neg c_12, Int.sub_zero])
  · refine mw_iconst dX1_writer_15 ?_
    refine mw_iret dX1_writer_16 rfl ?_
    exact ⟨by unfold whose; rw [if_pos c_12], rfl⟩

theorem tc_0 (b : Nat) : tc b 0 = b + 1 := rfl
theorem tc_1 (b : Nat) : tc b 1 = b + 3 := rfl
theorem day_fugN {μ : mMem} {b : Nat} (hb : BK b) {F : Int → Int} (hF : FUG μ b F) (hI : fInv F) (hw : ¬ (0 ≤ whose F ∧ 0 < F (2 + (1 - F (28 + 5 * whose F + 1))))) : FUG (u1 μ b 4 (F 0 + 1)) b (dayF F) ∧ FR b μ (u1 μ b 4 (F 0 + 1)) := by
  obtain ⟨h1, h2, h3, h4⟩ := hF
  refine ⟨⟨by rw [u1_o (by omega), day_n (by omega) hw]; exact h1, by rw [u1_s, day_0], fun s q1 q2 => ?_, fun a q1 q2 f q3 q4 => ?_⟩, fun c hc => ?_, rfl⟩
  · have ht := tc_c ⟨q1, q2⟩ b
    rw [day_n (by omega) hw]
    refine ⟨by rw [u1_o (by omega)]; exact (h3 s q1 q2).1, fun i q3 q4 => ?_⟩
    rw [u1_o (by omega), day_n (by omega) hw]
    exact (h3 s q1 q2).2 i q3 q4
  · rw [day_n (by omega) hw] at q2
    rw [u1_o (by omega), day_n (by omega) hw]
    exact h4 a q1 q2 f q3 q4
  · funext j
    rw [u1_o (by omega)]
theorem day_fugW {μ : mMem} {b : Nat} (hb : BK b) {F : Int → Int} (hF : FUG μ b F) (hI : fInv F) {m : mMem} {a s : Int} (ea : a = whose F) (es : s = F (28 + 5 * a + 1)) (ha : 0 ≤ a ∧ a < F 1) (hs : 0 ≤ s ∧ s ≤ 1) (hl : 0 < F (2 + (1 - s))) (m1 : ∀ c : Nat, c ≠ tc b s → c ≠ tc b s + 1 → c ≠ b + 5 + 1 + a.toNat → m.1 c = μ.1 c) (m2 : m.2 = μ.2) (m3 : m.1 (tc b s) 1 = lng (F (28 + 5 * a + 0)) (F (2 + (1 - s)))) (m4 : ∀ i : Int, 0 ≤ i → i < lng (F (28 + 5 * a + 0)) (F (2 + (1 - s))) → m.1 (tc b s + 1) i = ansI (F (28 + 5 * a + 0)) (F (28 + 5 * a + 2)) (F (28 + 5 * a + 3)) (F (2 + (1 - s))) (tn F (1 - s)) i) (m5 : ∀ f : Int, f ≠ 4 → m.1 (b + 5 + 1 + a.toNat) f = μ.1 (b + 5 + 1 + a.toNat) f) (m6 : m.1 (b + 5 + 1 + a.toNat) 4 = min (F (28 + 5 * a + 4) + 1) 9999) : FUG (u1 m b 4 (F 0 + 1)) b (dayF F) ∧ FR b μ (u1 m b 4 (F 0 + 1)) := by
  have hn := hI.2.1
  have hlen := hI.2.2.1 (1 - s) (by omega) (by omega)
  have hL := lng_bd (kind := F (28 + 5 * a + 0)) hlen.1
  have hw : 0 ≤ whose F ∧ 0 < F (2 + (1 - F (28 + 5 * whose F + 1))) := by rw [← ea, ← es]; exact ⟨ha.1, hl⟩
  obtain ⟨h1, h2, h3, h4⟩ := hF
  have hts := tc_c hs b
  refine ⟨⟨?_, by rw [u1_s, day_0], fun s' q1 q2 => ?_, fun a' q1 q2 f q3 q4 => ?_⟩, fun c hc => ?_, m2⟩
  · rw [u1_o (by omega), day_w (by omega) hw, ← ea, m1 b (by omega) (by omega) (by omega), wr_o s es (by omega) (by omega) (by omega)]
    exact h1
  · have ht := tc_c ⟨q1, q2⟩ b
    have hl' := hI.2.2.1 s' q1 q2
    rw [day_w (by omega) hw, ← ea]
    by_cases hss : s' = s
    · subst hss
      rw [wr_len s' es hs (by omega)]
      refine ⟨by rw [u1_o (by omega)]; exact m3, fun i q3 q4 => ?_⟩
      rw [u1_o (by omega), m4 i q3 q4, day_w (by omega) hw, ← ea, wr_tone s' es ⟨q3, q4⟩]
    · rw [wr_o s es (by omega) (by omega) (by omega)]
      refine ⟨by rw [u1_o (by omega), m1 _ (by omega) (by omega) (by omega)]; exact (h3 s' q1 q2).1, fun i q3 q4 => ?_⟩
      rw [u1_o (by omega), m1 _ (by omega) (by omega) (by omega), day_w (by omega) hw, ← ea, wr_o s es (by omega) (by omega) (by omega)]
      exact (h3 s' q1 q2).2 i q3 q4
  · rw [day_w (by omega) hw, ← ea, wr_o s es (by omega) (by omega) (by omega)] at q2
    rw [u1_o (by omega), day_w (by omega) hw, ← ea]
    by_cases haa : a' = a
    · subst haa
      by_cases hf : f = 4
      · subst hf
        rw [m6, wr_wrote s es hs ha.1 (by omega)]
      · rw [m5 f hf, wr_o s es (by omega) (by omega) (by omega)]
        exact h4 a' q1 q2 f q3 q4
    · rw [m1 _ (by omega) (by omega) (by omega), wr_o s es (by omega) (by omega) (by omega)]
      exact h4 a' q1 q2 f q3 q4
  · funext j
    rw [u1_o (by omega), m1 c (by omega) (by omega) (by omega)]
set_option maxHeartbeats 4000000 in
set_option maxRecDepth 100000 in
theorem c_F_passDay {G : mG} {μ : mMem} {b : Nat} (hb : BK b) {F : Int → Int} (hF : FUG μ b F) (hI : fInv F) (hd : F 0 ≤ 50000) : mM G yX1_passDay cX1_passDay 4 none 3 [.ref b] μ (qV (fun m => FUG m b (dayF F) ∧ FR b μ m)) := by
  obtain ⟨kb, kt0, ka0, kl0, kt1, ka1, kl1, kaa, kal⟩ := bk_at hb
  have hn := hI.2.1
  have ec := hF.1
  have ed := hF.2.1
  have h0 := hI.1
  have hr := whose_r F hn.1
  refine mM.of (lv := [some (.ref b), none, none, none]) 3 (by decide +kernel) (Nat.le_of_ble_eq_true rfl) rfl ?_
  intro X
  refine mw_aload_n dX1_passDay_0 rfl ?_
  refine mw_Vpi (ci := 1) dX1_passDay_1 ml_X1_73 ok_X1_writer (by decide) kb (by decide) rfl rfl rfl (Nat.le_of_ble_eq_true rfl) (c_F_writer hb hF hI (by omega)) ?_
  refine mw_is1 dX1_passDay_4 (by decide) rfl ?_
  refine mw_aload_n dX1_passDay_5 rfl ?_
  refine mw_iload_n dX1_passDay_6 rfl ?_
  refine mw_Vpi (ci := 1) dX1_passDay_7 ml_X1_76 ok_X1_has (by decide) kb (by decide) rfl rfl rfl (Nat.le_of_ble_eq_true rfl) (c_F_has hb (by rw [ec]; exact hn) (by omega)) ?_
  refine mw_if_eq (tgt := 46) dX1_passDay_10 (by decide) (by have := hasI_c (μ.1 b 3) (whose F); omega) (fun c_10 => ?_) (fun c_10 => ?_)
  · refine mw_aload_n dX1_passDay_46 rfl ?_
    refine mw_dup dX1_passDay_47 rfl ?_
    refine mw_getI 4 dX1_passDay_48 gs_X1_32 (by first | rfl | assumption) rfl rfl ?_
    rw [ed]
    refine mw_iconst dX1_passDay_51 ?_
    refine mw_iadd dX1_passDay_52 ?_
    refine mw_putI 4 dX1_passDay_53 ps_X1_32 (by first | rfl | assumption) rfl rfl ?_
    refine mw_vret dX1_passDay_56 rfl ?_
    refine ⟨rfl, day_fugN hb hF hI (fun q => ?_)⟩
    have hx := hasI_0 c_10
    rw [ec] at hx
    omega
  · have ha := hasI_1 c_10
    rw [ec] at ha
    have ea := hF.at hI ha
    have kat := bk_a hb (a := whose F) (by omega)
    have th := bk_t hb (1 - F (28 + 5 * whose F + 1))
    have to := bk_t hb (F (28 + 5 * whose F + 1))
    have tnh := hF.tn hI (s := 1 - F (28 + 5 * whose F + 1)) (by omega)
    refine mw_aload_n dX1_passDay_13 rfl ?_
    refine mw_gr_1_2 dX1_passDay_14 gs_X1_23 (by first | rfl | assumption) ?_
    refine mw_iload_n dX1_passDay_17 rfl ?_
    refine mw_aa10 dX1_passDay_18 (by first | rfl | assumption) (by first | rfl | assumption) (by omega) ?_
    refine mw_as2 dX1_passDay_19 (by decide) rfl ?_
    refine mw_aload_n dX1_passDay_20 rfl ?_
    refine mw_aload_n dX1_passDay_21 rfl ?_
    refine mw_Vpr (ci := 1) dX1_passDay_22 ml_X1_80 ok_X1_heardBy (by decide) kb (by decide) rfl rfl rfl (Nat.le_of_ble_eq_true rfl) (c_F_heardBy hb kat (by rw [ea.2.1]; omega)) ?_
    rw [ea.2.1]
    refine mw_as3 dX1_passDay_25 (by decide) rfl ?_
    refine mw_aload_n dX1_passDay_26 rfl ?_
    refine mw_getI 1 dX1_passDay_27 gs_X1_84 th.1 rfl rfl ?_
    rw [tnh.1]
    refine mw_if_le (tgt := 46) dX1_passDay_30 (by decide) (by have := hI.2.2.1 (1 - F (28 + 5 * whose F + 1)) (by omega) (by omega); omega) (fun c_30 => ?_) (fun c_30 => ?_)
    · refine mw_aload_n dX1_passDay_46 rfl ?_
      refine mw_dup dX1_passDay_47 rfl ?_
      refine mw_getI 4 dX1_passDay_48 gs_X1_32 (by first | rfl | assumption) rfl rfl ?_
      rw [ed]
      refine mw_iconst dX1_passDay_51 ?_
      refine mw_iadd dX1_passDay_52 ?_
      refine mw_putI 4 dX1_passDay_53 ps_X1_32 (by first | rfl | assumption) rfl rfl ?_
      refine mw_vret dX1_passDay_56 rfl ?_
      exact ⟨rfl, day_fugN hb hF hI (by omega)⟩
    · refine mw_aload_n dX1_passDay_33 rfl ?_
      refine mw_aload_n dX1_passDay_34 rfl ?_
      refine mw_aload_n dX1_passDay_35 rfl ?_
      refine mw_aload_n dX1_passDay_36 rfl ?_
      refine mw_getI 1 dX1_passDay_37 gs_X1_42 kat rfl rfl ?_
      refine mw_Vpr (ci := 1) dX1_passDay_40 ml_X1_45 ok_X1_tuneOf (by decide) kb (by decide) rfl rfl rfl (Nat.le_of_ble_eq_true rfl) (c_F_tuneOf hb (by rw [ea.2.1]; omega)) ?_
      rw [ea.2.1]
      refine mw_Vv (ci := 0) dX1_passDay_43 ml_X1_87 ok_X0_writeTo (by decide) kat (by decide) rfl rfl rfl (Nat.le_of_ble_eq_true rfl) (c_A_write kat th.1 th.2.1 th.2.2 tnh.2.1 tnh.2.2.1 (by rw [ea.1]; exact ea.2.2.2.2.2.1) (by rw [ea.2.2.1]; omega) (by rw [ea.2.2.2.2.1]; omega) to.1 to.2.1 to.2.2 (by
          have q1 := tc_c (s := F (28 + 5 * whose F + 1)) (by omega) b
          have q2 := tc_c (s := 1 - F (28 + 5 * whose F + 1)) (by omega) b
          omega)) (fun m_43 h_43 => ?_)
      obtain ⟨m1, m2, m3, m4, m5, m6⟩ := h_43
      rw [ea.1, tnh.1] at m3 m4
      rw [ea.2.2.2.2.1] at m6
      rw [ea.2.2.1, ea.2.2.2.1] at m4
      refine mw_aload_n dX1_passDay_46 rfl ?_
      refine mw_dup dX1_passDay_47 rfl ?_
      refine mw_getI 4 dX1_passDay_48 gs_X1_32 (by first | rfl | assumption) rfl rfl ?_
      rw [m1 b (by have q1 := tc_c (s := F (28 + 5 * whose F + 1)) (by omega) b; omega) (by have q1 := tc_c (s := F (28 + 5 * whose F + 1)) (by omega) b; omega) (by omega), ed]
      refine mw_iconst dX1_passDay_51 ?_
      refine mw_iadd dX1_passDay_52 ?_
      refine mw_putI 4 dX1_passDay_53 ps_X1_32 (by first | rfl | assumption) rfl rfl ?_
      refine mw_vret dX1_passDay_56 rfl ?_
      refine ⟨rfl, day_fugW hb hF hI rfl rfl ha (by omega) c_30 m1 m2 m3 (fun i q1 q2 => ?_) m5 m6⟩
      rw [m4 i q1 q2]
      have hL := lng_bd (kind := F (28 + 5 * whose F + 0)) (show 0 ≤ F (2 + (1 - F (28 + 5 * whose F + 1))) by omega)
      exact ans_congr ⟨q1, by omega⟩ tnh.2.2.2
set_option maxHeartbeats 4000000 in
set_option maxRecDepth 100000 in
theorem c_F_passDays {G : mG} {μ : mMem} {b : Nat} (hb : BK b) {F : Int → Int} (hF : FUG μ b F) (hI : fInv F) {n : Int} (hN : 0 ≤ n ∧ n ≤ 1000) (hd : F 0 ≤ 40000) : mM G yX1_passDays cX1_passDays 3 none 4 [.ref b, .int (iV n)] μ (qV (fun m => FUG m b (daysF n.toNat F) ∧ FR b μ m)) := by
  obtain ⟨kb, kt0, ka0, kl0, kt1, ka1, kl1, kaa, kal⟩ := bk_at hb
  refine mM.of (lv := [some (.ref b), some (.int (iV n)), none]) 1 (by decide +kernel) (Nat.le_of_ble_eq_true rfl) rfl ?_
  intro X
  have lp : ∀ (n_ : Nat) (i : Int) (m : mMem), (0 ≤ i) → (i ≤ n) → (1001 ≤ i + n_) → (FUG m b (daysF i.toNat F)) → (FR b μ m) → mW X cX1_passDays 3 none yX1_passDays.cls 4 G (qV (fun m => FUG m b (daysF n.toNat F) ∧ FR b μ m)) 2 [some (.ref b), some (.int (iV n)), some (.int (iV i))] [] m := by
    intro n_
    induction n_ with
    | zero =>
      intro i m h1 h2 h3 h4 h5
      omega
    | succ n_ ih =>
      intro i m h1 h2 h3 h4 h5
      refine mw_iload_n dX1_passDays_2 rfl ?_
      refine mw_iload_n dX1_passDays_3 rfl ?_
      refine mw_icmp_ge (tgt := 17) dX1_passDays_4 (by decide) (by omega) (by omega) (fun c_4 => ?_) (fun c_4 => ?_)
      · refine mw_vret dX1_passDays_17 rfl ?_
        exact ⟨rfl, by rw [show n.toNat = i.toNat by omega]; exact h4, h5⟩
      · refine mw_aload_n dX1_passDays_7 rfl ?_
        refine mw_Vv (ci := 1) dX1_passDays_8 ml_X1_91 ok_X1_passDay (by decide) kb (by decide) rfl rfl rfl (Nat.le_of_ble_eq_true rfl) (c_F_passDay hb h4 (days_inv hI _) (by rw [days_day]; omega)) (fun m_8 h_8 => ?_)
        refine mw_ii2 dX1_passDays_11 (by decide) rfl ?_
        refine mw_goto (tgt := 2) dX1_passDays_14 (by decide) ?_
        exact ih _ _ (by omega) (by omega) (by omega) (by rw [show (i + 1).toNat = i.toNat + 1 by omega, days_succ]; exact h_8.1) (h5.tr h_8.2)
  refine mw_iconst dX1_passDays_0 ?_
  refine mw_is2 dX1_passDays_1 (by decide) rfl ?_
  exact lp 1001 _ _ (by omega) (by omega) (by omega) hF FR.rf
/-- the first of so many days on which something holds; behind them all if on none -/
def fst (p : (Int → Int) → Int) : Nat → Int → (Int → Int) → Int
  | 0, n, _ => n
  | k + 1, n, F => if p F = 0 then fst p k (n + 1) (dayF F) else n
theorem fst_bd (p : (Int → Int) → Int) : ∀ (k : Nat) (n : Int) (F : Int → Int), n ≤ fst p k n F ∧ fst p k n F ≤ n + k
  | 0, n, F => by rw [fst]; omega
  | k + 1, n, F => by
    rw [fst]
    split
    · have := fst_bd p k (n + 1) (dayF F)
      omega
    · omega
def homeP (s : Int) (F : Int → Int) : Int := homeI (F (2 + s)) (tn F s)
def unP (F : Int → Int) : Int := unlk (tn F 0) (tn F 1) (F (2 + 0)) (F (2 + 1)) (max (F (2 + 0)) (F (2 + 1))).toNat
def alikeP (F : Int → Int) : Int := if 0 < F (2 + 0) ∧ unP F = 0 then 1 else 0
theorem home_eq {μ : mMem} {b : Nat} {F : Int → Int} (hF : FUG μ b F) (hI : fInv F) {s : Int} (hs : 0 ≤ s ∧ s ≤ 1) : homeI (μ.1 (tc b s) 1) (μ.1 (tc b s + 1)) = homeP s F := by
  have h := hF.tn hI hs
  unfold homeP homeI
  rw [h.1]
  by_cases h0 : 0 < F (2 + s)
  · rw [h.2.2.2 (F (2 + s) - 1) (by omega) (by omega)]
  · rw [if_neg (fun q => h0 q.1), if_neg (fun q => h0 q.1)]
theorem un_eq {μ : mMem} {b : Nat} {F : Int → Int} (hF : FUG μ b F) (hI : fInv F) : unlk (μ.1 (b + 1 + 1)) (μ.1 (b + 3 + 1)) (μ.1 (b + 1) 1) (μ.1 (b + 3) 1) (max (μ.1 (b + 1) 1) (μ.1 (b + 3) 1)).toNat = unP F := by
  have h0 := hF.tn hI (s := 0) (by omega)
  have h1 := hF.tn hI (s := 1) (by omega)
  rw [tc_0] at h0
  rw [tc_1] at h1
  unfold unP
  rw [h0.1, h1.1]
  exact unlk_congr _ (fun i q1 q2 q3 q4 => ⟨h0.2.2.2 i q1 q3, h1.2.2.2 i q1 q4⟩)
theorem un_bd (F : Int → Int) (h : fInv F) : 0 ≤ unP F ∧ unP F ≤ 12 := by
  have h0 := h.2.2.1 0 (by omega) (by omega)
  have h1 := h.2.2.1 1 (by omega) (by omega)
  have := unlk_bd (tn F 0) (tn F 1) (F (2 + 0)) (F (2 + 1)) (max (F (2 + 0)) (F (2 + 1))).toNat
  unfold unP
  omega
theorem alike_c (F : Int → Int) : alikeP F = 0 ∨ alikeP F = 1 := by unfold alikeP; split <;> simp
theorem home_c (s : Int) (F : Int → Int) : homeP s F = 0 ∨ homeP s F = 1 := homeI_c _ _
set_option maxHeartbeats 4000000 in
set_option maxRecDepth 100000 in
theorem c_F_isAlike {G : mG} {μ : mMem} {b : Nat} (hb : BK b) {F : Int → Int} (hF : FUG μ b F) (hI : fInv F) : mM G yX1_isAlike cX1_isAlike 1 (some .boolean) 3 [.ref b] μ (pI (alikeP F) μ) := by
  obtain ⟨kb, kt0, ka0, kl0, kt1, ka1, kl1, kaa, kal⟩ := bk_at hb
  have t0 := hF.tn hI (s := 0) (by omega)
  have t1 := hF.tn hI (s := 1) (by omega)
  rw [tc_0] at t0
  rw [tc_1] at t1
  have eh0 := home_eq hF hI (s := 0) (by omega)
  have eh1 := home_eq hF hI (s := 1) (by omega)
  rw [tc_0] at eh0
  rw [tc_1] at eh1
  have hu := un_bd F hI
  refine mM.of (lv := [some (.ref b)]) 0 (by decide +kernel) (Nat.le_of_ble_eq_true rfl) rfl ?_
  intro X
  refine mw_aload_n dX1_isAlike_0 rfl ?_
  refine mw_gr_1_0 dX1_isAlike_1 gs_X1_12 (by first | rfl | assumption) ?_
  refine mw_getI 1 dX1_isAlike_4 gs_X1_84 (by first | rfl | assumption) rfl rfl ?_
  rw [t0.1]
  refine mw_if_le (tgt := 28) dX1_isAlike_7 (by decide) (by have := t0.2.1; have := t0.1; omega) (fun c_7 => ?_) (fun c_7 => ?_)
  · refine mw_iconst dX1_isAlike_28 ?_
    refine mw_zret dX1_isAlike_29 rfl (by decide +kernel) ?_
    exact ⟨by unfold alikeP; rw [if_neg (fun q => by omega)], rfl⟩
  · refine mw_aload_n dX1_isAlike_10 rfl ?_
    refine mw_gr_1_0 dX1_isAlike_11 gs_X1_12 (by first | rfl | assumption) ?_
    refine mw_aload_n dX1_isAlike_14 rfl ?_
    refine mw_gr_1_1 dX1_isAlike_15 gs_X1_18 (by first | rfl | assumption) ?_
    refine mw_Vpi (ci := 5) dX1_isAlike_18 ml_X1_100 ok_X5_isSameAs (by decide) (by first | rfl | assumption) (by decide) rfl rfl rfl (Nat.le_of_ble_eq_true rfl) (c_T_same kt0 ka0 kl0 t0.2.1 t0.2.2.1 kt1 ka1 kl1 t1.2.1 t1.2.2.1) ?_
    rw [un_eq hF hI]
    refine mw_if_eq (tgt := 28) dX1_isAlike_21 (by decide) (by unfold sameI; split <;> omega) (fun c_21 => ?_) (fun c_21 => ?_)
    · refine mw_iconst dX1_isAlike_28 ?_
      refine mw_zret dX1_isAlike_29 rfl (by decide +kernel) ?_
      exact ⟨by unfold alikeP; rw [if_neg (fun q => by unfold sameI at c_21; rw [if_pos q.2] at c_21; cases c_21)], rfl⟩
    · refine mw_iconst dX1_isAlike_24 ?_
      refine mw_goto (tgt := 29) dX1_isAlike_25 (by decide) ?_
      refine mw_zret dX1_isAlike_29 rfl (by decide +kernel) ?_
      exact ⟨by unfold alikeP; rw [if_pos ⟨c_7, Classical.byContradiction (fun q => c_21 (by unfold sameI; rw [if_neg q]))⟩], rfl⟩
theorem or_tab : bOr 0 0 = 0 ∧ bOr 0 2 = 2 ∧ bOr 1 0 = 1 ∧ bOr 1 2 = 3 := by decide +kernel
set_option maxHeartbeats 4000000 in
set_option maxRecDepth 100000 in
theorem c_F_homeSides {G : mG} {μ : mMem} {b : Nat} (hb : BK b) {F : Int → Int} (hF : FUG μ b F) (hI : fInv F) : mM G yX1_homeSides cX1_homeSides 1 (some .int) 1 [.ref b] μ (pI (homeP 0 F + 2 * homeP 1 F) μ) := by
  obtain ⟨kb, kt0, ka0, kl0, kt1, ka1, kl1, kaa, kal⟩ := bk_at hb
  have t0 := hF.tn hI (s := 0) (by omega)
  have t1 := hF.tn hI (s := 1) (by omega)
  rw [tc_0] at t0
  rw [tc_1] at t1
  have eh0 := home_eq hF hI (s := 0) (by omega)
  have eh1 := home_eq hF hI (s := 1) (by omega)
  rw [tc_0] at eh0
  rw [tc_1] at eh1
  have hc0 := home_c 0 F
  have hc1 := home_c 1 F
  refine mM.of (lv := [some (.ref b)]) 0 (by decide +kernel) (Nat.le_of_ble_eq_true rfl) rfl ?_
  intro X
  refine mw_aload_n dX1_homeSides_0 rfl ?_
  refine mw_gr_1_0 dX1_homeSides_1 gs_X1_12 (by first | rfl | assumption) ?_
  refine mw_Vpi (ci := 5) dX1_homeSides_4 ml_X1_94 ok_X5_isHome (by decide) (by first | rfl | assumption) (by decide) rfl rfl rfl (Nat.le_of_ble_eq_true rfl) (c_T_isHome kt0 ka0 kl0 t0.2.1 (fun q => t0.2.2.1 _ (by omega) (by omega))) ?_
  rw [eh0]
  refine mw_if_eq (tgt := 14) dX1_homeSides_7 (by decide) (by omega) (fun c_7 => ?_) (fun c_7 => ?_)
  · refine mw_iconst dX1_homeSides_14 ?_
    refine mw_aload_n dX1_homeSides_15 rfl ?_
    refine mw_gr_1_1 dX1_homeSides_16 gs_X1_18 (by first | rfl | assumption) ?_
    refine mw_Vpi (ci := 5) dX1_homeSides_19 ml_X1_94 ok_X5_isHome (by decide) (by first | rfl | assumption) (by decide) rfl rfl rfl (Nat.le_of_ble_eq_true rfl) (c_T_isHome kt1 ka1 kl1 t1.2.1 (fun q => t1.2.2.1 _ (by omega) (by omega))) ?_
    rw [eh1]
    refine mw_if_eq (tgt := 29) dX1_homeSides_22 (by decide) (by omega) (fun c_22 => ?_) (fun c_22 => ?_)
    · refine mw_iconst dX1_homeSides_29 ?_
      refine mw_ior dX1_homeSides_30 ?_
      refine mw_iret dX1_homeSides_31 rfl ?_
      exact ⟨by congr 2; rcases hc0 with q0 | q0 <;> rcases hc1 with q1 | q1 <;> rw [q0, q1] <;> first | (exfalso; omega) | decide +kernel, rfl⟩
    · refine mw_iconst dX1_homeSides_25 ?_
      refine mw_goto (tgt := 30) dX1_homeSides_26 (by decide) ?_
      refine mw_ior dX1_homeSides_30 ?_
      refine mw_iret dX1_homeSides_31 rfl ?_
      exact ⟨by congr 2; rcases hc0 with q0 | q0 <;> rcases hc1 with q1 | q1 <;> rw [q0, q1] <;> first | (exfalso; omega) | decide +kernel, rfl⟩
  · refine mw_iconst dX1_homeSides_10 ?_
    refine mw_goto (tgt := 15) dX1_homeSides_11 (by decide) ?_
    refine mw_aload_n dX1_homeSides_15 rfl ?_
    refine mw_gr_1_1 dX1_homeSides_16 gs_X1_18 (by first | rfl | assumption) ?_
    refine mw_Vpi (ci := 5) dX1_homeSides_19 ml_X1_94 ok_X5_isHome (by decide) (by first | rfl | assumption) (by decide) rfl rfl rfl (Nat.le_of_ble_eq_true rfl) (c_T_isHome kt1 ka1 kl1 t1.2.1 (fun q => t1.2.2.1 _ (by omega) (by omega))) ?_
    rw [eh1]
    refine mw_if_eq (tgt := 29) dX1_homeSides_22 (by decide) (by omega) (fun c_22 => ?_) (fun c_22 => ?_)
    · refine mw_iconst dX1_homeSides_29 ?_
      refine mw_ior dX1_homeSides_30 ?_
      refine mw_iret dX1_homeSides_31 rfl ?_
      exact ⟨by congr 2; rcases hc0 with q0 | q0 <;> rcases hc1 with q1 | q1 <;> rw [q0, q1] <;> first | (exfalso; omega) | decide +kernel, rfl⟩
    · refine mw_iconst dX1_homeSides_25 ?_
      refine mw_goto (tgt := 30) dX1_homeSides_26 (by decide) ?_
      refine mw_ior dX1_homeSides_30 ?_
      refine mw_iret dX1_homeSides_31 rfl ?_
      exact ⟨by congr 2; rcases hc0 with q0 | q0 <;> rcases hc1 with q1 | q1 <;> rw [q0, q1] <;> first | (exfalso; omega) | decide +kernel, rfl⟩
set_option maxHeartbeats 4000000 in
set_option maxRecDepth 100000 in
theorem c_F_untilHome {G : mG} {μ : mMem} {b : Nat} (hb : BK b) {F : Int → Int} (hF : FUG μ b F) (hI : fInv F) {s L : Int} (hs : 0 ≤ s ∧ s ≤ 1) (hL : -1 ≤ L ∧ L ≤ 1000) (hd : F 0 ≤ 40000) : mM G yX1_passDaysUntilHome cX1_passDaysUntilHome 5 (some .int) 4 [.ref b, .int (iV s), .int (iV L)] μ (qI (fun z m => z = fst (homeP s) (L + 1).toNat 0 F ∧ FR b μ m)) := by
  obtain ⟨kb, kt0, ka0, kl0, kt1, ka1, kl1, kaa, kal⟩ := bk_at hb
  have th := bk_t hb s
  refine mM.of (lv := [some (.ref b), some (.int (iV s)), some (.int (iV L)), none, none]) 2 (by decide +kernel) (Nat.le_of_ble_eq_true rfl) rfl ?_
  intro X
  have lp : ∀ (n_ : Nat) (i : Int) (m : mMem), (0 ≤ i) → (i ≤ L + 1) → (1002 ≤ i + n_) → (FUG m b (daysF i.toNat F)) → (FR b μ m) → (fst (homeP s) (L + 1 - i).toNat i (daysF i.toNat F) = fst (homeP s) (L + 1).toNat 0 F) → mW X cX1_passDaysUntilHome 5 (some .int) yX1_passDaysUntilHome.cls 4 G (qI (fun z m => z = fst (homeP s) (L + 1).toNat 0 F ∧ FR b μ m)) 9 [some (.ref b), some (.int (iV s)), some (.int (iV L)), some (.ref (tc b s)), some (.int (iV i))] [] m := by
    intro n_
    induction n_ with
    | zero =>
      intro i m h1 h2 h3 h4 h5 h6
      omega
    | succ n_ ih =>
      intro i m h1 h2 h3 h4 h5 h6
      refine mw_iload dX1_passDaysUntilHome_9 rfl ?_
      refine mw_iload_n dX1_passDaysUntilHome_11 rfl ?_
      refine mw_icmp_gt (tgt := 35) dX1_passDaysUntilHome_12 (by decide) (by omega) (by omega) (fun c_12 => ?_) (fun c_12 => ?_)
      · refine mw_iload_n dX1_passDaysUntilHome_35 rfl ?_
        refine mw_iconst dX1_passDaysUntilHome_36 ?_
        refine mw_iadd dX1_passDaysUntilHome_37 ?_
        refine mw_iret dX1_passDaysUntilHome_38 rfl ?_
        exact ⟨_, rfl, by rw [show (L + 1 - i).toNat = 0 by omega, fst] at h6; omega, h5⟩
      · have tnh := h4.tn (days_inv hI _) hs
        have hc := home_c s (daysF i.toNat F)
        rw [show (L + 1 - i).toNat = (L + 1 - (i + 1)).toNat + 1 by omega, fst] at h6
        refine mw_aload_n dX1_passDaysUntilHome_15 rfl ?_
        refine mw_Vpi (ci := 5) dX1_passDaysUntilHome_16 ml_X1_94 ok_X5_isHome (by decide) th.1 (by decide) rfl rfl rfl (Nat.le_of_ble_eq_true rfl) (c_T_isHome th.1 th.2.1 th.2.2 tnh.2.1 (fun q => tnh.2.2.1 _ (by omega) (by omega))) ?_
        rw [home_eq h4 (days_inv hI _) hs]
        refine mw_if_eq (tgt := 25) dX1_passDaysUntilHome_19 (by decide) (by omega) (fun c_19 => ?_) (fun c_19 => ?_)
        · rw [if_pos c_19] at h6
          refine mw_aload_n dX1_passDaysUntilHome_25 rfl ?_
          refine mw_Vv (ci := 1) dX1_passDaysUntilHome_26 ml_X1_91 ok_X1_passDay (by decide) kb (by decide) rfl rfl rfl (Nat.le_of_ble_eq_true rfl) (c_F_passDay hb h4 (days_inv hI _) (by rw [days_day]; omega)) (fun m_26 h_26 => ?_)
          refine mw_ii4 dX1_passDaysUntilHome_29 (by decide) rfl ?_
          refine mw_goto (tgt := 9) dX1_passDaysUntilHome_32 (by decide) ?_
          exact ih _ _ (by omega) (by omega) (by omega) (by rw [show (i + 1).toNat = i.toNat + 1 by omega, days_succ]; exact h_26.1) (h5.tr h_26.2) (by rw [show (i + 1).toNat = i.toNat + 1 by omega, days_succ]; exact h6)
        · rw [if_neg c_19] at h6
          refine mw_iload dX1_passDaysUntilHome_22 rfl ?_
          refine mw_iret dX1_passDaysUntilHome_24 rfl ?_
          exact ⟨i, rfl, h6, h5⟩
  refine mw_aload_n dX1_passDaysUntilHome_0 rfl ?_
  refine mw_iload_n dX1_passDaysUntilHome_1 rfl ?_
  refine mw_Vpr (ci := 1) dX1_passDaysUntilHome_2 ml_X1_45 ok_X1_tuneOf (by decide) kb (by decide) rfl rfl rfl (Nat.le_of_ble_eq_true rfl) (c_F_tuneOf hb hs) ?_
  refine mw_as3 dX1_passDaysUntilHome_5 (by decide) rfl ?_
  refine mw_iconst dX1_passDaysUntilHome_6 ?_
  refine mw_is4 dX1_passDaysUntilHome_7 (by decide) rfl ?_
  exact lp 1002 _ _ (by omega) (by omega) (by omega) hF FR.rf (by rw [Int.sub_zero]; rfl)
set_option maxHeartbeats 4000000 in
set_option maxRecDepth 100000 in
theorem c_F_untilAlike {G : mG} {μ : mMem} {b : Nat} (hb : BK b) {F : Int → Int} (hF : FUG μ b F) (hI : fInv F) {L : Int} (hL : -1 ≤ L ∧ L ≤ 1000) (hd : F 0 ≤ 40000) : mM G yX1_passDaysUntilAlike cX1_passDaysUntilAlike 3 (some .int) 4 [.ref b, .int (iV L)] μ (qI (fun z m => z = fst alikeP (L + 1).toNat 0 F ∧ FR b μ m)) := by
  obtain ⟨kb, kt0, ka0, kl0, kt1, ka1, kl1, kaa, kal⟩ := bk_at hb
  refine mM.of (lv := [some (.ref b), some (.int (iV L)), none]) 1 (by decide +kernel) (Nat.le_of_ble_eq_true rfl) rfl ?_
  intro X
  have lp : ∀ (n_ : Nat) (i : Int) (m : mMem), (0 ≤ i) → (i ≤ L + 1) → (1002 ≤ i + n_) → (FUG m b (daysF i.toNat F)) → (FR b μ m) → (fst alikeP (L + 1 - i).toNat i (daysF i.toNat F) = fst alikeP (L + 1).toNat 0 F) → mW X cX1_passDaysUntilAlike 3 (some .int) yX1_passDaysUntilAlike.cls 4 G (qI (fun z m => z = fst alikeP (L + 1).toNat 0 F ∧ FR b μ m)) 2 [some (.ref b), some (.int (iV L)), some (.int (iV i))] [] m := by
    intro n_
    induction n_ with
    | zero =>
      intro i m h1 h2 h3 h4 h5 h6
      omega
    | succ n_ ih =>
      intro i m h1 h2 h3 h4 h5 h6
      refine mw_iload_n dX1_passDaysUntilAlike_2 rfl ?_
      refine mw_iload_n dX1_passDaysUntilAlike_3 rfl ?_
      refine mw_icmp_gt (tgt := 26) dX1_passDaysUntilAlike_4 (by decide) (by omega) (by omega) (fun c_4 => ?_) (fun c_4 => ?_)
      · refine mw_iload_n dX1_passDaysUntilAlike_26 rfl ?_
        refine mw_iconst dX1_passDaysUntilAlike_27 ?_
        refine mw_iadd dX1_passDaysUntilAlike_28 ?_
        refine mw_iret dX1_passDaysUntilAlike_29 rfl ?_
        exact ⟨_, rfl, by rw [show (L + 1 - i).toNat = 0 by omega, fst] at h6; omega, h5⟩
      · have hc := alike_c (daysF i.toNat F)
        rw [show (L + 1 - i).toNat = (L + 1 - (i + 1)).toNat + 1 by omega, fst] at h6
        refine mw_aload_n dX1_passDaysUntilAlike_7 rfl ?_
        refine mw_Vpi (ci := 1) dX1_passDaysUntilAlike_8 ml_X1_97 ok_X1_isAlike (by decide) kb (by decide) rfl rfl rfl (Nat.le_of_ble_eq_true rfl) (c_F_isAlike hb h4 (days_inv hI _)) ?_
        refine mw_if_eq (tgt := 16) dX1_passDaysUntilAlike_11 (by decide) (by omega) (fun c_11 => ?_) (fun c_11 => ?_)
        · rw [if_pos c_11] at h6
          refine mw_aload_n dX1_passDaysUntilAlike_16 rfl ?_
          refine mw_Vv (ci := 1) dX1_passDaysUntilAlike_17 ml_X1_91 ok_X1_passDay (by decide) kb (by decide) rfl rfl rfl (Nat.le_of_ble_eq_true rfl) (c_F_passDay hb h4 (days_inv hI _) (by rw [days_day]; omega)) (fun m_17 h_17 => ?_)
          refine mw_ii2 dX1_passDaysUntilAlike_20 (by decide) rfl ?_
          refine mw_goto (tgt := 2) dX1_passDaysUntilAlike_23 (by decide) ?_
          exact ih _ _ (by omega) (by omega) (by omega) (by rw [show (i + 1).toNat = i.toNat + 1 by omega, days_succ]; exact h_17.1) (h5.tr h_17.2) (by rw [show (i + 1).toNat = i.toNat + 1 by omega, days_succ]; exact h6)
        · rw [if_neg c_11] at h6
          refine mw_iload_n dX1_passDaysUntilAlike_14 rfl ?_
          refine mw_iret dX1_passDaysUntilAlike_15 rfl ?_
          exact ⟨i, rfl, h6, h5⟩
  refine mw_iconst dX1_passDaysUntilAlike_0 ?_
  refine mw_is2 dX1_passDaysUntilAlike_1 (by decide) rfl ?_
  exact lp 1002 _ _ (by omega) (by omega) (by omega) hF FR.rf (by rw [Int.sub_zero]; rfl)
def sumW (F : Int → Int) : Nat → Int
  | 0 => 0
  | n + 1 => sumW F n + F (28 + 5 * (n : Int) + 4)
def sumB (F : Int → Int) : Nat → Int
  | 0 => 0
  | n + 1 => sumB F n + pop (F (28 + 5 * (n : Int) + 3))
set_option maxHeartbeats 4000000 in
set_option maxRecDepth 100000 in
theorem c_F_wrote {G : mG} {μ : mMem} {b : Nat} (hb : BK b) {F : Int → Int} (hF : FUG μ b F) (hI : fInv F) : mM G yX1_wroteTogether cX1_wroteTogether 3 (some .int) 0 [.ref b] μ (pI (sumW F (F 1).toNat) μ) := by
  obtain ⟨kb, kt0, ka0, kl0, kt1, ka1, kl1, kaa, kal⟩ := bk_at hb
  have hn := hI.2.1
  have ec := hF.1
  have ed := hF.2.1
  have h0 := hI.1
  refine mM.of (lv := [some (.ref b), none, none]) 2 (by decide +kernel) (Nat.le_of_ble_eq_true rfl) rfl ?_
  intro X
  have lp : ∀ (n_ : Nat) (i v : Int), (0 ≤ i) → (i ≤ F 1) → (9 ≤ i + n_) → (v = sumW F i.toNat) → mW X cX1_wroteTogether 3 (some .int) yX1_wroteTogether.cls 0 G (pI (sumW F (F 1).toNat) μ) 4 [some (.ref b), some (.int (iV v)), some (.int (iV i))] [] μ := by
    intro n_
    induction n_ with
    | zero =>
      intro i v h1 h2 h3 h5
      omega
    | succ n_ ih =>
      intro i v h1 h2 h3 h5
      refine mw_iload_n dX1_wroteTogether_4 rfl ?_
      refine mw_aload_n dX1_wroteTogether_5 rfl ?_
      refine mw_getI 3 dX1_wroteTogether_6 gs_X1_28 (by first | rfl | assumption) rfl rfl ?_
      rw [ec]
      refine mw_icmp_ge (tgt := 30) dX1_wroteTogether_9 (by decide) (by omega) (by omega) (fun c_9 => ?_) (fun c_9 => ?_)
      · refine mw_iload_n dX1_wroteTogether_30 rfl ?_
        refine mw_iret dX1_wroteTogether_31 rfl ?_
        exact ⟨by rw [h5, show (F 1).toNat = i.toNat by omega], rfl⟩
      · have ea := hF.at hI (a := i) (by omega)
        have kat := bk_a hb (a := i) (by omega)
        refine mw_iload_n dX1_wroteTogether_12 rfl ?_
        refine mw_aload_n dX1_wroteTogether_13 rfl ?_
        refine mw_gr_1_2 dX1_wroteTogether_14 gs_X1_23 (by first | rfl | assumption) ?_
        refine mw_iload_n dX1_wroteTogether_17 rfl ?_
        refine mw_aa10 dX1_wroteTogether_18 (by first | rfl | assumption) (by first | rfl | assumption) (by omega) ?_
        refine mw_getI 4 dX1_wroteTogether_19 gs_X1_62 (by first | rfl | assumption) rfl rfl ?_
        rw [ea.2.2.2.2.1]
        refine mw_iadd dX1_wroteTogether_22 ?_
        refine mw_is1 dX1_wroteTogether_23 (by decide) rfl ?_
        refine mw_ii2 dX1_wroteTogether_24 (by decide) rfl ?_
        refine mw_goto (tgt := 4) dX1_wroteTogether_27 (by decide) ?_
        exact ih _ _ (by omega) (by omega) (by omega) (by rw [show (i + 1).toNat = i.toNat + 1 by omega, sumW, h5, show ((i.toNat : Nat) : Int) = i by omega])
  refine mw_iconst dX1_wroteTogether_0 ?_
  refine mw_is1 dX1_wroteTogether_1 (by decide) rfl ?_
  refine mw_iconst dX1_wroteTogether_2 ?_
  refine mw_is2 dX1_wroteTogether_3 (by decide) rfl ?_
  exact lp 9 _ _ (by omega) (by omega) (by omega) rfl
set_option maxHeartbeats 4000000 in
set_option maxRecDepth 100000 in
theorem c_F_blots {G : mG} {μ : mMem} {b : Nat} (hb : BK b) {F : Int → Int} (hF : FUG μ b F) (hI : fInv F) : mM G yX1_blotsTogether cX1_blotsTogether 3 (some .int) 1 [.ref b] μ (pI (sumB F (F 1).toNat) μ) := by
  obtain ⟨kb, kt0, ka0, kl0, kt1, ka1, kl1, kaa, kal⟩ := bk_at hb
  have hn := hI.2.1
  have ec := hF.1
  have ed := hF.2.1
  have h0 := hI.1
  refine mM.of (lv := [some (.ref b), none, none]) 2 (by decide +kernel) (Nat.le_of_ble_eq_true rfl) rfl ?_
  intro X
  have lp : ∀ (n_ : Nat) (i v : Int), (0 ≤ i) → (i ≤ F 1) → (9 ≤ i + n_) → (v = sumB F i.toNat) → mW X cX1_blotsTogether 3 (some .int) yX1_blotsTogether.cls 1 G (pI (sumB F (F 1).toNat) μ) 4 [some (.ref b), some (.int (iV v)), some (.int (iV i))] [] μ := by
    intro n_
    induction n_ with
    | zero =>
      intro i v h1 h2 h3 h5
      omega
    | succ n_ ih =>
      intro i v h1 h2 h3 h5
      refine mw_iload_n dX1_blotsTogether_4 rfl ?_
      refine mw_aload_n dX1_blotsTogether_5 rfl ?_
      refine mw_getI 3 dX1_blotsTogether_6 gs_X1_28 (by first | rfl | assumption) rfl rfl ?_
      rw [ec]
      refine mw_icmp_ge (tgt := 33) dX1_blotsTogether_9 (by decide) (by omega) (by omega) (fun c_9 => ?_) (fun c_9 => ?_)
      · refine mw_iload_n dX1_blotsTogether_33 rfl ?_
        refine mw_iret dX1_blotsTogether_34 rfl ?_
        exact ⟨by rw [h5, show (F 1).toNat = i.toNat by omega], rfl⟩
      · have ea := hF.at hI (a := i) (by omega)
        have kat := bk_a hb (a := i) (by omega)
        refine mw_iload_n dX1_blotsTogether_12 rfl ?_
        refine mw_aload_n dX1_blotsTogether_13 rfl ?_
        refine mw_gr_1_2 dX1_blotsTogether_14 gs_X1_23 (by first | rfl | assumption) ?_
        refine mw_iload_n dX1_blotsTogether_17 rfl ?_
        refine mw_aa10 dX1_blotsTogether_18 (by first | rfl | assumption) (by first | rfl | assumption) (by omega) ?_
        refine mw_getI 3 dX1_blotsTogether_19 gs_X1_59 (by first | rfl | assumption) rfl rfl ?_
        rw [ea.2.2.2.1]
        refine mw_Spi dX1_blotsTogether_22 ml_X1_104 ok_J6_bitCount_0f7a4 (by decide) rfl rfl (Nat.le_of_ble_eq_true rfl) (c_bitCount (by omega)) ?_
        refine mw_iadd dX1_blotsTogether_25 ?_
        refine mw_is1 dX1_blotsTogether_26 (by decide) rfl ?_
        refine mw_ii2 dX1_blotsTogether_27 (by decide) rfl ?_
        refine mw_goto (tgt := 4) dX1_blotsTogether_30 (by decide) ?_
        exact ih _ _ (by omega) (by omega) (by omega) (by rw [show (i + 1).toNat = i.toNat + 1 by omega, sumB, h5, show ((i.toNat : Nat) : Int) = i by omega])
  refine mw_iconst dX1_blotsTogether_0 ?_
  refine mw_is1 dX1_blotsTogether_1 (by decide) rfl ?_
  refine mw_iconst dX1_blotsTogether_2 ?_
  refine mw_is2 dX1_blotsTogether_3 (by decide) rfl ?_
  exact lp 9 _ _ (by omega) (by omega) (by omega) rfl

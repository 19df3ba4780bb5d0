set_option maxHeartbeats 4000000 in
set_option maxRecDepth 100000 in
theorem c_F_become {G : mG} {μ : mMem} {b b2 : Nat} (hb : BK b) (hb2 : BK b2) (hne : b2 ≠ b) {F : Int → Int} (hF : FUG μ b2 F) (hI : fInv F) : mM G yX1_become cX1_become 3 none 2 [.ref b, .ref b2] μ (qV (fun m => FUG m b F ∧ FR b μ m)) := by
  obtain ⟨kb, kt0, ka0, kl0, kt1, ka1, kl1, kaa, kal⟩ := bk_at hb
  obtain ⟨kb2, kt02, ka02, kl02, kt12, ka12, kl12, kaa2, kal2⟩ := bk_at hb2
  have hn := hI.2.1
  have ec := hF.1
  have ed := hF.2.1
  have hdis : b + 14 ≤ b2 ∨ b2 + 14 ≤ b := by
    unfold BK at hb hb2
    omega
  refine mM.of (lv := [some (.ref b), some (.ref b2), none]) 1 (by decide +kernel) (Nat.le_of_ble_eq_true rfl) rfl ?_
  intro X
  have lp : ∀ (n_ : Nat) (i : Int) (m : mMem), (0 ≤ i) → (i ≤ F 1) → (9 ≤ i + n_) → (FR b μ m) → (∀ s : Int, 0 ≤ s → s ≤ 1 → m.1 (tc b s) 1 = μ.1 (tc b2 s) 1 ∧ ∀ j : Int, 0 ≤ j → j < 12 → m.1 (tc b s + 1) j = μ.1 (tc b2 s + 1) j) → (∀ a : Int, 0 ≤ a → a < i → ∀ f : Int, 0 ≤ f → f < 5 → m.1 (b + 5 + 1 + a.toNat) f = μ.1 (b2 + 5 + 1 + a.toNat) f) → mW X cX1_become 3 none yX1_become.cls 2 G (qV (fun m => FUG m b F ∧ FR b μ m)) 24 [some (.ref b), some (.ref b2), some (.int (iV i))] [] m := by
    intro n_
    induction n_ with
    | zero =>
      intro i m h1 h2 h3 h4 h5 h6
      omega
    | succ n_ ih =>
      intro i m h1 h2 h3 h4 h5 h6
      refine mw_iload_n dX1_become_24 rfl ?_
      refine mw_aload_n dX1_become_25 rfl ?_
      refine mw_getI 3 dX1_become_26 gs_X1_28 (by first | rfl | assumption) rfl rfl ?_
      rw [h4.1 b2 (by omega), ec]
      refine mw_icmp_ge (tgt := 53) dX1_become_29 (by decide) (by omega) (by omega) (fun c_29 => ?_) (fun c_29 => ?_)
      · refine mw_aload_n dX1_become_53 rfl ?_
        refine mw_aload_n dX1_become_54 rfl ?_
        refine mw_getI 3 dX1_become_55 gs_X1_28 (by first | rfl | assumption) rfl rfl ?_
        rw [h4.1 b2 (by omega), ec]
        refine mw_putI 3 dX1_become_58 ps_X1_28 (by first | rfl | assumption) rfl rfl ?_
        refine mw_aload_n dX1_become_61 rfl ?_
        refine mw_aload_n dX1_become_62 rfl ?_
        refine mw_getI 4 dX1_become_63 gs_X1_32 (by first | rfl | assumption) rfl rfl ?_
        rw [u1_o (by omega), h4.1 b2 (by omega), ed]
        refine mw_putI 4 dX1_become_66 ps_X1_32 (by first | rfl | assumption) rfl rfl ?_
        refine mw_vret dX1_become_69 rfl ?_
        refine ⟨rfl, ⟨?_, by rw [u1_s], fun s q1 q2 => ?_, fun a q1 q2 f q3 q4 => ?_⟩, fun c hc => ?_, h4.2⟩
        · rw [u1_o (by omega), u1_s]
        · have ht := tc_c ⟨q1, q2⟩ b
          have hs := hI.2.2.1 s q1 q2
          refine ⟨by rw [u1_o (by omega), u1_o (by omega), (h5 s q1 q2).1]; exact (hF.2.2.1 s q1 q2).1, fun j q3 q4 => ?_⟩
          rw [u1_o (by omega), u1_o (by omega), (h5 s q1 q2).2 j q3 (by omega)]
          exact (hF.2.2.1 s q1 q2).2 j q3 q4
        · rw [u1_o (by omega), u1_o (by omega), h6 a q1 (by omega) f q3 q4]
          exact hF.2.2.2 a q1 q2 f q3 q4
        · funext j
          rw [u1_o (by omega), u1_o (by omega), h4.1 c hc]
      · have kat := bk_a hb (a := i) (by omega)
        have kat2 := bk_a hb2 (a := i) (by omega)
        refine mw_aload_n dX1_become_32 rfl ?_
        refine mw_gr_1_2 dX1_become_33 gs_X1_23 (by first | rfl | assumption) ?_
        refine mw_iload_n dX1_become_36 rfl ?_
        refine mw_aa10 dX1_become_37 (by first | rfl | assumption) (by first | rfl | assumption) (by omega) ?_
        refine mw_aload_n dX1_become_38 rfl ?_
        refine mw_gr_1_2 dX1_become_39 gs_X1_23 (by first | rfl | assumption) ?_
        refine mw_iload_n dX1_become_42 rfl ?_
        refine mw_aa10 dX1_become_43 (by first | rfl | assumption) (by first | rfl | assumption) (by omega) ?_
        refine mw_Vv (ci := 0) dX1_become_44 ml_X1_39 ok_X0_become (by decide) kat (by decide) rfl rfl rfl (Nat.le_of_ble_eq_true rfl) (c_A_become kat kat2 (by omega)) (fun m_44 h_44 => ?_)
        refine mw_ii2 dX1_become_47 (by decide) rfl ?_
        refine mw_goto (tgt := 24) dX1_become_50 (by decide) ?_
        obtain ⟨g1, g2, g3⟩ := h_44
        refine ih _ _ (by omega) (by omega) (by omega) ⟨fun c hc => ?_, g2.trans h4.2⟩ (fun s q1 q2 => ?_) (fun a q1 q2 f q3 q4 => ?_)
        · rw [g1 c (by omega)]
          exact h4.1 c hc
        · have ht := tc_c ⟨q1, q2⟩ b
          rw [g1 _ (by omega), g1 _ (by omega)]
          exact h5 s q1 q2
        · by_cases hai : a = i
          · subst hai
            rw [g3 f q3 q4, h4.1 _ (by omega)]
          · rw [g1 _ (by omega)]
            exact h6 a q1 (by omega) f q3 q4
  refine mw_aload_n dX1_become_0 rfl ?_
  refine mw_gr_1_0 dX1_become_1 gs_X1_12 (by first | rfl | assumption) ?_
  refine mw_aload_n dX1_become_4 rfl ?_
  refine mw_gr_1_0 dX1_become_5 gs_X1_12 (by first | rfl | assumption) ?_
  refine mw_Vv (ci := 5) dX1_become_8 ml_X1_35 ok_X5_become (by decide) (by first | rfl | assumption) (by decide) rfl rfl rfl (Nat.le_of_ble_eq_true rfl) (c_T_become kt0 ka0 kl0 kt02 ka02 kl02 (by omega)) (fun m_8 h_8 => ?_)
  refine mw_aload_n dX1_become_11 rfl ?_
  refine mw_gr_1_1 dX1_become_12 gs_X1_18 (by first | rfl | assumption) ?_
  refine mw_aload_n dX1_become_15 rfl ?_
  refine mw_gr_1_1 dX1_become_16 gs_X1_18 (by first | rfl | assumption) ?_
  refine mw_Vv (ci := 5) dX1_become_19 ml_X1_35 ok_X5_become (by decide) (by first | rfl | assumption) (by decide) rfl rfl rfl (Nat.le_of_ble_eq_true rfl) (c_T_become kt1 ka1 kl1 kt12 ka12 kl12 (by omega)) (fun m_19 h_19 => ?_)
  refine mw_iconst dX1_become_22 ?_
  refine mw_is2 dX1_become_23 (by decide) rfl ?_
  obtain ⟨g1, g2, g3, g4⟩ := h_8
  obtain ⟨k1, k2, k3, k4⟩ := h_19
  refine lp 9 _ _ (by omega) (by omega) (by omega) ⟨fun c hc => ?_, k2.trans g2⟩ (fun s q1 q2 => ?_) (fun a q1 q2 => by omega)
  · rw [k1 c (by omega) (by omega), g1 c (by omega) (by omega)]
  · rcases (show s = 0 ∨ s = 1 by omega) with rfl | rfl
    · rw [tc_0, tc_0, k1 (b + 1) (by omega) (by omega), k1 (b + 1 + 1) (by omega) (by omega)]
      exact ⟨g3, g4⟩
    · rw [tc_1, tc_1, k3]
      refine ⟨by rw [g1 (b2 + 3) (by omega) (by omega)], fun j q3 q4 => ?_⟩
      rw [k4 j q3 q4, g1 (b2 + 3 + 1) (by omega) (by omega)]

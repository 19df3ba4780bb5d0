def soP (s : Int) : (Int → Int) → Int := if s < 0 then alikeP else homeP s
def soI (p : (Int → Int) → Int) (L : Int) (F : Int → Int) : Int := if fst p (L + 1).toNat 0 F ≤ L then fst p (L + 1).toNat 0 F else -1
theorem soP_a {s : Int} (h : s < 0) : soP s = alikeP := by unfold soP; rw [if_pos h]
theorem soP_h {s : Int} (h : 0 ≤ s) : soP s = homeP s := by unfold soP; rw [if_neg (by omega)]
theorem soI_r (p : (Int → Int) → Int) {L : Int} (F : Int → Int) : (soI p L F = -1 ∧ L < fst p (L + 1).toNat 0 F) ∨ (0 ≤ soI p L F ∧ soI p L F ≤ L ∧ soI p L F = fst p (L + 1).toNat 0 F) := by
  have h := fst_bd p (L + 1).toNat 0 F
  unfold soI
  by_cases e : fst p (L + 1).toNat 0 F ≤ L
  · rw [if_pos e]
    exact Or.inr ⟨by omega, e, rfl⟩
  · rw [if_neg e]
    exact Or.inl ⟨rfl, by omega⟩
theorem bst_so (st : aS) (p : (Int → Int) → Int) (F : Int → Int) : bstR st (soI p 200 F) = if 200 < fst p 201 0 F then fnd st 3 else (fst p 201 0 F, st) := by
  have h := soI_r p (L := 200) F
  rw [show ((200 : Int) + 1).toNat = 201 from rfl] at h
  unfold bstR
  rcases h with h | h
  · rw [if_pos (by omega), if_pos h.2]
  · rw [if_neg (by omega), if_neg (by omega), h.2.2]
theorem unlk_0 {t u : Int → Int} {a b : Int} : ∀ n : Nat, (∀ i : Int, 0 ≤ i → i < n → (i < a ∧ i < b) ∧ t i = u i) → unlk t u a b n = 0
  | 0, _ => rfl
  | n + 1, h => by
    rw [unlk, unlk_0 n (fun i q1 q2 => h i q1 (by omega)), if_pos (h n (by omega) (by omega))]
    rfl
theorem unlk_p {t u : Int → Int} {a b : Int} (i : Nat) (h : ¬ (((i : Int) < a ∧ (i : Int) < b) ∧ t (i : Int) = u (i : Int))) : ∀ n : Nat, i < n → 0 < unlk t u a b n
  | 0, q => by omega
  | n + 1, q => by
    have hb := unlk_bd t u a b n
    rw [unlk]
    by_cases e : i = n
    · subst e
      rw [if_neg h]
      omega
    · have := unlk_p i h n (by omega)
      split <;> omega
theorem same_1 {F F0 : Int → Int} {s : Int} (h : F (2 + s) = F0 (2 + s)) (ht : ∀ j : Int, 0 ≤ j → j < F (2 + s) → tn F s j = tn F0 s j) : sameP F0 s F = 1 := by
  unfold sameP sameI
  rw [unlk_0 _ (fun i q1 q2 => ⟨by omega, ht i q1 (by omega)⟩)]
  rfl
theorem same_0 {F F0 : Int → Int} {s : Int} (j : Int) (h0 : 0 ≤ j) (h1 : j < F (2 + s) ∨ j < F0 (2 + s)) (h : ¬ ((j < F (2 + s) ∧ j < F0 (2 + s)) ∧ tn F s j = tn F0 s j)) : sameP F0 s F = 0 := by
  unfold sameP sameI
  have := unlk_p (t := tn F s) (u := tn F0 s) (a := F (2 + s)) (b := F0 (2 + s)) j.toNat (by rw [show ((j.toNat : Nat) : Int) = j by omega]; exact h) (max (F (2 + s)) (F0 (2 + s))).toNat (by omega)
  rw [if_neg (by omega)]
set_option maxHeartbeats 4000000 in
set_option maxRecDepth 100000 in
theorem c_M_soonest {G : mG} {μ : mMem} {F : Int → Int} (hR : ROW μ 57 F) (hI : fInv F) {s L : Int} (hs : -1 ≤ s ∧ s ≤ 1) (hL : 0 ≤ L ∧ L ≤ 1000) (hd : F 0 ≤ 20000) : mM G yX7_soonest cX7_soonest 5 (some .int) 5 [.ref 56, .int (iV s), .int (iV L)] μ (qI (fun z m => z = soI (soP s) L F ∧ ROW m 57 F ∧ DR μ m)) := by
  refine mM.of (lv := [some (.ref 56), some (.int (iV s)), some (.int (iV L)), none, none]) 2 (by decide +kernel) (Nat.le_of_ble_eq_true rfl) rfl ?_
  intro X
  have lp : ∀ (n_ : Nat) (v i : Int) (m : mMem), (0 ≤ i) → (i ≤ L + 1) → (1002 ≤ i + n_) → (ROW m 57 (daysF i.toNat F)) → (ROW m 59 F) → (DR μ m) → ((v = -1 ∧ fst (soP s) (L + 1 - i).toNat i (daysF i.toNat F) = fst (soP s) (L + 1).toNat 0 F) ∨ (0 ≤ v ∧ v ≤ L ∧ v = fst (soP s) (L + 1).toNat 0 F)) → mW X cX7_soonest 5 (some .int) yX7_soonest.cls 5 G (qI (fun z m => z = soI (soP s) L F ∧ ROW m 57 F ∧ DR μ m)) 16 [some (.ref 56), some (.int (iV s)), some (.int (iV L)), some (.int (iV v)), some (.int (iV i))] [] m := by
    intro n_
    induction n_ with
    | zero =>
      intro v i m h1 h2 h3 h4 h5 h6 h7
      omega
    | succ n_ ih =>
      intro v i m h1 h2 h3 h4 h5 h6 h7
      refine mw_iload dX7_soonest_16 rfl ?_
      refine mw_iload_n dX7_soonest_18 rfl ?_
      refine mw_icmp_gt (tgt := 65) dX7_soonest_19 (by decide) (by omega) (by omega) (fun c_19 => ?_) (fun c_19 => ?_)
      · refine mw_aload_n dX7_soonest_65 rfl ?_
        refine mw_iload_n dX7_soonest_66 rfl ?_
        refine mw_Vi (ci := 7) dX7_soonest_67 ml_X7_186 ok_X7_putBack (by decide) (by first | rfl | assumption) (by decide) rfl rfl rfl (Nat.le_of_ble_eq_true rfl) (c_M_putBack h5) (fun z_67 m_67 h_67 => ?_)
        refine mw_iret dX7_soonest_70 rfl ?_
        refine ⟨_, rfl, ?_, h_67.2.1, h6.tr h_67.2.2⟩
        rw [h_67.1]
        unfold soI
        rcases h7 with h | h
        · have e := h.2
          first
          | (exfalso; omega)
          | (rw [show (L + 1 - i).toNat = 0 by omega, fst] at e
             rw [if_neg (by omega)]
             exact h.1)
        · rw [if_pos (by omega)]
          exact h.2.2
      · refine mw_iload_n dX7_soonest_22 rfl ?_
        refine mw_if_ge (tgt := 65) dX7_soonest_23 (by decide) (by omega) (fun c_23 => ?_) (fun c_23 => ?_)
        · refine mw_aload_n dX7_soonest_65 rfl ?_
          refine mw_iload_n dX7_soonest_66 rfl ?_
          refine mw_Vi (ci := 7) dX7_soonest_67 ml_X7_186 ok_X7_putBack (by decide) (by first | rfl | assumption) (by decide) rfl rfl rfl (Nat.le_of_ble_eq_true rfl) (c_M_putBack h5) (fun z_67 m_67 h_67 => ?_)
          refine mw_iret dX7_soonest_70 rfl ?_
          refine ⟨_, rfl, ?_, h_67.2.1, h6.tr h_67.2.2⟩
          rw [h_67.1]
          unfold soI
          rcases h7 with h | h
          · have e := h.2
            first
            | (exfalso; omega)
            | (rw [show (L + 1 - i).toNat = 0 by omega, fst] at e
               rw [if_neg (by omega)]
               exact h.1)
          · rw [if_pos (by omega)]
            exact h.2.2
        · have hdi := days_inv hI i.toNat
          have h8 : fst (soP s) (L + 1 - i).toNat i (daysF i.toNat F) = fst (soP s) (L + 1).toNat 0 F := by
            rcases h7 with h | h
            · exact h.2
            · omega
          rw [show (L + 1 - i).toNat = (L + 1 - (i + 1)).toNat + 1 by omega, fst] at h8
          refine mw_iload_n dX7_soonest_26 rfl ?_
          refine mw_if_ge (tgt := 40) dX7_soonest_27 (by decide) (by omega) (fun c_27 => ?_) (fun c_27 => ?_)
          · rw [show soP s (daysF i.toNat F) = homeP s (daysF i.toNat F) by rw [soP_h (by omega)]] at h8
            refine mw_aload_n dX7_soonest_40 rfl ?_
            refine mw_iload_n dX7_soonest_41 rfl ?_
            refine mw_Vpi (ci := 7) dX7_soonest_42 ml_X7_126 ok_X7_isHome (by decide) (by first | rfl | assumption) (by decide) rfl rfl rfl (Nat.le_of_ble_eq_true rfl) (c_M_isHome h4 hdi (by omega)) ?_
            refine mw_if_eq (tgt := 53) dX7_soonest_45 (by decide) (by have := home_c s (daysF i.toNat F); omega) (fun c_45 => ?_) (fun c_45 => ?_)
            · rw [if_pos c_45] at h8
              refine mw_iconst dX7_soonest_53 ?_
              refine mw_is3 dX7_soonest_54 (by decide) rfl ?_
              refine mw_aload_n dX7_soonest_55 rfl ?_
              refine mw_Vv (ci := 7) dX7_soonest_56 ml_X7_172 ok_X7_day (by decide) (by first | rfl | assumption) (by decide) rfl rfl rfl (Nat.le_of_ble_eq_true rfl) (c_M_day h4 hdi (by rw [days_day]; omega)) (fun m_56 h_56 => ?_)
              refine mw_ii4 dX7_soonest_59 (by decide) rfl ?_
              refine mw_goto (tgt := 16) dX7_soonest_62 (by decide) ?_
              refine ih _ _ _ (by omega) (by omega) (by omega) (by rw [show (i + 1).toNat = i.toNat + 1 by omega, days_succ]; exact h_56.1) (cp_a h5 h_56.2) (h6.tr h_56.2.dr) ?_
              first
              | exact Or.inr ⟨by omega, by omega, h8⟩
              | exact Or.inl ⟨rfl, by rw [show (i + 1).toNat = i.toNat + 1 by omega, days_succ]; exact h8⟩
            · rw [if_neg c_45] at h8
              refine mw_iload dX7_soonest_48 rfl ?_
              refine mw_goto (tgt := 54) dX7_soonest_50 (by decide) ?_
              refine mw_is3 dX7_soonest_54 (by decide) rfl ?_
              refine mw_aload_n dX7_soonest_55 rfl ?_
              refine mw_Vv (ci := 7) dX7_soonest_56 ml_X7_172 ok_X7_day (by decide) (by first | rfl | assumption) (by decide) rfl rfl rfl (Nat.le_of_ble_eq_true rfl) (c_M_day h4 hdi (by rw [days_day]; omega)) (fun m_56 h_56 => ?_)
              refine mw_ii4 dX7_soonest_59 (by decide) rfl ?_
              refine mw_goto (tgt := 16) dX7_soonest_62 (by decide) ?_
              refine ih _ _ _ (by omega) (by omega) (by omega) (by rw [show (i + 1).toNat = i.toNat + 1 by omega, days_succ]; exact h_56.1) (cp_a h5 h_56.2) (h6.tr h_56.2.dr) ?_
              first
              | exact Or.inr ⟨by omega, by omega, h8⟩
              | exact Or.inl ⟨rfl, by rw [show (i + 1).toNat = i.toNat + 1 by omega, days_succ]; exact h8⟩
          · rw [show soP s (daysF i.toNat F) = alikeP (daysF i.toNat F) by rw [soP_a (by omega)]] at h8
            refine mw_aload_n dX7_soonest_30 rfl ?_
            refine mw_Vpi (ci := 7) dX7_soonest_31 ml_X7_179 ok_X7_areAlike (by decide) (by first | rfl | assumption) (by decide) rfl rfl rfl (Nat.le_of_ble_eq_true rfl) (c_M_alike h4 hdi) ?_
            refine mw_if_eq (tgt := 53) dX7_soonest_34 (by decide) (by have := alike_c (daysF i.toNat F); omega) (fun c_34 => ?_) (fun c_34 => ?_)
            · rw [if_pos c_34] at h8
              refine mw_iconst dX7_soonest_53 ?_
              refine mw_is3 dX7_soonest_54 (by decide) rfl ?_
              refine mw_aload_n dX7_soonest_55 rfl ?_
              refine mw_Vv (ci := 7) dX7_soonest_56 ml_X7_172 ok_X7_day (by decide) (by first | rfl | assumption) (by decide) rfl rfl rfl (Nat.le_of_ble_eq_true rfl) (c_M_day h4 hdi (by rw [days_day]; omega)) (fun m_56 h_56 => ?_)
              refine mw_ii4 dX7_soonest_59 (by decide) rfl ?_
              refine mw_goto (tgt := 16) dX7_soonest_62 (by decide) ?_
              refine ih _ _ _ (by omega) (by omega) (by omega) (by rw [show (i + 1).toNat = i.toNat + 1 by omega, days_succ]; exact h_56.1) (cp_a h5 h_56.2) (h6.tr h_56.2.dr) ?_
              first
              | exact Or.inr ⟨by omega, by omega, h8⟩
              | exact Or.inl ⟨rfl, by rw [show (i + 1).toNat = i.toNat + 1 by omega, days_succ]; exact h8⟩
            · rw [if_neg c_34] at h8
              refine mw_goto (tgt := 48) dX7_soonest_37 (by decide) ?_
              refine mw_iload dX7_soonest_48 rfl ?_
              refine mw_goto (tgt := 54) dX7_soonest_50 (by decide) ?_
              refine mw_is3 dX7_soonest_54 (by decide) rfl ?_
              refine mw_aload_n dX7_soonest_55 rfl ?_
              refine mw_Vv (ci := 7) dX7_soonest_56 ml_X7_172 ok_X7_day (by decide) (by first | rfl | assumption) (by decide) rfl rfl rfl (Nat.le_of_ble_eq_true rfl) (c_M_day h4 hdi (by rw [days_day]; omega)) (fun m_56 h_56 => ?_)
              refine mw_ii4 dX7_soonest_59 (by decide) rfl ?_
              refine mw_goto (tgt := 16) dX7_soonest_62 (by decide) ?_
              refine ih _ _ _ (by omega) (by omega) (by omega) (by rw [show (i + 1).toNat = i.toNat + 1 by omega, days_succ]; exact h_56.1) (cp_a h5 h_56.2) (h6.tr h_56.2.dr) ?_
              first
              | exact Or.inr ⟨by omega, by omega, h8⟩
              | exact Or.inl ⟨rfl, by rw [show (i + 1).toNat = i.toNat + 1 by omega, days_succ]; exact h8⟩
  refine mw_aload_n dX7_soonest_0 rfl ?_
  refine mw_gr_7_0 dX7_soonest_1 gs_X7_9 (by first | rfl | assumption) ?_
  refine mw_aload_n dX7_soonest_4 rfl ?_
  refine mw_gr_7_2 dX7_soonest_5 gs_X7_16 (by first | rfl | assumption) ?_
  refine mw_Sv dX7_soonest_8 ml_X7_72 ok_X7_copyRow (by decide) rfl rfl (Nat.le_of_ble_eq_true rfl) (c_M_copyRow rfl rfl rfl rfl (by decide)) (fun m_8 h_8 => ?_)
  obtain ⟨a1, a2, a3⟩ := cp_to hR h_8
  refine mw_iconst dX7_soonest_11 ?_
  refine mw_is3 dX7_soonest_12 (by decide) rfl ?_
  refine mw_iconst dX7_soonest_13 ?_
  refine mw_is4 dX7_soonest_14 (by decide) rfl ?_
  exact lp 1002 _ _ _ (by omega) (by omega) (by omega) a1 a2 a3 (Or.inl ⟨rfl, by rw [Int.sub_zero]; rfl⟩)
set_option maxHeartbeats 4000000 in
set_option maxRecDepth 100000 in
theorem c_M_home {G : mG} {μ : mMem} {st : aS} (hX : MR μ st) (hI : SI st) {s : Int} (hs_ : -2147483648 ≤ s ∧ s ≤ 2147483647) : mM G yX7_home cX7_home 2 (some .int) 6 [.ref 56, .int (iV s)] μ (qM μ (sp_home st s)) := by
  obtain ⟨hR, hK, hkp, htl, htb, hfd, hfs, hsh⟩ := id hX
  have hFI := hI.1
  have hn := hFI.2.1
  have h0 := hFI.1
  have h99 := hI.2.1
  refine mM.of (lv := [some (.ref 56), some (.int (iV s))]) 0 (by decide +kernel) (Nat.le_of_ble_eq_true rfl) rfl ?_
  intro X
  refine mw_iload_n dX7_home_0 rfl ?_
  refine mw_Spi dX7_home_1 ml_X7_91 ok_X7_isSide (by decide) rfl rfl (Nat.le_of_ble_eq_true rfl) (c_M_isSide (by omega)) ?_
  refine mw_if_eq (tgt := 22) dX7_home_4 (by decide) (wi_bd _ _ _) (fun c_4 => ?_) (fun c_4 => ?_)
  · have d_4 := wi_0 c_4
    refine mw_aload_n dX7_home_22 rfl ?_
    refine mw_ldc dX7_home_23 ct_X7_71 ?_
    refine mw_Vi (ci := 7) dX7_home_25 ml_X7_77 ok_X7_finding (by decide) (by first | rfl | assumption) (by decide) rfl rfl rfl (Nat.le_of_ble_eq_true rfl) (c_M_find hX hI 0 (by decide) (by decide)) (fun z_25 m_25 h_25 => ?_)
    refine mw_iret dX7_home_28 rfl ?_
    refine ⟨_, rfl, ?_⟩
    unfold sp_home
    rw [if_neg (by omega)]
    exact h_25
  · have d_4 := wi_1 c_4
    refine mw_aload_n dX7_home_7 rfl ?_
    refine mw_aload_n dX7_home_8 rfl ?_
    refine mw_iload_n dX7_home_9 rfl ?_
    refine mw_sipush dX7_home_10 (by decide +kernel) ?_
    refine mw_Vi (ci := 7) dX7_home_13 ml_X7_195 ok_X7_soonest (by decide) (by first | rfl | assumption) (by decide) rfl rfl rfl (Nat.le_of_ble_eq_true rfl) (c_M_soonest hR hFI (by omega) (by omega) (by omega)) (fun z_13 m_13 h_13 => ?_)
    have hX2 := hX.same h_13.2.1 h_13.2.2
    have r_13 := soI_r (soP s) (L := 200) (st.1 0)
    have e_13 := h_13.1
    refine mw_Vi (ci := 7) dX7_home_16 ml_X7_189 ok_X7_orNone (by decide) (by first | rfl | assumption) (by decide) rfl rfl rfl (Nat.le_of_ble_eq_true rfl) (c_M_orNone hX2 hI (by omega)) (fun z_16 m_16 h_16 => ?_)
    refine mw_goto (tgt := 28) dX7_home_19 (by decide) ?_
    refine mw_iret dX7_home_28 rfl ?_
    refine ⟨_, rfl, ?_⟩
    unfold sp_home
    rw [if_pos (by omega)]
    rw [e_13, soP_h (by omega), bst_so] at h_16
    exact ⟨h_16.1, h_16.2.1, h_13.2.2.mf.tr h_16.2.2⟩
set_option maxHeartbeats 4000000 in
set_option maxRecDepth 100000 in
theorem c_M_alikeD {G : mG} {μ : mMem} {st : aS} (hX : MR μ st) (hI : SI st) : mM G yX7_alike cX7_alike 1 (some .int) 6 [.ref 56] μ (qM μ (sp_alike st)) := by
  obtain ⟨hR, hK, hkp, htl, htb, hfd, hfs, hsh⟩ := id hX
  have hFI := hI.1
  have hn := hFI.2.1
  have h0 := hFI.1
  have h99 := hI.2.1
  refine mM.of (lv := [some (.ref 56)]) 0 (by decide +kernel) (Nat.le_of_ble_eq_true rfl) rfl ?_
  intro X
  refine mw_aload_n dX7_alike_0 rfl ?_
  refine mw_aload_n dX7_alike_1 rfl ?_
  refine mw_iconst dX7_alike_2 ?_
  refine mw_sipush dX7_alike_3 (by decide +kernel) ?_
  refine mw_Vi (ci := 7) dX7_alike_6 ml_X7_195 ok_X7_soonest (by decide) (by first | rfl | assumption) (by decide) rfl rfl rfl (Nat.le_of_ble_eq_true rfl) (c_M_soonest hR hFI (by omega) (by omega) (by omega)) (fun z_6 m_6 h_6 => ?_)
  have hX2 := hX.same h_6.2.1 h_6.2.2
  have r_6 := soI_r (soP (-1)) (L := 200) (st.1 0)
  have e_6 := h_6.1
  refine mw_Vi (ci := 7) dX7_alike_9 ml_X7_189 ok_X7_orNone (by decide) (by first | rfl | assumption) (by decide) rfl rfl rfl (Nat.le_of_ble_eq_true rfl) (c_M_orNone hX2 hI (by omega)) (fun z_9 m_9 h_9 => ?_)
  refine mw_iret dX7_alike_12 rfl ?_
  refine ⟨_, rfl, ?_⟩
  unfold sp_alike
  rw [e_6, soP_a (by decide), bst_so] at h_9
  exact ⟨h_9.1, h_9.2.1, h_6.2.2.mf.tr h_9.2.2⟩
set_option maxHeartbeats 4000000 in
set_option maxRecDepth 100000 in
theorem c_M_isAsAside {G : mG} {μ : mMem} {F : Int → Int} (hR : ROW μ 57 F) (hI : fInv F) {F0 : Int → Int} (hA : ROW μ 59 F0) (hI0 : fInv F0) {s : Int} (hs : 0 ≤ s ∧ s ≤ 1) : mM G yX7_isAsAside cX7_isAsAside 4 (some .boolean) 1 [.ref 56, .int (iV s)] μ (pI (sameP F0 s F) μ) := by
  have hl := hI.2.2.1 s hs.1 hs.2
  have hl0 := hI0.2.2.1 s hs.1 hs.2
  refine mM.of (lv := [some (.ref 56), some (.int (iV s)), none, none]) 2 (by decide +kernel) (Nat.le_of_ble_eq_true rfl) rfl ?_
  intro X
  have lp : ∀ (n_ : Nat) (v i : Int), (0 ≤ i) → (i ≤ F (2 + s)) → (13 ≤ i + n_) → ((v = 1 ∧ F (2 + s) = F0 (2 + s) ∧ ∀ j : Int, 0 ≤ j → j < i → tn F s j = tn F0 s j) ∨ (v = 0 ∧ sameP F0 s F = 0)) → mW X cX7_isAsAside 4 (some .boolean) yX7_isAsAside.cls 1 G (pI (sameP F0 s F) μ) 24 [some (.ref 56), some (.int (iV s)), some (.int (iV v)), some (.int (iV i))] [] μ := by
    intro n_
    induction n_ with
    | zero =>
      intro v i h1 h2 h3 h5
      omega
    | succ n_ ih =>
      intro v i h1 h2 h3 h5
      refine mw_iload_n dX7_isAsAside_24 rfl ?_
      refine mw_aload_n dX7_isAsAside_25 rfl ?_
      refine mw_iload_n dX7_isAsAside_26 rfl ?_
      refine mw_Vpi (ci := 7) dX7_isAsAside_27 ml_X7_99 ok_X7_length (by decide) (by first | rfl | assumption) (by decide) rfl rfl rfl (Nat.le_of_ble_eq_true rfl) (c_M_length hR hs) ?_
      refine mw_icmp_ge (tgt := 71) dX7_isAsAside_30 (by decide) (by omega) (by omega) (fun c_30 => ?_) (fun c_30 => ?_)
      · refine mw_iload_n dX7_isAsAside_71 rfl ?_
        refine mw_zret dX7_isAsAside_72 rfl (by rcases h5 with h | h <;> rw [h.1] <;> decide +kernel) ?_
        refine ⟨?_, rfl⟩
        rcases h5 with h | h
        · first
          | (exfalso; omega)
          | rw [same_1 h.2.1 (fun j q1 q2 => h.2.2 j q1 (by omega)), h.1]
        · rw [h.1, h.2]
      · refine mw_iload_n dX7_isAsAside_33 rfl ?_
        refine mw_if_eq (tgt := 71) dX7_isAsAside_34 (by decide) (by omega) (fun c_34 => ?_) (fun c_34 => ?_)
        · refine mw_iload_n dX7_isAsAside_71 rfl ?_
          refine mw_zret dX7_isAsAside_72 rfl (by rcases h5 with h | h <;> rw [h.1] <;> decide +kernel) ?_
          refine ⟨?_, rfl⟩
          rcases h5 with h | h
          · first
            | (exfalso; omega)
            | rw [same_1 h.2.1 (fun j q1 q2 => h.2.2 j q1 (by omega)), h.1]
          · rw [h.1, h.2]
        · have t1 := hI.2.2.2.1 s i hs.1 hs.2 (by omega) (by omega)
          have t2 := hI0.2.2.2.1 s i hs.1 hs.2 (by omega) (by omega)
          obtain ⟨g1, g2, g3⟩ : v = 1 ∧ F (2 + s) = F0 (2 + s) ∧ ∀ j : Int, 0 ≤ j → j < i → tn F s j = tn F0 s j := by
            rcases h5 with h | h
            · exact h
            · omega
          refine mw_aload_n dX7_isAsAside_37 rfl ?_
          refine mw_iload_n dX7_isAsAside_38 rfl ?_
          refine mw_iload_n dX7_isAsAside_39 rfl ?_
          refine mw_Vpi (ci := 7) dX7_isAsAside_40 ml_X7_102 ok_X7_toneOf (by decide) (by first | rfl | assumption) (by decide) rfl rfl rfl (Nat.le_of_ble_eq_true rfl) (c_M_toneOf hR hs (by omega)) ?_
          refine mw_aload_n dX7_isAsAside_43 rfl ?_
          refine mw_gr_7_2 dX7_isAsAside_44 gs_X7_16 (by first | rfl | assumption) ?_
          refine mw_iconst dX7_isAsAside_47 ?_
          refine mw_bipush dX7_isAsAside_48 (by decide +kernel) ?_
          refine mw_iload_n dX7_isAsAside_50 rfl ?_
          refine mw_imul dX7_isAsAside_51 ?_
          refine mw_iadd dX7_isAsAside_52 ?_
          refine mw_iload_n dX7_isAsAside_53 rfl ?_
          refine mw_iadd dX7_isAsAside_54 ?_
          refine mw_iald 68 dX7_isAsAside_55 (by first | rfl | assumption) (by first | rfl | assumption) (by omega) ?_
          rw [hA _ (by omega) (by omega), show F0 (4 + 12 * s + i) = tn F0 s i from rfl]
          refine mw_icmp_ne (tgt := 63) dX7_isAsAside_56 (by decide) (by unfold tn; omega) (by unfold tn; omega) (fun c_56 => ?_) (fun c_56 => ?_)
          · refine mw_iconst dX7_isAsAside_63 ?_
            refine mw_is2 dX7_isAsAside_64 (by decide) rfl ?_
            refine mw_ii3 dX7_isAsAside_65 (by decide) rfl ?_
            refine mw_goto (tgt := 24) dX7_isAsAside_68 (by decide) ?_
            exact ih _ _ (by omega) (by omega) (by omega) (Or.inr ⟨rfl, same_0 i (by omega) (by omega) (fun q => c_56 q.2)⟩)
          · refine mw_iconst dX7_isAsAside_59 ?_
            refine mw_goto (tgt := 64) dX7_isAsAside_60 (by decide) ?_
            refine mw_is2 dX7_isAsAside_64 (by decide) rfl ?_
            refine mw_ii3 dX7_isAsAside_65 (by decide) rfl ?_
            refine mw_goto (tgt := 24) dX7_isAsAside_68 (by decide) ?_
            refine ih _ _ (by omega) (by omega) (by omega) (Or.inl ⟨rfl, g2, fun j q1 q2 => ?_⟩)
            by_cases e : j = i
            · rw [e]; exact c_56
            · exact g3 j q1 (by omega)
  refine mw_aload_n dX7_isAsAside_0 rfl ?_
  refine mw_iload_n dX7_isAsAside_1 rfl ?_
  refine mw_Vpi (ci := 7) dX7_isAsAside_2 ml_X7_99 ok_X7_length (by decide) (by first | rfl | assumption) (by decide) rfl rfl rfl (Nat.le_of_ble_eq_true rfl) (c_M_length hR hs) ?_
  refine mw_aload_n dX7_isAsAside_5 rfl ?_
  refine mw_gr_7_2 dX7_isAsAside_6 gs_X7_16 (by first | rfl | assumption) ?_
  refine mw_iconst dX7_isAsAside_9 ?_
  refine mw_iload_n dX7_isAsAside_10 rfl ?_
  refine mw_iadd dX7_isAsAside_11 ?_
  refine mw_iald 68 dX7_isAsAside_12 (by first | rfl | assumption) (by first | rfl | assumption) (by omega) ?_
  rw [hA _ (by omega) (by omega)]
  refine mw_icmp_ne (tgt := 20) dX7_isAsAside_13 (by decide) (by omega) (by omega) (fun c_13 => ?_) (fun c_13 => ?_)
  · refine mw_iconst dX7_isAsAside_20 ?_
    refine mw_is2 dX7_isAsAside_21 (by decide) rfl ?_
    refine mw_iconst dX7_isAsAside_22 ?_
    refine mw_is3 dX7_isAsAside_23 (by decide) rfl ?_
    exact lp 13 _ _ (by omega) (by omega) (by omega) (Or.inr ⟨rfl, same_0 (min (F (2 + s)) (F0 (2 + s))) (by omega) (by omega) (by omega)⟩)
  · refine mw_iconst dX7_isAsAside_16 ?_
    refine mw_goto (tgt := 21) dX7_isAsAside_17 (by decide) ?_
    refine mw_is2 dX7_isAsAside_21 (by decide) rfl ?_
    refine mw_iconst dX7_isAsAside_22 ?_
    refine mw_is3 dX7_isAsAside_23 (by decide) rfl ?_
    exact lp 13 _ _ (by omega) (by omega) (by omega) (Or.inl ⟨rfl, c_13, fun j q1 q2 => by omega⟩)
set_option maxHeartbeats 4000000 in
set_option maxRecDepth 100000 in
theorem c_M_again {G : mG} {μ : mMem} {st : aS} (hX : MR μ st) (hI : SI st) {s : Int} (hs_ : -2147483648 ≤ s ∧ s ≤ 2147483647) : mM G yX7_again cX7_again 6 (some .int) 5 [.ref 56, .int (iV s)] μ (qM μ (sp_again st s)) := by
  obtain ⟨hR, hK, hkp, htl, htb, hfd, hfs, hsh⟩ := id hX
  have hFI := hI.1
  have hn := hFI.2.1
  have h0 := hFI.1
  have h99 := hI.2.1
  refine mM.of (lv := [some (.ref 56), some (.int (iV s)), none, none, none, none]) 4 (by decide +kernel) (Nat.le_of_ble_eq_true rfl) rfl ?_
  intro X
  have lp : ∀ (n_ : Nat) (q5 : Option Value) (w v i : Int) (m : mMem), (0 ≤ s ∧ s ≤ 1) → (1 ≤ i) → (i ≤ 201) → (202 ≤ i + n_) → (ROW m 57 (daysF (i - 1).toNat (st.1 0))) → (ROW m 59 (st.1 0)) → (DR μ m) → (w = 0 ∨ w = 1) → ((v = -1 ∧ agn (st.1 0) s (201 - i).toNat i w (daysF (i - 1).toNat (st.1 0)) = agn (st.1 0) s 200 1 0 (st.1 0)) ∨ (1 ≤ v ∧ v ≤ 200 ∧ v = agn (st.1 0) s 200 1 0 (st.1 0))) → mW X cX7_again 6 (some .int) yX7_again.cls 5 G (qM μ (sp_again st s)) 32 [some (.ref 56), some (.int (iV s)), some (.int (iV w)), some (.int (iV v)), some (.int (iV i)), q5] [] m := by
    intro n_
    induction n_ with
    | zero =>
      intro q5 w v i m hs h1 h2 h3 h4 h5 h6 hw h7
      omega
    | succ n_ ih =>
      intro q5 w v i m hs h1 h2 h3 h4 h5 h6 hw h7
      refine mw_iload dX7_again_32 rfl ?_
      refine mw_sipush dX7_again_34 (by decide +kernel) ?_
      refine mw_icmp_gt (tgt := 92) dX7_again_37 (by decide) (by omega) (by omega) (fun c_37 => ?_) (fun c_37 => ?_)
      · refine mw_aload_n dX7_again_92 rfl ?_
        refine mw_aload_n dX7_again_93 rfl ?_
        refine mw_iload_n dX7_again_94 rfl ?_
        refine mw_Vi (ci := 7) dX7_again_95 ml_X7_186 ok_X7_putBack (by decide) (by first | rfl | assumption) (by decide) rfl rfl rfl (Nat.le_of_ble_eq_true rfl) (c_M_putBack h5) (fun z_95 m_95 h_95 => ?_)
        have hX2 := hX.same h_95.2.1 (h6.tr h_95.2.2)
        refine mw_Vi (ci := 7) dX7_again_98 ml_X7_189 ok_X7_orNone (by decide) (by first | rfl | assumption) (by decide) rfl rfl rfl (Nat.le_of_ble_eq_true rfl) (c_M_orNone hX2 hI (by omega)) (fun z_98 m_98 h_98 => ?_)
        refine mw_iret dX7_again_101 rfl ?_
        refine ⟨_, rfl, ?_⟩
        have hz : z_95 = agn (st.1 0) s 200 1 0 (st.1 0) := by
          rw [h_95.1]
          rcases h7 with h | h
          · first
            | (exfalso; omega)
            | (have e := h.2
               rw [show (201 - i).toNat = 0 by omega, agn] at e
               rw [h.1, ← e])
          · exact h.2.2
        unfold sp_again
        rw [if_pos hs]
        rw [hz] at h_98
        exact ⟨h_98.1, h_98.2.1, (h6.tr h_95.2.2).mf.tr h_98.2.2⟩
      · refine mw_iload_n dX7_again_40 rfl ?_
        refine mw_if_ge (tgt := 92) dX7_again_41 (by decide) (by omega) (fun c_41 => ?_) (fun c_41 => ?_)
        · refine mw_aload_n dX7_again_92 rfl ?_
          refine mw_aload_n dX7_again_93 rfl ?_
          refine mw_iload_n dX7_again_94 rfl ?_
          refine mw_Vi (ci := 7) dX7_again_95 ml_X7_186 ok_X7_putBack (by decide) (by first | rfl | assumption) (by decide) rfl rfl rfl (Nat.le_of_ble_eq_true rfl) (c_M_putBack h5) (fun z_95 m_95 h_95 => ?_)
          have hX2 := hX.same h_95.2.1 (h6.tr h_95.2.2)
          refine mw_Vi (ci := 7) dX7_again_98 ml_X7_189 ok_X7_orNone (by decide) (by first | rfl | assumption) (by decide) rfl rfl rfl (Nat.le_of_ble_eq_true rfl) (c_M_orNone hX2 hI (by omega)) (fun z_98 m_98 h_98 => ?_)
          refine mw_iret dX7_again_101 rfl ?_
          refine ⟨_, rfl, ?_⟩
          have hz : z_95 = agn (st.1 0) s 200 1 0 (st.1 0) := by
            rw [h_95.1]
            rcases h7 with h | h
            · first
              | (exfalso; omega)
              | (have e := h.2
                 rw [show (201 - i).toNat = 0 by omega, agn] at e
                 rw [h.1, ← e])
            · exact h.2.2
          unfold sp_again
          rw [if_pos hs]
          rw [hz] at h_98
          exact ⟨h_98.1, h_98.2.1, (h6.tr h_95.2.2).mf.tr h_98.2.2⟩
        · have h8 : agn (st.1 0) s (201 - i).toNat i w (daysF (i - 1).toNat (st.1 0)) = agn (st.1 0) s 200 1 0 (st.1 0) := by
            rcases h7 with h | h
            · exact h.2
            · omega
          rw [show (201 - i).toNat = (201 - (i + 1)).toNat + 1 by omega, agn] at h8
          refine mw_aload_n dX7_again_44 rfl ?_
          refine mw_Vv (ci := 7) dX7_again_45 ml_X7_172 ok_X7_day (by decide) (by first | rfl | assumption) (by decide) rfl rfl rfl (Nat.le_of_ble_eq_true rfl) (c_M_day h4 (days_inv hFI _) (by rw [days_day]; omega)) (fun m_45 h_45 => ?_)
          have hdi := day_inv (days_inv hFI (i - 1).toNat)
          have hsc := same_c (st.1 0) s (dayF (daysF (i - 1).toNat (st.1 0)))
          have h5b := cp_a h5 h_45.2
          refine mw_aload_n dX7_again_48 rfl ?_
          refine mw_iload_n dX7_again_49 rfl ?_
          refine mw_Vpi (ci := 7) dX7_again_50 ml_X7_198 ok_X7_isAsAside (by decide) (by first | rfl | assumption) (by decide) rfl rfl rfl (Nat.le_of_ble_eq_true rfl) (c_M_isAsAside h_45.1 hdi h5b hFI hs) ?_
          refine mw_is5 dX7_again_53 (by decide) rfl ?_
          refine mw_iload dX7_again_55 rfl ?_
          refine mw_if_eq (tgt := 69) dX7_again_57 (by decide) (by omega) (fun c_57 => ?_) (fun c_57 => ?_)
          · refine mw_iconst dX7_again_69 ?_
            refine mw_is3 dX7_again_70 (by decide) rfl ?_
            refine mw_iload_n dX7_again_71 rfl ?_
            refine mw_if_ne (tgt := 80) dX7_again_72 (by decide) (by omega) (fun c_72 => ?_) (fun c_72 => ?_)
            · refine mw_iconst dX7_again_80 ?_
              refine mw_goto (tgt := 85) dX7_again_81 (by decide) ?_
              refine mw_is2 dX7_again_85 (by decide) rfl ?_
              refine mw_ii4 dX7_again_86 (by decide) rfl ?_
              refine mw_goto (tgt := 32) dX7_again_89 (by decide) ?_
              first
              | (exfalso; omega)
              | (rw [if_pos (by omega)] at h8
                 exact ih _ _ _ _ _ hs (by omega) (by omega) (by omega) (by rw [show (i + 1 - 1).toNat = (i - 1).toNat + 1 by omega, days_succ]; exact h_45.1) h5b (h6.tr h_45.2.dr) (by omega) (Or.inr ⟨by omega, by omega, h8⟩))
              | (rw [if_neg (by omega)] at h8
                 first
                 | rw [if_pos (by omega)] at h8
                 | rw [if_neg (by omega)] at h8
                 exact ih _ _ _ _ _ hs (by omega) (by omega) (by omega) (by rw [show (i + 1 - 1).toNat = (i - 1).toNat + 1 by omega, days_succ]; exact h_45.1) h5b (h6.tr h_45.2.dr) (by omega) (Or.inl ⟨rfl, by rw [show (i + 1 - 1).toNat = (i - 1).toNat + 1 by omega, days_succ]; exact h8⟩))
            · refine mw_iload dX7_again_75 rfl ?_
              refine mw_if_ne (tgt := 84) dX7_again_77 (by decide) (by omega) (fun c_77 => ?_) (fun c_77 => ?_)
              · refine mw_iconst dX7_again_84 ?_
                refine mw_is2 dX7_again_85 (by decide) rfl ?_
                refine mw_ii4 dX7_again_86 (by decide) rfl ?_
                refine mw_goto (tgt := 32) dX7_again_89 (by decide) ?_
                first
                | (exfalso; omega)
                | (rw [if_pos (by omega)] at h8
                   exact ih _ _ _ _ _ hs (by omega) (by omega) (by omega) (by rw [show (i + 1 - 1).toNat = (i - 1).toNat + 1 by omega, days_succ]; exact h_45.1) h5b (h6.tr h_45.2.dr) (by omega) (Or.inr ⟨by omega, by omega, h8⟩))
                | (rw [if_neg (by omega)] at h8
                   first
                   | rw [if_pos (by omega)] at h8
                   | rw [if_neg (by omega)] at h8
                   exact ih _ _ _ _ _ hs (by omega) (by omega) (by omega) (by rw [show (i + 1 - 1).toNat = (i - 1).toNat + 1 by omega, days_succ]; exact h_45.1) h5b (h6.tr h_45.2.dr) (by omega) (Or.inl ⟨rfl, by rw [show (i + 1 - 1).toNat = (i - 1).toNat + 1 by omega, days_succ]; exact h8⟩))
              · refine mw_iconst dX7_again_80 ?_
                refine mw_goto (tgt := 85) dX7_again_81 (by decide) ?_
                refine mw_is2 dX7_again_85 (by decide) rfl ?_
                refine mw_ii4 dX7_again_86 (by decide) rfl ?_
                refine mw_goto (tgt := 32) dX7_again_89 (by decide) ?_
                first
                | (exfalso; omega)
                | (rw [if_pos (by omega)] at h8
                   exact ih _ _ _ _ _ hs (by omega) (by omega) (by omega) (by rw [show (i + 1 - 1).toNat = (i - 1).toNat + 1 by omega, days_succ]; exact h_45.1) h5b (h6.tr h_45.2.dr) (by omega) (Or.inr ⟨by omega, by omega, h8⟩))
                | (rw [if_neg (by omega)] at h8
                   first
                   | rw [if_pos (by omega)] at h8
                   | rw [if_neg (by omega)] at h8
                   exact ih _ _ _ _ _ hs (by omega) (by omega) (by omega) (by rw [show (i + 1 - 1).toNat = (i - 1).toNat + 1 by omega, days_succ]; exact h_45.1) h5b (h6.tr h_45.2.dr) (by omega) (Or.inl ⟨rfl, by rw [show (i + 1 - 1).toNat = (i - 1).toNat + 1 by omega, days_succ]; exact h8⟩))
          · refine mw_iload_n dX7_again_60 rfl ?_
            refine mw_if_eq (tgt := 69) dX7_again_61 (by decide) (by omega) (fun c_61 => ?_) (fun c_61 => ?_)
            · refine mw_iconst dX7_again_69 ?_
              refine mw_is3 dX7_again_70 (by decide) rfl ?_
              refine mw_iload_n dX7_again_71 rfl ?_
              refine mw_if_ne (tgt := 80) dX7_again_72 (by decide) (by omega) (fun c_72 => ?_) (fun c_72 => ?_)
              · refine mw_iconst dX7_again_80 ?_
                refine mw_goto (tgt := 85) dX7_again_81 (by decide) ?_
                refine mw_is2 dX7_again_85 (by decide) rfl ?_
                refine mw_ii4 dX7_again_86 (by decide) rfl ?_
                refine mw_goto (tgt := 32) dX7_again_89 (by decide) ?_
                first
                | (exfalso; omega)
                | (rw [if_pos (by omega)] at h8
                   exact ih _ _ _ _ _ hs (by omega) (by omega) (by omega) (by rw [show (i + 1 - 1).toNat = (i - 1).toNat + 1 by omega, days_succ]; exact h_45.1) h5b (h6.tr h_45.2.dr) (by omega) (Or.inr ⟨by omega, by omega, h8⟩))
                | (rw [if_neg (by omega)] at h8
                   first
                   | rw [if_pos (by omega)] at h8
                   | rw [if_neg (by omega)] at h8
                   exact ih _ _ _ _ _ hs (by omega) (by omega) (by omega) (by rw [show (i + 1 - 1).toNat = (i - 1).toNat + 1 by omega, days_succ]; exact h_45.1) h5b (h6.tr h_45.2.dr) (by omega) (Or.inl ⟨rfl, by rw [show (i + 1 - 1).toNat = (i - 1).toNat + 1 by omega, days_succ]; exact h8⟩))
              · refine mw_iload dX7_again_75 rfl ?_
                refine mw_if_ne (tgt := 84) dX7_again_77 (by decide) (by omega) (fun c_77 => ?_) (fun c_77 => ?_)
                · refine mw_iconst dX7_again_84 ?_
                  refine mw_is2 dX7_again_85 (by decide) rfl ?_
                  refine mw_ii4 dX7_again_86 (by decide) rfl ?_
                  refine mw_goto (tgt := 32) dX7_again_89 (by decide) ?_
                  first
                  | (exfalso; omega)
                  | (rw [if_pos (by omega)] at h8
                     exact ih _ _ _ _ _ hs (by omega) (by omega) (by omega) (by rw [show (i + 1 - 1).toNat = (i - 1).toNat + 1 by omega, days_succ]; exact h_45.1) h5b (h6.tr h_45.2.dr) (by omega) (Or.inr ⟨by omega, by omega, h8⟩))
                  | (rw [if_neg (by omega)] at h8
                     first
                     | rw [if_pos (by omega)] at h8
                     | rw [if_neg (by omega)] at h8
                     exact ih _ _ _ _ _ hs (by omega) (by omega) (by omega) (by rw [show (i + 1 - 1).toNat = (i - 1).toNat + 1 by omega, days_succ]; exact h_45.1) h5b (h6.tr h_45.2.dr) (by omega) (Or.inl ⟨rfl, by rw [show (i + 1 - 1).toNat = (i - 1).toNat + 1 by omega, days_succ]; exact h8⟩))
                · refine mw_iconst dX7_again_80 ?_
                  refine mw_goto (tgt := 85) dX7_again_81 (by decide) ?_
                  refine mw_is2 dX7_again_85 (by decide) rfl ?_
                  refine mw_ii4 dX7_again_86 (by decide) rfl ?_
                  refine mw_goto (tgt := 32) dX7_again_89 (by decide) ?_
                  first
                  | (exfalso; omega)
                  | (rw [if_pos (by omega)] at h8
                     exact ih _ _ _ _ _ hs (by omega) (by omega) (by omega) (by rw [show (i + 1 - 1).toNat = (i - 1).toNat + 1 by omega, days_succ]; exact h_45.1) h5b (h6.tr h_45.2.dr) (by omega) (Or.inr ⟨by omega, by omega, h8⟩))
                  | (rw [if_neg (by omega)] at h8
                     first
                     | rw [if_pos (by omega)] at h8
                     | rw [if_neg (by omega)] at h8
                     exact ih _ _ _ _ _ hs (by omega) (by omega) (by omega) (by rw [show (i + 1 - 1).toNat = (i - 1).toNat + 1 by omega, days_succ]; exact h_45.1) h5b (h6.tr h_45.2.dr) (by omega) (Or.inl ⟨rfl, by rw [show (i + 1 - 1).toNat = (i - 1).toNat + 1 by omega, days_succ]; exact h8⟩))
            · refine mw_iload dX7_again_64 rfl ?_
              refine mw_goto (tgt := 70) dX7_again_66 (by decide) ?_
              refine mw_is3 dX7_again_70 (by decide) rfl ?_
              refine mw_iload_n dX7_again_71 rfl ?_
              refine mw_if_ne (tgt := 80) dX7_again_72 (by decide) (by omega) (fun c_72 => ?_) (fun c_72 => ?_)
              · refine mw_iconst dX7_again_80 ?_
                refine mw_goto (tgt := 85) dX7_again_81 (by decide) ?_
                refine mw_is2 dX7_again_85 (by decide) rfl ?_
                refine mw_ii4 dX7_again_86 (by decide) rfl ?_
                refine mw_goto (tgt := 32) dX7_again_89 (by decide) ?_
                first
                | (exfalso; omega)
                | (rw [if_pos (by omega)] at h8
                   exact ih _ _ _ _ _ hs (by omega) (by omega) (by omega) (by rw [show (i + 1 - 1).toNat = (i - 1).toNat + 1 by omega, days_succ]; exact h_45.1) h5b (h6.tr h_45.2.dr) (by omega) (Or.inr ⟨by omega, by omega, h8⟩))
                | (rw [if_neg (by omega)] at h8
                   first
                   | rw [if_pos (by omega)] at h8
                   | rw [if_neg (by omega)] at h8
                   exact ih _ _ _ _ _ hs (by omega) (by omega) (by omega) (by rw [show (i + 1 - 1).toNat = (i - 1).toNat + 1 by omega, days_succ]; exact h_45.1) h5b (h6.tr h_45.2.dr) (by omega) (Or.inl ⟨rfl, by rw [show (i + 1 - 1).toNat = (i - 1).toNat + 1 by omega, days_succ]; exact h8⟩))
              · refine mw_iload dX7_again_75 rfl ?_
                refine mw_if_ne (tgt := 84) dX7_again_77 (by decide) (by omega) (fun c_77 => ?_) (fun c_77 => ?_)
                · refine mw_iconst dX7_again_84 ?_
                  refine mw_is2 dX7_again_85 (by decide) rfl ?_
                  refine mw_ii4 dX7_again_86 (by decide) rfl ?_
                  refine mw_goto (tgt := 32) dX7_again_89 (by decide) ?_
                  first
                  | (exfalso; omega)
                  | (rw [if_pos (by omega)] at h8
                     exact ih _ _ _ _ _ hs (by omega) (by omega) (by omega) (by rw [show (i + 1 - 1).toNat = (i - 1).toNat + 1 by omega, days_succ]; exact h_45.1) h5b (h6.tr h_45.2.dr) (by omega) (Or.inr ⟨by omega, by omega, h8⟩))
                  | (rw [if_neg (by omega)] at h8
                     first
                     | rw [if_pos (by omega)] at h8
                     | rw [if_neg (by omega)] at h8
                     exact ih _ _ _ _ _ hs (by omega) (by omega) (by omega) (by rw [show (i + 1 - 1).toNat = (i - 1).toNat + 1 by omega, days_succ]; exact h_45.1) h5b (h6.tr h_45.2.dr) (by omega) (Or.inl ⟨rfl, by rw [show (i + 1 - 1).toNat = (i - 1).toNat + 1 by omega, days_succ]; exact h8⟩))
                · refine mw_iconst dX7_again_80 ?_
                  refine mw_goto (tgt := 85) dX7_again_81 (by decide) ?_
                  refine mw_is2 dX7_again_85 (by decide) rfl ?_
                  refine mw_ii4 dX7_again_86 (by decide) rfl ?_
                  refine mw_goto (tgt := 32) dX7_again_89 (by decide) ?_
                  first
                  | (exfalso; omega)
                  | (rw [if_pos (by omega)] at h8
                     exact ih _ _ _ _ _ hs (by omega) (by omega) (by omega) (by rw [show (i + 1 - 1).toNat = (i - 1).toNat + 1 by omega, days_succ]; exact h_45.1) h5b (h6.tr h_45.2.dr) (by omega) (Or.inr ⟨by omega, by omega, h8⟩))
                  | (rw [if_neg (by omega)] at h8
                     first
                     | rw [if_pos (by omega)] at h8
                     | rw [if_neg (by omega)] at h8
                     exact ih _ _ _ _ _ hs (by omega) (by omega) (by omega) (by rw [show (i + 1 - 1).toNat = (i - 1).toNat + 1 by omega, days_succ]; exact h_45.1) h5b (h6.tr h_45.2.dr) (by omega) (Or.inl ⟨rfl, by rw [show (i + 1 - 1).toNat = (i - 1).toNat + 1 by omega, days_succ]; exact h8⟩))
  refine mw_iload_n dX7_again_0 rfl ?_
  refine mw_Spi dX7_again_1 ml_X7_91 ok_X7_isSide (by decide) rfl rfl (Nat.le_of_ble_eq_true rfl) (c_M_isSide (by omega)) ?_
  refine mw_if_ne (tgt := 14) dX7_again_4 (by decide) (wi_bd _ _ _) (fun c_4 => ?_) (fun c_4 => ?_)
  · have d_4 := wi_1 c_4
    refine mw_aload_n dX7_again_14 rfl ?_
    refine mw_gr_7_0 dX7_again_15 gs_X7_9 (by first | rfl | assumption) ?_
    refine mw_aload_n dX7_again_18 rfl ?_
    refine mw_gr_7_2 dX7_again_19 gs_X7_16 (by first | rfl | assumption) ?_
    refine mw_Sv dX7_again_22 ml_X7_72 ok_X7_copyRow (by decide) rfl rfl (Nat.le_of_ble_eq_true rfl) (c_M_copyRow rfl rfl rfl rfl (by decide)) (fun m_22 h_22 => ?_)
    obtain ⟨a1, a2, a3⟩ := cp_to hR h_22
    refine mw_iconst dX7_again_25 ?_
    refine mw_is2 dX7_again_26 (by decide) rfl ?_
    refine mw_iconst dX7_again_27 ?_
    refine mw_is3 dX7_again_28 (by decide) rfl ?_
    refine mw_iconst dX7_again_29 ?_
    refine mw_is4 dX7_again_30 (by decide) rfl ?_
    exact lp 201 _ _ _ _ _ (by omega) (by omega) (by omega) (by omega) a1 a2 a3 (by omega) (Or.inl ⟨rfl, rfl⟩)
  · have d_4 := wi_0 c_4
    refine mw_aload_n dX7_again_7 rfl ?_
    refine mw_ldc dX7_again_8 ct_X7_71 ?_
    refine mw_Vi (ci := 7) dX7_again_10 ml_X7_77 ok_X7_finding (by decide) (by first | rfl | assumption) (by decide) rfl rfl rfl (Nat.le_of_ble_eq_true rfl) (c_M_find hX hI 0 (by decide) (by decide)) (fun z_10 m_10 h_10 => ?_)
    refine mw_iret dX7_again_13 rfl ?_
    refine ⟨_, rfl, ?_⟩
    unfold sp_again
    rw [if_neg (by omega)]
    exact h_10

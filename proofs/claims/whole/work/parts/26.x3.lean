theorem fst_cut (p : (Int → Int) → Int) : ∀ (k K : Nat) (n : Int) (F : Int → Int), k ≤ K → fst p k n F = min (fst p K n F) (n + k)
  | 0, K, n, F, _ => by
    have := fst_bd p K n F
    rw [fst]
    omega
  | k + 1, 0, n, F, h => by omega
  | k + 1, K + 1, n, F, h => by
    rw [fst, fst]
    split
    · rw [fst_cut p k K (n + 1) (dayF F) (by omega)]
      omega
    · omega
/-- the choice with the least time, sooner than so many days; -1: none -/
def bst (P : Int → Int) : Nat → Int → Int → Int → Int
  | 0, _, best, _ => best
  | k + 1, v, best, least => if P v < least then bst P k (v + 1) v (P v) else bst P k (v + 1) best least
def bstR (st : aS) (z : Int) : Int × aS := if z < 0 then fnd st 3 else (z, st)
def chF (F : Int → Int) (a y v : Int) : Int → Int := if y = 0 then upF F (28 + 5 * a + 2) v else if y = 1 then upF F (28 + 5 * a + 0) v else upF F (28 + 5 * a + 3) (bXor (F (28 + 5 * a + 3)) (bShl 1 v))
def chM (μ : mMem) (k : Nat) (y v : Int) : mMem := if y = 0 then u1 μ k 2 v else if y = 1 then u1 μ k 0 v else u1 μ k 3 (bXor (μ.1 k 3) (bShl 1 v))
theorem c_A_change {G : mG} {μ : mMem} {k : Nat} (hk : mCls k = 0) {y v : Int} (hy : y = 0 ∨ y = 1 ∨ y = 2) : mM G yX0_change cX0_change 3 none 0 [.ref k, .int (iV y), .int (iV v)] μ (pV (chM μ k y v)) := by
  rcases hy with rfl | rfl | rfl
  · exact c_A_chKey hk
  · exact c_A_chKind hk
  · exact c_A_chBlot hk
theorem nI_xor (a b : Nat) : nI a ^^^ nI b = nI (a ^^^ b) := by
  apply Int32.toBitVec.inj
  rw [Int32.toBitVec_xor]
  apply BitVec.eq_of_toNat_eq
  show ((BitVec.ofNat 32 a) ^^^ (BitVec.ofNat 32 b)).toNat = (BitVec.ofNat 32 (a ^^^ b)).toNat
  rw [BitVec.toNat_xor, BitVec.toNat_ofNat, BitVec.toNat_ofNat, BitVec.toNat_ofNat, Nat.xor_mod_two_pow]
theorem shl_tab : ∀ n : Nat, n < 12 → bShl 1 (n : Int) = ((2 ^ n : Nat) : Int) ∧ 2 ^ n < 4096 := by decide +kernel
theorem xor_bd {b v : Int} (hb : 0 ≤ b ∧ b < 4096) (hv : 0 ≤ v ∧ v < 12) : 0 ≤ bXor b (bShl 1 v) ∧ bXor b (bShl 1 v) < 4096 := by
  obtain ⟨h1, h2⟩ := shl_tab v.toNat (by omega)
  rw [show ((v.toNat : Nat) : Int) = v by omega] at h1
  rw [h1]
  obtain ⟨n, rfl⟩ : ∃ n : Nat, b = n := ⟨b.toNat, by omega⟩
  unfold bXor
  have h3 : n ^^^ 2 ^ v.toNat < 2 ^ 12 := Nat.xor_lt_two_pow (by omega) (by omega)
  rw [iV_nat, iV_nat, nI_xor, nI_toInt (by omega)]
  omega
theorem ch_fug {μ : mMem} {b : Nat} {F : Int → Int} (hF : FUG μ b F) (hI : fInv F) {a y v : Int} (ha : 0 ≤ a ∧ a < F 1) (hy : y = 0 ∨ y = 1 ∨ y = 2) : FUG (chM μ (b + 5 + 1 + a.toNat) y v) b (chF F a y v) ∧ FR b μ (chM μ (b + 5 + 1 + a.toNat) y v) := by
  have ea := hF.at hI ha
  unfold chM chF
  rcases hy with rfl | rfl | rfl
  · exact upF_fug hF hI ha (by omega)
  · exact upF_fug hF hI ha (by omega)
  · show FUG (u1 μ (b + 5 + 1 + a.toNat) 3 (bXor (μ.1 (b + 5 + 1 + a.toNat) 3) (bShl 1 v))) b (upF F (28 + 5 * a + 3) (bXor (F (28 + 5 * a + 3)) (bShl 1 v))) ∧ FR b μ (u1 μ (b + 5 + 1 + a.toNat) 3 (bXor (μ.1 (b + 5 + 1 + a.toNat) 3) (bShl 1 v)))
    rw [ea.2.2.2.1]
    exact upF_fug hF hI ha (by omega)
theorem ch_inv {F : Int → Int} (h : fInv F) {a y v : Int} (ha : 0 ≤ a ∧ a < 8) (hy : y = 0 ∨ y = 1 ∨ y = 2) (hv : 0 ≤ v ∧ v < 12) (h1 : y = 1 → v < 6) : fInv (chF F a y v) := by
  unfold chF
  rcases hy with rfl | rfl | rfl
  · exact upF_inv h ha (by omega) (by omega) (by omega) (by omega) (by omega) (by omega)
  · exact upF_inv h ha (by omega) (by omega) (by omega) (by omega) (by omega) (by omega)
  · have hb := xor_bd (h.2.2.2.2 a ha.1 ha.2).2.2.2.1 hv
    exact upF_inv h ha (by omega) (by omega) (by omega) (by omega) (by omega) (by omega)
theorem ch_0 {F : Int → Int} {a y v : Int} (ha : 0 ≤ a) : chF F a y v 0 = F 0 := by
  unfold chF
  split
  · rw [upF_o (by omega)]
  · split <;> rw [upF_o (by omega)]
def tmH (F : Int → Int) (a s y v : Int) : Int := fst (homeP s) 101 0 (chF F a y v)
def sp_key (st : aS) (a : Int) : Int × aS := if 0 ≤ a ∧ a < st.1 0 1 then bstR st (bst (tmH (st.1 0) a (st.1 0 (28 + 5 * a + 1)) 0) 12 0 (-1) 101) else fnd st 0
def sp_kind (st : aS) (a : Int) : Int × aS := if 0 ≤ a ∧ a < st.1 0 1 then bstR st (bst (tmH (st.1 0) a (st.1 0 (28 + 5 * a + 1)) 1) 6 0 (-1) 101) else fnd st 0
def sp_blot (st : aS) (a s : Int) : Int × aS := if (0 ≤ a ∧ a < st.1 0 1) ∧ (0 ≤ s ∧ s ≤ 1) then bstR st (bst (tmH (st.1 0) a s 2) 12 0 (-1) (fst (homeP s) 101 0 (st.1 0))) else fnd st 0
set_option maxHeartbeats 4000000 in
set_option maxRecDepth 100000 in
theorem c_X_soonest {G : mG} {μ : mMem} {st : aS} (hX : XR μ st) (hI : SI st) {a s y C L : Int} (ha : 0 ≤ a ∧ a < st.1 0 1) (hs : 0 ≤ s ∧ s ≤ 1) (hy : y = 0 ∨ y = 1 ∨ y = 2) (hC : 0 ≤ C ∧ C ≤ 12) (hC1 : y = 1 → C ≤ 6) (hL : 0 ≤ L ∧ L ≤ 101) : mM G yX6_soonestHome cX6_soonestHome 10 (some .int) 5 [.ref 0, .int (iV a), .int (iV s), .int (iV y), .int (iV C), .int (iV L)] μ (qX μ (bstR st (bst (tmH (st.1 0) a s y) C.toNat 0 (-1) L))) := by
  obtain ⟨hF, hK, hkp, htl, htb, hfd, hsh⟩ := id hX
  have hFI := hI.1
  have ec := hF.1
  have hn := hFI.2.1
  have ed := hF.2.1
  have h0 := hFI.1
  have h99 := hI.2.1
  have kat := bk_a bk29 (a := a) (by omega)
  refine mM.of (lv := [some (.ref 0), some (.int (iV a)), some (.int (iV s)), some (.int (iV y)), some (.int (iV C)), some (.int (iV L)), none, none, none, none]) 4 (by decide +kernel) (Nat.le_of_ble_eq_true rfl) rfl ?_
  intro X
  have lp : ∀ (n_ : Nat) (q9 : Option Value) (v l bv bx : Int) (m : mMem), (0 ≤ v) → (v ≤ C) → (13 ≤ v + n_) → (0 ≤ l ∧ l ≤ 101) → ((bv = -1 ∧ bx = -1000000004) ∨ (0 ≤ bv ∧ bv ≤ 12 ∧ bx = bv)) → (FR 29 μ m) → (bst (tmH (st.1 0) a s y) (C - v).toNat v bv l = bst (tmH (st.1 0) a s y) C.toNat 0 (-1) L) → mW X cX6_soonestHome 10 (some .int) yX6_soonestHome.cls 5 G (qX μ (bstR st (bst (tmH (st.1 0) a s y) C.toNat 0 (-1) L))) 11 [some (.ref 0), some (.int (iV a)), some (.int (iV s)), some (.int (iV y)), some (.int (iV C)), some (.int (iV L)), some (.int (iV bx)), some (.int (iV l)), some (.int (iV v)), q9] [] m := by
    intro n_
    induction n_ with
    | zero =>
      intro q9 v l bv bx m h1 h2 h3 hl hbx h4 h6
      omega
    | succ n_ ih =>
      intro q9 v l bv bx m h1 h2 h3 hl hbx h4 h6
      have hX2 := hX.try hI h4
      refine mw_iload dX6_soonestHome_11 rfl ?_
      refine mw_iload dX6_soonestHome_13 rfl ?_
      refine mw_icmp_ge (tgt := 72) dX6_soonestHome_15 (by decide) (by omega) (by omega) (fun c_15 => ?_) (fun c_15 => ?_)
      · refine mw_iload dX6_soonestHome_72 rfl ?_
        refine mw_ldc dX6_soonestHome_74 ct_X6_149 ?_
        refine mw_icmp_ne (tgt := 88) dX6_soonestHome_76 (by decide) (by omega) (by omega) (fun c_76 => ?_) (fun c_76 => ?_)
        · refine mw_iload dX6_soonestHome_88 rfl ?_
          refine mw_iret dX6_soonestHome_90 rfl ?_
          rw [show (C - v).toNat = 0 by omega, bst] at h6
          rw [← h6]
          refine ⟨_, rfl, ?_⟩
          unfold bstR
          rw [if_neg (by omega)]
          exact ⟨by omega, hX2, h4.xf bk29⟩
        · refine mw_aload_n dX6_soonestHome_79 rfl ?_
          refine mw_ldc dX6_soonestHome_80 ct_X6_149 ?_
          refine mw_Vi (ci := 6) dX6_soonestHome_82 ml_X6_62 ok_X6_found (by decide) (by first | rfl | assumption) (by decide) rfl rfl rfl (Nat.le_of_ble_eq_true rfl) (c_X_find hX2 hI 3 (by decide) (by decide)) (fun z_82 m_82 h_82 => ?_)
          refine mw_goto (tgt := 90) dX6_soonestHome_85 (by decide) ?_
          refine mw_iret dX6_soonestHome_90 rfl ?_
          rw [show (C - v).toNat = 0 by omega, bst] at h6
          rw [← h6]
          refine ⟨_, rfl, ?_⟩
          unfold bstR
          rw [if_pos (by omega)]
          exact ⟨h_82.1, h_82.2.1, XF.tr (h4.xf bk29) h_82.2.2⟩
      · refine mw_aload_n dX6_soonestHome_18 rfl ?_
        refine mw_Vv (ci := 6) dX6_soonestHome_19 ml_X6_183 ok_X6_startTrial (by decide) (by first | rfl | assumption) (by decide) rfl rfl rfl (Nat.le_of_ble_eq_true rfl) (c_X_startTrial hX2.1 hFI) (fun m_19 h_19 => ?_)
        have gch := ch_fug (y := y) (v := v) h_19.1 hFI ha hy
        have gin := ch_inv (y := y) (v := v) hFI (a := a) (by omega) hy (by omega) (by omega)
        refine mw_aload_n dX6_soonestHome_22 rfl ?_
        refine mw_gr_6_3 dX6_soonestHome_23 gs_X6_23 (by first | rfl | assumption) ?_
        refine mw_gr_1_2 dX6_soonestHome_26 gs_X6_120 (by first | rfl | assumption) ?_
        refine mw_iload_n dX6_soonestHome_29 rfl ?_
        refine mw_aa10 dX6_soonestHome_30 (by first | rfl | assumption) (by first | rfl | assumption) (by omega) ?_
        refine mw_iload_n dX6_soonestHome_31 rfl ?_
        refine mw_iload dX6_soonestHome_32 rfl ?_
        refine mw_Vpv (ci := 0) dX6_soonestHome_34 ml_X6_277 ok_X0_change (by decide) kat (by decide) rfl rfl rfl (Nat.le_of_ble_eq_true rfl) (c_A_change kat hy) ?_
        refine mw_aload_n dX6_soonestHome_37 rfl ?_
        refine mw_gr_6_3 dX6_soonestHome_38 gs_X6_23 (by first | rfl | assumption) ?_
        refine mw_iload_n dX6_soonestHome_41 rfl ?_
        refine mw_iload dX6_soonestHome_42 rfl ?_
        refine mw_iconst dX6_soonestHome_44 ?_
        refine mw_isub dX6_soonestHome_45 ?_
        refine mw_Vi (ci := 1) dX6_soonestHome_46 ml_X6_186 ok_X1_passDaysUntilHome (by decide) (by first | rfl | assumption) (by decide) rfl rfl rfl (Nat.le_of_ble_eq_true rfl) (c_F_untilHome bk29 gch.1 gin hs (by omega) (by rw [ch_0 ha.1]; omega)) (fun z_46 m_46 h_46 => ?_)
        obtain ⟨e_46, f_46⟩ := h_46
        rw [show (l - 1 + 1).toNat = l.toNat by omega, fst_cut (homeP s) l.toNat 101 0 _ (by omega)] at e_46
        rw [show fst (homeP s) 101 0 (chF (st.1 0) a y v) = tmH (st.1 0) a s y v from rfl] at e_46
        have b_46 := fst_bd (homeP s) 101 0 (chF (st.1 0) a y v)
        rw [show fst (homeP s) 101 0 (chF (st.1 0) a y v) = tmH (st.1 0) a s y v from rfl] at b_46
        have ft := (h4.tr h_19.2).tr (gch.2.tr f_46)
        rw [show (C - v).toNat = (C - (v + 1)).toNat + 1 by omega, bst] at h6
        refine mw_is9 dX6_soonestHome_49 (by decide) rfl ?_
        refine mw_iload dX6_soonestHome_51 rfl ?_
        refine mw_iload dX6_soonestHome_53 rfl ?_
        refine mw_icmp_ge (tgt := 66) dX6_soonestHome_55 (by decide) (by omega) (by omega) (fun c_55 => ?_) (fun c_55 => ?_)
        · refine mw_ii8 dX6_soonestHome_66 (by decide) rfl ?_
          refine mw_goto (tgt := 11) dX6_soonestHome_69 (by decide) ?_
          rw [if_neg (by omega)] at h6
          exact ih _ _ _ _ _ _ (by omega) (by omega) (by omega) hl hbx ft h6
        · refine mw_iload dX6_soonestHome_58 rfl ?_
          refine mw_is7 dX6_soonestHome_60 (by decide) rfl ?_
          refine mw_iload dX6_soonestHome_62 rfl ?_
          refine mw_is6 dX6_soonestHome_64 (by decide) rfl ?_
          refine mw_ii8 dX6_soonestHome_66 (by decide) rfl ?_
          refine mw_goto (tgt := 11) dX6_soonestHome_69 (by decide) ?_
          rw [if_pos (by omega)] at h6
          rw [show z_46 = tmH (st.1 0) a s y v by omega]
          exact ih _ _ _ _ _ _ (by omega) (by omega) (by omega) (by omega) (Or.inr ⟨h1, by omega, rfl⟩) ft h6
  refine mw_ldc dX6_soonestHome_0 ct_X6_149 ?_
  refine mw_is6 dX6_soonestHome_2 (by decide) rfl ?_
  refine mw_iload dX6_soonestHome_4 rfl ?_
  refine mw_is7 dX6_soonestHome_6 (by decide) rfl ?_
  refine mw_iconst dX6_soonestHome_8 ?_
  refine mw_is8 dX6_soonestHome_9 (by decide) rfl ?_
  exact lp 13 _ _ _ _ _ _ (by omega) (by omega) (by omega) hL (Or.inl ⟨rfl, rfl⟩) FR.rf (by rw [Int.sub_zero])
set_option maxHeartbeats 4000000 in
set_option maxRecDepth 100000 in
theorem c_X_key {G : mG} {μ : mMem} {st : aS} (hX : XR μ st) (hI : SI st) {a : Int} (ha_ : -2147483648 ≤ a ∧ a ≤ 2147483647) : mM G yX6_key cX6_key 3 (some .int) 6 [.ref 0, .int (iV a)] μ (qX μ (sp_key st a)) := by
  obtain ⟨hF, hK, hkp, htl, htb, hfd, hsh⟩ := id hX
  have hFI := hI.1
  have ec := hF.1
  have hn := hFI.2.1
  have ed := hF.2.1
  have h0 := hFI.1
  have h99 := hI.2.1
  refine mM.of (lv := [some (.ref 0), some (.int (iV a)), none]) 1 (by decide +kernel) (Nat.le_of_ble_eq_true rfl) rfl ?_
  intro X
  refine mw_aload_n dX6_key_0 rfl ?_
  refine mw_gr_6_0 dX6_key_1 gs_X6_10 (by first | rfl | assumption) ?_
  refine mw_iload_n dX6_key_4 rfl ?_
  refine mw_Vpi (ci := 1) dX6_key_5 ml_X6_117 ok_X1_has (by decide) (by first | rfl | assumption) (by decide) rfl rfl rfl (Nat.le_of_ble_eq_true rfl) (c_F_has bk1 (by rw [ec]; exact hn) (by omega)) ?_
  refine mw_if_ne (tgt := 18) dX6_key_8 (by decide) (hasI_bd _ _) (fun c_8 => ?_) (fun c_8 => ?_)
  · have d_8 := hasI_1 c_8
    have ea := hF.at hFI (a := a) (by omega)
    have kat := bk_a bk1 (a := a) (by omega)
    rw [ec] at d_8
    refine mw_aload_n dX6_key_18 rfl ?_
    refine mw_gr_6_0 dX6_key_19 gs_X6_10 (by first | rfl | assumption) ?_
    refine mw_gr_1_2 dX6_key_22 gs_X6_120 (by first | rfl | assumption) ?_
    refine mw_iload_n dX6_key_25 rfl ?_
    refine mw_aa10 dX6_key_26 (by first | rfl | assumption) (by first | rfl | assumption) (by omega) ?_
    refine mw_getI 1 dX6_key_27 gs_X6_129 kat rfl rfl ?_
    rw [ea.2.1]
    refine mw_is2 dX6_key_30 (by decide) rfl ?_
    refine mw_aload_n dX6_key_31 rfl ?_
    refine mw_iload_n dX6_key_32 rfl ?_
    refine mw_iload_n dX6_key_33 rfl ?_
    refine mw_iconst dX6_key_34 ?_
    refine mw_bipush dX6_key_35 (by decide +kernel) ?_
    refine mw_bipush dX6_key_37 (by decide +kernel) ?_
    refine mw_Vi (ci := 6) dX6_key_39 ml_X6_200 ok_X6_soonestHome (by decide) (by first | rfl | assumption) (by decide) rfl rfl rfl (Nat.le_of_ble_eq_true rfl) (c_X_soonest hX hI d_8 (by omega) (by omega) (by omega) (by omega) (by omega)) (fun z_39 m_39 h_39 => ?_)
    refine mw_iret dX6_key_42 rfl ?_
    refine ⟨_, rfl, ?_⟩
    unfold sp_key
    rw [if_pos d_8]
    exact h_39
  · have d_8 := hasI_0 c_8
    refine mw_aload_n dX6_key_11 rfl ?_
    refine mw_ldc dX6_key_12 ct_X6_61 ?_
    refine mw_Vi (ci := 6) dX6_key_14 ml_X6_62 ok_X6_found (by decide) (by first | rfl | assumption) (by decide) rfl rfl rfl (Nat.le_of_ble_eq_true rfl) (c_X_find hX hI 0 (by decide) (by decide)) (fun z_14 m_14 h_14 => ?_)
    refine mw_iret dX6_key_17 rfl ?_
    refine ⟨_, rfl, ?_⟩
    unfold sp_key
    rw [if_neg (by omega)]
    exact h_14
set_option maxHeartbeats 4000000 in
set_option maxRecDepth 100000 in
theorem c_X_kind {G : mG} {μ : mMem} {st : aS} (hX : XR μ st) (hI : SI st) {a : Int} (ha_ : -2147483648 ≤ a ∧ a ≤ 2147483647) : mM G yX6_kind cX6_kind 3 (some .int) 6 [.ref 0, .int (iV a)] μ (qX μ (sp_kind st a)) := by
  obtain ⟨hF, hK, hkp, htl, htb, hfd, hsh⟩ := id hX
  have hFI := hI.1
  have ec := hF.1
  have hn := hFI.2.1
  have ed := hF.2.1
  have h0 := hFI.1
  have h99 := hI.2.1
  refine mM.of (lv := [some (.ref 0), some (.int (iV a)), none]) 1 (by decide +kernel) (Nat.le_of_ble_eq_true rfl) rfl ?_
  intro X
  refine mw_aload_n dX6_kind_0 rfl ?_
  refine mw_gr_6_0 dX6_kind_1 gs_X6_10 (by first | rfl | assumption) ?_
  refine mw_iload_n dX6_kind_4 rfl ?_
  refine mw_Vpi (ci := 1) dX6_kind_5 ml_X6_117 ok_X1_has (by decide) (by first | rfl | assumption) (by decide) rfl rfl rfl (Nat.le_of_ble_eq_true rfl) (c_F_has bk1 (by rw [ec]; exact hn) (by omega)) ?_
  refine mw_if_ne (tgt := 18) dX6_kind_8 (by decide) (hasI_bd _ _) (fun c_8 => ?_) (fun c_8 => ?_)
  · have d_8 := hasI_1 c_8
    have ea := hF.at hFI (a := a) (by omega)
    have kat := bk_a bk1 (a := a) (by omega)
    rw [ec] at d_8
    refine mw_aload_n dX6_kind_18 rfl ?_
    refine mw_gr_6_0 dX6_kind_19 gs_X6_10 (by first | rfl | assumption) ?_
    refine mw_gr_1_2 dX6_kind_22 gs_X6_120 (by first | rfl | assumption) ?_
    refine mw_iload_n dX6_kind_25 rfl ?_
    refine mw_aa10 dX6_kind_26 (by first | rfl | assumption) (by first | rfl | assumption) (by omega) ?_
    refine mw_getI 1 dX6_kind_27 gs_X6_129 kat rfl rfl ?_
    rw [ea.2.1]
    refine mw_is2 dX6_kind_30 (by decide) rfl ?_
    refine mw_aload_n dX6_kind_31 rfl ?_
    refine mw_iload_n dX6_kind_32 rfl ?_
    refine mw_iload_n dX6_kind_33 rfl ?_
    refine mw_iconst dX6_kind_34 ?_
    refine mw_bipush dX6_kind_35 (by decide +kernel) ?_
    refine mw_bipush dX6_kind_37 (by decide +kernel) ?_
    refine mw_Vi (ci := 6) dX6_kind_39 ml_X6_200 ok_X6_soonestHome (by decide) (by first | rfl | assumption) (by decide) rfl rfl rfl (Nat.le_of_ble_eq_true rfl) (c_X_soonest hX hI d_8 (by omega) (by omega) (by omega) (by omega) (by omega)) (fun z_39 m_39 h_39 => ?_)
    refine mw_iret dX6_kind_42 rfl ?_
    refine ⟨_, rfl, ?_⟩
    unfold sp_kind
    rw [if_pos d_8]
    exact h_39
  · have d_8 := hasI_0 c_8
    refine mw_aload_n dX6_kind_11 rfl ?_
    refine mw_ldc dX6_kind_12 ct_X6_61 ?_
    refine mw_Vi (ci := 6) dX6_kind_14 ml_X6_62 ok_X6_found (by decide) (by first | rfl | assumption) (by decide) rfl rfl rfl (Nat.le_of_ble_eq_true rfl) (c_X_find hX hI 0 (by decide) (by decide)) (fun z_14 m_14 h_14 => ?_)
    refine mw_iret dX6_kind_17 rfl ?_
    refine ⟨_, rfl, ?_⟩
    unfold sp_kind
    rw [if_neg (by omega)]
    exact h_14
set_option maxHeartbeats 4000000 in
set_option maxRecDepth 100000 in
theorem c_X_blot {G : mG} {μ : mMem} {st : aS} (hX : XR μ st) (hI : SI st) {a s : Int} (ha_ : -2147483648 ≤ a ∧ a ≤ 2147483647) (hs_ : -2147483648 ≤ s ∧ s ≤ 2147483647) : mM G yX6_blot cX6_blot 4 (some .int) 6 [.ref 0, .int (iV a), .int (iV s)] μ (qX μ (sp_blot st a s)) := by
  obtain ⟨hF, hK, hkp, htl, htb, hfd, hsh⟩ := id hX
  have hFI := hI.1
  have ec := hF.1
  have hn := hFI.2.1
  have ed := hF.2.1
  have h0 := hFI.1
  have h99 := hI.2.1
  refine mM.of (lv := [some (.ref 0), some (.int (iV a)), some (.int (iV s)), none]) 1 (by decide +kernel) (Nat.le_of_ble_eq_true rfl) rfl ?_
  intro X
  refine mw_aload_n dX6_blot_0 rfl ?_
  refine mw_gr_6_0 dX6_blot_1 gs_X6_10 (by first | rfl | assumption) ?_
  refine mw_iload_n dX6_blot_4 rfl ?_
  refine mw_Vpi (ci := 1) dX6_blot_5 ml_X6_117 ok_X1_has (by decide) (by first | rfl | assumption) (by decide) rfl rfl rfl (Nat.le_of_ble_eq_true rfl) (c_F_has bk1 (by rw [ec]; exact hn) (by omega)) ?_
  refine mw_if_eq (tgt := 18) dX6_blot_8 (by decide) (hasI_bd _ _) (fun c_8 => ?_) (fun c_8 => ?_)
  · have d_8 := hasI_0 c_8
    refine mw_aload_n dX6_blot_18 rfl ?_
    refine mw_ldc dX6_blot_19 ct_X6_61 ?_
    refine mw_Vi (ci := 6) dX6_blot_21 ml_X6_62 ok_X6_found (by decide) (by first | rfl | assumption) (by decide) rfl rfl rfl (Nat.le_of_ble_eq_true rfl) (c_X_find hX hI 0 (by decide) (by decide)) (fun z_21 m_21 h_21 => ?_)
    refine mw_iret dX6_blot_24 rfl ?_
    refine ⟨_, rfl, ?_⟩
    unfold sp_blot
    rw [if_neg (by omega)]
    exact h_21
  · have d_8 := hasI_1 c_8
    refine mw_iload_n dX6_blot_11 rfl ?_
    refine mw_Spi dX6_blot_12 ml_X6_53 ok_X6_isSide (by decide) rfl rfl (Nat.le_of_ble_eq_true rfl) (c_X_isSide (by omega)) ?_
    refine mw_if_ne (tgt := 25) dX6_blot_15 (by decide) (wi_bd _ _ _) (fun c_15 => ?_) (fun c_15 => ?_)
    · have d_15 := wi_1 c_15
      refine mw_aload_n dX6_blot_25 rfl ?_
      refine mw_Vv (ci := 6) dX6_blot_26 ml_X6_183 ok_X6_startTrial (by decide) (by first | rfl | assumption) (by decide) rfl rfl rfl (Nat.le_of_ble_eq_true rfl) (c_X_startTrial hF hFI) (fun m_26 h_26 => ?_)
      refine mw_aload_n dX6_blot_29 rfl ?_
      refine mw_gr_6_3 dX6_blot_30 gs_X6_23 (by first | rfl | assumption) ?_
      refine mw_iload_n dX6_blot_33 rfl ?_
      refine mw_bipush dX6_blot_34 (by decide +kernel) ?_
      refine mw_Vi (ci := 1) dX6_blot_36 ml_X6_186 ok_X1_passDaysUntilHome (by decide) (by first | rfl | assumption) (by decide) rfl rfl rfl (Nat.le_of_ble_eq_true rfl) (c_F_untilHome bk29 h_26.1 hFI d_15 (by omega) (by omega)) (fun z_36 m_36 h_36 => ?_)
      obtain ⟨e_36, f_36⟩ := h_36
      rw [show ((100 : Int) + 1).toNat = 101 from rfl] at e_36
      have b_36 := fst_bd (homeP s) 101 0 (st.1 0)
      have ft := h_26.2.tr f_36
      have hX2 := hX.try hI ft
      rw [ec] at d_8
      refine mw_is3 dX6_blot_39 (by decide) rfl ?_
      refine mw_aload_n dX6_blot_40 rfl ?_
      refine mw_iload_n dX6_blot_41 rfl ?_
      refine mw_iload_n dX6_blot_42 rfl ?_
      refine mw_iconst dX6_blot_43 ?_
      refine mw_bipush dX6_blot_44 (by decide +kernel) ?_
      refine mw_iload_n dX6_blot_46 rfl ?_
      refine mw_Vi (ci := 6) dX6_blot_47 ml_X6_200 ok_X6_soonestHome (by decide) (by first | rfl | assumption) (by decide) rfl rfl rfl (Nat.le_of_ble_eq_true rfl) (c_X_soonest hX2 hI d_8 d_15 (by omega) (by omega) (by omega) (by omega)) (fun z_47 m_47 h_47 => ?_)
      refine mw_iret dX6_blot_50 rfl ?_
      refine ⟨_, rfl, ?_⟩
      unfold sp_blot
      rw [if_pos ⟨d_8, d_15⟩, ← e_36]
      exact ⟨h_47.1, h_47.2.1, (ft.xf bk29).tr h_47.2.2⟩
    · have d_15 := wi_0 c_15
      refine mw_aload_n dX6_blot_18 rfl ?_
      refine mw_ldc dX6_blot_19 ct_X6_61 ?_
      refine mw_Vi (ci := 6) dX6_blot_21 ml_X6_62 ok_X6_found (by decide) (by first | rfl | assumption) (by decide) rfl rfl rfl (Nat.le_of_ble_eq_true rfl) (c_X_find hX hI 0 (by decide) (by decide)) (fun z_21 m_21 h_21 => ?_)
      refine mw_iret dX6_blot_24 rfl ?_
      refine ⟨_, rfl, ?_⟩
      unfold sp_blot
      rw [if_neg (by omega)]
      exact h_21
def clm (T : Int → Int) : Nat → Int → Int → Int → Int
  | 0, _, b, l => 100 * b + l
  | k + 1, v, b, l => if T v < l then clm T k (v + 1) v (T v) else clm T k (v + 1) b l
def tmC (F : Int → Int) (a s n v : Int) : Int := TN (daysF n.toNat (upF F (28 + 5 * a + 2) v)) s
def sp_calm (st : aS) (a s n : Int) : Int × aS := if (0 ≤ a ∧ a < st.1 0 1) ∧ (0 ≤ s ∧ s ≤ 1) ∧ (0 ≤ n ∧ n ≤ 20) then (clm (tmC (st.1 0) a s n) 12 0 0 12, st) else fnd st 0
def kys (H : Int → Int) : Nat → Int → Int → Int
  | 0, _, c => c
  | k + 1, v, c => kys H k (v + 1) (c + (if H v = 0 then 0 else 1))
def tmK (F : Int → Int) (a s n v : Int) : Int := homeP s (daysF n.toNat (upF F (28 + 5 * a + 2) v))
def sp_keys (st : aS) (a n : Int) : Int × aS := if (0 ≤ a ∧ a < st.1 0 1) ∧ (0 ≤ n ∧ n ≤ 60) then (kys (tmK (st.1 0) a (st.1 0 (28 + 5 * a + 1)) n) 12 0 0, st) else fnd st 0
set_option maxHeartbeats 4000000 in
set_option maxRecDepth 100000 in
theorem c_X_calm {G : mG} {μ : mMem} {st : aS} (hX : XR μ st) (hI : SI st) {a s n : Int} (ha_ : -2147483648 ≤ a ∧ a ≤ 2147483647) (hs_ : -2147483648 ≤ s ∧ s ≤ 2147483647) (hn_ : -2147483648 ≤ n ∧ n ≤ 2147483647) : mM G yX6_calm cX6_calm 8 (some .int) 5 [.ref 0, .int (iV a), .int (iV s), .int (iV n)] μ (qX μ (sp_calm st a s n)) := by
  obtain ⟨hF, hK, hkp, htl, htb, hfd, hsh⟩ := id hX
  have hFI := hI.1
  have ec := hF.1
  have hn := hFI.2.1
  have ed := hF.2.1
  have h0 := hFI.1
  have h99 := hI.2.1
  refine mM.of (lv := [some (.ref 0), some (.int (iV a)), some (.int (iV s)), some (.int (iV n)), none, none, none, none]) 4 (by decide +kernel) (Nat.le_of_ble_eq_true rfl) rfl ?_
  intro X
  have lp : ∀ (n_ : Nat) (q7 : Option Value) (v bs l : Int) (m : mMem), (0 ≤ a ∧ a < st.1 0 1) → (0 ≤ s ∧ s ≤ 1) → (0 ≤ n ∧ n ≤ 20) → (0 ≤ v) → (v ≤ 12) → (13 ≤ v + n_) → (0 ≤ l ∧ l ≤ 12) → (FR 29 μ m) → (clm (tmC (st.1 0) a s n) (12 - v).toNat v bs l = clm (tmC (st.1 0) a s n) 12 0 0 12) → mW X cX6_calm 8 (some .int) yX6_calm.cls 5 G (qX μ (sp_calm st a s n)) 45 [some (.ref 0), some (.int (iV a)), some (.int (iV s)), some (.int (iV n)), some (.int (iV bs)), some (.int (iV l)), some (.int (iV v)), q7] [] m := by
    intro n_
    induction n_ with
    | zero =>
      intro q7 v bs l m ha hs hN h1 h2 h3 hl h4 h6
      omega
    | succ n_ ih =>
      intro q7 v bs l m ha hs hN h1 h2 h3 hl h4 h6
      have hX2 := hX.try hI h4
      have kat := bk_a bk29 (a := a) (by omega)
      refine mw_iload dX6_calm_45 rfl ?_
      refine mw_bipush dX6_calm_47 (by decide +kernel) ?_
      refine mw_icmp_ge (tgt := 112) dX6_calm_49 (by decide) (by omega) (by omega) (fun c_49 => ?_) (fun c_49 => ?_)
      · refine mw_bipush dX6_calm_112 (by decide +kernel) ?_
        refine mw_iload dX6_calm_114 rfl ?_
        refine mw_imul dX6_calm_116 ?_
        refine mw_iload dX6_calm_117 rfl ?_
        refine mw_iadd dX6_calm_119 ?_
        refine mw_iret dX6_calm_120 rfl ?_
        rw [show (12 - v).toNat = 0 by omega, clm] at h6
        refine ⟨_, rfl, ?_⟩
        unfold sp_calm
        rw [if_pos (by omega)]
        exact ⟨h6, hX2, h4.xf bk29⟩
      · refine mw_aload_n dX6_calm_52 rfl ?_
        refine mw_Vv (ci := 6) dX6_calm_53 ml_X6_183 ok_X6_startTrial (by decide) (by first | rfl | assumption) (by decide) rfl rfl rfl (Nat.le_of_ble_eq_true rfl) (c_X_startTrial hX2.1 hFI) (fun m_53 h_53 => ?_)
        have gup := upF_fug (f := 2) (v := v) h_53.1 hFI ha (by omega)
        have gin := upF_inv (f := 2) (v := v) hFI (a := a) (by omega) (by omega) (by omega) (by omega) (by omega) (by omega) (by omega)
        refine mw_aload_n dX6_calm_56 rfl ?_
        refine mw_gr_6_3 dX6_calm_57 gs_X6_23 (by first | rfl | assumption) ?_
        refine mw_gr_1_2 dX6_calm_60 gs_X6_120 (by first | rfl | assumption) ?_
        refine mw_iload_n dX6_calm_63 rfl ?_
        refine mw_aa10 dX6_calm_64 (by first | rfl | assumption) (by first | rfl | assumption) (by omega) ?_
        refine mw_iload dX6_calm_65 rfl ?_
        refine mw_putI 2 dX6_calm_67 ps_X6_132 kat rfl rfl ?_
        refine mw_aload_n dX6_calm_70 rfl ?_
        refine mw_gr_6_3 dX6_calm_71 gs_X6_23 (by first | rfl | assumption) ?_
        refine mw_iload_n dX6_calm_74 rfl ?_
        refine mw_Vv (ci := 1) dX6_calm_75 ml_X6_165 ok_X1_passDays (by decide) (by first | rfl | assumption) (by decide) rfl rfl rfl (Nat.le_of_ble_eq_true rfl) (c_F_passDays bk29 gup.1 gin (by omega) (by rw [upF_o (by omega)]; omega)) (fun m_75 h_75 => ?_)
        have ft := (h4.tr h_53.2).tr (gup.2.tr h_75.2)
        have th := bk_t bk29 s
        have tnh := h_75.1.tn (days_inv gin _) (s := s) hs
        refine mw_aload_n dX6_calm_78 rfl ?_
        refine mw_gr_6_3 dX6_calm_79 gs_X6_23 (by first | rfl | assumption) ?_
        refine mw_iload_n dX6_calm_82 rfl ?_
        refine mw_Vpr (ci := 1) dX6_calm_83 ml_X6_66 ok_X1_tuneOf (by decide) (by first | rfl | assumption) (by decide) rfl rfl rfl (Nat.le_of_ble_eq_true rfl) (c_F_tuneOf bk29 hs) ?_
        refine mw_Vpi (ci := 5) dX6_calm_86 ml_X6_89 ok_X5_wideLeaps (by decide) th.1 (by decide) rfl rfl rfl (Nat.le_of_ble_eq_true rfl) (c_T_wide th.1 th.2.1 th.2.2 tnh.2.1 tnh.2.2.1) ?_
        rw [tens_eq h_75.1 (days_inv gin _) hs]
        have htn := tn_len (days_inv gin n.toNat) s hs
        rw [show TN (daysF n.toNat (upF (st.1 0) (28 + 5 * a + 2) v)) s = tmC (st.1 0) a s n v from rfl] at htn ⊢
        rw [show (12 - v).toNat = (12 - (v + 1)).toNat + 1 by omega, clm] at h6
        refine mw_is7 dX6_calm_89 (by decide) rfl ?_
        refine mw_iload dX6_calm_91 rfl ?_
        refine mw_iload dX6_calm_93 rfl ?_
        refine mw_icmp_ge (tgt := 106) dX6_calm_95 (by decide) (by omega) (by omega) (fun c_95 => ?_) (fun c_95 => ?_)
        · refine mw_ii6 dX6_calm_106 (by decide) rfl ?_
          refine mw_goto (tgt := 45) dX6_calm_109 (by decide) ?_
          rw [if_neg (by omega)] at h6
          exact ih _ _ _ _ _ ha hs hN (by omega) (by omega) (by omega) hl ft h6
        · refine mw_iload dX6_calm_98 rfl ?_
          refine mw_is5 dX6_calm_100 (by decide) rfl ?_
          refine mw_iload dX6_calm_102 rfl ?_
          refine mw_is4 dX6_calm_104 (by decide) rfl ?_
          refine mw_ii6 dX6_calm_106 (by decide) rfl ?_
          refine mw_goto (tgt := 45) dX6_calm_109 (by decide) ?_
          rw [if_pos (by omega)] at h6
          exact ih _ _ _ _ _ ha hs hN (by omega) (by omega) (by omega) (by omega) ft h6
  refine mw_aload_n dX6_calm_0 rfl ?_
  refine mw_gr_6_0 dX6_calm_1 gs_X6_10 (by first | rfl | assumption) ?_
  refine mw_iload_n dX6_calm_4 rfl ?_
  refine mw_Vpi (ci := 1) dX6_calm_5 ml_X6_117 ok_X1_has (by decide) (by first | rfl | assumption) (by decide) rfl rfl rfl (Nat.le_of_ble_eq_true rfl) (c_F_has bk1 (by rw [ec]; exact hn) (by omega)) ?_
  refine mw_if_eq (tgt := 28) dX6_calm_8 (by decide) (hasI_bd _ _) (fun c_8 => ?_) (fun c_8 => ?_)
  · have d_8 := hasI_0 c_8
    refine mw_aload_n dX6_calm_28 rfl ?_
    refine mw_ldc dX6_calm_29 ct_X6_61 ?_
    refine mw_Vi (ci := 6) dX6_calm_31 ml_X6_62 ok_X6_found (by decide) (by first | rfl | assumption) (by decide) rfl rfl rfl (Nat.le_of_ble_eq_true rfl) (c_X_find hX hI 0 (by decide) (by decide)) (fun z_31 m_31 h_31 => ?_)
    refine mw_iret dX6_calm_34 rfl ?_
    refine ⟨_, rfl, ?_⟩
    unfold sp_calm
    rw [if_neg (by omega)]
    exact h_31
  · have d_8 := hasI_1 c_8
    refine mw_iload_n dX6_calm_11 rfl ?_
    refine mw_Spi dX6_calm_12 ml_X6_53 ok_X6_isSide (by decide) rfl rfl (Nat.le_of_ble_eq_true rfl) (c_X_isSide (by omega)) ?_
    refine mw_if_eq (tgt := 28) dX6_calm_15 (by decide) (wi_bd _ _ _) (fun c_15 => ?_) (fun c_15 => ?_)
    · have d_15 := wi_0 c_15
      refine mw_aload_n dX6_calm_28 rfl ?_
      refine mw_ldc dX6_calm_29 ct_X6_61 ?_
      refine mw_Vi (ci := 6) dX6_calm_31 ml_X6_62 ok_X6_found (by decide) (by first | rfl | assumption) (by decide) rfl rfl rfl (Nat.le_of_ble_eq_true rfl) (c_X_find hX hI 0 (by decide) (by decide)) (fun z_31 m_31 h_31 => ?_)
      refine mw_iret dX6_calm_34 rfl ?_
      refine ⟨_, rfl, ?_⟩
      unfold sp_calm
      rw [if_neg (by omega)]
      exact h_31
    · have d_15 := wi_1 c_15
      refine mw_iload_n dX6_calm_18 rfl ?_
      refine mw_iconst dX6_calm_19 ?_
      refine mw_bipush dX6_calm_20 (by decide +kernel) ?_
      refine mw_Spi dX6_calm_22 ml_X6_57 ok_X6_isWithin (by decide) rfl rfl (Nat.le_of_ble_eq_true rfl) (c_X_within (by omega) (by omega) (by omega)) ?_
      refine mw_if_ne (tgt := 35) dX6_calm_25 (by decide) (wi_bd _ _ _) (fun c_25 => ?_) (fun c_25 => ?_)
      · have d_25 := wi_1 c_25
        refine mw_iconst dX6_calm_35 ?_
        refine mw_is4 dX6_calm_36 (by decide) rfl ?_
        refine mw_bipush dX6_calm_38 (by decide +kernel) ?_
        refine mw_is5 dX6_calm_40 (by decide) rfl ?_
        refine mw_iconst dX6_calm_42 ?_
        refine mw_is6 dX6_calm_43 (by decide) rfl ?_
        exact lp 13 _ _ _ _ _ (by omega) (by omega) (by omega) (by omega) (by omega) (by omega) (by omega) FR.rf rfl
      · have d_25 := wi_0 c_25
        refine mw_aload_n dX6_calm_28 rfl ?_
        refine mw_ldc dX6_calm_29 ct_X6_61 ?_
        refine mw_Vi (ci := 6) dX6_calm_31 ml_X6_62 ok_X6_found (by decide) (by first | rfl | assumption) (by decide) rfl rfl rfl (Nat.le_of_ble_eq_true rfl) (c_X_find hX hI 0 (by decide) (by decide)) (fun z_31 m_31 h_31 => ?_)
        refine mw_iret dX6_calm_34 rfl ?_
        refine ⟨_, rfl, ?_⟩
        unfold sp_calm
        rw [if_neg (by omega)]
        exact h_31
set_option maxHeartbeats 4000000 in
set_option maxRecDepth 100000 in
theorem c_X_keys {G : mG} {μ : mMem} {st : aS} (hX : XR μ st) (hI : SI st) {a n : Int} (ha_ : -2147483648 ≤ a ∧ a ≤ 2147483647) (hn_ : -2147483648 ≤ n ∧ n ≤ 2147483647) : mM G yX6_keys cX6_keys 6 (some .int) 5 [.ref 0, .int (iV a), .int (iV n)] μ (qX μ (sp_keys st a n)) := by
  obtain ⟨hF, hK, hkp, htl, htb, hfd, hsh⟩ := id hX
  have hFI := hI.1
  have ec := hF.1
  have hn := hFI.2.1
  have ed := hF.2.1
  have h0 := hFI.1
  have h99 := hI.2.1
  refine mM.of (lv := [some (.ref 0), some (.int (iV a)), some (.int (iV n)), none, none, none]) 3 (by decide +kernel) (Nat.le_of_ble_eq_true rfl) rfl ?_
  intro X
  have lp : ∀ (n_ : Nat) (s v c : Int) (m : mMem), (0 ≤ a ∧ a < st.1 0 1) → (s = st.1 0 (28 + 5 * a + 1)) → (0 ≤ s ∧ s ≤ 1) → (0 ≤ n ∧ n ≤ 60) → (0 ≤ v) → (v ≤ 12) → (13 ≤ v + n_) → (FR 29 μ m) → (kys (tmK (st.1 0) a s n) (12 - v).toNat v c = kys (tmK (st.1 0) a s n) 12 0 0) → mW X cX6_keys 6 (some .int) yX6_keys.cls 5 G (qX μ (sp_keys st a n)) 47 [some (.ref 0), some (.int (iV a)), some (.int (iV n)), some (.int (iV s)), some (.int (iV c)), some (.int (iV v))] [] m := by
    intro n_
    induction n_ with
    | zero =>
      intro s v c m ha es hs hN h1 h2 h3 h4 h6
      omega
    | succ n_ ih =>
      intro s v c m ha es hs hN h1 h2 h3 h4 h6
      have hX2 := hX.try hI h4
      have kat := bk_a bk29 (a := a) (by omega)
      refine mw_iload dX6_keys_47 rfl ?_
      refine mw_bipush dX6_keys_49 (by decide +kernel) ?_
      refine mw_icmp_ge (tgt := 103) dX6_keys_51 (by decide) (by omega) (by omega) (fun c_51 => ?_) (fun c_51 => ?_)
      · refine mw_iload dX6_keys_103 rfl ?_
        refine mw_iret dX6_keys_105 rfl ?_
        rw [show (12 - v).toNat = 0 by omega, kys] at h6
        refine ⟨_, rfl, ?_⟩
        unfold sp_keys
        rw [if_pos (by omega)]
        exact ⟨by rw [← es]; exact h6, hX2, h4.xf bk29⟩
      · refine mw_aload_n dX6_keys_54 rfl ?_
        refine mw_Vv (ci := 6) dX6_keys_55 ml_X6_183 ok_X6_startTrial (by decide) (by first | rfl | assumption) (by decide) rfl rfl rfl (Nat.le_of_ble_eq_true rfl) (c_X_startTrial hX2.1 hFI) (fun m_55 h_55 => ?_)
        have gup := upF_fug (f := 2) (v := v) h_55.1 hFI ha (by omega)
        have gin := upF_inv (f := 2) (v := v) hFI (a := a) (by omega) (by omega) (by omega) (by omega) (by omega) (by omega) (by omega)
        refine mw_aload_n dX6_keys_58 rfl ?_
        refine mw_gr_6_3 dX6_keys_59 gs_X6_23 (by first | rfl | assumption) ?_
        refine mw_gr_1_2 dX6_keys_62 gs_X6_120 (by first | rfl | assumption) ?_
        refine mw_iload_n dX6_keys_65 rfl ?_
        refine mw_aa10 dX6_keys_66 (by first | rfl | assumption) (by first | rfl | assumption) (by omega) ?_
        refine mw_iload dX6_keys_67 rfl ?_
        refine mw_putI 2 dX6_keys_69 ps_X6_132 kat rfl rfl ?_
        refine mw_aload_n dX6_keys_72 rfl ?_
        refine mw_gr_6_3 dX6_keys_73 gs_X6_23 (by first | rfl | assumption) ?_
        refine mw_iload_n dX6_keys_76 rfl ?_
        refine mw_Vv (ci := 1) dX6_keys_77 ml_X6_165 ok_X1_passDays (by decide) (by first | rfl | assumption) (by decide) rfl rfl rfl (Nat.le_of_ble_eq_true rfl) (c_F_passDays bk29 gup.1 gin (by omega) (by rw [upF_o (by omega)]; omega)) (fun m_77 h_77 => ?_)
        have ft := (h4.tr h_55.2).tr (gup.2.tr h_77.2)
        have th := bk_t bk29 s
        have tnh := h_77.1.tn (days_inv gin _) (s := s) hs
        refine mw_aload_n dX6_keys_80 rfl ?_
        refine mw_gr_6_3 dX6_keys_81 gs_X6_23 (by first | rfl | assumption) ?_
        refine mw_iload_n dX6_keys_84 rfl ?_
        refine mw_Vpr (ci := 1) dX6_keys_85 ml_X6_66 ok_X1_tuneOf (by decide) (by first | rfl | assumption) (by decide) rfl rfl rfl (Nat.le_of_ble_eq_true rfl) (c_F_tuneOf bk29 hs) ?_
        refine mw_Vpi (ci := 5) dX6_keys_88 ml_X6_93 ok_X5_isHome (by decide) th.1 (by decide) rfl rfl rfl (Nat.le_of_ble_eq_true rfl) (c_T_isHome th.1 th.2.1 th.2.2 tnh.2.1 (fun q => tnh.2.2.1 _ (by omega) (by omega))) ?_
        rw [home_eq h_77.1 (days_inv gin _) hs]
        have hhc := home_c s (daysF n.toNat (upF (st.1 0) (28 + 5 * a + 2) v))
        rw [show homeP s (daysF n.toNat (upF (st.1 0) (28 + 5 * a + 2) v)) = tmK (st.1 0) a s n v from rfl] at hhc ⊢
        rw [show (12 - v).toNat = (12 - (v + 1)).toNat + 1 by omega, kys] at h6
        refine mw_if_eq (tgt := 97) dX6_keys_91 (by decide) (by omega) (fun c_91 => ?_) (fun c_91 => ?_)
        · refine mw_ii5 dX6_keys_97 (by decide) rfl ?_
          refine mw_goto (tgt := 47) dX6_keys_100 (by decide) ?_
          rw [if_pos c_91, Int.add_zero] at h6
          exact ih _ _ _ _ ha es hs hN (by omega) (by omega) (by omega) ft h6
        · refine mw_ii4 dX6_keys_94 (by decide) rfl ?_
          refine mw_ii5 dX6_keys_97 (by decide) rfl ?_
          refine mw_goto (tgt := 47) dX6_keys_100 (by decide) ?_
          rw [if_neg c_91] at h6
          exact ih _ _ _ _ ha es hs hN (by omega) (by omega) (by omega) ft h6
  refine mw_aload_n dX6_keys_0 rfl ?_
  refine mw_gr_6_0 dX6_keys_1 gs_X6_10 (by first | rfl | assumption) ?_
  refine mw_iload_n dX6_keys_4 rfl ?_
  refine mw_Vpi (ci := 1) dX6_keys_5 ml_X6_117 ok_X1_has (by decide) (by first | rfl | assumption) (by decide) rfl rfl rfl (Nat.le_of_ble_eq_true rfl) (c_F_has bk1 (by rw [ec]; exact hn) (by omega)) ?_
  refine mw_if_eq (tgt := 21) dX6_keys_8 (by decide) (hasI_bd _ _) (fun c_8 => ?_) (fun c_8 => ?_)
  · have d_8 := hasI_0 c_8
    refine mw_aload_n dX6_keys_21 rfl ?_
    refine mw_ldc dX6_keys_22 ct_X6_61 ?_
    refine mw_Vi (ci := 6) dX6_keys_24 ml_X6_62 ok_X6_found (by decide) (by first | rfl | assumption) (by decide) rfl rfl rfl (Nat.le_of_ble_eq_true rfl) (c_X_find hX hI 0 (by decide) (by decide)) (fun z_24 m_24 h_24 => ?_)
    refine mw_iret dX6_keys_27 rfl ?_
    refine ⟨_, rfl, ?_⟩
    unfold sp_keys
    rw [if_neg (by omega)]
    exact h_24
  · have d_8 := hasI_1 c_8
    refine mw_iload_n dX6_keys_11 rfl ?_
    refine mw_iconst dX6_keys_12 ?_
    refine mw_bipush dX6_keys_13 (by decide +kernel) ?_
    refine mw_Spi dX6_keys_15 ml_X6_57 ok_X6_isWithin (by decide) rfl rfl (Nat.le_of_ble_eq_true rfl) (c_X_within (by omega) (by omega) (by omega)) ?_
    refine mw_if_ne (tgt := 28) dX6_keys_18 (by decide) (wi_bd _ _ _) (fun c_18 => ?_) (fun c_18 => ?_)
    · have d_18 := wi_1 c_18
      have ea := hF.at hFI (a := a) (by omega)
      have kat := bk_a bk1 (a := a) (by omega)
      refine mw_aload_n dX6_keys_28 rfl ?_
      refine mw_gr_6_0 dX6_keys_29 gs_X6_10 (by first | rfl | assumption) ?_
      refine mw_gr_1_2 dX6_keys_32 gs_X6_120 (by first | rfl | assumption) ?_
      refine mw_iload_n dX6_keys_35 rfl ?_
      refine mw_aa10 dX6_keys_36 (by first | rfl | assumption) (by first | rfl | assumption) (by omega) ?_
      refine mw_getI 1 dX6_keys_37 gs_X6_129 kat rfl rfl ?_
      rw [ea.2.1]
      refine mw_is3 dX6_keys_40 (by decide) rfl ?_
      refine mw_iconst dX6_keys_41 ?_
      refine mw_is4 dX6_keys_42 (by decide) rfl ?_
      refine mw_iconst dX6_keys_44 ?_
      refine mw_is5 dX6_keys_45 (by decide) rfl ?_
      exact lp 13 _ _ _ _ (by omega) rfl (by omega) (by omega) (by omega) (by omega) (by omega) FR.rf rfl
    · have d_18 := wi_0 c_18
      refine mw_aload_n dX6_keys_21 rfl ?_
      refine mw_ldc dX6_keys_22 ct_X6_61 ?_
      refine mw_Vi (ci := 6) dX6_keys_24 ml_X6_62 ok_X6_found (by decide) (by first | rfl | assumption) (by decide) rfl rfl rfl (Nat.le_of_ble_eq_true rfl) (c_X_find hX hI 0 (by decide) (by decide)) (fun z_24 m_24 h_24 => ?_)
      refine mw_iret dX6_keys_27 rfl ?_
      refine ⟨_, rfl, ?_⟩
      unfold sp_keys
      rw [if_neg (by omega)]
      exact h_24

def sp_days (st : aS) (n : Int) : Int × aS := if 1 ≤ n ∧ n ≤ 60 then (if 9999 < st.1 0 0 + n then fnd st 4 else (TN (daysF n.toNat (st.1 0)) 0 + TN (daysF n.toNat (st.1 0)) 1, sU st 0 (daysF n.toNat (st.1 0)))) else fnd st 0
def sp_now (st : aS) (v : Int) : Int × aS := if v = 0 then (st.1 0 0, st) else if v = 1 then (st.1 0 0 % 2, st) else if v = 2 then (whose (st.1 0), st) else if v = 3 then (homeP 0 (st.1 0) + 2 * homeP 1 (st.1 0), st) else if v = 4 then (alikeP (st.1 0), st) else if v = 5 then (unP (st.1 0), st) else fnd st 0
def sp_on (st : aS) (s i n : Int) : Int × aS := if (0 ≤ s ∧ s ≤ 1) ∧ (0 ≤ i ∧ i ≤ 11) ∧ (0 ≤ n ∧ n ≤ 60) then (if i < daysF n.toNat (st.1 0) (2 + s) then (daysF n.toNat (st.1 0) (4 + 12 * s + i), st) else fnd st 3) else fnd st 0
def sp_tension (st : aS) (s n : Int) : Int × aS := if (0 ≤ s ∧ s ≤ 1) ∧ (0 ≤ n ∧ n ≤ 60) then (TN (daysF n.toNat (st.1 0)) s, st) else fnd st 0
def sp_home (st : aS) (s : Int) : Int × aS := if 0 ≤ s ∧ s ≤ 1 then (if 200 < fst (homeP s) 201 0 (st.1 0) then fnd st 3 else (fst (homeP s) 201 0 (st.1 0), st)) else fnd st 0
def sp_alike (st : aS) : Int × aS := if 200 < fst alikeP 201 0 (st.1 0) then fnd st 3 else (fst alikeP 201 0 (st.1 0), st)
def sameP (F0 : Int → Int) (s : Int) (F : Int → Int) : Int := sameI (unlk (tn F s) (tn F0 s) (F (2 + s)) (F0 (2 + s)) (max (F (2 + s)) (F0 (2 + s))).toNat)
def agn (F0 : Int → Int) (s : Int) : Nat → Int → Int → (Int → Int) → Int
  | 0, _, _, _ => -1
  | k + 1, n, was, F => if ¬ sameP F0 s (dayF F) = 0 ∧ ¬ was = 0 then n else agn F0 s k (n + 1) (if was = 0 ∧ ¬ sameP F0 s (dayF F) = 0 then 0 else 1) (dayF F)
theorem agn_r (F0 : Int → Int) (s : Int) : ∀ (k : Nat) (n was : Int) (F : Int → Int), agn F0 s k n was F = -1 ∨ (n ≤ agn F0 s k n was F ∧ agn F0 s k n was F < n + k)
  | 0, _, _, _ => Or.inl rfl
  | k + 1, n, was, F => by
    rw [agn]
    split
    · exact Or.inr ⟨by omega, by omega⟩
    · rcases agn_r F0 s k (n + 1) (if was = 0 ∧ ¬ sameP F0 s (dayF F) = 0 then 0 else 1) (dayF F) with h | h
      · exact Or.inl h
      · exact Or.inr ⟨by omega, by omega⟩
def sp_again (st : aS) (s : Int) : Int × aS := if 0 ≤ s ∧ s ≤ 1 then (if agn (st.1 0) s 200 1 0 (st.1 0) < 0 then fnd st 3 else (agn (st.1 0) s 200 1 0 (st.1 0), st)) else fnd st 0
theorem same_c (F0 : Int → Int) (s : Int) (F : Int → Int) : sameP F0 s F = 0 ∨ sameP F0 s F = 1 := by unfold sameP sameI; split <;> simp
theorem same_eq {μ : mMem} {b b2 : Nat} {F F2 : Int → Int} (hF : FUG μ b F) (hI : fInv F) (hF2 : FUG μ b2 F2) (hI2 : fInv F2) {s : Int} (hs : 0 ≤ s ∧ s ≤ 1) : sameI (unlk (μ.1 (tc b s + 1)) (μ.1 (tc b2 s + 1)) (μ.1 (tc b s) 1) (μ.1 (tc b2 s) 1) (max (μ.1 (tc b s) 1) (μ.1 (tc b2 s) 1)).toNat) = sameP F2 s F := by
  have h0 := hF.tn hI hs
  have h1 := hF2.tn hI2 hs
  unfold sameP
  rw [h0.1, h1.1]
  congr 1
  exact unlk_congr _ (fun i q1 q2 q3 q4 => ⟨h0.2.2.2 i q1 q3, h1.2.2.2 i q1 q4⟩)
set_option maxHeartbeats 4000000 in
set_option maxRecDepth 100000 in
theorem c_X_set {G : mG} {μ : mMem} {st : aS} (hX : XR μ st) (hI : SI st) {a v x : Int} (ha_ : -2147483648 ≤ a ∧ a ≤ 2147483647) (hv_ : -2147483648 ≤ v ∧ v ≤ 2147483647) (hx_ : -2147483648 ≤ x ∧ x ≤ 2147483647) : mM G yX6_set cX6_set 6 (some .int) 2 [.ref 0, .int (iV a), .int (iV v), .int (iV x)] μ (qX μ (sp_set st a v x)) := by
  obtain ⟨hF, hK, hkp, htl, htb, hfd, hsh⟩ := id hX
  have hFI := hI.1
  have ec := hF.1
  have hn := hFI.2.1
  have ed := hF.2.1
  have h0 := hFI.1
  have h99 := hI.2.1
  have hmb := mostS_bd v
  refine mM.of (lv := [some (.ref 0), some (.int (iV a)), some (.int (iV v)), some (.int (iV x)), none, none]) 2 (by decide +kernel) (Nat.le_of_ble_eq_true rfl) rfl ?_
  intro X
  refine mw_aload_n dX6_set_0 rfl ?_
  refine mw_gr_6_0 dX6_set_1 gs_X6_10 (by first | rfl | assumption) ?_
  refine mw_iload_n dX6_set_4 rfl ?_
  refine mw_Vpi (ci := 1) dX6_set_5 ml_X6_117 ok_X1_has (by decide) (by first | rfl | assumption) (by decide) rfl rfl rfl (Nat.le_of_ble_eq_true rfl) (c_F_has bk1 (by rw [ec]; exact hn) (by omega)) ?_
  refine mw_if_eq (tgt := 23) dX6_set_8 (by decide) (hasI_bd _ _) (fun c_8 => ?_) (fun c_8 => ?_)
  · have d_8 := hasI_0 c_8
    refine mw_aload_n dX6_set_23 rfl ?_
    refine mw_ldc dX6_set_24 ct_X6_61 ?_
    refine mw_Vi (ci := 6) dX6_set_26 ml_X6_62 ok_X6_found (by decide) (by first | rfl | assumption) (by decide) rfl rfl rfl (Nat.le_of_ble_eq_true rfl) (c_X_find hX hI 0 (by decide) (by decide)) (fun z_26 m_26 h_26 => ?_)
    refine mw_iret dX6_set_29 rfl ?_
    refine ⟨_, rfl, ?_⟩
    unfold sp_set
    rw [if_neg (fun q => by omega)]
    exact h_26
  · have d_8 := hasI_1 c_8
    refine mw_iload_n dX6_set_11 rfl ?_
    refine mw_iconst dX6_set_12 ?_
    refine mw_iload_n dX6_set_13 rfl ?_
    refine mw_Spi dX6_set_14 ml_X6_153 ok_X6_mostToSet (by decide) rfl rfl (Nat.le_of_ble_eq_true rfl) (c_X_mostToSet (by omega)) ?_
    rw [show (if v = 1 then (1 : Int) else if v = 2 then 11 else if v = 3 then 4095 else if v = 4 then 9999 else -1) = mostS v from rfl]
    refine mw_Spi dX6_set_17 ml_X6_57 ok_X6_isWithin (by decide) rfl rfl (Nat.le_of_ble_eq_true rfl) (c_X_within (by omega) (by omega) (by omega)) ?_
    refine mw_if_ne (tgt := 30) dX6_set_20 (by decide) (wi_bd _ _ _) (fun c_20 => ?_) (fun c_20 => ?_)
    · have d_20 := wi_1 c_20
      have ea := hF.at hFI (a := a) (by omega)
      have kat := bk_a bk1 (a := a) (by omega)
      have hv4 := mostS_c d_20
      refine mw_aload_n dX6_set_30 rfl ?_
      refine mw_gr_6_0 dX6_set_31 gs_X6_10 (by first | rfl | assumption) ?_
      refine mw_gr_1_2 dX6_set_34 gs_X6_120 (by first | rfl | assumption) ?_
      refine mw_iload_n dX6_set_37 rfl ?_
      refine mw_aa10 dX6_set_38 (by first | rfl | assumption) (by first | rfl | assumption) (by omega) ?_
      refine mw_as4 dX6_set_39 (by decide) rfl ?_
      refine mw_iload_n dX6_set_41 rfl ?_
      rcases (show v = 1 ∨ v = 2 ∨ v = 3 ∨ (v < 1 ∨ 3 < v) by omega) with rfl | rfl | rfl | c_42
      · refine mw_tblIn (off := 26) (tgt := 68) dX6_set_42 (by decide) (by decide) (by decide) (by decide) (by decide) ?_
        refine mw_aload dX6_set_68 rfl ?_
        refine mw_getI 1 dX6_set_70 gs_X6_129 kat rfl rfl ?_
        refine mw_is5 dX6_set_73 (by decide) rfl ?_
        refine mw_aload dX6_set_75 rfl ?_
        refine mw_iload_n dX6_set_77 rfl ?_
        refine mw_putI 1 dX6_set_78 ps_X6_129 kat rfl rfl ?_
        refine mw_iload dX6_set_81 rfl ?_
        refine mw_iret dX6_set_83 rfl ?_
        have g := upF_fug hF hFI (a := a) (f := 1) (v := x) (by omega) (by omega)
        refine ⟨_, rfl, ?_⟩
        unfold sp_set
        rw [if_pos ⟨by omega, d_20⟩]
        exact ⟨ea.2.1, hX.row hI g.1 g.2, g.2.xf bk1⟩
      · refine mw_tblIn (off := 42) (tgt := 84) dX6_set_42 (by decide) (by decide) (by decide) (by decide) (by decide) ?_
        refine mw_aload dX6_set_84 rfl ?_
        refine mw_getI 2 dX6_set_86 gs_X6_132 kat rfl rfl ?_
        refine mw_is5 dX6_set_89 (by decide) rfl ?_
        refine mw_aload dX6_set_91 rfl ?_
        refine mw_iload_n dX6_set_93 rfl ?_
        refine mw_putI 2 dX6_set_94 ps_X6_132 kat rfl rfl ?_
        refine mw_iload dX6_set_97 rfl ?_
        refine mw_iret dX6_set_99 rfl ?_
        have g := upF_fug hF hFI (a := a) (f := 2) (v := x) (by omega) (by omega)
        refine ⟨_, rfl, ?_⟩
        unfold sp_set
        rw [if_pos ⟨by omega, d_20⟩]
        exact ⟨ea.2.2.1, hX.row hI g.1 g.2, g.2.xf bk1⟩
      · refine mw_tblIn (off := 58) (tgt := 100) dX6_set_42 (by decide) (by decide) (by decide) (by decide) (by decide) ?_
        refine mw_aload dX6_set_100 rfl ?_
        refine mw_getI 3 dX6_set_102 gs_X6_135 kat rfl rfl ?_
        refine mw_is5 dX6_set_105 (by decide) rfl ?_
        refine mw_aload dX6_set_107 rfl ?_
        refine mw_iload_n dX6_set_109 rfl ?_
        refine mw_putI 3 dX6_set_110 ps_X6_135 kat rfl rfl ?_
        refine mw_iload dX6_set_113 rfl ?_
        refine mw_iret dX6_set_115 rfl ?_
        have g := upF_fug hF hFI (a := a) (f := 3) (v := x) (by omega) (by omega)
        refine ⟨_, rfl, ?_⟩
        unfold sp_set
        rw [if_pos ⟨by omega, d_20⟩]
        exact ⟨ea.2.2.2.1, hX.row hI g.1 g.2, g.2.xf bk1⟩
      · refine mw_tblOut (tgt := 116) dX6_set_42 (by omega) c_42 (by decide) ?_
        refine mw_aload dX6_set_116 rfl ?_
        refine mw_getI 4 dX6_set_118 gs_X6_138 kat rfl rfl ?_
        refine mw_is5 dX6_set_121 (by decide) rfl ?_
        refine mw_aload dX6_set_123 rfl ?_
        refine mw_iload_n dX6_set_125 rfl ?_
        refine mw_putI 4 dX6_set_126 ps_X6_138 kat rfl rfl ?_
        refine mw_iload dX6_set_129 rfl ?_
        refine mw_iret dX6_set_131 rfl ?_
        have e4 : v = 4 := by omega
        subst e4
        have g := upF_fug hF hFI (a := a) (f := 4) (v := x) (by omega) (by omega)
        refine ⟨_, rfl, ?_⟩
        unfold sp_set
        rw [if_pos ⟨by omega, d_20⟩]
        exact ⟨ea.2.2.2.2.1, hX.row hI g.1 g.2, g.2.xf bk1⟩
    · have d_20 := wi_0 c_20
      refine mw_aload_n dX6_set_23 rfl ?_
      refine mw_ldc dX6_set_24 ct_X6_61 ?_
      refine mw_Vi (ci := 6) dX6_set_26 ml_X6_62 ok_X6_found (by decide) (by first | rfl | assumption) (by decide) rfl rfl rfl (Nat.le_of_ble_eq_true rfl) (c_X_find hX hI 0 (by decide) (by decide)) (fun z_26 m_26 h_26 => ?_)
      refine mw_iret dX6_set_29 rfl ?_
      refine ⟨_, rfl, ?_⟩
      unfold sp_set
      rw [if_neg (fun q => d_20 q.2)]
      exact h_26
set_option maxHeartbeats 4000000 in
set_option maxRecDepth 100000 in
theorem c_X_turn {G : mG} {μ : mMem} {st : aS} (hX : XR μ st) (hI : SI st) {a k : Int} (ha_ : -2147483648 ≤ a ∧ a ≤ 2147483647) (hk_ : -2147483648 ≤ k ∧ k ≤ 2147483647) : mM G yX6_turn cX6_turn 5 (some .int) 2 [.ref 0, .int (iV a), .int (iV k)] μ (qX μ (sp_turn st a k)) := by
  obtain ⟨hF, hK, hkp, htl, htb, hfd, hsh⟩ := id hX
  have hFI := hI.1
  have ec := hF.1
  have hn := hFI.2.1
  have ed := hF.2.1
  have h0 := hFI.1
  have h99 := hI.2.1
  refine mM.of (lv := [some (.ref 0), some (.int (iV a)), some (.int (iV k)), none, none]) 2 (by decide +kernel) (Nat.le_of_ble_eq_true rfl) rfl ?_
  intro X
  refine mw_aload_n dX6_turn_0 rfl ?_
  refine mw_gr_6_0 dX6_turn_1 gs_X6_10 (by first | rfl | assumption) ?_
  refine mw_iload_n dX6_turn_4 rfl ?_
  refine mw_Vpi (ci := 1) dX6_turn_5 ml_X6_117 ok_X1_has (by decide) (by first | rfl | assumption) (by decide) rfl rfl rfl (Nat.le_of_ble_eq_true rfl) (c_F_has bk1 (by rw [ec]; exact hn) (by omega)) ?_
  refine mw_if_eq (tgt := 18) dX6_turn_8 (by decide) (hasI_bd _ _) (fun c_8 => ?_) (fun c_8 => ?_)
  · have d_8 := hasI_0 c_8
    refine mw_aload_n dX6_turn_18 rfl ?_
    refine mw_ldc dX6_turn_19 ct_X6_61 ?_
    refine mw_Vi (ci := 6) dX6_turn_21 ml_X6_62 ok_X6_found (by decide) (by first | rfl | assumption) (by decide) rfl rfl rfl (Nat.le_of_ble_eq_true rfl) (c_X_find hX hI 0 (by decide) (by decide)) (fun z_21 m_21 h_21 => ?_)
    refine mw_iret dX6_turn_24 rfl ?_
    refine ⟨_, rfl, ?_⟩
    unfold sp_turn
    rw [if_neg (by omega)]
    exact h_21
  · have d_8 := hasI_1 c_8
    refine mw_iload_n dX6_turn_11 rfl ?_
    refine mw_Spi dX6_turn_12 ml_X6_103 ok_X6_isKind (by decide) rfl rfl (Nat.le_of_ble_eq_true rfl) (c_X_isKind (by omega)) ?_
    refine mw_if_ne (tgt := 25) dX6_turn_15 (by decide) (wi_bd _ _ _) (fun c_15 => ?_) (fun c_15 => ?_)
    · have d_15 := wi_1 c_15
      have ea := hF.at hFI (a := a) (by omega)
      have kat := bk_a bk1 (a := a) (by omega)
      refine mw_aload_n dX6_turn_25 rfl ?_
      refine mw_gr_6_0 dX6_turn_26 gs_X6_10 (by first | rfl | assumption) ?_
      refine mw_gr_1_2 dX6_turn_29 gs_X6_120 (by first | rfl | assumption) ?_
      refine mw_iload_n dX6_turn_32 rfl ?_
      refine mw_aa10 dX6_turn_33 (by first | rfl | assumption) (by first | rfl | assumption) (by omega) ?_
      refine mw_as3 dX6_turn_34 (by decide) rfl ?_
      refine mw_aload_n dX6_turn_35 rfl ?_
      refine mw_getI 0 dX6_turn_36 gs_X6_124 kat rfl rfl ?_
      refine mw_is4 dX6_turn_39 (by decide) rfl ?_
      refine mw_aload_n dX6_turn_41 rfl ?_
      refine mw_iload_n dX6_turn_42 rfl ?_
      refine mw_putI 0 dX6_turn_43 ps_X6_124 kat rfl rfl ?_
      refine mw_iload dX6_turn_46 rfl ?_
      refine mw_iret dX6_turn_48 rfl ?_
      have g := upF_fug hF hFI (a := a) (f := 0) (v := k) (by omega) (by omega)
      refine ⟨_, rfl, ?_⟩
      unfold sp_turn
      rw [if_pos (by omega)]
      exact ⟨ea.1, hX.row hI g.1 g.2, g.2.xf bk1⟩
    · have d_15 := wi_0 c_15
      refine mw_aload_n dX6_turn_18 rfl ?_
      refine mw_ldc dX6_turn_19 ct_X6_61 ?_
      refine mw_Vi (ci := 6) dX6_turn_21 ml_X6_62 ok_X6_found (by decide) (by first | rfl | assumption) (by decide) rfl rfl rfl (Nat.le_of_ble_eq_true rfl) (c_X_find hX hI 0 (by decide) (by decide)) (fun z_21 m_21 h_21 => ?_)
      refine mw_iret dX6_turn_24 rfl ?_
      refine ⟨_, rfl, ?_⟩
      unfold sp_turn
      rw [if_neg (by omega)]
      exact h_21
set_option maxHeartbeats 4000000 in
set_option maxRecDepth 100000 in
theorem c_X_as {G : mG} {μ : mMem} {st : aS} (hX : XR μ st) (hI : SI st) {a k : Int} (ha_ : -2147483648 ≤ a ∧ a ≤ 2147483647) (hk_ : -2147483648 ≤ k ∧ k ≤ 2147483647) : mM G yX6_as cX6_as 4 (some .int) 3 [.ref 0, .int (iV a), .int (iV k)] μ (qX μ (sp_as st a k)) := by
  obtain ⟨hF, hK, hkp, htl, htb, hfd, hsh⟩ := id hX
  have hFI := hI.1
  have ec := hF.1
  have hn := hFI.2.1
  have ed := hF.2.1
  have h0 := hFI.1
  have h99 := hI.2.1
  refine mM.of (lv := [some (.ref 0), some (.int (iV a)), some (.int (iV k)), none]) 1 (by decide +kernel) (Nat.le_of_ble_eq_true rfl) rfl ?_
  intro X
  refine mw_aload_n dX6_as_0 rfl ?_
  refine mw_gr_6_0 dX6_as_1 gs_X6_10 (by first | rfl | assumption) ?_
  refine mw_iload_n dX6_as_4 rfl ?_
  refine mw_Vpi (ci := 1) dX6_as_5 ml_X6_117 ok_X1_has (by decide) (by first | rfl | assumption) (by decide) rfl rfl rfl (Nat.le_of_ble_eq_true rfl) (c_F_has bk1 (by rw [ec]; exact hn) (by omega)) ?_
  refine mw_if_eq (tgt := 18) dX6_as_8 (by decide) (hasI_bd _ _) (fun c_8 => ?_) (fun c_8 => ?_)
  · have d_8 := hasI_0 c_8
    refine mw_aload_n dX6_as_18 rfl ?_
    refine mw_ldc dX6_as_19 ct_X6_61 ?_
    refine mw_Vi (ci := 6) dX6_as_21 ml_X6_62 ok_X6_found (by decide) (by first | rfl | assumption) (by decide) rfl rfl rfl (Nat.le_of_ble_eq_true rfl) (c_X_find hX hI 0 (by decide) (by decide)) (fun z_21 m_21 h_21 => ?_)
    refine mw_iret dX6_as_24 rfl ?_
    refine ⟨_, rfl, ?_⟩
    unfold sp_as
    rw [if_neg (by omega)]
    exact h_21
  · have d_8 := hasI_1 c_8
    refine mw_iload_n dX6_as_11 rfl ?_
    refine mw_Spi dX6_as_12 ml_X6_103 ok_X6_isKind (by decide) rfl rfl (Nat.le_of_ble_eq_true rfl) (c_X_isKind (by omega)) ?_
    refine mw_if_ne (tgt := 25) dX6_as_15 (by decide) (wi_bd _ _ _) (fun c_15 => ?_) (fun c_15 => ?_)
    · have d_15 := wi_1 c_15
      have ea := hF.at hFI (a := a) (by omega)
      have kat := bk_a bk1 (a := a) (by omega)
      refine mw_aload_n dX6_as_25 rfl ?_
      refine mw_gr_6_0 dX6_as_26 gs_X6_10 (by first | rfl | assumption) ?_
      refine mw_gr_1_2 dX6_as_29 gs_X6_120 (by first | rfl | assumption) ?_
      refine mw_iload_n dX6_as_32 rfl ?_
      refine mw_aa10 dX6_as_33 (by first | rfl | assumption) (by first | rfl | assumption) (by omega) ?_
      refine mw_as3 dX6_as_34 (by decide) rfl ?_
      refine mw_aload_n dX6_as_35 rfl ?_
      refine mw_getI 0 dX6_as_36 gs_X6_124 kat rfl rfl ?_
      rw [ea.1]
      refine mw_iload_n dX6_as_39 rfl ?_
      refine mw_Spi dX6_as_40 ml_X6_156 ok_X6_isOfKind (by decide) rfl rfl (Nat.le_of_ble_eq_true rfl) (c_X_isOfKind (by omega) (by omega)) ?_
      refine mw_if_ne (tgt := 53) dX6_as_43 (by decide) (by have := ofK_c (st.1 0 (28 + 5 * a + 0)) k; omega) (fun c_43 => ?_) (fun c_43 => ?_)
      · refine mw_aload_n dX6_as_53 rfl ?_
        refine mw_getI 2 dX6_as_54 gs_X6_132 kat rfl rfl ?_
        refine mw_iret dX6_as_57 rfl ?_
        refine ⟨_, rfl, ?_⟩
        unfold sp_as
        rw [if_pos (by omega), if_neg c_43]
        exact ⟨ea.2.2.1, hX, XF.rf⟩
      · refine mw_aload_n dX6_as_46 rfl ?_
        refine mw_ldc dX6_as_47 ct_X6_160 ?_
        refine mw_Vi (ci := 6) dX6_as_49 ml_X6_62 ok_X6_found (by decide) (by first | rfl | assumption) (by decide) rfl rfl rfl (Nat.le_of_ble_eq_true rfl) (c_X_find hX hI 2 (by decide) (by decide)) (fun z_49 m_49 h_49 => ?_)
        refine mw_iret dX6_as_52 rfl ?_
        refine ⟨_, rfl, ?_⟩
        unfold sp_as
        rw [if_pos (by omega), if_pos c_43]
        exact h_49
    · have d_15 := wi_0 c_15
      refine mw_aload_n dX6_as_18 rfl ?_
      refine mw_ldc dX6_as_19 ct_X6_61 ?_
      refine mw_Vi (ci := 6) dX6_as_21 ml_X6_62 ok_X6_found (by decide) (by first | rfl | assumption) (by decide) rfl rfl rfl (Nat.le_of_ble_eq_true rfl) (c_X_find hX hI 0 (by decide) (by decide)) (fun z_21 m_21 h_21 => ?_)
      refine mw_iret dX6_as_24 rfl ?_
      refine ⟨_, rfl, ?_⟩
      unfold sp_as
      rw [if_neg (by omega)]
      exact h_21
set_option maxHeartbeats 4000000 in
set_option maxRecDepth 100000 in
theorem c_X_days {G : mG} {μ : mMem} {st : aS} (hX : XR μ st) (hI : SI st) {n : Int} (hn_ : -2147483648 ≤ n ∧ n ≤ 2147483647) : mM G yX6_days cX6_days 2 (some .int) 5 [.ref 0, .int (iV n)] μ (qX μ (sp_days st n)) := by
  obtain ⟨hF, hK, hkp, htl, htb, hfd, hsh⟩ := id hX
  have hFI := hI.1
  have ec := hF.1
  have hn := hFI.2.1
  have ed := hF.2.1
  have h0 := hFI.1
  have h99 := hI.2.1
  refine mM.of (lv := [some (.ref 0), some (.int (iV n))]) 0 (by decide +kernel) (Nat.le_of_ble_eq_true rfl) rfl ?_
  intro X
  refine mw_iload_n dX6_days_0 rfl ?_
  refine mw_iconst dX6_days_1 ?_
  refine mw_bipush dX6_days_2 (by decide +kernel) ?_
  refine mw_Spi dX6_days_4 ml_X6_57 ok_X6_isWithin (by decide) rfl rfl (Nat.le_of_ble_eq_true rfl) (c_X_within (by omega) (by omega) (by omega)) ?_
  refine mw_if_ne (tgt := 17) dX6_days_7 (by decide) (wi_bd _ _ _) (fun c_7 => ?_) (fun c_7 => ?_)
  · have d_7 := wi_1 c_7
    refine mw_aload_n dX6_days_17 rfl ?_
    refine mw_gr_6_0 dX6_days_18 gs_X6_10 (by first | rfl | assumption) ?_
    refine mw_getI 4 dX6_days_21 gs_X6_161 (by first | rfl | assumption) rfl rfl ?_
    refine mw_iload_n dX6_days_24 rfl ?_
    rw [ed]
    refine mw_iadd dX6_days_25 ?_
    refine mw_sipush dX6_days_26 (by decide +kernel) ?_
    refine mw_icmp_le (tgt := 39) dX6_days_29 (by decide) (by omega) (by omega) (fun c_29 => ?_) (fun c_29 => ?_)
    · refine mw_aload_n dX6_days_39 rfl ?_
      refine mw_gr_6_0 dX6_days_40 gs_X6_10 (by first | rfl | assumption) ?_
      refine mw_iload_n dX6_days_43 rfl ?_
      refine mw_Vv (ci := 1) dX6_days_44 ml_X6_165 ok_X1_passDays (by decide) (by first | rfl | assumption) (by decide) rfl rfl rfl (Nat.le_of_ble_eq_true rfl) (c_F_passDays bk1 hF hFI (by omega) (by omega)) (fun m_44 h_44 => ?_)
      have th0 := bk_t bk1 0
      have th1 := bk_t bk1 1
      have g0 := h_44.1.tn (days_inv hFI _) (s := 0) (by omega)
      have g1 := h_44.1.tn (days_inv hFI _) (s := 1) (by omega)
      refine mw_aload_n dX6_days_47 rfl ?_
      refine mw_gr_6_0 dX6_days_48 gs_X6_10 (by first | rfl | assumption) ?_
      refine mw_iconst dX6_days_51 ?_
      refine mw_Vpr (ci := 1) dX6_days_52 ml_X6_66 ok_X1_tuneOf (by decide) (by first | rfl | assumption) (by decide) rfl rfl rfl (Nat.le_of_ble_eq_true rfl) (c_F_tuneOf bk1 (by omega)) ?_
      refine mw_Vpi (ci := 5) dX6_days_55 ml_X6_89 ok_X5_wideLeaps (by decide) th0.1 (by decide) rfl rfl rfl (Nat.le_of_ble_eq_true rfl) (c_T_wide th0.1 th0.2.1 th0.2.2 g0.2.1 g0.2.2.1) ?_
      rw [tens_eq h_44.1 (days_inv hFI _) (by omega)]
      refine mw_aload_n dX6_days_58 rfl ?_
      refine mw_gr_6_0 dX6_days_59 gs_X6_10 (by first | rfl | assumption) ?_
      refine mw_iconst dX6_days_62 ?_
      refine mw_Vpr (ci := 1) dX6_days_63 ml_X6_66 ok_X1_tuneOf (by decide) (by first | rfl | assumption) (by decide) rfl rfl rfl (Nat.le_of_ble_eq_true rfl) (c_F_tuneOf bk1 (by omega)) ?_
      refine mw_Vpi (ci := 5) dX6_days_66 ml_X6_89 ok_X5_wideLeaps (by decide) th1.1 (by decide) rfl rfl rfl (Nat.le_of_ble_eq_true rfl) (c_T_wide th1.1 th1.2.1 th1.2.2 g1.2.1 g1.2.2.1) ?_
      rw [tens_eq h_44.1 (days_inv hFI _) (by omega)]
      refine mw_iadd dX6_days_69 ?_
      refine mw_iret dX6_days_70 rfl ?_
      refine ⟨_, rfl, ?_⟩
      unfold sp_days
      rw [if_pos (by omega), if_neg (by omega)]
      exact ⟨rfl, hX.row hI h_44.1 h_44.2, h_44.2.xf bk1⟩
    · refine mw_aload_n dX6_days_32 rfl ?_
      refine mw_ldc dX6_days_33 ct_X6_164 ?_
      refine mw_Vi (ci := 6) dX6_days_35 ml_X6_62 ok_X6_found (by decide) (by first | rfl | assumption) (by decide) rfl rfl rfl (Nat.le_of_ble_eq_true rfl) (c_X_find hX hI 4 (by decide) (by decide)) (fun z_35 m_35 h_35 => ?_)
      refine mw_iret dX6_days_38 rfl ?_
      refine ⟨_, rfl, ?_⟩
      unfold sp_days
      rw [if_pos (by omega), if_pos (by omega)]
      exact h_35
  · have d_7 := wi_0 c_7
    refine mw_aload_n dX6_days_10 rfl ?_
    refine mw_ldc dX6_days_11 ct_X6_61 ?_
    refine mw_Vi (ci := 6) dX6_days_13 ml_X6_62 ok_X6_found (by decide) (by first | rfl | assumption) (by decide) rfl rfl rfl (Nat.le_of_ble_eq_true rfl) (c_X_find hX hI 0 (by decide) (by decide)) (fun z_13 m_13 h_13 => ?_)
    refine mw_iret dX6_days_16 rfl ?_
    refine ⟨_, rfl, ?_⟩
    unfold sp_days
    rw [if_neg (by omega)]
    exact h_13
set_option maxHeartbeats 4000000 in
set_option maxRecDepth 100000 in
theorem c_X_now {G : mG} {μ : mMem} {st : aS} (hX : XR μ st) (hI : SI st) {v : Int} (hv_ : -2147483648 ≤ v ∧ v ≤ 2147483647) : mM G yX6_now cX6_now 2 (some .int) 4 [.ref 0, .int (iV v)] μ (qX μ (sp_now st v)) := by
  obtain ⟨hF, hK, hkp, htl, htb, hfd, hsh⟩ := id hX
  have hFI := hI.1
  have ec := hF.1
  have hn := hFI.2.1
  have ed := hF.2.1
  have h0 := hFI.1
  have h99 := hI.2.1
  have th0 := bk_t bk1 0
  have th1 := bk_t bk1 1
  have g0 := hF.tn hFI (s := 0) (by omega)
  have g1 := hF.tn hFI (s := 1) (by omega)
  have hal := alike_c (st.1 0)
  refine mM.of (lv := [some (.ref 0), some (.int (iV v))]) 0 (by decide +kernel) (Nat.le_of_ble_eq_true rfl) rfl ?_
  intro X
  refine mw_iload_n dX6_now_0 rfl ?_
  rcases (show v = 0 ∨ v = 1 ∨ v = 2 ∨ v = 3 ∨ v = 4 ∨ v = 5 ∨ (v < 0 ∨ 5 < v) by omega) with rfl | rfl | rfl | rfl | rfl | rfl | c_1
  · refine mw_tblIn (off := 39) (tgt := 40) dX6_now_1 (by decide) (by decide) (by decide) (by decide) (by decide) ?_
    refine mw_aload_n dX6_now_40 rfl ?_
    refine mw_gr_6_0 dX6_now_41 gs_X6_10 (by first | rfl | assumption) ?_
    refine mw_getI 4 dX6_now_44 gs_X6_161 (by first | rfl | assumption) rfl rfl ?_
    refine mw_iret dX6_now_47 rfl ?_
    refine ⟨_, rfl, ?_⟩
    unfold sp_now
    rw [if_pos rfl]
    exact ⟨ed, hX, XF.rf⟩
  · refine mw_tblIn (off := 47) (tgt := 48) dX6_now_1 (by decide) (by decide) (by decide) (by decide) (by decide) ?_
    refine mw_aload_n dX6_now_48 rfl ?_
    refine mw_gr_6_0 dX6_now_49 gs_X6_10 (by first | rfl | assumption) ?_
    refine mw_Vpi (ci := 1) dX6_now_52 ml_X6_168 ok_X1_writingSide (by decide) (by first | rfl | assumption) (by decide) rfl rfl rfl (Nat.le_of_ble_eq_true rfl) (c_F_writingSide bk1 (by rw [ed]; omega)) ?_
    refine mw_iret dX6_now_55 rfl ?_
    refine ⟨_, rfl, ?_⟩
    unfold sp_now
    rw [if_neg (by omega), if_pos rfl]
    exact ⟨by rw [ed], hX, XF.rf⟩
  · refine mw_tblIn (off := 55) (tgt := 56) dX6_now_1 (by decide) (by decide) (by decide) (by decide) (by decide) ?_
    refine mw_aload_n dX6_now_56 rfl ?_
    refine mw_gr_6_0 dX6_now_57 gs_X6_10 (by first | rfl | assumption) ?_
    refine mw_Vpi (ci := 1) dX6_now_60 ml_X6_171 ok_X1_writer (by decide) (by first | rfl | assumption) (by decide) rfl rfl rfl (Nat.le_of_ble_eq_true rfl) (c_F_writer bk1 hF hFI (by omega)) ?_
    refine mw_iret dX6_now_63 rfl ?_
    refine ⟨_, rfl, ?_⟩
    unfold sp_now
    rw [if_neg (by omega), if_neg (by omega), if_pos rfl]
    exact ⟨rfl, hX, XF.rf⟩
  · refine mw_tblIn (off := 63) (tgt := 64) dX6_now_1 (by decide) (by decide) (by decide) (by decide) (by decide) ?_
    refine mw_aload_n dX6_now_64 rfl ?_
    refine mw_gr_6_0 dX6_now_65 gs_X6_10 (by first | rfl | assumption) ?_
    refine mw_Vpi (ci := 1) dX6_now_68 ml_X6_174 ok_X1_homeSides (by decide) (by first | rfl | assumption) (by decide) rfl rfl rfl (Nat.le_of_ble_eq_true rfl) (c_F_homeSides bk1 hF hFI) ?_
    refine mw_iret dX6_now_71 rfl ?_
    refine ⟨_, rfl, ?_⟩
    unfold sp_now
    rw [if_neg (by omega), if_neg (by omega), if_neg (by omega), if_pos rfl]
    exact ⟨rfl, hX, XF.rf⟩
  · refine mw_tblIn (off := 71) (tgt := 72) dX6_now_1 (by decide) (by decide) (by decide) (by decide) (by decide) ?_
    refine mw_aload_n dX6_now_72 rfl ?_
    refine mw_gr_6_0 dX6_now_73 gs_X6_10 (by first | rfl | assumption) ?_
    refine mw_Vpi (ci := 1) dX6_now_76 ml_X6_177 ok_X1_isAlike (by decide) (by first | rfl | assumption) (by decide) rfl rfl rfl (Nat.le_of_ble_eq_true rfl) (c_F_isAlike bk1 hF hFI) ?_
    refine mw_if_eq (tgt := 86) dX6_now_79 (by decide) (by omega) (fun c_79 => ?_) (fun c_79 => ?_)
    · refine mw_iconst dX6_now_86 ?_
      refine mw_iret dX6_now_87 rfl ?_
      refine ⟨_, rfl, ?_⟩
      unfold sp_now
      rw [if_neg (by omega), if_neg (by omega), if_neg (by omega), if_neg (by omega), if_pos rfl]
      exact ⟨by rw [c_79], hX, XF.rf⟩
    · refine mw_iconst dX6_now_82 ?_
      refine mw_goto (tgt := 87) dX6_now_83 (by decide) ?_
      refine mw_iret dX6_now_87 rfl ?_
      refine ⟨_, rfl, ?_⟩
      unfold sp_now
      rw [if_neg (by omega), if_neg (by omega), if_neg (by omega), if_neg (by omega), if_pos rfl]
      exact ⟨by omega, hX, XF.rf⟩
  · refine mw_tblIn (off := 87) (tgt := 88) dX6_now_1 (by decide) (by decide) (by decide) (by decide) (by decide) ?_
    refine mw_aload_n dX6_now_88 rfl ?_
    refine mw_gr_6_0 dX6_now_89 gs_X6_10 (by first | rfl | assumption) ?_
    refine mw_iconst dX6_now_92 ?_
    refine mw_Vpr (ci := 1) dX6_now_93 ml_X6_66 ok_X1_tuneOf (by decide) (by first | rfl | assumption) (by decide) rfl rfl rfl (Nat.le_of_ble_eq_true rfl) (c_F_tuneOf bk1 (by omega)) ?_
    refine mw_aload_n dX6_now_96 rfl ?_
    refine mw_gr_6_0 dX6_now_97 gs_X6_10 (by first | rfl | assumption) ?_
    refine mw_iconst dX6_now_100 ?_
    refine mw_Vpr (ci := 1) dX6_now_101 ml_X6_66 ok_X1_tuneOf (by decide) (by first | rfl | assumption) (by decide) rfl rfl rfl (Nat.le_of_ble_eq_true rfl) (c_F_tuneOf bk1 (by omega)) ?_
    refine mw_Vpi (ci := 5) dX6_now_104 ml_X6_180 ok_X5_placesUnlike (by decide) th0.1 (by decide) rfl rfl rfl (Nat.le_of_ble_eq_true rfl) (c_T_unlike th0.1 th0.2.1 th0.2.2 g0.2.1 g0.2.2.1 th1.1 th1.2.1 th1.2.2 g1.2.1 g1.2.2.1) ?_
    refine mw_iret dX6_now_107 rfl ?_
    refine ⟨_, rfl, ?_⟩
    unfold sp_now
    rw [if_neg (by omega), if_neg (by omega), if_neg (by omega), if_neg (by omega), if_neg (by omega), if_pos rfl]
    exact ⟨un_eq hF hFI, hX, XF.rf⟩
  · refine mw_tblOut (tgt := 108) dX6_now_1 (by omega) c_1 (by decide) ?_
    refine mw_aload_n dX6_now_108 rfl ?_
    refine mw_ldc dX6_now_109 ct_X6_61 ?_
    refine mw_Vi (ci := 6) dX6_now_111 ml_X6_62 ok_X6_found (by decide) (by first | rfl | assumption) (by decide) rfl rfl rfl (Nat.le_of_ble_eq_true rfl) (c_X_find hX hI 0 (by decide) (by decide)) (fun z_111 m_111 h_111 => ?_)
    refine mw_iret dX6_now_114 rfl ?_
    refine ⟨_, rfl, ?_⟩
    unfold sp_now
    rw [if_neg (by omega), if_neg (by omega), if_neg (by omega), if_neg (by omega), if_neg (by omega), if_neg (by omega)]
    exact h_111
set_option maxHeartbeats 4000000 in
set_option maxRecDepth 100000 in
theorem c_X_on {G : mG} {μ : mMem} {st : aS} (hX : XR μ st) (hI : SI st) {s i n : Int} (hs_ : -2147483648 ≤ s ∧ s ≤ 2147483647) (hi_ : -2147483648 ≤ i ∧ i ≤ 2147483647) (hn_ : -2147483648 ≤ n ∧ n ≤ 2147483647) : mM G yX6_on cX6_on 4 (some .int) 5 [.ref 0, .int (iV s), .int (iV i), .int (iV n)] μ (qX μ (sp_on st s i n)) := by
  obtain ⟨hF, hK, hkp, htl, htb, hfd, hsh⟩ := id hX
  have hFI := hI.1
  have ec := hF.1
  have hn := hFI.2.1
  have ed := hF.2.1
  have h0 := hFI.1
  have h99 := hI.2.1
  refine mM.of (lv := [some (.ref 0), some (.int (iV s)), some (.int (iV i)), some (.int (iV n))]) 0 (by decide +kernel) (Nat.le_of_ble_eq_true rfl) rfl ?_
  intro X
  refine mw_iload_n dX6_on_0 rfl ?_
  refine mw_Spi dX6_on_1 ml_X6_53 ok_X6_isSide (by decide) rfl rfl (Nat.le_of_ble_eq_true rfl) (c_X_isSide (by omega)) ?_
  refine mw_if_eq (tgt := 27) dX6_on_4 (by decide) (wi_bd _ _ _) (fun c_4 => ?_) (fun c_4 => ?_)
  · have d_4 := wi_0 c_4
    refine mw_aload_n dX6_on_27 rfl ?_
    refine mw_ldc dX6_on_28 ct_X6_61 ?_
    refine mw_Vi (ci := 6) dX6_on_30 ml_X6_62 ok_X6_found (by decide) (by first | rfl | assumption) (by decide) rfl rfl rfl (Nat.le_of_ble_eq_true rfl) (c_X_find hX hI 0 (by decide) (by decide)) (fun z_30 m_30 h_30 => ?_)
    refine mw_iret dX6_on_33 rfl ?_
    refine ⟨_, rfl, ?_⟩
    unfold sp_on
    rw [if_neg (by omega)]
    exact h_30
  · have d_4 := wi_1 c_4
    refine mw_iload_n dX6_on_7 rfl ?_
    refine mw_iconst dX6_on_8 ?_
    refine mw_bipush dX6_on_9 (by decide +kernel) ?_
    refine mw_Spi dX6_on_11 ml_X6_57 ok_X6_isWithin (by decide) rfl rfl (Nat.le_of_ble_eq_true rfl) (c_X_within (by omega) (by omega) (by omega)) ?_
    refine mw_if_eq (tgt := 27) dX6_on_14 (by decide) (wi_bd _ _ _) (fun c_14 => ?_) (fun c_14 => ?_)
    · have d_14 := wi_0 c_14
      refine mw_aload_n dX6_on_27 rfl ?_
      refine mw_ldc dX6_on_28 ct_X6_61 ?_
      refine mw_Vi (ci := 6) dX6_on_30 ml_X6_62 ok_X6_found (by decide) (by first | rfl | assumption) (by decide) rfl rfl rfl (Nat.le_of_ble_eq_true rfl) (c_X_find hX hI 0 (by decide) (by decide)) (fun z_30 m_30 h_30 => ?_)
      refine mw_iret dX6_on_33 rfl ?_
      refine ⟨_, rfl, ?_⟩
      unfold sp_on
      rw [if_neg (by omega)]
      exact h_30
    · have d_14 := wi_1 c_14
      refine mw_iload_n dX6_on_17 rfl ?_
      refine mw_iconst dX6_on_18 ?_
      refine mw_bipush dX6_on_19 (by decide +kernel) ?_
      refine mw_Spi dX6_on_21 ml_X6_57 ok_X6_isWithin (by decide) rfl rfl (Nat.le_of_ble_eq_true rfl) (c_X_within (by omega) (by omega) (by omega)) ?_
      refine mw_if_ne (tgt := 34) dX6_on_24 (by decide) (wi_bd _ _ _) (fun c_24 => ?_) (fun c_24 => ?_)
      · have d_24 := wi_1 c_24
        refine mw_aload_n dX6_on_34 rfl ?_
        refine mw_Vv (ci := 6) dX6_on_35 ml_X6_183 ok_X6_startTrial (by decide) (by first | rfl | assumption) (by decide) rfl rfl rfl (Nat.le_of_ble_eq_true rfl) (c_X_startTrial hF hFI) (fun m_35 h_35 => ?_)
        refine mw_aload_n dX6_on_38 rfl ?_
        refine mw_gr_6_3 dX6_on_39 gs_X6_23 (by first | rfl | assumption) ?_
        refine mw_iload_n dX6_on_42 rfl ?_
        refine mw_Vv (ci := 1) dX6_on_43 ml_X6_165 ok_X1_passDays (by decide) (by first | rfl | assumption) (by decide) rfl rfl rfl (Nat.le_of_ble_eq_true rfl) (c_F_passDays bk29 h_35.1 hFI (by omega) (by omega)) (fun m_43 h_43 => ?_)
        have ft := h_35.2.tr h_43.2
        have hX2 := hX.try hI ft
        have th := bk_t bk29 s
        have tnh := h_43.1.tn (days_inv hFI _) (s := s) (by omega)
        refine mw_aload_n dX6_on_46 rfl ?_
        refine mw_aload_n dX6_on_47 rfl ?_
        refine mw_gr_6_3 dX6_on_48 gs_X6_23 (by first | rfl | assumption) ?_
        refine mw_iload_n dX6_on_51 rfl ?_
        refine mw_Vpr (ci := 1) dX6_on_52 ml_X6_66 ok_X1_tuneOf (by decide) (by first | rfl | assumption) (by decide) rfl rfl rfl (Nat.le_of_ble_eq_true rfl) (c_F_tuneOf bk29 (by omega)) ?_
        refine mw_iload_n dX6_on_55 rfl ?_
        refine mw_Vi (ci := 6) dX6_on_56 ml_X6_85 ok_X6_toneOrNone (by decide) (by first | rfl | assumption) (by decide) rfl rfl rfl (Nat.le_of_ble_eq_true rfl) (c_X_toneOrNone hX2 hI th.1 th.2.1 th.2.2 tnh.2.1 (by omega)) (fun z_56 m_56 h_56 => ?_)
        refine mw_iret dX6_on_59 rfl ?_
        refine ⟨_, rfl, ?_⟩
        unfold sp_on
        rw [if_pos (by omega)]
        by_cases hc : i < daysF n.toNat (st.1 0) (2 + s)
        · rw [tnh.1, if_pos hc, tnh.2.2.2 i (by omega) hc] at h_56
          rw [if_pos hc]
          exact ⟨h_56.1, h_56.2.1, (ft.xf bk29).tr h_56.2.2⟩
        · rw [tnh.1, if_neg hc] at h_56
          rw [if_neg hc]
          exact ⟨h_56.1, h_56.2.1, (ft.xf bk29).tr h_56.2.2⟩
      · have d_24 := wi_0 c_24
        refine mw_aload_n dX6_on_27 rfl ?_
        refine mw_ldc dX6_on_28 ct_X6_61 ?_
        refine mw_Vi (ci := 6) dX6_on_30 ml_X6_62 ok_X6_found (by decide) (by first | rfl | assumption) (by decide) rfl rfl rfl (Nat.le_of_ble_eq_true rfl) (c_X_find hX hI 0 (by decide) (by decide)) (fun z_30 m_30 h_30 => ?_)
        refine mw_iret dX6_on_33 rfl ?_
        refine ⟨_, rfl, ?_⟩
        unfold sp_on
        rw [if_neg (by omega)]
        exact h_30
set_option maxHeartbeats 4000000 in
set_option maxRecDepth 100000 in
theorem c_X_tension {G : mG} {μ : mMem} {st : aS} (hX : XR μ st) (hI : SI st) {s n : Int} (hs_ : -2147483648 ≤ s ∧ s ≤ 2147483647) (hn_ : -2147483648 ≤ n ∧ n ≤ 2147483647) : mM G yX6_tension cX6_tension 3 (some .int) 5 [.ref 0, .int (iV s), .int (iV n)] μ (qX μ (sp_tension st s n)) := by
  obtain ⟨hF, hK, hkp, htl, htb, hfd, hsh⟩ := id hX
  have hFI := hI.1
  have ec := hF.1
  have hn := hFI.2.1
  have ed := hF.2.1
  have h0 := hFI.1
  have h99 := hI.2.1
  refine mM.of (lv := [some (.ref 0), some (.int (iV s)), some (.int (iV n))]) 0 (by decide +kernel) (Nat.le_of_ble_eq_true rfl) rfl ?_
  intro X
  refine mw_iload_n dX6_tension_0 rfl ?_
  refine mw_Spi dX6_tension_1 ml_X6_53 ok_X6_isSide (by decide) rfl rfl (Nat.le_of_ble_eq_true rfl) (c_X_isSide (by omega)) ?_
  refine mw_if_eq (tgt := 17) dX6_tension_4 (by decide) (wi_bd _ _ _) (fun c_4 => ?_) (fun c_4 => ?_)
  · have d_4 := wi_0 c_4
    refine mw_aload_n dX6_tension_17 rfl ?_
    refine mw_ldc dX6_tension_18 ct_X6_61 ?_
    refine mw_Vi (ci := 6) dX6_tension_20 ml_X6_62 ok_X6_found (by decide) (by first | rfl | assumption) (by decide) rfl rfl rfl (Nat.le_of_ble_eq_true rfl) (c_X_find hX hI 0 (by decide) (by decide)) (fun z_20 m_20 h_20 => ?_)
    refine mw_iret dX6_tension_23 rfl ?_
    refine ⟨_, rfl, ?_⟩
    unfold sp_tension
    rw [if_neg (by omega)]
    exact h_20
  · have d_4 := wi_1 c_4
    refine mw_iload_n dX6_tension_7 rfl ?_
    refine mw_iconst dX6_tension_8 ?_
    refine mw_bipush dX6_tension_9 (by decide +kernel) ?_
    refine mw_Spi dX6_tension_11 ml_X6_57 ok_X6_isWithin (by decide) rfl rfl (Nat.le_of_ble_eq_true rfl) (c_X_within (by omega) (by omega) (by omega)) ?_
    refine mw_if_ne (tgt := 24) dX6_tension_14 (by decide) (wi_bd _ _ _) (fun c_14 => ?_) (fun c_14 => ?_)
    · have d_14 := wi_1 c_14
      refine mw_aload_n dX6_tension_24 rfl ?_
      refine mw_Vv (ci := 6) dX6_tension_25 ml_X6_183 ok_X6_startTrial (by decide) (by first | rfl | assumption) (by decide) rfl rfl rfl (Nat.le_of_ble_eq_true rfl) (c_X_startTrial hF hFI) (fun m_25 h_25 => ?_)
      refine mw_aload_n dX6_tension_28 rfl ?_
      refine mw_gr_6_3 dX6_tension_29 gs_X6_23 (by first | rfl | assumption) ?_
      refine mw_iload_n dX6_tension_32 rfl ?_
      refine mw_Vv (ci := 1) dX6_tension_33 ml_X6_165 ok_X1_passDays (by decide) (by first | rfl | assumption) (by decide) rfl rfl rfl (Nat.le_of_ble_eq_true rfl) (c_F_passDays bk29 h_25.1 hFI (by omega) (by omega)) (fun m_33 h_33 => ?_)
      have ft := h_25.2.tr h_33.2
      have hX2 := hX.try hI ft
      have th := bk_t bk29 s
      have tnh := h_33.1.tn (days_inv hFI _) (s := s) (by omega)
      refine mw_aload_n dX6_tension_36 rfl ?_
      refine mw_gr_6_3 dX6_tension_37 gs_X6_23 (by first | rfl | assumption) ?_
      refine mw_iload_n dX6_tension_40 rfl ?_
      refine mw_Vpr (ci := 1) dX6_tension_41 ml_X6_66 ok_X1_tuneOf (by decide) (by first | rfl | assumption) (by decide) rfl rfl rfl (Nat.le_of_ble_eq_true rfl) (c_F_tuneOf bk29 (by omega)) ?_
      refine mw_Vpi (ci := 5) dX6_tension_44 ml_X6_89 ok_X5_wideLeaps (by decide) th.1 (by decide) rfl rfl rfl (Nat.le_of_ble_eq_true rfl) (c_T_wide th.1 th.2.1 th.2.2 tnh.2.1 tnh.2.2.1) ?_
      rw [tens_eq h_33.1 (days_inv hFI _) (by omega)]
      refine mw_iret dX6_tension_47 rfl ?_
      refine ⟨_, rfl, ?_⟩
      unfold sp_tension
      rw [if_pos (by omega)]
      exact ⟨rfl, hX2, ft.xf bk29⟩
    · have d_14 := wi_0 c_14
      refine mw_aload_n dX6_tension_17 rfl ?_
      refine mw_ldc dX6_tension_18 ct_X6_61 ?_
      refine mw_Vi (ci := 6) dX6_tension_20 ml_X6_62 ok_X6_found (by decide) (by first | rfl | assumption) (by decide) rfl rfl rfl (Nat.le_of_ble_eq_true rfl) (c_X_find hX hI 0 (by decide) (by decide)) (fun z_20 m_20 h_20 => ?_)
      refine mw_iret dX6_tension_23 rfl ?_
      refine ⟨_, rfl, ?_⟩
      unfold sp_tension
      rw [if_neg (by omega)]
      exact h_20
set_option maxHeartbeats 4000000 in
set_option maxRecDepth 100000 in
theorem c_X_home {G : mG} {μ : mMem} {st : aS} (hX : XR μ st) (hI : SI st) {s : Int} (hs_ : -2147483648 ≤ s ∧ s ≤ 2147483647) : mM G yX6_home cX6_home 3 (some .int) 5 [.ref 0, .int (iV s)] μ (qX μ (sp_home st s)) := by
  obtain ⟨hF, hK, hkp, htl, htb, hfd, hsh⟩ := id hX
  have hFI := hI.1
  have ec := hF.1
  have hn := hFI.2.1
  have ed := hF.2.1
  have h0 := hFI.1
  have h99 := hI.2.1
  refine mM.of (lv := [some (.ref 0), some (.int (iV s)), none]) 1 (by decide +kernel) (Nat.le_of_ble_eq_true rfl) rfl ?_
  intro X
  refine mw_iload_n dX6_home_0 rfl ?_
  refine mw_Spi dX6_home_1 ml_X6_53 ok_X6_isSide (by decide) rfl rfl (Nat.le_of_ble_eq_true rfl) (c_X_isSide (by omega)) ?_
  refine mw_if_ne (tgt := 14) dX6_home_4 (by decide) (wi_bd _ _ _) (fun c_4 => ?_) (fun c_4 => ?_)
  · have d_4 := wi_1 c_4
    refine mw_aload_n dX6_home_14 rfl ?_
    refine mw_Vv (ci := 6) dX6_home_15 ml_X6_183 ok_X6_startTrial (by decide) (by first | rfl | assumption) (by decide) rfl rfl rfl (Nat.le_of_ble_eq_true rfl) (c_X_startTrial hF hFI) (fun m_15 h_15 => ?_)
    refine mw_aload_n dX6_home_18 rfl ?_
    refine mw_gr_6_3 dX6_home_19 gs_X6_23 (by first | rfl | assumption) ?_
    refine mw_iload_n dX6_home_22 rfl ?_
    refine mw_sipush dX6_home_23 (by decide +kernel) ?_
    refine mw_Vi (ci := 1) dX6_home_26 ml_X6_186 ok_X1_passDaysUntilHome (by decide) (by first | rfl | assumption) (by decide) rfl rfl rfl (Nat.le_of_ble_eq_true rfl) (c_F_untilHome bk29 h_15.1 hFI (by omega) (by omega) (by omega)) (fun z_26 m_26 h_26 => ?_)
    obtain ⟨e_26, f_26⟩ := h_26
    rw [show ((200 : Int) + 1).toNat = 201 from rfl] at e_26
    have b_26 := fst_bd (homeP s) 201 0 (st.1 0)
    have ft := h_15.2.tr f_26
    have hX2 := hX.try hI ft
    refine mw_is2 dX6_home_29 (by decide) rfl ?_
    refine mw_iload_n dX6_home_30 rfl ?_
    refine mw_sipush dX6_home_31 (by decide +kernel) ?_
    refine mw_icmp_le (tgt := 46) dX6_home_34 (by decide) (by omega) (by omega) (fun c_34 => ?_) (fun c_34 => ?_)
    · refine mw_iload_n dX6_home_46 rfl ?_
      refine mw_iret dX6_home_47 rfl ?_
      refine ⟨_, rfl, ?_⟩
      unfold sp_home
      rw [if_pos (by omega), if_neg (by omega)]
      exact ⟨e_26, hX2, ft.xf bk29⟩
    · refine mw_aload_n dX6_home_37 rfl ?_
      refine mw_ldc dX6_home_38 ct_X6_149 ?_
      refine mw_Vi (ci := 6) dX6_home_40 ml_X6_62 ok_X6_found (by decide) (by first | rfl | assumption) (by decide) rfl rfl rfl (Nat.le_of_ble_eq_true rfl) (c_X_find hX2 hI 3 (by decide) (by decide)) (fun z_40 m_40 h_40 => ?_)
      refine mw_goto (tgt := 47) dX6_home_43 (by decide) ?_
      refine mw_iret dX6_home_47 rfl ?_
      refine ⟨_, rfl, ?_⟩
      unfold sp_home
      rw [if_pos (by omega), if_pos (by omega)]
      exact ⟨h_40.1, h_40.2.1, XF.tr (ft.xf bk29) h_40.2.2⟩
  · have d_4 := wi_0 c_4
    refine mw_aload_n dX6_home_7 rfl ?_
    refine mw_ldc dX6_home_8 ct_X6_61 ?_
    refine mw_Vi (ci := 6) dX6_home_10 ml_X6_62 ok_X6_found (by decide) (by first | rfl | assumption) (by decide) rfl rfl rfl (Nat.le_of_ble_eq_true rfl) (c_X_find hX hI 0 (by decide) (by decide)) (fun z_10 m_10 h_10 => ?_)
    refine mw_iret dX6_home_13 rfl ?_
    refine ⟨_, rfl, ?_⟩
    unfold sp_home
    rw [if_neg (by omega)]
    exact h_10
set_option maxHeartbeats 4000000 in
set_option maxRecDepth 100000 in
theorem c_X_alike {G : mG} {μ : mMem} {st : aS} (hX : XR μ st) (hI : SI st) : mM G yX6_alike cX6_alike 2 (some .int) 5 [.ref 0] μ (qX μ (sp_alike st)) := by
  obtain ⟨hF, hK, hkp, htl, htb, hfd, hsh⟩ := id hX
  have hFI := hI.1
  have ec := hF.1
  have hn := hFI.2.1
  have ed := hF.2.1
  have h0 := hFI.1
  have h99 := hI.2.1
  refine mM.of (lv := [some (.ref 0), none]) 1 (by decide +kernel) (Nat.le_of_ble_eq_true rfl) rfl ?_
  intro X
  refine mw_aload_n dX6_alike_0 rfl ?_
  refine mw_Vv (ci := 6) dX6_alike_1 ml_X6_183 ok_X6_startTrial (by decide) (by first | rfl | assumption) (by decide) rfl rfl rfl (Nat.le_of_ble_eq_true rfl) (c_X_startTrial hF hFI) (fun m_1 h_1 => ?_)
  refine mw_aload_n dX6_alike_4 rfl ?_
  refine mw_gr_6_3 dX6_alike_5 gs_X6_23 (by first | rfl | assumption) ?_
  refine mw_sipush dX6_alike_8 (by decide +kernel) ?_
  refine mw_Vi (ci := 1) dX6_alike_11 ml_X6_190 ok_X1_passDaysUntilAlike (by decide) (by first | rfl | assumption) (by decide) rfl rfl rfl (Nat.le_of_ble_eq_true rfl) (c_F_untilAlike bk29 h_1.1 hFI (by omega) (by omega)) (fun z_11 m_11 h_11 => ?_)
  obtain ⟨e_11, f_11⟩ := h_11
  rw [show ((200 : Int) + 1).toNat = 201 from rfl] at e_11
  have b_11 := fst_bd (alikeP) 201 0 (st.1 0)
  have ft := h_1.2.tr f_11
  have hX2 := hX.try hI ft
  refine mw_is1 dX6_alike_14 (by decide) rfl ?_
  refine mw_iload_n dX6_alike_15 rfl ?_
  refine mw_sipush dX6_alike_16 (by decide +kernel) ?_
  refine mw_icmp_le (tgt := 31) dX6_alike_19 (by decide) (by omega) (by omega) (fun c_19 => ?_) (fun c_19 => ?_)
  · refine mw_iload_n dX6_alike_31 rfl ?_
    refine mw_iret dX6_alike_32 rfl ?_
    refine ⟨_, rfl, ?_⟩
    unfold sp_alike
    rw [if_neg (by omega)]
    exact ⟨e_11, hX2, ft.xf bk29⟩
  · refine mw_aload_n dX6_alike_22 rfl ?_
    refine mw_ldc dX6_alike_23 ct_X6_149 ?_
    refine mw_Vi (ci := 6) dX6_alike_25 ml_X6_62 ok_X6_found (by decide) (by first | rfl | assumption) (by decide) rfl rfl rfl (Nat.le_of_ble_eq_true rfl) (c_X_find hX2 hI 3 (by decide) (by decide)) (fun z_25 m_25 h_25 => ?_)
    refine mw_goto (tgt := 32) dX6_alike_28 (by decide) ?_
    refine mw_iret dX6_alike_32 rfl ?_
    refine ⟨_, rfl, ?_⟩
    unfold sp_alike
    rw [if_pos (by omega)]
    exact ⟨h_25.1, h_25.2.1, XF.tr (ft.xf bk29) h_25.2.2⟩
set_option maxHeartbeats 4000000 in
set_option maxRecDepth 100000 in
theorem c_X_again {G : mG} {μ : mMem} {st : aS} (hX : XR μ st) (hI : SI st) {s : Int} (hs_ : -2147483648 ≤ s ∧ s ≤ 2147483647) : mM G yX6_again cX6_again 5 (some .int) 4 [.ref 0, .int (iV s)] μ (qX μ (sp_again st s)) := by
  obtain ⟨hF, hK, hkp, htl, htb, hfd, hsh⟩ := id hX
  have hFI := hI.1
  have ec := hF.1
  have hn := hFI.2.1
  have ed := hF.2.1
  have h0 := hFI.1
  have h99 := hI.2.1
  refine mM.of (lv := [some (.ref 0), some (.int (iV s)), none, none, none]) 3 (by decide +kernel) (Nat.le_of_ble_eq_true rfl) rfl ?_
  intro X
  have lp : ∀ (n_ : Nat) (q4 : Option Value) (i v : Int) (m : mMem), (0 ≤ s ∧ s ≤ 1) → (1 ≤ i) → (i ≤ 201) → (202 ≤ i + n_) → (FUG m 29 (daysF (i - 1).toNat (st.1 0))) → (FR 29 μ m) → (v = 0 ∨ v = 1) → (agn (st.1 0) s (201 - i).toNat i v (daysF (i - 1).toNat (st.1 0)) = agn (st.1 0) s 200 1 0 (st.1 0)) → mW X cX6_again 5 (some .int) yX6_again.cls 4 G (qX μ (sp_again st s)) 22 [some (.ref 0), some (.int (iV s)), some (.int (iV v)), some (.int (iV i)), q4] [] m := by
    intro n_
    induction n_ with
    | zero =>
      intro q4 i v m hs h1 h2 h3 h4 h5 hv h6
      omega
    | succ n_ ih =>
      intro q4 i v m hs h1 h2 h3 h4 h5 hv h6
      refine mw_iload_n dX6_again_22 rfl ?_
      refine mw_sipush dX6_again_23 (by decide +kernel) ?_
      refine mw_icmp_gt (tgt := 89) dX6_again_26 (by decide) (by omega) (by omega) (fun c_26 => ?_) (fun c_26 => ?_)
      · refine mw_aload_n dX6_again_89 rfl ?_
        refine mw_ldc dX6_again_90 ct_X6_149 ?_
        refine mw_Vi (ci := 6) dX6_again_92 ml_X6_62 ok_X6_found (by decide) (by first | rfl | assumption) (by decide) rfl rfl rfl (Nat.le_of_ble_eq_true rfl) (c_X_find (hX.try hI h5) hI 3 (by decide) (by decide)) (fun z_92 m_92 h_92 => ?_)
        refine mw_iret dX6_again_95 rfl ?_
        rw [show (201 - i).toNat = 0 by omega, agn] at h6
        refine ⟨_, rfl, ?_⟩
        unfold sp_again
        rw [if_pos (by omega), if_pos (by omega)]
        exact ⟨h_92.1, h_92.2.1, XF.tr (h5.xf bk29) h_92.2.2⟩
      · refine mw_aload_n dX6_again_29 rfl ?_
        refine mw_gr_6_3 dX6_again_30 gs_X6_23 (by first | rfl | assumption) ?_
        refine mw_Vv (ci := 1) dX6_again_33 ml_X6_193 ok_X1_passDay (by decide) (by first | rfl | assumption) (by decide) rfl rfl rfl (Nat.le_of_ble_eq_true rfl) (c_F_passDay bk29 h4 (days_inv hFI _) (by rw [days_day]; omega)) (fun m_33 h_33 => ?_)
        have ft := h5.tr h_33.2
        have hX2 := hX.try hI ft
        have th := bk_t bk29 s
        have th2 := bk_t bk1 s
        have hdi := day_inv (days_inv hFI (i - 1).toNat)
        have tnh := h_33.1.tn hdi hs
        have tn2 := hX2.1.tn hFI hs
        have hsc := same_c (st.1 0) s (dayF (daysF (i - 1).toNat (st.1 0)))
        rw [show (201 - i).toNat = (201 - (i + 1)).toNat + 1 by omega, agn] at h6
        refine mw_aload_n dX6_again_36 rfl ?_
        refine mw_gr_6_3 dX6_again_37 gs_X6_23 (by first | rfl | assumption) ?_
        refine mw_iload_n dX6_again_40 rfl ?_
        refine mw_Vpr (ci := 1) dX6_again_41 ml_X6_66 ok_X1_tuneOf (by decide) (by first | rfl | assumption) (by decide) rfl rfl rfl (Nat.le_of_ble_eq_true rfl) (c_F_tuneOf bk29 hs) ?_
        refine mw_aload_n dX6_again_44 rfl ?_
        refine mw_gr_6_0 dX6_again_45 gs_X6_10 (by first | rfl | assumption) ?_
        refine mw_iload_n dX6_again_48 rfl ?_
        refine mw_Vpr (ci := 1) dX6_again_49 ml_X6_66 ok_X1_tuneOf (by decide) (by first | rfl | assumption) (by decide) rfl rfl rfl (Nat.le_of_ble_eq_true rfl) (c_F_tuneOf bk1 hs) ?_
        refine mw_Vpi (ci := 5) dX6_again_52 ml_X6_196 ok_X5_isSameAs (by decide) th.1 (by decide) rfl rfl rfl (Nat.le_of_ble_eq_true rfl) (c_T_same th.1 th.2.1 th.2.2 tnh.2.1 tnh.2.2.1 th2.1 th2.2.1 th2.2.2 tn2.2.1 tn2.2.2.1) ?_
        rw [same_eq h_33.1 hdi hX2.1 hFI hs]
        refine mw_is4 dX6_again_55 (by decide) rfl ?_
        refine mw_iload dX6_again_57 rfl ?_
        refine mw_if_eq (tgt := 68) dX6_again_59 (by decide) (by omega) (fun c_59 => ?_) (fun c_59 => ?_)
        · refine mw_iload_n dX6_again_68 rfl ?_
          refine mw_if_ne (tgt := 77) dX6_again_69 (by decide) (by omega) (fun c_69 => ?_) (fun c_69 => ?_)
          · refine mw_iconst dX6_again_77 ?_
            refine mw_goto (tgt := 82) dX6_again_78 (by decide) ?_
            refine mw_is2 dX6_again_82 (by decide) rfl ?_
            refine mw_ii3 dX6_again_83 (by decide) rfl ?_
            refine mw_goto (tgt := 22) dX6_again_86 (by decide) ?_
            first
              | (exfalso; omega)
              | (rw [if_neg (by omega)] at h6
                 first
                 | rw [if_pos (by omega)] at h6
                 | rw [if_neg (by omega)] at h6
                 exact ih _ _ _ _ hs (by omega) (by omega) (by omega) (by rw [show (i + 1 - 1).toNat = (i - 1).toNat + 1 by omega, days_succ]; exact h_33.1) ft (by omega) (by rw [show (i + 1 - 1).toNat = (i - 1).toNat + 1 by omega, days_succ]; exact h6))
          · refine mw_iload dX6_again_72 rfl ?_
            refine mw_if_ne (tgt := 81) dX6_again_74 (by decide) (by omega) (fun c_74 => ?_) (fun c_74 => ?_)
            · refine mw_iconst dX6_again_81 ?_
              refine mw_is2 dX6_again_82 (by decide) rfl ?_
              refine mw_ii3 dX6_again_83 (by decide) rfl ?_
              refine mw_goto (tgt := 22) dX6_again_86 (by decide) ?_
              first
                | (exfalso; omega)
                | (rw [if_neg (by omega)] at h6
                   first
                   | rw [if_pos (by omega)] at h6
                   | rw [if_neg (by omega)] at h6
                   exact ih _ _ _ _ hs (by omega) (by omega) (by omega) (by rw [show (i + 1 - 1).toNat = (i - 1).toNat + 1 by omega, days_succ]; exact h_33.1) ft (by omega) (by rw [show (i + 1 - 1).toNat = (i - 1).toNat + 1 by omega, days_succ]; exact h6))
            · refine mw_iconst dX6_again_77 ?_
              refine mw_goto (tgt := 82) dX6_again_78 (by decide) ?_
              refine mw_is2 dX6_again_82 (by decide) rfl ?_
              refine mw_ii3 dX6_again_83 (by decide) rfl ?_
              refine mw_goto (tgt := 22) dX6_again_86 (by decide) ?_
              first
                | (exfalso; omega)
                | (rw [if_neg (by omega)] at h6
                   first
                   | rw [if_pos (by omega)] at h6
                   | rw [if_neg (by omega)] at h6
                   exact ih _ _ _ _ hs (by omega) (by omega) (by omega) (by rw [show (i + 1 - 1).toNat = (i - 1).toNat + 1 by omega, days_succ]; exact h_33.1) ft (by omega) (by rw [show (i + 1 - 1).toNat = (i - 1).toNat + 1 by omega, days_succ]; exact h6))
        · refine mw_iload_n dX6_again_62 rfl ?_
          refine mw_if_eq (tgt := 68) dX6_again_63 (by decide) (by omega) (fun c_63 => ?_) (fun c_63 => ?_)
          · refine mw_iload_n dX6_again_68 rfl ?_
            refine mw_if_ne (tgt := 77) dX6_again_69 (by decide) (by omega) (fun c_69 => ?_) (fun c_69 => ?_)
            · refine mw_iconst dX6_again_77 ?_
              refine mw_goto (tgt := 82) dX6_again_78 (by decide) ?_
              refine mw_is2 dX6_again_82 (by decide) rfl ?_
              refine mw_ii3 dX6_again_83 (by decide) rfl ?_
              refine mw_goto (tgt := 22) dX6_again_86 (by decide) ?_
              first
                | (exfalso; omega)
                | (rw [if_neg (by omega)] at h6
                   first
                   | rw [if_pos (by omega)] at h6
                   | rw [if_neg (by omega)] at h6
                   exact ih _ _ _ _ hs (by omega) (by omega) (by omega) (by rw [show (i + 1 - 1).toNat = (i - 1).toNat + 1 by omega, days_succ]; exact h_33.1) ft (by omega) (by rw [show (i + 1 - 1).toNat = (i - 1).toNat + 1 by omega, days_succ]; exact h6))
            · refine mw_iload dX6_again_72 rfl ?_
              refine mw_if_ne (tgt := 81) dX6_again_74 (by decide) (by omega) (fun c_74 => ?_) (fun c_74 => ?_)
              · refine mw_iconst dX6_again_81 ?_
                refine mw_is2 dX6_again_82 (by decide) rfl ?_
                refine mw_ii3 dX6_again_83 (by decide) rfl ?_
                refine mw_goto (tgt := 22) dX6_again_86 (by decide) ?_
                first
                  | (exfalso; omega)
                  | (rw [if_neg (by omega)] at h6
                     first
                     | rw [if_pos (by omega)] at h6
                     | rw [if_neg (by omega)] at h6
                     exact ih _ _ _ _ hs (by omega) (by omega) (by omega) (by rw [show (i + 1 - 1).toNat = (i - 1).toNat + 1 by omega, days_succ]; exact h_33.1) ft (by omega) (by rw [show (i + 1 - 1).toNat = (i - 1).toNat + 1 by omega, days_succ]; exact h6))
              · refine mw_iconst dX6_again_77 ?_
                refine mw_goto (tgt := 82) dX6_again_78 (by decide) ?_
                refine mw_is2 dX6_again_82 (by decide) rfl ?_
                refine mw_ii3 dX6_again_83 (by decide) rfl ?_
                refine mw_goto (tgt := 22) dX6_again_86 (by decide) ?_
                first
                  | (exfalso; omega)
                  | (rw [if_neg (by omega)] at h6
                     first
                     | rw [if_pos (by omega)] at h6
                     | rw [if_neg (by omega)] at h6
                     exact ih _ _ _ _ hs (by omega) (by omega) (by omega) (by rw [show (i + 1 - 1).toNat = (i - 1).toNat + 1 by omega, days_succ]; exact h_33.1) ft (by omega) (by rw [show (i + 1 - 1).toNat = (i - 1).toNat + 1 by omega, days_succ]; exact h6))
          · refine mw_iload_n dX6_again_66 rfl ?_
            refine mw_iret dX6_again_67 rfl ?_
            rw [if_pos (by omega)] at h6
            refine ⟨_, rfl, ?_⟩
            unfold sp_again
            rw [if_pos (by omega), if_neg (by omega)]
            exact ⟨h6, hX2, ft.xf bk29⟩
  refine mw_iload_n dX6_again_0 rfl ?_
  refine mw_Spi dX6_again_1 ml_X6_53 ok_X6_isSide (by decide) rfl rfl (Nat.le_of_ble_eq_true rfl) (c_X_isSide (by omega)) ?_
  refine mw_if_ne (tgt := 14) dX6_again_4 (by decide) (wi_bd _ _ _) (fun c_4 => ?_) (fun c_4 => ?_)
  · have d_4 := wi_1 c_4
    refine mw_aload_n dX6_again_14 rfl ?_
    refine mw_Vv (ci := 6) dX6_again_15 ml_X6_183 ok_X6_startTrial (by decide) (by first | rfl | assumption) (by decide) rfl rfl rfl (Nat.le_of_ble_eq_true rfl) (c_X_startTrial hF hFI) (fun m_15 h_15 => ?_)
    refine mw_iconst dX6_again_18 ?_
    refine mw_is2 dX6_again_19 (by decide) rfl ?_
    refine mw_iconst dX6_again_20 ?_
    refine mw_is3 dX6_again_21 (by decide) rfl ?_
    exact lp 201 _ _ _ _ (by omega) (by omega) (by omega) (by omega) h_15.1 h_15.2 (by omega) rfl
  · have d_4 := wi_0 c_4
    refine mw_aload_n dX6_again_7 rfl ?_
    refine mw_ldc dX6_again_8 ct_X6_61 ?_
    refine mw_Vi (ci := 6) dX6_again_10 ml_X6_62 ok_X6_found (by decide) (by first | rfl | assumption) (by decide) rfl rfl rfl (Nat.le_of_ble_eq_true rfl) (c_X_find hX hI 0 (by decide) (by decide)) (fun z_10 m_10 h_10 => ?_)
    refine mw_iret dX6_again_13 rfl ?_
    refine ⟨_, rfl, ?_⟩
    unfold sp_again
    rw [if_neg (by omega)]
    exact h_10

/-! ===== the affair, told once for both ===== -/
def nmI (t : Int → Int) (L e M : Int) : Int := if tS t L e = 2 ∧ tV t L e ≤ M then 1 else 0
theorem nm_0 {t : Int → Int} {L e M : Int} (h : nmI t L e M = 0) : ¬ (tS t L e = 2 ∧ tV t L e ≤ M) := fun q => by unfold nmI at h; rw [if_pos q] at h; cases h
theorem nm_1 {t : Int → Int} {L e M : Int} (h : ¬ nmI t L e M = 0) : tS t L e = 2 ∧ tV t L e ≤ M := Classical.byContradiction (fun q => h (by unfold nmI; rw [if_neg q]))
theorem nm_c (t : Int → Int) (L e M : Int) : nmI t L e M = 0 ∨ nmI t L e M = 1 := by unfold nmI; split <;> simp
def tuN (t : Int → Int) (L : Int) : Nat → Int → Nat
  | 0, _ => 0
  | n + 1, e => if tS t L e = 2 ∧ tV t L e ≤ 11 then 1 + tuN t L n (tE t L e) else 0
def eAt (t : Int → Int) (L : Int) : Nat → Int → Int
  | 0, e => e
  | n + 1, e => eAt t L n (tE t L e)
theorem eAt_s (t : Int → Int) (L : Int) : ∀ (n : Nat) (e : Int), eAt t L (n + 1) e = tE t L (eAt t L n e)
  | 0, _ => rfl
  | n + 1, e => eAt_s t L n (tE t L e)
theorem eAt_bd (t : Int → Int) {L : Int} : ∀ (n : Nat) {e : Int}, 0 ≤ e ∧ e ≤ L → e ≤ eAt t L n e ∧ eAt t L n e ≤ L
  | 0, e, h => by rw [eAt]; omega
  | n + 1, e, h => by
    rw [eAt]
    have h1 := tB_bd t h
    have h2 := tE_bd t h
    have := eAt_bd t (L := L) n (e := tE t L e) (by omega)
    omega
theorem tuN_r (t : Int → Int) (L : Int) : ∀ (n : Nat) (e : Int), tuN t L n e ≤ n ∧ ∀ j : Nat, j < tuN t L n e → tS t L (eAt t L j e) = 2 ∧ tV t L (eAt t L j e) ≤ 11
  | 0, _ => ⟨Nat.le_refl 0, fun j h => by cases h⟩
  | n + 1, e => by
    rw [tuN]
    have ih := tuN_r t L n (tE t L e)
    by_cases h : tS t L e = 2 ∧ tV t L e ≤ 11
    · rw [if_pos h]
      refine ⟨by omega, fun j hj => ?_⟩
      cases j with
      | zero => exact h
      | succ j => exact ih.2 j (by omega)
    · rw [if_neg h]
      exact ⟨by omega, fun j hj => by cases hj⟩
abbrev pR3 : Type := Int × Int × (Int → Int)
def tuT (t : Int → Int) (L e : Int) : Int → Int := fun j => tV t L (eAt t L j.toNat e)
def pTune (t : Int → Int) (L : Int) (F : Int → Int) (e : Int) : pR3 :=
  if nmI t L (tE t L e) 1 = 0 then (0, tE t L e, F)
  else if 0 < tuN t L 12 (tE t L (tE t L e)) ∧ ¬ tS t L (eAt t L (tuN t L 12 (tE t L (tE t L e))) (tE t L (tE t L e))) = 2 then (1, eAt t L (tuN t L 12 (tE t L (tE t L e))) (tE t L (tE t L e)), setT F (tV t L (tE t L e)) (tuN t L 12 (tE t L (tE t L e)) : Nat) (tuT t L (tE t L (tE t L e))))
  else (0, eAt t L (tuN t L 12 (tE t L (tE t L e))) (tE t L (tE t L e)), F)
def pBlot (t : Int → Int) (L : Int) (F : Int → Int) (k s y e : Int) : pR3 :=
  if wdI t L e 8 = 0 then (1, e, engF F k s y 0) else if nmI t L (tE t L e) 11 = 0 then (0, tE t L e, F) else (1, tE t L (tE t L e), engF F k s y (bShl 1 (tV t L (tE t L e))))
def pKey (t : Int → Int) (L : Int) (F : Int → Int) (k s e : Int) : pR3 :=
  if wdI t L e 7 = 0 then pBlot t L F k s 0 e else if nmI t L (tE t L e) 11 = 0 then (0, tE t L e, F) else pBlot t L F k s (tV t L (tE t L e)) (tE t L (tE t L e))
def pAtt (t : Int → Int) (L : Int) (F : Int → Int) (k e : Int) : pR3 :=
  if wdI t L (tE t L e) 6 = 0 then (0, tE t L e, F) else if nmI t L (tE t L (tE t L e)) 1 = 0 then (0, tE t L (tE t L e), F) else pKey t L F k (tV t L (tE t L (tE t L e))) (tE t L (tE t L (tE t L e)))
def kdL (t : Int → Int) (L e : Int) : Nat → Int → Int
  | 0, _ => -1
  | n + 1, k => if wdI t L e k.toNat = 0 then kdL t L e n (k + 1) else k
theorem kdL_r (t : Int → Int) (L e : Int) : ∀ (n : Nat) (k : Int), kdL t L e n k = -1 ∨ (k ≤ kdL t L e n k ∧ kdL t L e n k < k + n ∧ wdI t L e (kdL t L e n k).toNat = 1)
  | 0, _ => Or.inl rfl
  | n + 1, k => by
    rw [kdL]
    by_cases h : wdI t L e k.toNat = 0
    · rw [if_pos h]
      rcases kdL_r t L e n (k + 1) with q | q
      · exact Or.inl q
      · exact Or.inr ⟨by omega, by omega, q.2.2⟩
    · rw [if_neg h]
      exact Or.inr ⟨Int.le_refl _, by omega, (wd_c t L e k.toNat).resolve_left h⟩
def pItem (t : Int → Int) (L : Int) (F : Int → Int) (e : Int) : pR3 :=
  if wdI t L e 9 = 0 then (if kdL t L e 6 0 = -1 ∨ F 1 = 8 then (0, e, F) else pAtt t L F (kdL t L e 6 0) e) else pTune t L F e
def pAff (t : Int → Int) (L : Int) : Nat → Int → Int → (Int → Int) → Int × (Int → Int)
  | 0, _, e, F => (-1 - tB t L e, F)
  | n + 1, i, e, F => if (pItem t L F e).1 = 0 then (-1 - tB t L (pItem t L F e).2.1, F) else if tS t L (pItem t L F e).2.1 = 0 then (i, (pItem t L F e).2.2) else if cK t L (pItem t L F e).2.1 = 3 then pAff t L n (i + 1) (tE t L (pItem t L F e).2.1) (pItem t L F e).2.2 else (-1 - tB t L (pItem t L F e).2.1, F)
def sp_affair (st : aS) : Int × aS := if (pAff (st.1 3) (st.1 2 1) 120 1 0 (st.1 0)).1 < 0 then ((pAff (st.1 3) (st.1 2 1) 120 1 0 (st.1 0)).1, stT st (st.1 3) 0) else ((pAff (st.1 3) (st.1 2 1) 120 1 0 (st.1 0)).1, stT (sU st 0 (pAff (st.1 3) (st.1 2 1) 120 1 0 (st.1 0)).2) (st.1 3) 0)
theorem cK_2 {t : Int → Int} {L e : Int} : cK t L e = 2 ↔ tS t L e = 2 := by unfold cK; split <;> (try split) <;> omega
theorem cK_1 {t : Int → Int} {L e : Int} : cK t L e = 1 ↔ tS t L e = 1 := by unfold cK; split <;> (try split) <;> omega
theorem cK_0 {t : Int → Int} {L e : Int} : cK t L e = 0 ↔ tS t L e = 0 := by unfold cK; split <;> (try split) <;> omega
theorem cK_bd (t : Int → Int) (L e : Int) : 0 ≤ cK t L e ∧ cK t L e ≤ 4 := by
  unfold cK
  rcases tS_c t L e with c | c | c | c <;> (repeat' split) <;> omega
def TF (μ m : mMem) : Prop := (∀ c : Nat, c < 29 ∨ (43 ≤ c ∧ c ≠ 45) → m.1 c = μ.1 c) ∧ m.2 = μ.2
theorem TF.rf {μ : mMem} : TF μ μ := ⟨fun _ _ => rfl, rfl⟩
theorem TF.tr {μ m m2 : mMem} (h : TF μ m) (h2 : TF m m2) : TF μ m2 := ⟨fun c q => (h2.1 c q).trans (h.1 c q), h2.2.trans h.2⟩
theorem SC.tf {μ m : mMem} (h : SC μ m) : TF μ m := ⟨fun c q => h.1 c (by omega), h.2⟩
theorem FR.tf {μ m : mMem} (h : FR 29 μ m) : TF μ m := ⟨fun c q => h.1 c (by omega), h.2⟩
theorem TP.tf {μ m : mMem} {t : Int → Int} {L : Int} (h : TP μ t L) (hs : TF μ m) : TP m t L := ⟨by rw [hs.1 _ (by omega)]; exact h.1, h.2.1, fun i q1 q2 => by rw [hs.1 _ (by omega)]; exact h.2.2.1 i q1 q2, h.2.2.2⟩
theorem TK.fr {μ m : mMem} {t : Int → Int} {L e : Int} (h : TK μ t L e) (hs : m.1 45 = μ.1 45) : TK m t L e := by unfold TK; rw [hs]; exact h
theorem FUG.sc {μ m : mMem} {F : Int → Int} (h : FUG μ 29 F) (hI : fInv F) (hs : SC μ m) : FUG m 29 F := h.keep hI.2.1.2 (fun c q1 q2 => hs.1 c (by omega))
set_option maxHeartbeats 4000000 in
set_option maxRecDepth 100000 in
theorem c_C_isNumberTo {G : mG} {μ : mMem} {t : Int → Int} {L e : Int} (hT : TP μ t L) (hK : TK μ t L e) (hE : 0 ≤ e ∧ e ≤ L) {M : Int} (hM : 0 ≤ M ∧ M < 1000) : mM G yX2_isNumberTo cX2_isNumberTo 2 (some .boolean) 0 [.ref 45, .int (iV M)] μ (pI (nmI t L e M) μ) := by
  have hc := cK_bd t L e
  have hv := tV_0 t L e
  refine mM.of (lv := [some (.ref 45), some (.int (iV M))]) 0 (by decide +kernel) (Nat.le_of_ble_eq_true rfl) rfl ?_
  intro X
  refine mw_aload_n dX2_isNumberTo_0 rfl ?_
  refine mw_getI 1 dX2_isNumberTo_1 gs_X2_15 (by first | rfl | assumption) rfl rfl ?_
  rw [hK.1]
  refine mw_iconst dX2_isNumberTo_4 ?_
  refine mw_icmp_ne (tgt := 20) dX2_isNumberTo_5 (by decide) (by omega) (by omega) (fun c_5 => ?_) (fun c_5 => ?_)
  · refine mw_iconst dX2_isNumberTo_20 ?_
    refine mw_zret dX2_isNumberTo_21 rfl (by decide +kernel) ?_
    exact ⟨by unfold nmI; rw [if_neg (fun q => c_5 (cK_2.mpr q.1))], rfl⟩
  · refine mw_aload_n dX2_isNumberTo_8 rfl ?_
    refine mw_getI 4 dX2_isNumberTo_9 gs_X2_25 (by first | rfl | assumption) rfl rfl ?_
    rw [hK.2.2.2 (cK_2.mp c_5)]
    refine mw_iload_n dX2_isNumberTo_12 rfl ?_
    refine mw_icmp_gt (tgt := 20) dX2_isNumberTo_13 (by decide) (by omega) (by omega) (fun c_13 => ?_) (fun c_13 => ?_)
    · refine mw_iconst dX2_isNumberTo_20 ?_
      refine mw_zret dX2_isNumberTo_21 rfl (by decide +kernel) ?_
      exact ⟨by unfold nmI; rw [if_neg (by omega)], rfl⟩
    · refine mw_iconst dX2_isNumberTo_16 ?_
      refine mw_goto (tgt := 21) dX2_isNumberTo_17 (by decide) ?_
      refine mw_zret dX2_isNumberTo_21 rfl (by decide +kernel) ?_
      exact ⟨by unfold nmI; rw [if_pos ⟨cK_2.mp c_5, by omega⟩], rfl⟩
set_option maxHeartbeats 4000000 in
set_option maxRecDepth 100000 in
theorem c_C_isWord {G : mG} {μ : mMem} {t : Int → Int} {L e : Int} (hT : TP μ t L) (hK : TK μ t L e) (hE : 0 ≤ e ∧ e ≤ L) {i : Nat} (hi : i < 10) : mM G yX2_isWord cX2_isWord 3 (some .boolean) 5 [.ref 45, .ref (100 + i)] μ (pI (wdI t L e i) μ) := by
  have hc := cK_bd t L e
  have hb := tB_bd t hE
  have he := tE_bd t hE
  have hL := hT.2.1
  have hs := (s_tab i hi).1
  refine mM.of (lv := [some (.ref 45), some (.ref (100 + i)), none]) 1 (by decide +kernel) (Nat.le_of_ble_eq_true rfl) rfl ?_
  intro X
  have lp : ∀ (n_ : Nat) (j : Int), (tS t L e = 1 ∧ tE t L e - tB t L e = sLI i) → (0 ≤ j) → (j ≤ sLI i) → (8 ≤ j + n_) → (wdL t (tB t L e) i (sLI i - j).toNat j = wdI t L e i) → mW X cX2_isWord 3 (some .boolean) yX2_isWord.cls 5 G (pI (wdI t L e i) μ) 28 [some (.ref 45), some (.ref (100 + i)), some (.int (iV j))] [] μ := by
    intro n_
    induction n_ with
    | zero =>
      intro j c1 h1 h2 h3 h4
      omega
    | succ n_ ih =>
      intro j c1 h1 h2 h3 h4
      refine mw_iload_n dX2_isWord_28 rfl ?_
      refine mw_aload_n dX2_isWord_29 rfl ?_
      refine mw_Tpi dX2_isWord_30 ml_X2_104 ok_J0_length_8abf5 (by decide) hi rfl rfl rfl (Nat.le_of_ble_eq_true rfl) (c_len hi) ?_
      refine mw_icmp_ge (tgt := 65) dX2_isWord_33 (by decide) (by omega) (by omega) (fun c_33 => ?_) (fun c_33 => ?_)
      · refine mw_iconst dX2_isWord_65 ?_
        refine mw_zret dX2_isWord_66 rfl (by decide +kernel) ?_
        exact ⟨by rw [show (sLI i - j).toNat = 0 by omega, wdL] at h4; rw [← h4], rfl⟩
      · have hB := (b_at hi (z := j) (by omega)).1
        have tk := hT.2.2.2 (tB t L e + j) (by omega) (by omega)
        rw [show (sLI i - j).toNat = (sLI i - (j + 1)).toNat + 1 by omega, wdL] at h4
        refine mw_aload_n dX2_isWord_36 rfl ?_
        refine mw_gr_2_0 dX2_isWord_37 gs_X2_9 (by first | rfl | assumption) ?_
        refine mw_aload_n dX2_isWord_40 rfl ?_
        refine mw_getI 2 dX2_isWord_41 gs_X2_19 (by first | rfl | assumption) rfl rfl ?_
        rw [hK.2.1]
        refine mw_iload_n dX2_isWord_44 rfl ?_
        refine mw_iadd dX2_isWord_45 ?_
        refine mw_Vpi (ci := 4) dX2_isWord_46 ml_X2_108 ok_X4_byteAt (by decide) (by first | rfl | assumption) (by decide) rfl rfl rfl (Nat.le_of_ble_eq_true rfl) (c_C_byteAt hT (by omega)) ?_
        refine mw_aload_n dX2_isWord_49 rfl ?_
        refine mw_iload_n dX2_isWord_50 rfl ?_
        refine mw_Tpi dX2_isWord_51 ml_X2_114 ok_J0_charAt_5068e (by decide) hi rfl rfl rfl (Nat.le_of_ble_eq_true rfl) (c_charAt hi (by omega)) ?_
        refine mw_icmp_eq (tgt := 59) dX2_isWord_54 (by decide) (by omega) (by omega) (fun c_54 => ?_) (fun c_54 => ?_)
        · rw [if_pos c_54] at h4
          refine mw_ii2 dX2_isWord_59 (by decide) rfl ?_
          refine mw_goto (tgt := 28) dX2_isWord_62 (by decide) ?_
          exact ih _ c1 (by omega) (by omega) (by omega) h4
        · rw [if_neg c_54] at h4
          refine mw_iconst dX2_isWord_57 ?_
          refine mw_zret dX2_isWord_58 rfl (by decide +kernel) ?_
          exact ⟨by rw [← h4], rfl⟩
  refine mw_aload_n dX2_isWord_0 rfl ?_
  refine mw_getI 1 dX2_isWord_1 gs_X2_15 (by first | rfl | assumption) rfl rfl ?_
  rw [hK.1]
  refine mw_iconst dX2_isWord_4 ?_
  refine mw_icmp_ne (tgt := 24) dX2_isWord_5 (by decide) (by omega) (by omega) (fun c_5 => ?_) (fun c_5 => ?_)
  · refine mw_iconst dX2_isWord_24 ?_
    refine mw_zret dX2_isWord_25 rfl (by decide +kernel) ?_
    exact ⟨by unfold wdI; rw [if_neg (fun q => c_5 (cK_1.mpr q.1))], rfl⟩
  · refine mw_aload_n dX2_isWord_8 rfl ?_
    refine mw_getI 3 dX2_isWord_9 gs_X2_22 (by first | rfl | assumption) rfl rfl ?_
    rw [hK.2.2.1]
    refine mw_aload_n dX2_isWord_12 rfl ?_
    refine mw_getI 2 dX2_isWord_13 gs_X2_19 (by first | rfl | assumption) rfl rfl ?_
    rw [hK.2.1]
    refine mw_isub dX2_isWord_16 ?_
    refine mw_aload_n dX2_isWord_17 rfl ?_
    refine mw_Tpi dX2_isWord_18 ml_X2_104 ok_J0_length_8abf5 (by decide) hi rfl rfl rfl (Nat.le_of_ble_eq_true rfl) (c_len hi) ?_
    refine mw_icmp_eq (tgt := 26) dX2_isWord_21 (by decide) (by omega) (by omega) (fun c_21 => ?_) (fun c_21 => ?_)
    · refine mw_iconst dX2_isWord_26 ?_
      refine mw_is2 dX2_isWord_27 (by decide) rfl ?_
      have c1 : tS t L e = 1 ∧ tE t L e - tB t L e = sLI i := ⟨cK_1.mp c_5, c_21⟩
      exact lp 8 _ c1 (by omega) (by omega) (by omega) (by unfold wdI; rw [if_pos c1, Int.sub_zero])
    · refine mw_iconst dX2_isWord_24 ?_
      refine mw_zret dX2_isWord_25 rfl (by decide +kernel) ?_
      exact ⟨by unfold wdI; rw [if_neg (fun q => c_21 q.2)], rfl⟩
set_option maxHeartbeats 4000000 in
set_option maxRecDepth 100000 in
theorem c_C_nameOf {G : mG} {μ : mMem} {k : Int} (hk : 0 ≤ k ∧ k < 6) : mM G yX2_nameOf cX2_nameOf 1 (some (.object "java/lang/String")) 0 [.int (iV k)] μ (pR (100 + k.toNat) μ) := by
  refine mM.of (lv := [some (.int (iV k))]) 0 (by decide +kernel) (Nat.le_of_ble_eq_true rfl) rfl ?_
  intro X
  refine mw_iload_n dX2_nameOf_0 rfl ?_
  rcases (show k = 1 ∨ k = 2 ∨ k = 3 ∨ k = 4 ∨ k = 5 ∨ (k < 1 ∨ 5 < k) by omega) with rfl | rfl | rfl | rfl | rfl | c_1
  · refine mw_tblIn (off := 35) (tgt := 36) dX2_nameOf_1 (by decide) (by decide) (by decide) (by decide) (by decide) ?_
    refine mw_ldcS (i := 1) (tx := "mirror") dX2_nameOf_36 (by decide +kernel) ?_
    refine mw_aret dX2_nameOf_38 rfl (Or.inl ⟨_, rfl⟩) ?_
    exact ⟨rfl, rfl⟩
  · refine mw_tblIn (off := 38) (tgt := 39) dX2_nameOf_1 (by decide) (by decide) (by decide) (by decide) (by decide) ?_
    refine mw_ldcS (i := 2) (tx := "crab") dX2_nameOf_39 (by decide +kernel) ?_
    refine mw_aret dX2_nameOf_41 rfl (Or.inl ⟨_, rfl⟩) ?_
    exact ⟨rfl, rfl⟩
  · refine mw_tblIn (off := 41) (tgt := 42) dX2_nameOf_1 (by decide) (by decide) (by decide) (by decide) (by decide) ?_
    refine mw_ldcS (i := 3) (tx := "pedal") dX2_nameOf_42 (by decide +kernel) ?_
    refine mw_aret dX2_nameOf_44 rfl (Or.inl ⟨_, rfl⟩) ?_
    exact ⟨rfl, rfl⟩
  · refine mw_tblIn (off := 44) (tgt := 45) dX2_nameOf_1 (by decide) (by decide) (by decide) (by decide) (by decide) ?_
    refine mw_ldcS (i := 4) (tx := "table") dX2_nameOf_45 (by decide +kernel) ?_
    refine mw_aret dX2_nameOf_47 rfl (Or.inl ⟨_, rfl⟩) ?_
    exact ⟨rfl, rfl⟩
  · refine mw_tblIn (off := 47) (tgt := 48) dX2_nameOf_1 (by decide) (by decide) (by decide) (by decide) (by decide) ?_
    refine mw_ldcS (i := 5) (tx := "tenor") dX2_nameOf_48 (by decide +kernel) ?_
    refine mw_aret dX2_nameOf_50 rfl (Or.inl ⟨_, rfl⟩) ?_
    exact ⟨rfl, rfl⟩
  · refine mw_tblOut (tgt := 51) dX2_nameOf_1 (by omega) c_1 (by decide) ?_
    refine mw_ldcS (i := 0) (tx := "attache") dX2_nameOf_51 (by decide +kernel) ?_
    refine mw_aret dX2_nameOf_53 rfl (Or.inl ⟨_, rfl⟩) ?_
    exact ⟨by rw [show k = 0 by omega]; rfl, rfl⟩
set_option maxHeartbeats 4000000 in
set_option maxRecDepth 100000 in
theorem c_C_kindNamed {G : mG} {μ : mMem} {t : Int → Int} {L e : Int} (hT : TP μ t L) (hK : TK μ t L e) (hE : 0 ≤ e ∧ e ≤ L) : mM G yX2_kindNamed cX2_kindNamed 2 (some .int) 6 [.ref 45] μ (pI (kdL t L e 6 0) μ) := by
  refine mM.of (lv := [some (.ref 45), none]) 1 (by decide +kernel) (Nat.le_of_ble_eq_true rfl) rfl ?_
  intro X
  have lp : ∀ (n_ : Nat) (k : Int), (0 ≤ k) → (k ≤ 6) → (7 ≤ k + n_) → (kdL t L e (6 - k).toNat k = kdL t L e 6 0) → mW X cX2_kindNamed 2 (some .int) yX2_kindNamed.cls 6 G (pI (kdL t L e 6 0) μ) 2 [some (.ref 45), some (.int (iV k))] [] μ := by
    intro n_
    induction n_ with
    | zero =>
      intro k h1 h2 h3 h4
      omega
    | succ n_ ih =>
      intro k h1 h2 h3 h4
      refine mw_iload_n dX2_kindNamed_2 rfl ?_
      refine mw_bipush dX2_kindNamed_3 (by decide +kernel) ?_
      refine mw_icmp_ge (tgt := 27) dX2_kindNamed_5 (by decide) (by omega) (by omega) (fun c_5 => ?_) (fun c_5 => ?_)
      · refine mw_iconst dX2_kindNamed_27 ?_
        refine mw_iret dX2_kindNamed_28 rfl ?_
        exact ⟨by rw [show (6 - k).toNat = 0 by omega, kdL] at h4; rw [← h4], rfl⟩
      · rw [show (6 - k).toNat = (6 - (k + 1)).toNat + 1 by omega, kdL] at h4
        refine mw_aload_n dX2_kindNamed_8 rfl ?_
        refine mw_iload_n dX2_kindNamed_9 rfl ?_
        refine mw_Spr dX2_kindNamed_10 ml_X2_88 ok_X2_nameOf (by decide) rfl rfl (Nat.le_of_ble_eq_true rfl) (c_C_nameOf (by omega)) ?_
        refine mw_Vpi (ci := 2) dX2_kindNamed_13 ml_X2_37 ok_X2_isWord (by decide) (by first | rfl | assumption) (by decide) rfl rfl rfl (Nat.le_of_ble_eq_true rfl) (c_C_isWord hT hK hE (by omega)) ?_
        refine mw_if_eq (tgt := 21) dX2_kindNamed_16 (by decide) (by have := wd_c t L e k.toNat; omega) (fun c_16 => ?_) (fun c_16 => ?_)
        · rw [if_pos c_16] at h4
          refine mw_ii1 dX2_kindNamed_21 (by decide) rfl ?_
          refine mw_goto (tgt := 2) dX2_kindNamed_24 (by decide) ?_
          exact ih _ (by omega) (by omega) (by omega) h4
        · rw [if_neg c_16] at h4
          refine mw_iload_n dX2_kindNamed_19 rfl ?_
          refine mw_iret dX2_kindNamed_20 rfl ?_
          exact ⟨by rw [← h4], rfl⟩
  refine mw_iconst dX2_kindNamed_0 ?_
  refine mw_is1 dX2_kindNamed_1 (by decide) rfl ?_
  exact lp 7 _ (by omega) (by omega) (by omega) rfl

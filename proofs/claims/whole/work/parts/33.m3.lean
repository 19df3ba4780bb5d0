/-! ===== the reference's cells tell the state ===== -/
def MR (μ : mMem) (st : aS) : Prop := ROW μ 57 (st.1 0) ∧ ROW μ 58 (st.1 1) ∧ μ.1 56 3 = st.1 2 0 ∧ μ.1 56 7 = st.1 2 1 ∧ (∀ i : Int, 0 ≤ i → i < st.1 2 1 → μ.1 62 i = st.1 3 i) ∧ (∀ j : Int, 0 ≤ j → j < 7 → μ.1 60 (j + 1) = st.1 4 j) ∧ μ.1 60 0 = fsum (st.1 4) 7 ∧ ∀ s : Int, 0 ≤ s → s < 4 → μ.1 68 s = st.1 5 s ∧ μ.1 69 s = st.1 6 s ∧ ∀ i : Int, 0 ≤ i → i < 40 → μ.2 70 (40 * s + i) = st.2 (40 * s + i)
def MF (μ m : mMem) : Prop := ∀ c : Nat, c < 56 → m.1 c = μ.1 c ∧ m.2 c = μ.2 c
theorem MF.rf {μ : mMem} : MF μ μ := fun _ _ => ⟨rfl, rfl⟩
theorem MF.tr {μ m m2 : mMem} (h : MF μ m) (h2 : MF m m2) : MF μ m2 := fun c hc => ⟨(h2 c hc).1.trans (h c hc).1, (h2 c hc).2.trans (h c hc).2⟩
theorem DR.mf {μ m : mMem} (h : DR μ m) : MF μ m := fun c hc => ⟨h.1 c (by omega) (by omega) (by omega), by rw [h.2]⟩
theorem DY.mf {μ m : mMem} (h : DY μ m) : MF μ m := h.dr.mf
theorem mf_u {μ : mMem} {c : Nat} {j v : Int} (hc : 56 ≤ c) : MF μ (u1 μ c j v) := fun c' hc' => ⟨by funext i; rw [u1_o (by omega)], rfl⟩
theorem mf_u2 {μ : mMem} {c : Nat} {j : Int} {v : Int64} (hc : 56 ≤ c) : MF μ (u2 μ c j v) := fun c' hc' => ⟨rfl, by funext i; rw [u2_o (by omega)]⟩
def qM (μ : mMem) (r : Int × aS) : Option Value → mMem → Prop := qI (fun z m => z = r.1 ∧ MR m r.2 ∧ MF μ m)
def qMl (μ : mMem) (r : Int64 × aS) : Option Value → mMem → Prop := qL (fun z m => z = r.1 ∧ MR m r.2 ∧ MF μ m)
theorem MR.row {μ m : mMem} {st : aS} {F : Int → Int} (h : MR μ st) (hF : ROW m 57 F) (hf : DR μ m) : MR m (sU st 0 F) := by
  obtain ⟨h1, h2, h3, h4, h5, h6, h7, h8⟩ := h
  have e : ∀ c : Nat, c ≠ 57 → c ≠ 59 → c ≠ 61 → m.1 c = μ.1 c := hf.1
  refine ⟨hF, fun j q1 q2 => ?_, ?_, ?_, fun i q1 q2 => ?_, fun j q1 q2 => ?_, ?_, fun s q1 q2 => ?_⟩
  · rw [sU_o (by omega), e _ (by omega) (by omega) (by omega)]; exact h2 j q1 q2
  · rw [sU_o (by omega), e _ (by omega) (by omega) (by omega)]; exact h3
  · rw [sU_o (by omega), e _ (by omega) (by omega) (by omega)]; exact h4
  · rw [sU_o (by omega)] at q2 ⊢
    rw [e _ (by omega) (by omega) (by omega)]; exact h5 i q1 q2
  · rw [sU_o (by omega), e _ (by omega) (by omega) (by omega)]; exact h6 j q1 q2
  · rw [sU_o (by omega), e _ (by omega) (by omega) (by omega)]; exact h7
  · rw [sU_o (by omega), sU_o (by omega), e _ (by omega) (by omega) (by omega), e _ (by omega) (by omega) (by omega), hf.2]; exact h8 s q1 q2
theorem sU_id (st : aS) (k : Nat) : sU st k (st.1 k) = st := by
  obtain ⟨a, b⟩ := st
  unfold sU
  congr 1
  funext k'
  by_cases e : k' = k
  · rw [if_pos e, e]
  · rw [if_neg e]
theorem MR.same {μ m : mMem} {st : aS} (h : MR μ st) (hF : ROW m 57 (st.1 0)) (hf : DR μ m) : MR m st := by
  have := h.row hF hf
  rw [sU_id] at this
  exact this
theorem fsum_up (g : Int → Int) (v : Int) (hv : 0 ≤ v) : ∀ n : Nat, fsum (fun j => if j = v then g j + 1 else g j) n = fsum g n + (if v < n then 1 else 0)
  | 0 => by rw [if_neg (by omega)]; rfl
  | n + 1 => by
    rw [fsum, fsum, fsum_up g v hv n]
    by_cases e : (n : Int) = v
    · rw [if_pos e, if_neg (by omega), if_pos (by omega)]
      omega
    · rw [if_neg e]
      by_cases e2 : v < n
      · rw [if_pos e2, if_pos (by omega)]
        omega
      · rw [if_neg e2, if_neg (by omega)]
        omega
theorem MR.find {μ : mMem} {st : aS} (h : MR μ st) (v : Int) (hv : 0 ≤ v ∧ v < 7) : MR (u1 (u1 μ 60 (v + 1) (μ.1 60 (v + 1) + 1)) 60 0 (μ.1 60 0 + 1)) (fd st v) := by
  obtain ⟨h1, h2, h3, h4, h5, h6, h7, h8⟩ := h
  have e : ∀ c : Nat, c ≠ 60 → (u1 (u1 μ 60 (v + 1) (μ.1 60 (v + 1) + 1)) 60 0 (μ.1 60 0 + 1)).1 c = μ.1 c := fun c hc => by funext j; rw [u1_o (by omega), u1_o (by omega)]
  unfold fd
  refine ⟨fun j q1 q2 => ?_, fun j q1 q2 => ?_, ?_, ?_, fun i q1 q2 => ?_, fun j q1 q2 => ?_, ?_, fun s q1 q2 => ?_⟩
  · rw [sU_o (by omega), e _ (by omega)]; exact h1 j q1 q2
  · rw [sU_o (by omega), e _ (by omega)]; exact h2 j q1 q2
  · rw [sU_o (by omega), e _ (by omega)]; exact h3
  · rw [sU_o (by omega), e _ (by omega)]; exact h4
  · rw [sU_o (by omega)] at q2 ⊢
    rw [e _ (by omega)]; exact h5 i q1 q2
  · rw [sU_s, u1_o (by omega)]
    by_cases hj : j = v
    · rw [if_pos hj, hj, u1_s, h6 v hv.1 hv.2]
    · rw [if_neg hj, u1_o (by omega)]
      exact h6 j q1 q2
  · rw [sU_s, u1_s, fsum_up _ _ hv.1, if_pos (by omega), h7]
  · rw [sU_o (by omega), sU_o (by omega), e _ (by omega), e _ (by omega)]; exact h8 s q1 q2
theorem c_M_find {G : mG} {μ : mMem} {st : aS} (hX : MR μ st) (_hI : SI st) {f : Int} (v : Int) (hf : f = -1000000001 - v) (hv : 0 ≤ v ∧ v < 7) : mM G yX7_finding cX7_finding 2 (some .int) 0 [.ref 56, .int (iV f)] μ (qM μ (fnd st v)) :=
  (c_M_finding hf hv).mono (fun r m h => by obtain ⟨rfl, rfl⟩ := h; exact ⟨f, rfl, hf, hX.find v hv, (mf_u (by omega)).tr (mf_u (by omega))⟩)
theorem cp_a {m m2 : mMem} {F : Int → Int} (h : ROW m 59 F) (hd : DY m m2) : ROW m2 59 F := fun j q1 q2 => by rw [hd.1 59 (by omega) (by omega)]; exact h j q1 q2
set_option maxHeartbeats 4000000 in
set_option maxRecDepth 100000 in
theorem c_M_orNone {G : mG} {μ : mMem} {st : aS} (hX : MR μ st) (hI : SI st) {v : Int} (hv_ : -2147483648 ≤ v ∧ v ≤ 2147483647) : mM G yX7_orNone cX7_orNone 2 (some .int) 1 [.ref 56, .int (iV v)] μ (qM μ (bstR st v)) := by
  refine mM.of (lv := [some (.ref 56), some (.int (iV v))]) 0 (by decide +kernel) (Nat.le_of_ble_eq_true rfl) rfl ?_
  intro X
  refine mw_iload_n dX7_orNone_0 rfl ?_
  refine mw_if_ge (tgt := 13) dX7_orNone_1 (by decide) (by omega) (fun c_1 => ?_) (fun c_1 => ?_)
  · refine mw_iload_n dX7_orNone_13 rfl ?_
    refine mw_iret dX7_orNone_14 rfl ?_
    refine ⟨_, rfl, ?_⟩
    unfold bstR
    rw [if_neg (by omega)]
    exact ⟨rfl, hX, MF.rf⟩
  · refine mw_aload_n dX7_orNone_4 rfl ?_
    refine mw_ldc dX7_orNone_5 ct_X7_76 ?_
    refine mw_Vi (ci := 7) dX7_orNone_7 ml_X7_77 ok_X7_finding (by decide) (by first | rfl | assumption) (by decide) rfl rfl rfl (Nat.le_of_ble_eq_true rfl) (c_M_find hX hI 3 (by decide) (by decide)) (fun z_7 m_7 h_7 => ?_)
    refine mw_goto (tgt := 14) dX7_orNone_10 (by decide) ?_
    refine mw_iret dX7_orNone_14 rfl ?_
    refine ⟨_, rfl, ?_⟩
    unfold bstR
    rw [if_pos (by omega)]
    exact h_7
set_option maxHeartbeats 4000000 in
set_option maxRecDepth 100000 in
theorem c_M_tune {G : mG} {μ : mMem} {st : aS} (hX : MR μ st) (hI : SI st) {s n : Int} {x : Int64} (hs_ : -2147483648 ≤ s ∧ s ≤ 2147483647) (hn_ : -2147483648 ≤ n ∧ n ≤ 2147483647) : mM G yX7_tune cX7_tune 5 (some .int) 2 [.ref 56, .int (iV s), .int (iV n), .long x] μ (qM μ (sp_tune st s n x)) := by
  obtain ⟨hR, hK, hkp, htl, htb, hfd, hfs, hsh⟩ := id hX
  have hFI := hI.1
  have hn := hFI.2.1
  have h0 := hFI.1
  have h99 := hI.2.1
  refine mM.of (lv := [some (.ref 56), some (.int (iV s)), some (.int (iV n)), some (.long x), none]) 0 (by decide +kernel) (Nat.le_of_ble_eq_true rfl) rfl ?_
  intro X
  refine mw_iload_n dX7_tune_0 rfl ?_
  refine mw_Spi dX7_tune_1 ml_X7_91 ok_X7_isSide (by decide) rfl rfl (Nat.le_of_ble_eq_true rfl) (c_M_isSide (by omega)) ?_
  refine mw_if_eq (tgt := 27) dX7_tune_4 (by decide) (wi_bd _ _ _) (fun c_4 => ?_) (fun c_4 => ?_)
  · have d_4 := wi_0 c_4
    refine mw_aload_n dX7_tune_27 rfl ?_
    refine mw_ldc dX7_tune_28 ct_X7_71 ?_
    refine mw_Vi (ci := 7) dX7_tune_30 ml_X7_77 ok_X7_finding (by decide) (by first | rfl | assumption) (by decide) rfl rfl rfl (Nat.le_of_ble_eq_true rfl) (c_M_find hX hI 0 (by decide) (by decide)) (fun z_30 m_30 h_30 => ?_)
    refine mw_iret dX7_tune_33 rfl ?_
    refine ⟨_, rfl, ?_⟩
    unfold sp_tune
    rw [if_neg (by omega)]
    exact h_30
  · have d_4 := wi_1 c_4
    refine mw_iload_n dX7_tune_7 rfl ?_
    refine mw_iconst dX7_tune_8 ?_
    refine mw_bipush dX7_tune_9 (by decide +kernel) ?_
    refine mw_Spi dX7_tune_11 ml_X7_81 ok_X7_within (by decide) rfl rfl (Nat.le_of_ble_eq_true rfl) (c_M_within (by omega) (by omega) (by omega)) ?_
    refine mw_if_eq (tgt := 27) dX7_tune_14 (by decide) (wi_bd _ _ _) (fun c_14 => ?_) (fun c_14 => ?_)
    · have d_14 := wi_0 c_14
      refine mw_aload_n dX7_tune_27 rfl ?_
      refine mw_ldc dX7_tune_28 ct_X7_71 ?_
      refine mw_Vi (ci := 7) dX7_tune_30 ml_X7_77 ok_X7_finding (by decide) (by first | rfl | assumption) (by decide) rfl rfl rfl (Nat.le_of_ble_eq_true rfl) (c_M_find hX hI 0 (by decide) (by decide)) (fun z_30 m_30 h_30 => ?_)
      refine mw_iret dX7_tune_33 rfl ?_
      refine ⟨_, rfl, ?_⟩
      unfold sp_tune
      rw [if_neg (by omega)]
      exact h_30
    · have d_14 := wi_1 c_14
      refine mw_aload_n dX7_tune_17 rfl ?_
      refine mw_iload_n dX7_tune_18 rfl ?_
      refine mw_iload_n dX7_tune_19 rfl ?_
      refine mw_lload_n dX7_tune_20 rfl ?_
      refine mw_Vi (ci := 7) dX7_tune_21 ml_X7_95 ok_X7_laysTune (by decide) (by first | rfl | assumption) (by decide) rfl rfl rfl (Nat.le_of_ble_eq_true rfl) (c_M_laysTune hR hFI (by omega) (by omega)) (fun z_21 m_21 h_21 => ?_)
      refine mw_goto (tgt := 33) dX7_tune_24 (by decide) ?_
      refine mw_iret dX7_tune_33 rfl ?_
      refine ⟨_, rfl, ?_⟩
      unfold sp_tune
      rw [if_pos (by omega)]
      exact ⟨h_21.1, hX.row h_21.2.1 h_21.2.2.dr, h_21.2.2.mf⟩
set_option maxHeartbeats 4000000 in
set_option maxRecDepth 100000 in
theorem c_M_tone {G : mG} {μ : mMem} {st : aS} (hX : MR μ st) (hI : SI st) {s i : Int} (hs_ : -2147483648 ≤ s ∧ s ≤ 2147483647) (hi_ : -2147483648 ≤ i ∧ i ≤ 2147483647) : mM G yX7_tone cX7_tone 3 (some .int) 2 [.ref 56, .int (iV s), .int (iV i)] μ (qM μ (sp_tone st s i)) := by
  obtain ⟨hR, hK, hkp, htl, htb, hfd, hfs, hsh⟩ := id hX
  have hFI := hI.1
  have hn := hFI.2.1
  have h0 := hFI.1
  have h99 := hI.2.1
  refine mM.of (lv := [some (.ref 56), some (.int (iV s)), some (.int (iV i))]) 0 (by decide +kernel) (Nat.le_of_ble_eq_true rfl) rfl ?_
  intro X
  refine mw_iload_n dX7_tone_0 rfl ?_
  refine mw_Spi dX7_tone_1 ml_X7_91 ok_X7_isSide (by decide) rfl rfl (Nat.le_of_ble_eq_true rfl) (c_M_isSide (by omega)) ?_
  refine mw_if_eq (tgt := 11) dX7_tone_4 (by decide) (wi_bd _ _ _) (fun c_4 => ?_) (fun c_4 => ?_)
  · have d_4 := wi_0 c_4
    refine mw_aload_n dX7_tone_11 rfl ?_
    refine mw_ldc dX7_tone_12 ct_X7_71 ?_
    refine mw_Vi (ci := 7) dX7_tone_14 ml_X7_77 ok_X7_finding (by decide) (by first | rfl | assumption) (by decide) rfl rfl rfl (Nat.le_of_ble_eq_true rfl) (c_M_find hX hI 0 (by decide) (by decide)) (fun z_14 m_14 h_14 => ?_)
    refine mw_iret dX7_tone_17 rfl ?_
    refine ⟨_, rfl, ?_⟩
    unfold sp_tone
    rw [if_neg (by omega)]
    exact h_14
  · have d_4 := wi_1 c_4
    refine mw_iload_n dX7_tone_7 rfl ?_
    refine mw_if_ge (tgt := 18) dX7_tone_8 (by decide) (by omega) (fun c_8 => ?_) (fun c_8 => ?_)
    · have hl := hFI.2.2.1 s d_4.1 d_4.2
      refine mw_iload_n dX7_tone_18 rfl ?_
      refine mw_aload_n dX7_tone_19 rfl ?_
      refine mw_iload_n dX7_tone_20 rfl ?_
      refine mw_Vpi (ci := 7) dX7_tone_21 ml_X7_99 ok_X7_length (by decide) (by first | rfl | assumption) (by decide) rfl rfl rfl (Nat.le_of_ble_eq_true rfl) (c_M_length hR (by omega)) ?_
      refine mw_icmp_ge (tgt := 36) dX7_tone_24 (by decide) (by omega) (by omega) (fun c_24 => ?_) (fun c_24 => ?_)
      · refine mw_aload_n dX7_tone_36 rfl ?_
        refine mw_ldc dX7_tone_37 ct_X7_76 ?_
        refine mw_Vi (ci := 7) dX7_tone_39 ml_X7_77 ok_X7_finding (by decide) (by first | rfl | assumption) (by decide) rfl rfl rfl (Nat.le_of_ble_eq_true rfl) (c_M_find hX hI 3 (by decide) (by decide)) (fun z_39 m_39 h_39 => ?_)
        refine mw_iret dX7_tone_42 rfl ?_
        refine ⟨_, rfl, ?_⟩
        unfold sp_tone
        rw [if_pos (by omega), if_neg (by omega)]
        exact h_39
      · refine mw_aload_n dX7_tone_27 rfl ?_
        refine mw_iload_n dX7_tone_28 rfl ?_
        refine mw_iload_n dX7_tone_29 rfl ?_
        refine mw_Vpi (ci := 7) dX7_tone_30 ml_X7_102 ok_X7_toneOf (by decide) (by first | rfl | assumption) (by decide) rfl rfl rfl (Nat.le_of_ble_eq_true rfl) (c_M_toneOf hR (by omega) (by omega)) ?_
        refine mw_goto (tgt := 42) dX7_tone_33 (by decide) ?_
        refine mw_iret dX7_tone_42 rfl ?_
        refine ⟨_, rfl, ?_⟩
        unfold sp_tone
        rw [if_pos (by omega), if_pos (by omega)]
        exact ⟨rfl, hX, MF.rf⟩
    · refine mw_aload_n dX7_tone_11 rfl ?_
      refine mw_ldc dX7_tone_12 ct_X7_71 ?_
      refine mw_Vi (ci := 7) dX7_tone_14 ml_X7_77 ok_X7_finding (by decide) (by first | rfl | assumption) (by decide) rfl rfl rfl (Nat.le_of_ble_eq_true rfl) (c_M_find hX hI 0 (by decide) (by decide)) (fun z_14 m_14 h_14 => ?_)
      refine mw_iret dX7_tone_17 rfl ?_
      refine ⟨_, rfl, ?_⟩
      unfold sp_tone
      rw [if_neg (by omega)]
      exact h_14
set_option maxHeartbeats 4000000 in
set_option maxRecDepth 100000 in
theorem c_M_side {G : mG} {μ : mMem} {st : aS} (hX : MR μ st) (hI : SI st) {s v : Int} (hs_ : -2147483648 ≤ s ∧ s ≤ 2147483647) (hv_ : -2147483648 ≤ v ∧ v ≤ 2147483647) : mM G yX7_side cX7_side 3 (some .int) 3 [.ref 56, .int (iV s), .int (iV v)] μ (qM μ (sp_side st s v)) := by
  obtain ⟨hR, hK, hkp, htl, htb, hfd, hfs, hsh⟩ := id hX
  have hFI := hI.1
  have hn := hFI.2.1
  have h0 := hFI.1
  have h99 := hI.2.1
  have hhb := home_c s (st.1 0)
  refine mM.of (lv := [some (.ref 56), some (.int (iV s)), some (.int (iV v))]) 0 (by decide +kernel) (Nat.le_of_ble_eq_true rfl) rfl ?_
  intro X
  refine mw_iload_n dX7_side_0 rfl ?_
  refine mw_Spi dX7_side_1 ml_X7_91 ok_X7_isSide (by decide) rfl rfl (Nat.le_of_ble_eq_true rfl) (c_M_isSide (by omega)) ?_
  refine mw_if_ne (tgt := 14) dX7_side_4 (by decide) (wi_bd _ _ _) (fun c_4 => ?_) (fun c_4 => ?_)
  · have d_4 := wi_1 c_4
    refine mw_iload_n dX7_side_14 rfl ?_
    rcases (show v = 0 ∨ v = 1 ∨ v = 2 ∨ v = 3 ∨ v = 4 ∨ (v < 0 ∨ 4 < v) by omega) with rfl | rfl | rfl | rfl | rfl | c_15
    · refine mw_tblIn (off := 33) (tgt := 48) dX7_side_15 (by decide) (by decide) (by decide) (by decide) (by decide) ?_
      refine mw_aload_n dX7_side_48 rfl ?_
      refine mw_iload_n dX7_side_49 rfl ?_
      refine mw_Vpi (ci := 7) dX7_side_50 ml_X7_99 ok_X7_length (by decide) (by first | rfl | assumption) (by decide) rfl rfl rfl (Nat.le_of_ble_eq_true rfl) (c_M_length hR (by omega)) ?_
      refine mw_iret dX7_side_53 rfl ?_
      refine ⟨_, rfl, ?_⟩
      unfold sp_side
      rw [if_pos (by omega), if_pos rfl]
      exact ⟨rfl, hX, MF.rf⟩
    · refine mw_tblIn (off := 39) (tgt := 54) dX7_side_15 (by decide) (by decide) (by decide) (by decide) (by decide) ?_
      refine mw_aload_n dX7_side_54 rfl ?_
      refine mw_iload_n dX7_side_55 rfl ?_
      refine mw_Vpi (ci := 7) dX7_side_56 ml_X7_123 ok_X7_tensionOf (by decide) (by first | rfl | assumption) (by decide) rfl rfl rfl (Nat.le_of_ble_eq_true rfl) (c_M_tensionOf hR hFI (by omega)) ?_
      refine mw_iret dX7_side_59 rfl ?_
      refine ⟨_, rfl, ?_⟩
      unfold sp_side
      rw [if_pos (by omega), if_neg (by omega), if_pos rfl]
      exact ⟨rfl, hX, MF.rf⟩
    · refine mw_tblIn (off := 45) (tgt := 60) dX7_side_15 (by decide) (by decide) (by decide) (by decide) (by decide) ?_
      refine mw_aload_n dX7_side_60 rfl ?_
      refine mw_iload_n dX7_side_61 rfl ?_
      refine mw_Vpi (ci := 7) dX7_side_62 ml_X7_126 ok_X7_isHome (by decide) (by first | rfl | assumption) (by decide) rfl rfl rfl (Nat.le_of_ble_eq_true rfl) (c_M_isHome hR hFI (by omega)) ?_
      refine mw_if_eq (tgt := 72) dX7_side_65 (by decide) (by omega) (fun c_65 => ?_) (fun c_65 => ?_)
      · refine mw_iconst dX7_side_72 ?_
        refine mw_iret dX7_side_73 rfl ?_
        refine ⟨_, rfl, ?_⟩
        unfold sp_side
        rw [if_pos (by omega), if_neg (by omega), if_neg (by omega), if_pos rfl]
        exact ⟨by rw [c_65], hX, MF.rf⟩
      · refine mw_iconst dX7_side_68 ?_
        refine mw_goto (tgt := 73) dX7_side_69 (by decide) ?_
        refine mw_iret dX7_side_73 rfl ?_
        refine ⟨_, rfl, ?_⟩
        unfold sp_side
        rw [if_pos (by omega), if_neg (by omega), if_neg (by omega), if_pos rfl]
        exact ⟨by omega, hX, MF.rf⟩
    · refine mw_tblIn (off := 59) (tgt := 74) dX7_side_15 (by decide) (by decide) (by decide) (by decide) (by decide) ?_
      refine mw_aload_n dX7_side_74 rfl ?_
      refine mw_iload_n dX7_side_75 rfl ?_
      refine mw_Vpi (ci := 7) dX7_side_76 ml_X7_129 ok_X7_tonesIn (by decide) (by first | rfl | assumption) (by decide) rfl rfl rfl (Nat.le_of_ble_eq_true rfl) (c_M_tonesIn hR hFI (by omega)) ?_
      refine mw_iret dX7_side_79 rfl ?_
      refine ⟨_, rfl, ?_⟩
      unfold sp_side
      rw [if_pos (by omega), if_neg (by omega), if_neg (by omega), if_neg (by omega), if_pos rfl]
      exact ⟨rfl, hX, MF.rf⟩
    · refine mw_tblIn (off := 65) (tgt := 80) dX7_side_15 (by decide) (by decide) (by decide) (by decide) (by decide) ?_
      refine mw_aload_n dX7_side_80 rfl ?_
      refine mw_iload_n dX7_side_81 rfl ?_
      refine mw_Vpi (ci := 7) dX7_side_82 ml_X7_132 ok_X7_manyOf (by decide) (by first | rfl | assumption) (by decide) rfl rfl rfl (Nat.le_of_ble_eq_true rfl) (c_M_manyOf hR hFI (by omega)) ?_
      refine mw_iret dX7_side_85 rfl ?_
      refine ⟨_, rfl, ?_⟩
      unfold sp_side
      rw [if_pos (by omega), if_neg (by omega), if_neg (by omega), if_neg (by omega), if_neg (by omega), if_pos rfl]
      exact ⟨rfl, hX, MF.rf⟩
    · refine mw_tblOut (tgt := 86) dX7_side_15 (by omega) c_15 (by decide) ?_
      refine mw_aload_n dX7_side_86 rfl ?_
      refine mw_ldc dX7_side_87 ct_X7_71 ?_
      refine mw_Vi (ci := 7) dX7_side_89 ml_X7_77 ok_X7_finding (by decide) (by first | rfl | assumption) (by decide) rfl rfl rfl (Nat.le_of_ble_eq_true rfl) (c_M_find hX hI 0 (by decide) (by decide)) (fun z_89 m_89 h_89 => ?_)
      refine mw_iret dX7_side_92 rfl ?_
      refine ⟨_, rfl, ?_⟩
      unfold sp_side
      rw [if_pos (by omega), if_neg (by omega), if_neg (by omega), if_neg (by omega), if_neg (by omega), if_neg (by omega)]
      exact h_89
  · have d_4 := wi_0 c_4
    refine mw_aload_n dX7_side_7 rfl ?_
    refine mw_ldc dX7_side_8 ct_X7_71 ?_
    refine mw_Vi (ci := 7) dX7_side_10 ml_X7_77 ok_X7_finding (by decide) (by first | rfl | assumption) (by decide) rfl rfl rfl (Nat.le_of_ble_eq_true rfl) (c_M_find hX hI 0 (by decide) (by decide)) (fun z_10 m_10 h_10 => ?_)
    refine mw_iret dX7_side_13 rfl ?_
    refine ⟨_, rfl, ?_⟩
    unfold sp_side
    rw [if_neg (by omega)]
    exact h_10
set_option maxHeartbeats 4000000 in
set_option maxRecDepth 100000 in
theorem c_M_attache {G : mG} {μ : mMem} {st : aS} (hX : MR μ st) (hI : SI st) {k s : Int} (hk_ : -2147483648 ≤ k ∧ k ≤ 2147483647) (hs_ : -2147483648 ≤ s ∧ s ≤ 2147483647) : mM G yX7_attache cX7_attache 3 (some .int) 2 [.ref 56, .int (iV k), .int (iV s)] μ (qM μ (sp_attache st k s)) := by
  obtain ⟨hR, hK, hkp, htl, htb, hfd, hfs, hsh⟩ := id hX
  have hFI := hI.1
  have hn := hFI.2.1
  have h0 := hFI.1
  have h99 := hI.2.1
  refine mM.of (lv := [some (.ref 56), some (.int (iV k)), some (.int (iV s))]) 0 (by decide +kernel) (Nat.le_of_ble_eq_true rfl) rfl ?_
  intro X
  refine mw_iload_n dX7_attache_0 rfl ?_
  refine mw_Spi dX7_attache_1 ml_X7_140 ok_X7_isKind (by decide) rfl rfl (Nat.le_of_ble_eq_true rfl) (c_M_isKind (by omega)) ?_
  refine mw_if_eq (tgt := 14) dX7_attache_4 (by decide) (wi_bd _ _ _) (fun c_4 => ?_) (fun c_4 => ?_)
  · have d_4 := wi_0 c_4
    refine mw_aload_n dX7_attache_14 rfl ?_
    refine mw_ldc dX7_attache_15 ct_X7_71 ?_
    refine mw_Vi (ci := 7) dX7_attache_17 ml_X7_77 ok_X7_finding (by decide) (by first | rfl | assumption) (by decide) rfl rfl rfl (Nat.le_of_ble_eq_true rfl) (c_M_find hX hI 0 (by decide) (by decide)) (fun z_17 m_17 h_17 => ?_)
    refine mw_iret dX7_attache_20 rfl ?_
    refine ⟨_, rfl, ?_⟩
    unfold sp_attache
    rw [if_neg (by omega)]
    exact h_17
  · have d_4 := wi_1 c_4
    refine mw_iload_n dX7_attache_7 rfl ?_
    refine mw_Spi dX7_attache_8 ml_X7_91 ok_X7_isSide (by decide) rfl rfl (Nat.le_of_ble_eq_true rfl) (c_M_isSide (by omega)) ?_
    refine mw_if_ne (tgt := 21) dX7_attache_11 (by decide) (wi_bd _ _ _) (fun c_11 => ?_) (fun c_11 => ?_)
    · have d_11 := wi_1 c_11
      refine mw_aload_n dX7_attache_21 rfl ?_
      refine mw_gr_7_0 dX7_attache_22 gs_X7_9 (by first | rfl | assumption) ?_
      refine mw_iconst dX7_attache_25 ?_
      refine mw_iald 68 dX7_attache_26 (by first | rfl | assumption) (by first | rfl | assumption) (by omega) ?_
      rw [hR _ (by omega) (by omega)]
      refine mw_bipush dX7_attache_27 (by decide +kernel) ?_
      refine mw_icmp_ne (tgt := 41) dX7_attache_29 (by decide) (by omega) (by omega) (fun c_29 => ?_) (fun c_29 => ?_)
      · refine mw_aload_n dX7_attache_41 rfl ?_
        refine mw_iload_n dX7_attache_42 rfl ?_
        refine mw_iload_n dX7_attache_43 rfl ?_
        refine mw_iconst dX7_attache_44 ?_
        refine mw_iconst dX7_attache_45 ?_
        refine mw_Vi (ci := 7) dX7_attache_46 ml_X7_144 ok_X7_comes (by decide) (by first | rfl | assumption) (by decide) rfl rfl rfl (Nat.le_of_ble_eq_true rfl) (c_M_comes hR hFI (by omega)) (fun z_46 m_46 h_46 => ?_)
        refine mw_iret dX7_attache_49 rfl ?_
        refine ⟨_, rfl, ?_⟩
        unfold sp_attache
        rw [if_pos (by omega), if_neg (by omega)]
        exact ⟨h_46.1, hX.row h_46.2.1 h_46.2.2.dr, h_46.2.2.mf⟩
      · refine mw_aload_n dX7_attache_32 rfl ?_
        refine mw_ldc dX7_attache_33 ct_X7_143 ?_
        refine mw_Vi (ci := 7) dX7_attache_35 ml_X7_77 ok_X7_finding (by decide) (by first | rfl | assumption) (by decide) rfl rfl rfl (Nat.le_of_ble_eq_true rfl) (c_M_find hX hI 1 (by decide) (by decide)) (fun z_35 m_35 h_35 => ?_)
        refine mw_goto (tgt := 49) dX7_attache_38 (by decide) ?_
        refine mw_iret dX7_attache_49 rfl ?_
        refine ⟨_, rfl, ?_⟩
        unfold sp_attache
        rw [if_pos (by omega), if_pos (by omega)]
        exact h_35
    · have d_11 := wi_0 c_11
      refine mw_aload_n dX7_attache_14 rfl ?_
      refine mw_ldc dX7_attache_15 ct_X7_71 ?_
      refine mw_Vi (ci := 7) dX7_attache_17 ml_X7_77 ok_X7_finding (by decide) (by first | rfl | assumption) (by decide) rfl rfl rfl (Nat.le_of_ble_eq_true rfl) (c_M_find hX hI 0 (by decide) (by decide)) (fun z_17 m_17 h_17 => ?_)
      refine mw_iret dX7_attache_20 rfl ?_
      refine ⟨_, rfl, ?_⟩
      unfold sp_attache
      rw [if_neg (by omega)]
      exact h_17
set_option maxHeartbeats 4000000 in
set_option maxRecDepth 100000 in
theorem c_M_of {G : mG} {μ : mMem} {st : aS} (hX : MR μ st) (hI : SI st) {a v : Int} (ha_ : -2147483648 ≤ a ∧ a ≤ 2147483647) (hv_ : -2147483648 ≤ v ∧ v ≤ 2147483647) : mM G yX7_of cX7_of 3 (some .int) 3 [.ref 56, .int (iV a), .int (iV v)] μ (qM μ (sp_of st a v)) := by
  obtain ⟨hR, hK, hkp, htl, htb, hfd, hfs, hsh⟩ := id hX
  have hFI := hI.1
  have hn := hFI.2.1
  have h0 := hFI.1
  have h99 := hI.2.1
  refine mM.of (lv := [some (.ref 56), some (.int (iV a)), some (.int (iV v))]) 0 (by decide +kernel) (Nat.le_of_ble_eq_true rfl) rfl ?_
  intro X
  refine mw_aload_n dX7_of_0 rfl ?_
  refine mw_iload_n dX7_of_1 rfl ?_
  refine mw_Vpi (ci := 7) dX7_of_2 ml_X7_155 ok_X7_isAttache (by decide) (by first | rfl | assumption) (by decide) rfl rfl rfl (Nat.le_of_ble_eq_true rfl) (c_M_isAttache hR hFI (by omega)) ?_
  refine mw_if_eq (tgt := 17) dX7_of_5 (by decide) (wi_bd _ _ _) (fun c_5 => ?_) (fun c_5 => ?_)
  · have d_5 := wi_0 c_5
    refine mw_aload_n dX7_of_17 rfl ?_
    refine mw_ldc dX7_of_18 ct_X7_71 ?_
    refine mw_Vi (ci := 7) dX7_of_20 ml_X7_77 ok_X7_finding (by decide) (by first | rfl | assumption) (by decide) rfl rfl rfl (Nat.le_of_ble_eq_true rfl) (c_M_find hX hI 0 (by decide) (by decide)) (fun z_20 m_20 h_20 => ?_)
    refine mw_iret dX7_of_23 rfl ?_
    refine ⟨_, rfl, ?_⟩
    unfold sp_of
    rw [if_neg (by omega)]
    exact h_20
  · have d_5 := wi_1 c_5
    refine mw_iload_n dX7_of_8 rfl ?_
    refine mw_iconst dX7_of_9 ?_
    refine mw_iconst dX7_of_10 ?_
    refine mw_Spi dX7_of_11 ml_X7_81 ok_X7_within (by decide) rfl rfl (Nat.le_of_ble_eq_true rfl) (c_M_within (by omega) (by omega) (by omega)) ?_
    refine mw_if_ne (tgt := 24) dX7_of_14 (by decide) (wi_bd _ _ _) (fun c_14 => ?_) (fun c_14 => ?_)
    · have d_14 := wi_1 c_14
      refine mw_iload_n dX7_of_24 rfl ?_
      refine mw_iconst dX7_of_25 ?_
      refine mw_icmp_ge (tgt := 38) dX7_of_26 (by decide) (by omega) (by omega) (fun c_26 => ?_) (fun c_26 => ?_)
      · refine mw_aload_n dX7_of_38 rfl ?_
        refine mw_iload_n dX7_of_39 rfl ?_
        refine mw_Vpi (ci := 7) dX7_of_40 ml_X7_158 ok_X7_longNow (by decide) (by first | rfl | assumption) (by decide) rfl rfl rfl (Nat.le_of_ble_eq_true rfl) (c_M_longNow hR hFI (by omega)) ?_
        refine mw_iret dX7_of_43 rfl ?_
        refine ⟨_, rfl, ?_⟩
        unfold sp_of
        rw [if_pos (by omega), if_neg (by omega)]
        exact ⟨rfl, hX, MF.rf⟩
      · refine mw_aload_n dX7_of_29 rfl ?_
        refine mw_iload_n dX7_of_30 rfl ?_
        refine mw_iload_n dX7_of_31 rfl ?_
        refine mw_Vpi (ci := 7) dX7_of_32 ml_X7_120 ok_X7_attacheIs (by decide) (by first | rfl | assumption) (by decide) rfl rfl rfl (Nat.le_of_ble_eq_true rfl) (c_M_attacheIs hR (by omega) (by omega)) ?_
        refine mw_goto (tgt := 43) dX7_of_35 (by decide) ?_
        refine mw_iret dX7_of_43 rfl ?_
        refine ⟨_, rfl, ?_⟩
        unfold sp_of
        rw [if_pos (by omega), if_pos (by omega)]
        exact ⟨rfl, hX, MF.rf⟩
    · have d_14 := wi_0 c_14
      refine mw_aload_n dX7_of_17 rfl ?_
      refine mw_ldc dX7_of_18 ct_X7_71 ?_
      refine mw_Vi (ci := 7) dX7_of_20 ml_X7_77 ok_X7_finding (by decide) (by first | rfl | assumption) (by decide) rfl rfl rfl (Nat.le_of_ble_eq_true rfl) (c_M_find hX hI 0 (by decide) (by decide)) (fun z_20 m_20 h_20 => ?_)
      refine mw_iret dX7_of_23 rfl ?_
      refine ⟨_, rfl, ?_⟩
      unfold sp_of
      rw [if_neg (by omega)]
      exact h_20
set_option maxHeartbeats 4000000 in
set_option maxRecDepth 100000 in
theorem c_M_answer {G : mG} {μ : mMem} {st : aS} (hX : MR μ st) (hI : SI st) {a i : Int} (ha_ : -2147483648 ≤ a ∧ a ≤ 2147483647) (hi_ : -2147483648 ≤ i ∧ i ≤ 2147483647) : mM G yX7_answer cX7_answer 3 (some .int) 3 [.ref 56, .int (iV a), .int (iV i)] μ (qM μ (sp_answer st a i)) := by
  obtain ⟨hR, hK, hkp, htl, htb, hfd, hfs, hsh⟩ := id hX
  have hFI := hI.1
  have hn := hFI.2.1
  have h0 := hFI.1
  have h99 := hI.2.1
  refine mM.of (lv := [some (.ref 56), some (.int (iV a)), some (.int (iV i))]) 0 (by decide +kernel) (Nat.le_of_ble_eq_true rfl) rfl ?_
  intro X
  refine mw_aload_n dX7_answer_0 rfl ?_
  refine mw_iload_n dX7_answer_1 rfl ?_
  refine mw_Vpi (ci := 7) dX7_answer_2 ml_X7_155 ok_X7_isAttache (by decide) (by first | rfl | assumption) (by decide) rfl rfl rfl (Nat.le_of_ble_eq_true rfl) (c_M_isAttache hR hFI (by omega)) ?_
  refine mw_if_eq (tgt := 12) dX7_answer_5 (by decide) (wi_bd _ _ _) (fun c_5 => ?_) (fun c_5 => ?_)
  · have d_5 := wi_0 c_5
    refine mw_aload_n dX7_answer_12 rfl ?_
    refine mw_ldc dX7_answer_13 ct_X7_71 ?_
    refine mw_Vi (ci := 7) dX7_answer_15 ml_X7_77 ok_X7_finding (by decide) (by first | rfl | assumption) (by decide) rfl rfl rfl (Nat.le_of_ble_eq_true rfl) (c_M_find hX hI 0 (by decide) (by decide)) (fun z_15 m_15 h_15 => ?_)
    refine mw_iret dX7_answer_18 rfl ?_
    refine ⟨_, rfl, ?_⟩
    unfold sp_answer
    rw [if_neg (by omega)]
    exact h_15
  · have d_5 := wi_1 c_5
    refine mw_iload_n dX7_answer_8 rfl ?_
    refine mw_if_ge (tgt := 19) dX7_answer_9 (by decide) (by omega) (fun c_9 => ?_) (fun c_9 => ?_)
    · have hl2 := hFI.2.2.1 (1 - st.1 0 (28 + 5 * a + 1)) (by have := (hFI.2.2.2.2 a (by omega) (by omega)).2.1; omega) (by have := (hFI.2.2.2.2 a (by omega) (by omega)).2.1; omega)
      have hL := lng_bd (kind := st.1 0 (28 + 5 * a + 0)) hl2.1
      rw [show lng (st.1 0 (28 + 5 * a + 0)) (st.1 0 (2 + (1 - st.1 0 (28 + 5 * a + 1)))) = lgF (st.1 0) a from rfl] at hL
      refine mw_iload_n dX7_answer_19 rfl ?_
      refine mw_aload_n dX7_answer_20 rfl ?_
      refine mw_iload_n dX7_answer_21 rfl ?_
      refine mw_Vpi (ci := 7) dX7_answer_22 ml_X7_158 ok_X7_longNow (by decide) (by first | rfl | assumption) (by decide) rfl rfl rfl (Nat.le_of_ble_eq_true rfl) (c_M_longNow hR hFI (by omega)) ?_
      refine mw_icmp_ge (tgt := 37) dX7_answer_25 (by decide) (by omega) (by omega) (fun c_25 => ?_) (fun c_25 => ?_)
      · refine mw_aload_n dX7_answer_37 rfl ?_
        refine mw_ldc dX7_answer_38 ct_X7_76 ?_
        refine mw_Vi (ci := 7) dX7_answer_40 ml_X7_77 ok_X7_finding (by decide) (by first | rfl | assumption) (by decide) rfl rfl rfl (Nat.le_of_ble_eq_true rfl) (c_M_find hX hI 3 (by decide) (by decide)) (fun z_40 m_40 h_40 => ?_)
        refine mw_iret dX7_answer_43 rfl ?_
        refine ⟨_, rfl, ?_⟩
        unfold sp_answer
        rw [if_pos (by omega), if_neg (by omega)]
        exact h_40
      · refine mw_aload_n dX7_answer_28 rfl ?_
        refine mw_iload_n dX7_answer_29 rfl ?_
        refine mw_iload_n dX7_answer_30 rfl ?_
        refine mw_Vpi (ci := 7) dX7_answer_31 ml_X7_161 ok_X7_answerAt (by decide) (by first | rfl | assumption) (by decide) rfl rfl rfl (Nat.le_of_ble_eq_true rfl) (c_M_answerAt hR hFI (by omega) (by omega)) ?_
        refine mw_goto (tgt := 43) dX7_answer_34 (by decide) ?_
        refine mw_iret dX7_answer_43 rfl ?_
        refine ⟨_, rfl, ?_⟩
        unfold sp_answer
        rw [if_pos (by omega), if_pos (by omega)]
        exact ⟨rfl, hX, MF.rf⟩
    · refine mw_aload_n dX7_answer_12 rfl ?_
      refine mw_ldc dX7_answer_13 ct_X7_71 ?_
      refine mw_Vi (ci := 7) dX7_answer_15 ml_X7_77 ok_X7_finding (by decide) (by first | rfl | assumption) (by decide) rfl rfl rfl (Nat.le_of_ble_eq_true rfl) (c_M_find hX hI 0 (by decide) (by decide)) (fun z_15 m_15 h_15 => ?_)
      refine mw_iret dX7_answer_18 rfl ?_
      refine ⟨_, rfl, ?_⟩
      unfold sp_answer
      rw [if_neg (by omega)]
      exact h_15
set_option maxHeartbeats 4000000 in
set_option maxRecDepth 100000 in
theorem c_M_set {G : mG} {μ : mMem} {st : aS} (hX : MR μ st) (hI : SI st) {a v x : Int} (ha_ : -2147483648 ≤ a ∧ a ≤ 2147483647) (hv_ : -2147483648 ≤ v ∧ v ≤ 2147483647) (hx_ : -2147483648 ≤ x ∧ x ≤ 2147483647) : mM G yX7_set cX7_set 5 (some .int) 2 [.ref 56, .int (iV a), .int (iV v), .int (iV x)] μ (qM μ (sp_set st a v x)) := by
  obtain ⟨hR, hK, hkp, htl, htb, hfd, hfs, hsh⟩ := id hX
  have hFI := hI.1
  have hn := hFI.2.1
  have h0 := hFI.1
  have h99 := hI.2.1
  refine mM.of (lv := [some (.ref 56), some (.int (iV a)), some (.int (iV v)), some (.int (iV x)), none]) 1 (by decide +kernel) (Nat.le_of_ble_eq_true rfl) rfl ?_
  intro X
  refine mw_iload_n dX7_set_0 rfl ?_
  refine mw_iconst dX7_set_1 ?_
  refine mw_icmp_ne (tgt := 9) dX7_set_2 (by decide) (by omega) (by omega) (fun c_2 => ?_) (fun c_2 => ?_)
  · refine mw_iload_n dX7_set_9 rfl ?_
    refine mw_iconst dX7_set_10 ?_
    refine mw_icmp_ne (tgt := 19) dX7_set_11 (by decide) (by omega) (by omega) (fun c_11 => ?_) (fun c_11 => ?_)
    · refine mw_iload_n dX7_set_19 rfl ?_
      refine mw_iconst dX7_set_20 ?_
      refine mw_icmp_ne (tgt := 30) dX7_set_21 (by decide) (by omega) (by omega) (fun c_21 => ?_) (fun c_21 => ?_)
      · refine mw_iload_n dX7_set_30 rfl ?_
        refine mw_iconst dX7_set_31 ?_
        refine mw_icmp_ne (tgt := 41) dX7_set_32 (by decide) (by omega) (by omega) (fun c_32 => ?_) (fun c_32 => ?_)
        · refine mw_iconst dX7_set_41 ?_
          refine mw_is4 dX7_set_42 (by decide) rfl ?_
          have hm : mostS v = -1 := by unfold mostS; rw [if_neg (by omega), if_neg (by omega), if_neg (by omega), if_neg (by omega)]
          refine mw_aload_n dX7_set_44 rfl ?_
          refine mw_iload_n dX7_set_45 rfl ?_
          refine mw_Vpi (ci := 7) dX7_set_46 ml_X7_155 ok_X7_isAttache (by decide) (by first | rfl | assumption) (by decide) rfl rfl rfl (Nat.le_of_ble_eq_true rfl) (c_M_isAttache hR hFI (by omega)) ?_
          refine mw_if_eq (tgt := 75) dX7_set_49 (by decide) (wi_bd _ _ _) (fun c_49 => ?_) (fun c_49 => ?_)
          · have d_49 := wi_0 c_49
            refine mw_aload_n dX7_set_75 rfl ?_
            refine mw_ldc dX7_set_76 ct_X7_71 ?_
            refine mw_Vi (ci := 7) dX7_set_78 ml_X7_77 ok_X7_finding (by decide) (by first | rfl | assumption) (by decide) rfl rfl rfl (Nat.le_of_ble_eq_true rfl) (c_M_find hX hI 0 (by decide) (by decide)) (fun z_78 m_78 h_78 => ?_)
            refine mw_iret dX7_set_81 rfl ?_
            refine ⟨_, rfl, ?_⟩
            unfold sp_set
            first
            | (exfalso; omega)
            | (rw [if_neg (by omega)]; exact h_78)
            | (rw [if_pos (by omega)]; exact ⟨rfl, hX.row (hR.up _ _) DY.st.dr, DY.st.mf⟩)
          · have d_49 := wi_1 c_49
            refine mw_iload_n dX7_set_52 rfl ?_
            refine mw_iconst dX7_set_53 ?_
            refine mw_iload dX7_set_54 rfl ?_
            refine mw_Spi dX7_set_56 ml_X7_81 ok_X7_within (by decide) rfl rfl (Nat.le_of_ble_eq_true rfl) (c_M_within (by omega) (by omega) (by omega)) ?_
            refine mw_if_eq (tgt := 75) dX7_set_59 (by decide) (wi_bd _ _ _) (fun c_59 => ?_) (fun c_59 => ?_)
            · have d_59 := wi_0 c_59
              refine mw_aload_n dX7_set_75 rfl ?_
              refine mw_ldc dX7_set_76 ct_X7_71 ?_
              refine mw_Vi (ci := 7) dX7_set_78 ml_X7_77 ok_X7_finding (by decide) (by first | rfl | assumption) (by decide) rfl rfl rfl (Nat.le_of_ble_eq_true rfl) (c_M_find hX hI 0 (by decide) (by decide)) (fun z_78 m_78 h_78 => ?_)
              refine mw_iret dX7_set_81 rfl ?_
              refine ⟨_, rfl, ?_⟩
              unfold sp_set
              first
              | (exfalso; omega)
              | (rw [if_neg (by omega)]; exact h_78)
              | (rw [if_pos (by omega)]; exact ⟨rfl, hX.row (hR.up _ _) DY.st.dr, DY.st.mf⟩)
            · have d_59 := wi_1 c_59
              refine mw_aload_n dX7_set_62 rfl ?_
              refine mw_iload_n dX7_set_63 rfl ?_
              refine mw_iload_n dX7_set_64 rfl ?_
              refine mw_Spi dX7_set_65 ml_X7_135 ok_X7_attacheAt (by decide) rfl rfl (Nat.le_of_ble_eq_true rfl) (c_M_attacheAt) ?_
              refine mw_iload_n dX7_set_68 rfl ?_
              refine mw_Vpi (ci := 7) dX7_set_69 ml_X7_87 ok_X7_become (by decide) (by first | rfl | assumption) (by decide) rfl rfl rfl (Nat.le_of_ble_eq_true rfl) (c_M_become hR (by omega)) ?_
              refine mw_goto (tgt := 81) dX7_set_72 (by decide) ?_
              refine mw_iret dX7_set_81 rfl ?_
              refine ⟨_, rfl, ?_⟩
              unfold sp_set
              first
              | (exfalso; omega)
              | (rw [if_neg (by omega)]; exact h_78)
              | (rw [if_pos (by omega)]; exact ⟨rfl, hX.row (hR.up _ _) DY.st.dr, DY.st.mf⟩)
        · refine mw_sipush dX7_set_35 (by decide +kernel) ?_
          refine mw_goto (tgt := 42) dX7_set_38 (by decide) ?_
          refine mw_is4 dX7_set_42 (by decide) rfl ?_
          have hm : mostS v = 9999 := by unfold mostS; rw [if_neg (by omega), if_neg (by omega), if_neg (by omega), if_pos (by omega)]
          refine mw_aload_n dX7_set_44 rfl ?_
          refine mw_iload_n dX7_set_45 rfl ?_
          refine mw_Vpi (ci := 7) dX7_set_46 ml_X7_155 ok_X7_isAttache (by decide) (by first | rfl | assumption) (by decide) rfl rfl rfl (Nat.le_of_ble_eq_true rfl) (c_M_isAttache hR hFI (by omega)) ?_
          refine mw_if_eq (tgt := 75) dX7_set_49 (by decide) (wi_bd _ _ _) (fun c_49 => ?_) (fun c_49 => ?_)
          · have d_49 := wi_0 c_49
            refine mw_aload_n dX7_set_75 rfl ?_
            refine mw_ldc dX7_set_76 ct_X7_71 ?_
            refine mw_Vi (ci := 7) dX7_set_78 ml_X7_77 ok_X7_finding (by decide) (by first | rfl | assumption) (by decide) rfl rfl rfl (Nat.le_of_ble_eq_true rfl) (c_M_find hX hI 0 (by decide) (by decide)) (fun z_78 m_78 h_78 => ?_)
            refine mw_iret dX7_set_81 rfl ?_
            refine ⟨_, rfl, ?_⟩
            unfold sp_set
            first
            | (exfalso; omega)
            | (rw [if_neg (by omega)]; exact h_78)
            | (rw [if_pos (by omega)]; exact ⟨rfl, hX.row (hR.up _ _) DY.st.dr, DY.st.mf⟩)
          · have d_49 := wi_1 c_49
            refine mw_iload_n dX7_set_52 rfl ?_
            refine mw_iconst dX7_set_53 ?_
            refine mw_iload dX7_set_54 rfl ?_
            refine mw_Spi dX7_set_56 ml_X7_81 ok_X7_within (by decide) rfl rfl (Nat.le_of_ble_eq_true rfl) (c_M_within (by omega) (by omega) (by omega)) ?_
            refine mw_if_eq (tgt := 75) dX7_set_59 (by decide) (wi_bd _ _ _) (fun c_59 => ?_) (fun c_59 => ?_)
            · have d_59 := wi_0 c_59
              refine mw_aload_n dX7_set_75 rfl ?_
              refine mw_ldc dX7_set_76 ct_X7_71 ?_
              refine mw_Vi (ci := 7) dX7_set_78 ml_X7_77 ok_X7_finding (by decide) (by first | rfl | assumption) (by decide) rfl rfl rfl (Nat.le_of_ble_eq_true rfl) (c_M_find hX hI 0 (by decide) (by decide)) (fun z_78 m_78 h_78 => ?_)
              refine mw_iret dX7_set_81 rfl ?_
              refine ⟨_, rfl, ?_⟩
              unfold sp_set
              first
              | (exfalso; omega)
              | (rw [if_neg (by omega)]; exact h_78)
              | (rw [if_pos (by omega)]; exact ⟨rfl, hX.row (hR.up _ _) DY.st.dr, DY.st.mf⟩)
            · have d_59 := wi_1 c_59
              refine mw_aload_n dX7_set_62 rfl ?_
              refine mw_iload_n dX7_set_63 rfl ?_
              refine mw_iload_n dX7_set_64 rfl ?_
              refine mw_Spi dX7_set_65 ml_X7_135 ok_X7_attacheAt (by decide) rfl rfl (Nat.le_of_ble_eq_true rfl) (c_M_attacheAt) ?_
              refine mw_iload_n dX7_set_68 rfl ?_
              refine mw_Vpi (ci := 7) dX7_set_69 ml_X7_87 ok_X7_become (by decide) (by first | rfl | assumption) (by decide) rfl rfl rfl (Nat.le_of_ble_eq_true rfl) (c_M_become hR (by omega)) ?_
              refine mw_goto (tgt := 81) dX7_set_72 (by decide) ?_
              refine mw_iret dX7_set_81 rfl ?_
              refine ⟨_, rfl, ?_⟩
              unfold sp_set
              first
              | (exfalso; omega)
              | (rw [if_neg (by omega)]; exact h_78)
              | (rw [if_pos (by omega)]; exact ⟨rfl, hX.row (hR.up _ _) DY.st.dr, DY.st.mf⟩)
      · refine mw_sipush dX7_set_24 (by decide +kernel) ?_
        refine mw_goto (tgt := 42) dX7_set_27 (by decide) ?_
        refine mw_is4 dX7_set_42 (by decide) rfl ?_
        have hm : mostS v = 4095 := by unfold mostS; rw [if_neg (by omega), if_neg (by omega), if_pos (by omega)]
        refine mw_aload_n dX7_set_44 rfl ?_
        refine mw_iload_n dX7_set_45 rfl ?_
        refine mw_Vpi (ci := 7) dX7_set_46 ml_X7_155 ok_X7_isAttache (by decide) (by first | rfl | assumption) (by decide) rfl rfl rfl (Nat.le_of_ble_eq_true rfl) (c_M_isAttache hR hFI (by omega)) ?_
        refine mw_if_eq (tgt := 75) dX7_set_49 (by decide) (wi_bd _ _ _) (fun c_49 => ?_) (fun c_49 => ?_)
        · have d_49 := wi_0 c_49
          refine mw_aload_n dX7_set_75 rfl ?_
          refine mw_ldc dX7_set_76 ct_X7_71 ?_
          refine mw_Vi (ci := 7) dX7_set_78 ml_X7_77 ok_X7_finding (by decide) (by first | rfl | assumption) (by decide) rfl rfl rfl (Nat.le_of_ble_eq_true rfl) (c_M_find hX hI 0 (by decide) (by decide)) (fun z_78 m_78 h_78 => ?_)
          refine mw_iret dX7_set_81 rfl ?_
          refine ⟨_, rfl, ?_⟩
          unfold sp_set
          first
          | (exfalso; omega)
          | (rw [if_neg (by omega)]; exact h_78)
          | (rw [if_pos (by omega)]; exact ⟨rfl, hX.row (hR.up _ _) DY.st.dr, DY.st.mf⟩)
        · have d_49 := wi_1 c_49
          refine mw_iload_n dX7_set_52 rfl ?_
          refine mw_iconst dX7_set_53 ?_
          refine mw_iload dX7_set_54 rfl ?_
          refine mw_Spi dX7_set_56 ml_X7_81 ok_X7_within (by decide) rfl rfl (Nat.le_of_ble_eq_true rfl) (c_M_within (by omega) (by omega) (by omega)) ?_
          refine mw_if_eq (tgt := 75) dX7_set_59 (by decide) (wi_bd _ _ _) (fun c_59 => ?_) (fun c_59 => ?_)
          · have d_59 := wi_0 c_59
            refine mw_aload_n dX7_set_75 rfl ?_
            refine mw_ldc dX7_set_76 ct_X7_71 ?_
            refine mw_Vi (ci := 7) dX7_set_78 ml_X7_77 ok_X7_finding (by decide) (by first | rfl | assumption) (by decide) rfl rfl rfl (Nat.le_of_ble_eq_true rfl) (c_M_find hX hI 0 (by decide) (by decide)) (fun z_78 m_78 h_78 => ?_)
            refine mw_iret dX7_set_81 rfl ?_
            refine ⟨_, rfl, ?_⟩
            unfold sp_set
            first
            | (exfalso; omega)
            | (rw [if_neg (by omega)]; exact h_78)
            | (rw [if_pos (by omega)]; exact ⟨rfl, hX.row (hR.up _ _) DY.st.dr, DY.st.mf⟩)
          · have d_59 := wi_1 c_59
            refine mw_aload_n dX7_set_62 rfl ?_
            refine mw_iload_n dX7_set_63 rfl ?_
            refine mw_iload_n dX7_set_64 rfl ?_
            refine mw_Spi dX7_set_65 ml_X7_135 ok_X7_attacheAt (by decide) rfl rfl (Nat.le_of_ble_eq_true rfl) (c_M_attacheAt) ?_
            refine mw_iload_n dX7_set_68 rfl ?_
            refine mw_Vpi (ci := 7) dX7_set_69 ml_X7_87 ok_X7_become (by decide) (by first | rfl | assumption) (by decide) rfl rfl rfl (Nat.le_of_ble_eq_true rfl) (c_M_become hR (by omega)) ?_
            refine mw_goto (tgt := 81) dX7_set_72 (by decide) ?_
            refine mw_iret dX7_set_81 rfl ?_
            refine ⟨_, rfl, ?_⟩
            unfold sp_set
            first
            | (exfalso; omega)
            | (rw [if_neg (by omega)]; exact h_78)
            | (rw [if_pos (by omega)]; exact ⟨rfl, hX.row (hR.up _ _) DY.st.dr, DY.st.mf⟩)
    · refine mw_bipush dX7_set_14 (by decide +kernel) ?_
      refine mw_goto (tgt := 42) dX7_set_16 (by decide) ?_
      refine mw_is4 dX7_set_42 (by decide) rfl ?_
      have hm : mostS v = 11 := by unfold mostS; rw [if_neg (by omega), if_pos (by omega)]
      refine mw_aload_n dX7_set_44 rfl ?_
      refine mw_iload_n dX7_set_45 rfl ?_
      refine mw_Vpi (ci := 7) dX7_set_46 ml_X7_155 ok_X7_isAttache (by decide) (by first | rfl | assumption) (by decide) rfl rfl rfl (Nat.le_of_ble_eq_true rfl) (c_M_isAttache hR hFI (by omega)) ?_
      refine mw_if_eq (tgt := 75) dX7_set_49 (by decide) (wi_bd _ _ _) (fun c_49 => ?_) (fun c_49 => ?_)
      · have d_49 := wi_0 c_49
        refine mw_aload_n dX7_set_75 rfl ?_
        refine mw_ldc dX7_set_76 ct_X7_71 ?_
        refine mw_Vi (ci := 7) dX7_set_78 ml_X7_77 ok_X7_finding (by decide) (by first | rfl | assumption) (by decide) rfl rfl rfl (Nat.le_of_ble_eq_true rfl) (c_M_find hX hI 0 (by decide) (by decide)) (fun z_78 m_78 h_78 => ?_)
        refine mw_iret dX7_set_81 rfl ?_
        refine ⟨_, rfl, ?_⟩
        unfold sp_set
        first
        | (exfalso; omega)
        | (rw [if_neg (by omega)]; exact h_78)
        | (rw [if_pos (by omega)]; exact ⟨rfl, hX.row (hR.up _ _) DY.st.dr, DY.st.mf⟩)
      · have d_49 := wi_1 c_49
        refine mw_iload_n dX7_set_52 rfl ?_
        refine mw_iconst dX7_set_53 ?_
        refine mw_iload dX7_set_54 rfl ?_
        refine mw_Spi dX7_set_56 ml_X7_81 ok_X7_within (by decide) rfl rfl (Nat.le_of_ble_eq_true rfl) (c_M_within (by omega) (by omega) (by omega)) ?_
        refine mw_if_eq (tgt := 75) dX7_set_59 (by decide) (wi_bd _ _ _) (fun c_59 => ?_) (fun c_59 => ?_)
        · have d_59 := wi_0 c_59
          refine mw_aload_n dX7_set_75 rfl ?_
          refine mw_ldc dX7_set_76 ct_X7_71 ?_
          refine mw_Vi (ci := 7) dX7_set_78 ml_X7_77 ok_X7_finding (by decide) (by first | rfl | assumption) (by decide) rfl rfl rfl (Nat.le_of_ble_eq_true rfl) (c_M_find hX hI 0 (by decide) (by decide)) (fun z_78 m_78 h_78 => ?_)
          refine mw_iret dX7_set_81 rfl ?_
          refine ⟨_, rfl, ?_⟩
          unfold sp_set
          first
          | (exfalso; omega)
          | (rw [if_neg (by omega)]; exact h_78)
          | (rw [if_pos (by omega)]; exact ⟨rfl, hX.row (hR.up _ _) DY.st.dr, DY.st.mf⟩)
        · have d_59 := wi_1 c_59
          refine mw_aload_n dX7_set_62 rfl ?_
          refine mw_iload_n dX7_set_63 rfl ?_
          refine mw_iload_n dX7_set_64 rfl ?_
          refine mw_Spi dX7_set_65 ml_X7_135 ok_X7_attacheAt (by decide) rfl rfl (Nat.le_of_ble_eq_true rfl) (c_M_attacheAt) ?_
          refine mw_iload_n dX7_set_68 rfl ?_
          refine mw_Vpi (ci := 7) dX7_set_69 ml_X7_87 ok_X7_become (by decide) (by first | rfl | assumption) (by decide) rfl rfl rfl (Nat.le_of_ble_eq_true rfl) (c_M_become hR (by omega)) ?_
          refine mw_goto (tgt := 81) dX7_set_72 (by decide) ?_
          refine mw_iret dX7_set_81 rfl ?_
          refine ⟨_, rfl, ?_⟩
          unfold sp_set
          first
          | (exfalso; omega)
          | (rw [if_neg (by omega)]; exact h_78)
          | (rw [if_pos (by omega)]; exact ⟨rfl, hX.row (hR.up _ _) DY.st.dr, DY.st.mf⟩)
  · refine mw_iconst dX7_set_5 ?_
    refine mw_goto (tgt := 42) dX7_set_6 (by decide) ?_
    refine mw_is4 dX7_set_42 (by decide) rfl ?_
    have hm : mostS v = 1 := by unfold mostS; rw [if_pos (by omega)]
    refine mw_aload_n dX7_set_44 rfl ?_
    refine mw_iload_n dX7_set_45 rfl ?_
    refine mw_Vpi (ci := 7) dX7_set_46 ml_X7_155 ok_X7_isAttache (by decide) (by first | rfl | assumption) (by decide) rfl rfl rfl (Nat.le_of_ble_eq_true rfl) (c_M_isAttache hR hFI (by omega)) ?_
    refine mw_if_eq (tgt := 75) dX7_set_49 (by decide) (wi_bd _ _ _) (fun c_49 => ?_) (fun c_49 => ?_)
    · have d_49 := wi_0 c_49
      refine mw_aload_n dX7_set_75 rfl ?_
      refine mw_ldc dX7_set_76 ct_X7_71 ?_
      refine mw_Vi (ci := 7) dX7_set_78 ml_X7_77 ok_X7_finding (by decide) (by first | rfl | assumption) (by decide) rfl rfl rfl (Nat.le_of_ble_eq_true rfl) (c_M_find hX hI 0 (by decide) (by decide)) (fun z_78 m_78 h_78 => ?_)
      refine mw_iret dX7_set_81 rfl ?_
      refine ⟨_, rfl, ?_⟩
      unfold sp_set
      first
      | (exfalso; omega)
      | (rw [if_neg (by omega)]; exact h_78)
      | (rw [if_pos (by omega)]; exact ⟨rfl, hX.row (hR.up _ _) DY.st.dr, DY.st.mf⟩)
    · have d_49 := wi_1 c_49
      refine mw_iload_n dX7_set_52 rfl ?_
      refine mw_iconst dX7_set_53 ?_
      refine mw_iload dX7_set_54 rfl ?_
      refine mw_Spi dX7_set_56 ml_X7_81 ok_X7_within (by decide) rfl rfl (Nat.le_of_ble_eq_true rfl) (c_M_within (by omega) (by omega) (by omega)) ?_
      refine mw_if_eq (tgt := 75) dX7_set_59 (by decide) (wi_bd _ _ _) (fun c_59 => ?_) (fun c_59 => ?_)
      · have d_59 := wi_0 c_59
        refine mw_aload_n dX7_set_75 rfl ?_
        refine mw_ldc dX7_set_76 ct_X7_71 ?_
        refine mw_Vi (ci := 7) dX7_set_78 ml_X7_77 ok_X7_finding (by decide) (by first | rfl | assumption) (by decide) rfl rfl rfl (Nat.le_of_ble_eq_true rfl) (c_M_find hX hI 0 (by decide) (by decide)) (fun z_78 m_78 h_78 => ?_)
        refine mw_iret dX7_set_81 rfl ?_
        refine ⟨_, rfl, ?_⟩
        unfold sp_set
        first
        | (exfalso; omega)
        | (rw [if_neg (by omega)]; exact h_78)
        | (rw [if_pos (by omega)]; exact ⟨rfl, hX.row (hR.up _ _) DY.st.dr, DY.st.mf⟩)
      · have d_59 := wi_1 c_59
        refine mw_aload_n dX7_set_62 rfl ?_
        refine mw_iload_n dX7_set_63 rfl ?_
        refine mw_iload_n dX7_set_64 rfl ?_
        refine mw_Spi dX7_set_65 ml_X7_135 ok_X7_attacheAt (by decide) rfl rfl (Nat.le_of_ble_eq_true rfl) (c_M_attacheAt) ?_
        refine mw_iload_n dX7_set_68 rfl ?_
        refine mw_Vpi (ci := 7) dX7_set_69 ml_X7_87 ok_X7_become (by decide) (by first | rfl | assumption) (by decide) rfl rfl rfl (Nat.le_of_ble_eq_true rfl) (c_M_become hR (by omega)) ?_
        refine mw_goto (tgt := 81) dX7_set_72 (by decide) ?_
        refine mw_iret dX7_set_81 rfl ?_
        refine ⟨_, rfl, ?_⟩
        unfold sp_set
        first
        | (exfalso; omega)
        | (rw [if_neg (by omega)]; exact h_78)
        | (rw [if_pos (by omega)]; exact ⟨rfl, hX.row (hR.up _ _) DY.st.dr, DY.st.mf⟩)
set_option maxHeartbeats 4000000 in
set_option maxRecDepth 100000 in
theorem c_M_turn {G : mG} {μ : mMem} {st : aS} (hX : MR μ st) (hI : SI st) {a k : Int} (ha_ : -2147483648 ≤ a ∧ a ≤ 2147483647) (hk_ : -2147483648 ≤ k ∧ k ≤ 2147483647) : mM G yX7_turn cX7_turn 3 (some .int) 2 [.ref 56, .int (iV a), .int (iV k)] μ (qM μ (sp_turn st a k)) := by
  obtain ⟨hR, hK, hkp, htl, htb, hfd, hfs, hsh⟩ := id hX
  have hFI := hI.1
  have hn := hFI.2.1
  have h0 := hFI.1
  have h99 := hI.2.1
  refine mM.of (lv := [some (.ref 56), some (.int (iV a)), some (.int (iV k))]) 0 (by decide +kernel) (Nat.le_of_ble_eq_true rfl) rfl ?_
  intro X
  refine mw_aload_n dX7_turn_0 rfl ?_
  refine mw_iload_n dX7_turn_1 rfl ?_
  refine mw_Vpi (ci := 7) dX7_turn_2 ml_X7_155 ok_X7_isAttache (by decide) (by first | rfl | assumption) (by decide) rfl rfl rfl (Nat.le_of_ble_eq_true rfl) (c_M_isAttache hR hFI (by omega)) ?_
  refine mw_if_eq (tgt := 28) dX7_turn_5 (by decide) (wi_bd _ _ _) (fun c_5 => ?_) (fun c_5 => ?_)
  · have d_5 := wi_0 c_5
    refine mw_aload_n dX7_turn_28 rfl ?_
    refine mw_ldc dX7_turn_29 ct_X7_71 ?_
    refine mw_Vi (ci := 7) dX7_turn_31 ml_X7_77 ok_X7_finding (by decide) (by first | rfl | assumption) (by decide) rfl rfl rfl (Nat.le_of_ble_eq_true rfl) (c_M_find hX hI 0 (by decide) (by decide)) (fun z_31 m_31 h_31 => ?_)
    refine mw_iret dX7_turn_34 rfl ?_
    refine ⟨_, rfl, ?_⟩
    unfold sp_turn
    rw [if_neg (by omega)]
    exact h_31
  · have d_5 := wi_1 c_5
    refine mw_iload_n dX7_turn_8 rfl ?_
    refine mw_Spi dX7_turn_9 ml_X7_140 ok_X7_isKind (by decide) rfl rfl (Nat.le_of_ble_eq_true rfl) (c_M_isKind (by omega)) ?_
    refine mw_if_eq (tgt := 28) dX7_turn_12 (by decide) (wi_bd _ _ _) (fun c_12 => ?_) (fun c_12 => ?_)
    · have d_12 := wi_0 c_12
      refine mw_aload_n dX7_turn_28 rfl ?_
      refine mw_ldc dX7_turn_29 ct_X7_71 ?_
      refine mw_Vi (ci := 7) dX7_turn_31 ml_X7_77 ok_X7_finding (by decide) (by first | rfl | assumption) (by decide) rfl rfl rfl (Nat.le_of_ble_eq_true rfl) (c_M_find hX hI 0 (by decide) (by decide)) (fun z_31 m_31 h_31 => ?_)
      refine mw_iret dX7_turn_34 rfl ?_
      refine ⟨_, rfl, ?_⟩
      unfold sp_turn
      rw [if_neg (by omega)]
      exact h_31
    · have d_12 := wi_1 c_12
      refine mw_aload_n dX7_turn_15 rfl ?_
      refine mw_iload_n dX7_turn_16 rfl ?_
      refine mw_iconst dX7_turn_17 ?_
      refine mw_Spi dX7_turn_18 ml_X7_135 ok_X7_attacheAt (by decide) rfl rfl (Nat.le_of_ble_eq_true rfl) (c_M_attacheAt) ?_
      refine mw_iload_n dX7_turn_21 rfl ?_
      refine mw_Vpi (ci := 7) dX7_turn_22 ml_X7_87 ok_X7_become (by decide) (by first | rfl | assumption) (by decide) rfl rfl rfl (Nat.le_of_ble_eq_true rfl) (c_M_become hR (by omega)) ?_
      refine mw_goto (tgt := 34) dX7_turn_25 (by decide) ?_
      refine mw_iret dX7_turn_34 rfl ?_
      refine ⟨_, rfl, ?_⟩
      unfold sp_turn
      rw [if_pos (by omega)]
      exact ⟨rfl, hX.row (hR.up _ _) DY.st.dr, DY.st.mf⟩
set_option maxHeartbeats 4000000 in
set_option maxRecDepth 100000 in
theorem c_M_as {G : mG} {μ : mMem} {st : aS} (hX : MR μ st) (hI : SI st) {a k : Int} (ha_ : -2147483648 ≤ a ∧ a ≤ 2147483647) (hk_ : -2147483648 ≤ k ∧ k ≤ 2147483647) : mM G yX7_as cX7_as 5 (some .int) 2 [.ref 56, .int (iV a), .int (iV k)] μ (qM μ (sp_as st a k)) := by
  obtain ⟨hR, hK, hkp, htl, htb, hfd, hfs, hsh⟩ := id hX
  have hFI := hI.1
  have hn := hFI.2.1
  have h0 := hFI.1
  have h99 := hI.2.1
  refine mM.of (lv := [some (.ref 56), some (.int (iV a)), some (.int (iV k)), none, none]) 2 (by decide +kernel) (Nat.le_of_ble_eq_true rfl) rfl ?_
  intro X
  refine mw_aload_n dX7_as_0 rfl ?_
  refine mw_iload_n dX7_as_1 rfl ?_
  refine mw_Vpi (ci := 7) dX7_as_2 ml_X7_155 ok_X7_isAttache (by decide) (by first | rfl | assumption) (by decide) rfl rfl rfl (Nat.le_of_ble_eq_true rfl) (c_M_isAttache hR hFI (by omega)) ?_
  refine mw_if_eq (tgt := 15) dX7_as_5 (by decide) (wi_bd _ _ _) (fun c_5 => ?_) (fun c_5 => ?_)
  · have d_5 := wi_0 c_5
    refine mw_aload_n dX7_as_15 rfl ?_
    refine mw_ldc dX7_as_16 ct_X7_71 ?_
    refine mw_Vi (ci := 7) dX7_as_18 ml_X7_77 ok_X7_finding (by decide) (by first | rfl | assumption) (by decide) rfl rfl rfl (Nat.le_of_ble_eq_true rfl) (c_M_find hX hI 0 (by decide) (by decide)) (fun z_18 m_18 h_18 => ?_)
    refine mw_iret dX7_as_21 rfl ?_
    refine ⟨_, rfl, ?_⟩
    unfold sp_as
    rw [if_neg (by omega)]
    exact h_18
  · have d_5 := wi_1 c_5
    refine mw_iload_n dX7_as_8 rfl ?_
    refine mw_Spi dX7_as_9 ml_X7_140 ok_X7_isKind (by decide) rfl rfl (Nat.le_of_ble_eq_true rfl) (c_M_isKind (by omega)) ?_
    refine mw_if_ne (tgt := 22) dX7_as_12 (by decide) (wi_bd _ _ _) (fun c_12 => ?_) (fun c_12 => ?_)
    · have d_12 := wi_1 c_12
      have hka := (hFI.2.2.2.2 a (by omega) (by omega)).1
      refine mw_aload_n dX7_as_22 rfl ?_
      refine mw_iload_n dX7_as_23 rfl ?_
      refine mw_iconst dX7_as_24 ?_
      refine mw_Vpi (ci := 7) dX7_as_25 ml_X7_120 ok_X7_attacheIs (by decide) (by first | rfl | assumption) (by decide) rfl rfl rfl (Nat.le_of_ble_eq_true rfl) (c_M_attacheIs hR (by omega) (by omega)) ?_
      refine mw_is3 dX7_as_28 (by decide) rfl ?_
      refine mw_iload_n dX7_as_29 rfl ?_
      refine mw_if_eq (tgt := 58) dX7_as_30 (by decide) (by omega) (fun c_30 => ?_) (fun c_30 => ?_)
      · refine mw_iconst dX7_as_58 ?_
        refine mw_goto (tgt := 63) dX7_as_59 (by decide) ?_
        refine mw_is4 dX7_as_63 (by decide) rfl ?_
        refine mw_iload dX7_as_65 rfl ?_
        refine mw_if_eq (tgt := 79) dX7_as_67 (by decide) (by omega) (fun c_67 => ?_) (fun c_67 => ?_)
        · refine mw_aload_n dX7_as_79 rfl ?_
          refine mw_ldc dX7_as_80 ct_X7_164 ?_
          refine mw_Vi (ci := 7) dX7_as_82 ml_X7_77 ok_X7_finding (by decide) (by first | rfl | assumption) (by decide) rfl rfl rfl (Nat.le_of_ble_eq_true rfl) (c_M_find hX hI 2 (by decide) (by decide)) (fun z_82 m_82 h_82 => ?_)
          refine mw_iret dX7_as_85 rfl ?_
          first
          | (exfalso; omega)
          | (have ho : ofK (st.1 0 (28 + 5 * a + 0)) k = 0 := by unfold ofK; rw [if_neg (by omega)]
             refine ⟨_, rfl, ?_⟩
             unfold sp_as
             rw [if_pos (by omega), if_pos ho]
             exact h_82)
          | (have ho : ofK (st.1 0 (28 + 5 * a + 0)) k = 1 := by unfold ofK; rw [if_pos (by omega)]
             refine ⟨_, rfl, ?_⟩
             unfold sp_as
             rw [if_pos (by omega), if_neg (by omega)]
             exact ⟨rfl, hX, MF.rf⟩)
        · refine mw_aload_n dX7_as_70 rfl ?_
          refine mw_iload_n dX7_as_71 rfl ?_
          refine mw_iconst dX7_as_72 ?_
          refine mw_Vpi (ci := 7) dX7_as_73 ml_X7_120 ok_X7_attacheIs (by decide) (by first | rfl | assumption) (by decide) rfl rfl rfl (Nat.le_of_ble_eq_true rfl) (c_M_attacheIs hR (by omega) (by omega)) ?_
          refine mw_goto (tgt := 85) dX7_as_76 (by decide) ?_
          refine mw_iret dX7_as_85 rfl ?_
          first
          | (exfalso; omega)
          | (have ho : ofK (st.1 0 (28 + 5 * a + 0)) k = 0 := by unfold ofK; rw [if_neg (by omega)]
             refine ⟨_, rfl, ?_⟩
             unfold sp_as
             rw [if_pos (by omega), if_pos ho]
             exact h_82)
          | (have ho : ofK (st.1 0 (28 + 5 * a + 0)) k = 1 := by unfold ofK; rw [if_pos (by omega)]
             refine ⟨_, rfl, ?_⟩
             unfold sp_as
             rw [if_pos (by omega), if_neg (by omega)]
             exact ⟨rfl, hX, MF.rf⟩)
      · refine mw_iload_n dX7_as_33 rfl ?_
        refine mw_iload_n dX7_as_34 rfl ?_
        refine mw_icmp_eq (tgt := 58) dX7_as_35 (by decide) (by omega) (by omega) (fun c_35 => ?_) (fun c_35 => ?_)
        · refine mw_iconst dX7_as_58 ?_
          refine mw_goto (tgt := 63) dX7_as_59 (by decide) ?_
          refine mw_is4 dX7_as_63 (by decide) rfl ?_
          refine mw_iload dX7_as_65 rfl ?_
          refine mw_if_eq (tgt := 79) dX7_as_67 (by decide) (by omega) (fun c_67 => ?_) (fun c_67 => ?_)
          · refine mw_aload_n dX7_as_79 rfl ?_
            refine mw_ldc dX7_as_80 ct_X7_164 ?_
            refine mw_Vi (ci := 7) dX7_as_82 ml_X7_77 ok_X7_finding (by decide) (by first | rfl | assumption) (by decide) rfl rfl rfl (Nat.le_of_ble_eq_true rfl) (c_M_find hX hI 2 (by decide) (by decide)) (fun z_82 m_82 h_82 => ?_)
            refine mw_iret dX7_as_85 rfl ?_
            first
            | (exfalso; omega)
            | (have ho : ofK (st.1 0 (28 + 5 * a + 0)) k = 0 := by unfold ofK; rw [if_neg (by omega)]
               refine ⟨_, rfl, ?_⟩
               unfold sp_as
               rw [if_pos (by omega), if_pos ho]
               exact h_82)
            | (have ho : ofK (st.1 0 (28 + 5 * a + 0)) k = 1 := by unfold ofK; rw [if_pos (by omega)]
               refine ⟨_, rfl, ?_⟩
               unfold sp_as
               rw [if_pos (by omega), if_neg (by omega)]
               exact ⟨rfl, hX, MF.rf⟩)
          · refine mw_aload_n dX7_as_70 rfl ?_
            refine mw_iload_n dX7_as_71 rfl ?_
            refine mw_iconst dX7_as_72 ?_
            refine mw_Vpi (ci := 7) dX7_as_73 ml_X7_120 ok_X7_attacheIs (by decide) (by first | rfl | assumption) (by decide) rfl rfl rfl (Nat.le_of_ble_eq_true rfl) (c_M_attacheIs hR (by omega) (by omega)) ?_
            refine mw_goto (tgt := 85) dX7_as_76 (by decide) ?_
            refine mw_iret dX7_as_85 rfl ?_
            first
            | (exfalso; omega)
            | (have ho : ofK (st.1 0 (28 + 5 * a + 0)) k = 0 := by unfold ofK; rw [if_neg (by omega)]
               refine ⟨_, rfl, ?_⟩
               unfold sp_as
               rw [if_pos (by omega), if_pos ho]
               exact h_82)
            | (have ho : ofK (st.1 0 (28 + 5 * a + 0)) k = 1 := by unfold ofK; rw [if_pos (by omega)]
               refine ⟨_, rfl, ?_⟩
               unfold sp_as
               rw [if_pos (by omega), if_neg (by omega)]
               exact ⟨rfl, hX, MF.rf⟩)
        · refine mw_iload_n dX7_as_38 rfl ?_
          refine mw_iconst dX7_as_39 ?_
          refine mw_icmp_ne (tgt := 48) dX7_as_40 (by decide) (by omega) (by omega) (fun c_40 => ?_) (fun c_40 => ?_)
          · refine mw_iload_n dX7_as_48 rfl ?_
            refine mw_iconst dX7_as_49 ?_
            refine mw_icmp_ne (tgt := 62) dX7_as_50 (by decide) (by omega) (by omega) (fun c_50 => ?_) (fun c_50 => ?_)
            · refine mw_iconst dX7_as_62 ?_
              refine mw_is4 dX7_as_63 (by decide) rfl ?_
              refine mw_iload dX7_as_65 rfl ?_
              refine mw_if_eq (tgt := 79) dX7_as_67 (by decide) (by omega) (fun c_67 => ?_) (fun c_67 => ?_)
              · refine mw_aload_n dX7_as_79 rfl ?_
                refine mw_ldc dX7_as_80 ct_X7_164 ?_
                refine mw_Vi (ci := 7) dX7_as_82 ml_X7_77 ok_X7_finding (by decide) (by first | rfl | assumption) (by decide) rfl rfl rfl (Nat.le_of_ble_eq_true rfl) (c_M_find hX hI 2 (by decide) (by decide)) (fun z_82 m_82 h_82 => ?_)
                refine mw_iret dX7_as_85 rfl ?_
                first
                | (exfalso; omega)
                | (have ho : ofK (st.1 0 (28 + 5 * a + 0)) k = 0 := by unfold ofK; rw [if_neg (by omega)]
                   refine ⟨_, rfl, ?_⟩
                   unfold sp_as
                   rw [if_pos (by omega), if_pos ho]
                   exact h_82)
                | (have ho : ofK (st.1 0 (28 + 5 * a + 0)) k = 1 := by unfold ofK; rw [if_pos (by omega)]
                   refine ⟨_, rfl, ?_⟩
                   unfold sp_as
                   rw [if_pos (by omega), if_neg (by omega)]
                   exact ⟨rfl, hX, MF.rf⟩)
              · refine mw_aload_n dX7_as_70 rfl ?_
                refine mw_iload_n dX7_as_71 rfl ?_
                refine mw_iconst dX7_as_72 ?_
                refine mw_Vpi (ci := 7) dX7_as_73 ml_X7_120 ok_X7_attacheIs (by decide) (by first | rfl | assumption) (by decide) rfl rfl rfl (Nat.le_of_ble_eq_true rfl) (c_M_attacheIs hR (by omega) (by omega)) ?_
                refine mw_goto (tgt := 85) dX7_as_76 (by decide) ?_
                refine mw_iret dX7_as_85 rfl ?_
                first
                | (exfalso; omega)
                | (have ho : ofK (st.1 0 (28 + 5 * a + 0)) k = 0 := by unfold ofK; rw [if_neg (by omega)]
                   refine ⟨_, rfl, ?_⟩
                   unfold sp_as
                   rw [if_pos (by omega), if_pos ho]
                   exact h_82)
                | (have ho : ofK (st.1 0 (28 + 5 * a + 0)) k = 1 := by unfold ofK; rw [if_pos (by omega)]
                   refine ⟨_, rfl, ?_⟩
                   unfold sp_as
                   rw [if_pos (by omega), if_neg (by omega)]
                   exact ⟨rfl, hX, MF.rf⟩)
            · refine mw_iload_n dX7_as_53 rfl ?_
              refine mw_iconst dX7_as_54 ?_
              refine mw_icmp_ne (tgt := 62) dX7_as_55 (by decide) (by omega) (by omega) (fun c_55 => ?_) (fun c_55 => ?_)
              · refine mw_iconst dX7_as_62 ?_
                refine mw_is4 dX7_as_63 (by decide) rfl ?_
                refine mw_iload dX7_as_65 rfl ?_
                refine mw_if_eq (tgt := 79) dX7_as_67 (by decide) (by omega) (fun c_67 => ?_) (fun c_67 => ?_)
                · refine mw_aload_n dX7_as_79 rfl ?_
                  refine mw_ldc dX7_as_80 ct_X7_164 ?_
                  refine mw_Vi (ci := 7) dX7_as_82 ml_X7_77 ok_X7_finding (by decide) (by first | rfl | assumption) (by decide) rfl rfl rfl (Nat.le_of_ble_eq_true rfl) (c_M_find hX hI 2 (by decide) (by decide)) (fun z_82 m_82 h_82 => ?_)
                  refine mw_iret dX7_as_85 rfl ?_
                  first
                  | (exfalso; omega)
                  | (have ho : ofK (st.1 0 (28 + 5 * a + 0)) k = 0 := by unfold ofK; rw [if_neg (by omega)]
                     refine ⟨_, rfl, ?_⟩
                     unfold sp_as
                     rw [if_pos (by omega), if_pos ho]
                     exact h_82)
                  | (have ho : ofK (st.1 0 (28 + 5 * a + 0)) k = 1 := by unfold ofK; rw [if_pos (by omega)]
                     refine ⟨_, rfl, ?_⟩
                     unfold sp_as
                     rw [if_pos (by omega), if_neg (by omega)]
                     exact ⟨rfl, hX, MF.rf⟩)
                · refine mw_aload_n dX7_as_70 rfl ?_
                  refine mw_iload_n dX7_as_71 rfl ?_
                  refine mw_iconst dX7_as_72 ?_
                  refine mw_Vpi (ci := 7) dX7_as_73 ml_X7_120 ok_X7_attacheIs (by decide) (by first | rfl | assumption) (by decide) rfl rfl rfl (Nat.le_of_ble_eq_true rfl) (c_M_attacheIs hR (by omega) (by omega)) ?_
                  refine mw_goto (tgt := 85) dX7_as_76 (by decide) ?_
                  refine mw_iret dX7_as_85 rfl ?_
                  first
                  | (exfalso; omega)
                  | (have ho : ofK (st.1 0 (28 + 5 * a + 0)) k = 0 := by unfold ofK; rw [if_neg (by omega)]
                     refine ⟨_, rfl, ?_⟩
                     unfold sp_as
                     rw [if_pos (by omega), if_pos ho]
                     exact h_82)
                  | (have ho : ofK (st.1 0 (28 + 5 * a + 0)) k = 1 := by unfold ofK; rw [if_pos (by omega)]
                     refine ⟨_, rfl, ?_⟩
                     unfold sp_as
                     rw [if_pos (by omega), if_neg (by omega)]
                     exact ⟨rfl, hX, MF.rf⟩)
              · refine mw_iconst dX7_as_58 ?_
                refine mw_goto (tgt := 63) dX7_as_59 (by decide) ?_
                refine mw_is4 dX7_as_63 (by decide) rfl ?_
                refine mw_iload dX7_as_65 rfl ?_
                refine mw_if_eq (tgt := 79) dX7_as_67 (by decide) (by omega) (fun c_67 => ?_) (fun c_67 => ?_)
                · refine mw_aload_n dX7_as_79 rfl ?_
                  refine mw_ldc dX7_as_80 ct_X7_164 ?_
                  refine mw_Vi (ci := 7) dX7_as_82 ml_X7_77 ok_X7_finding (by decide) (by first | rfl | assumption) (by decide) rfl rfl rfl (Nat.le_of_ble_eq_true rfl) (c_M_find hX hI 2 (by decide) (by decide)) (fun z_82 m_82 h_82 => ?_)
                  refine mw_iret dX7_as_85 rfl ?_
                  first
                  | (exfalso; omega)
                  | (have ho : ofK (st.1 0 (28 + 5 * a + 0)) k = 0 := by unfold ofK; rw [if_neg (by omega)]
                     refine ⟨_, rfl, ?_⟩
                     unfold sp_as
                     rw [if_pos (by omega), if_pos ho]
                     exact h_82)
                  | (have ho : ofK (st.1 0 (28 + 5 * a + 0)) k = 1 := by unfold ofK; rw [if_pos (by omega)]
                     refine ⟨_, rfl, ?_⟩
                     unfold sp_as
                     rw [if_pos (by omega), if_neg (by omega)]
                     exact ⟨rfl, hX, MF.rf⟩)
                · refine mw_aload_n dX7_as_70 rfl ?_
                  refine mw_iload_n dX7_as_71 rfl ?_
                  refine mw_iconst dX7_as_72 ?_
                  refine mw_Vpi (ci := 7) dX7_as_73 ml_X7_120 ok_X7_attacheIs (by decide) (by first | rfl | assumption) (by decide) rfl rfl rfl (Nat.le_of_ble_eq_true rfl) (c_M_attacheIs hR (by omega) (by omega)) ?_
                  refine mw_goto (tgt := 85) dX7_as_76 (by decide) ?_
                  refine mw_iret dX7_as_85 rfl ?_
                  first
                  | (exfalso; omega)
                  | (have ho : ofK (st.1 0 (28 + 5 * a + 0)) k = 0 := by unfold ofK; rw [if_neg (by omega)]
                     refine ⟨_, rfl, ?_⟩
                     unfold sp_as
                     rw [if_pos (by omega), if_pos ho]
                     exact h_82)
                  | (have ho : ofK (st.1 0 (28 + 5 * a + 0)) k = 1 := by unfold ofK; rw [if_pos (by omega)]
                     refine ⟨_, rfl, ?_⟩
                     unfold sp_as
                     rw [if_pos (by omega), if_neg (by omega)]
                     exact ⟨rfl, hX, MF.rf⟩)
          · refine mw_iload_n dX7_as_43 rfl ?_
            refine mw_iconst dX7_as_44 ?_
            refine mw_icmp_eq (tgt := 58) dX7_as_45 (by decide) (by omega) (by omega) (fun c_45 => ?_) (fun c_45 => ?_)
            · refine mw_iconst dX7_as_58 ?_
              refine mw_goto (tgt := 63) dX7_as_59 (by decide) ?_
              refine mw_is4 dX7_as_63 (by decide) rfl ?_
              refine mw_iload dX7_as_65 rfl ?_
              refine mw_if_eq (tgt := 79) dX7_as_67 (by decide) (by omega) (fun c_67 => ?_) (fun c_67 => ?_)
              · refine mw_aload_n dX7_as_79 rfl ?_
                refine mw_ldc dX7_as_80 ct_X7_164 ?_
                refine mw_Vi (ci := 7) dX7_as_82 ml_X7_77 ok_X7_finding (by decide) (by first | rfl | assumption) (by decide) rfl rfl rfl (Nat.le_of_ble_eq_true rfl) (c_M_find hX hI 2 (by decide) (by decide)) (fun z_82 m_82 h_82 => ?_)
                refine mw_iret dX7_as_85 rfl ?_
                first
                | (exfalso; omega)
                | (have ho : ofK (st.1 0 (28 + 5 * a + 0)) k = 0 := by unfold ofK; rw [if_neg (by omega)]
                   refine ⟨_, rfl, ?_⟩
                   unfold sp_as
                   rw [if_pos (by omega), if_pos ho]
                   exact h_82)
                | (have ho : ofK (st.1 0 (28 + 5 * a + 0)) k = 1 := by unfold ofK; rw [if_pos (by omega)]
                   refine ⟨_, rfl, ?_⟩
                   unfold sp_as
                   rw [if_pos (by omega), if_neg (by omega)]
                   exact ⟨rfl, hX, MF.rf⟩)
              · refine mw_aload_n dX7_as_70 rfl ?_
                refine mw_iload_n dX7_as_71 rfl ?_
                refine mw_iconst dX7_as_72 ?_
                refine mw_Vpi (ci := 7) dX7_as_73 ml_X7_120 ok_X7_attacheIs (by decide) (by first | rfl | assumption) (by decide) rfl rfl rfl (Nat.le_of_ble_eq_true rfl) (c_M_attacheIs hR (by omega) (by omega)) ?_
                refine mw_goto (tgt := 85) dX7_as_76 (by decide) ?_
                refine mw_iret dX7_as_85 rfl ?_
                first
                | (exfalso; omega)
                | (have ho : ofK (st.1 0 (28 + 5 * a + 0)) k = 0 := by unfold ofK; rw [if_neg (by omega)]
                   refine ⟨_, rfl, ?_⟩
                   unfold sp_as
                   rw [if_pos (by omega), if_pos ho]
                   exact h_82)
                | (have ho : ofK (st.1 0 (28 + 5 * a + 0)) k = 1 := by unfold ofK; rw [if_pos (by omega)]
                   refine ⟨_, rfl, ?_⟩
                   unfold sp_as
                   rw [if_pos (by omega), if_neg (by omega)]
                   exact ⟨rfl, hX, MF.rf⟩)
            · refine mw_iload_n dX7_as_48 rfl ?_
              refine mw_iconst dX7_as_49 ?_
              refine mw_icmp_ne (tgt := 62) dX7_as_50 (by decide) (by omega) (by omega) (fun c_50 => ?_) (fun c_50 => ?_)
              · refine mw_iconst dX7_as_62 ?_
                refine mw_is4 dX7_as_63 (by decide) rfl ?_
                refine mw_iload dX7_as_65 rfl ?_
                refine mw_if_eq (tgt := 79) dX7_as_67 (by decide) (by omega) (fun c_67 => ?_) (fun c_67 => ?_)
                · refine mw_aload_n dX7_as_79 rfl ?_
                  refine mw_ldc dX7_as_80 ct_X7_164 ?_
                  refine mw_Vi (ci := 7) dX7_as_82 ml_X7_77 ok_X7_finding (by decide) (by first | rfl | assumption) (by decide) rfl rfl rfl (Nat.le_of_ble_eq_true rfl) (c_M_find hX hI 2 (by decide) (by decide)) (fun z_82 m_82 h_82 => ?_)
                  refine mw_iret dX7_as_85 rfl ?_
                  first
                  | (exfalso; omega)
                  | (have ho : ofK (st.1 0 (28 + 5 * a + 0)) k = 0 := by unfold ofK; rw [if_neg (by omega)]
                     refine ⟨_, rfl, ?_⟩
                     unfold sp_as
                     rw [if_pos (by omega), if_pos ho]
                     exact h_82)
                  | (have ho : ofK (st.1 0 (28 + 5 * a + 0)) k = 1 := by unfold ofK; rw [if_pos (by omega)]
                     refine ⟨_, rfl, ?_⟩
                     unfold sp_as
                     rw [if_pos (by omega), if_neg (by omega)]
                     exact ⟨rfl, hX, MF.rf⟩)
                · refine mw_aload_n dX7_as_70 rfl ?_
                  refine mw_iload_n dX7_as_71 rfl ?_
                  refine mw_iconst dX7_as_72 ?_
                  refine mw_Vpi (ci := 7) dX7_as_73 ml_X7_120 ok_X7_attacheIs (by decide) (by first | rfl | assumption) (by decide) rfl rfl rfl (Nat.le_of_ble_eq_true rfl) (c_M_attacheIs hR (by omega) (by omega)) ?_
                  refine mw_goto (tgt := 85) dX7_as_76 (by decide) ?_
                  refine mw_iret dX7_as_85 rfl ?_
                  first
                  | (exfalso; omega)
                  | (have ho : ofK (st.1 0 (28 + 5 * a + 0)) k = 0 := by unfold ofK; rw [if_neg (by omega)]
                     refine ⟨_, rfl, ?_⟩
                     unfold sp_as
                     rw [if_pos (by omega), if_pos ho]
                     exact h_82)
                  | (have ho : ofK (st.1 0 (28 + 5 * a + 0)) k = 1 := by unfold ofK; rw [if_pos (by omega)]
                     refine ⟨_, rfl, ?_⟩
                     unfold sp_as
                     rw [if_pos (by omega), if_neg (by omega)]
                     exact ⟨rfl, hX, MF.rf⟩)
              · refine mw_iload_n dX7_as_53 rfl ?_
                refine mw_iconst dX7_as_54 ?_
                refine mw_icmp_ne (tgt := 62) dX7_as_55 (by decide) (by omega) (by omega) (fun c_55 => ?_) (fun c_55 => ?_)
                · refine mw_iconst dX7_as_62 ?_
                  refine mw_is4 dX7_as_63 (by decide) rfl ?_
                  refine mw_iload dX7_as_65 rfl ?_
                  refine mw_if_eq (tgt := 79) dX7_as_67 (by decide) (by omega) (fun c_67 => ?_) (fun c_67 => ?_)
                  · refine mw_aload_n dX7_as_79 rfl ?_
                    refine mw_ldc dX7_as_80 ct_X7_164 ?_
                    refine mw_Vi (ci := 7) dX7_as_82 ml_X7_77 ok_X7_finding (by decide) (by first | rfl | assumption) (by decide) rfl rfl rfl (Nat.le_of_ble_eq_true rfl) (c_M_find hX hI 2 (by decide) (by decide)) (fun z_82 m_82 h_82 => ?_)
                    refine mw_iret dX7_as_85 rfl ?_
                    first
                    | (exfalso; omega)
                    | (have ho : ofK (st.1 0 (28 + 5 * a + 0)) k = 0 := by unfold ofK; rw [if_neg (by omega)]
                       refine ⟨_, rfl, ?_⟩
                       unfold sp_as
                       rw [if_pos (by omega), if_pos ho]
                       exact h_82)
                    | (have ho : ofK (st.1 0 (28 + 5 * a + 0)) k = 1 := by unfold ofK; rw [if_pos (by omega)]
                       refine ⟨_, rfl, ?_⟩
                       unfold sp_as
                       rw [if_pos (by omega), if_neg (by omega)]
                       exact ⟨rfl, hX, MF.rf⟩)
                  · refine mw_aload_n dX7_as_70 rfl ?_
                    refine mw_iload_n dX7_as_71 rfl ?_
                    refine mw_iconst dX7_as_72 ?_
                    refine mw_Vpi (ci := 7) dX7_as_73 ml_X7_120 ok_X7_attacheIs (by decide) (by first | rfl | assumption) (by decide) rfl rfl rfl (Nat.le_of_ble_eq_true rfl) (c_M_attacheIs hR (by omega) (by omega)) ?_
                    refine mw_goto (tgt := 85) dX7_as_76 (by decide) ?_
                    refine mw_iret dX7_as_85 rfl ?_
                    first
                    | (exfalso; omega)
                    | (have ho : ofK (st.1 0 (28 + 5 * a + 0)) k = 0 := by unfold ofK; rw [if_neg (by omega)]
                       refine ⟨_, rfl, ?_⟩
                       unfold sp_as
                       rw [if_pos (by omega), if_pos ho]
                       exact h_82)
                    | (have ho : ofK (st.1 0 (28 + 5 * a + 0)) k = 1 := by unfold ofK; rw [if_pos (by omega)]
                       refine ⟨_, rfl, ?_⟩
                       unfold sp_as
                       rw [if_pos (by omega), if_neg (by omega)]
                       exact ⟨rfl, hX, MF.rf⟩)
                · refine mw_iconst dX7_as_58 ?_
                  refine mw_goto (tgt := 63) dX7_as_59 (by decide) ?_
                  refine mw_is4 dX7_as_63 (by decide) rfl ?_
                  refine mw_iload dX7_as_65 rfl ?_
                  refine mw_if_eq (tgt := 79) dX7_as_67 (by decide) (by omega) (fun c_67 => ?_) (fun c_67 => ?_)
                  · refine mw_aload_n dX7_as_79 rfl ?_
                    refine mw_ldc dX7_as_80 ct_X7_164 ?_
                    refine mw_Vi (ci := 7) dX7_as_82 ml_X7_77 ok_X7_finding (by decide) (by first | rfl | assumption) (by decide) rfl rfl rfl (Nat.le_of_ble_eq_true rfl) (c_M_find hX hI 2 (by decide) (by decide)) (fun z_82 m_82 h_82 => ?_)
                    refine mw_iret dX7_as_85 rfl ?_
                    first
                    | (exfalso; omega)
                    | (have ho : ofK (st.1 0 (28 + 5 * a + 0)) k = 0 := by unfold ofK; rw [if_neg (by omega)]
                       refine ⟨_, rfl, ?_⟩
                       unfold sp_as
                       rw [if_pos (by omega), if_pos ho]
                       exact h_82)
                    | (have ho : ofK (st.1 0 (28 + 5 * a + 0)) k = 1 := by unfold ofK; rw [if_pos (by omega)]
                       refine ⟨_, rfl, ?_⟩
                       unfold sp_as
                       rw [if_pos (by omega), if_neg (by omega)]
                       exact ⟨rfl, hX, MF.rf⟩)
                  · refine mw_aload_n dX7_as_70 rfl ?_
                    refine mw_iload_n dX7_as_71 rfl ?_
                    refine mw_iconst dX7_as_72 ?_
                    refine mw_Vpi (ci := 7) dX7_as_73 ml_X7_120 ok_X7_attacheIs (by decide) (by first | rfl | assumption) (by decide) rfl rfl rfl (Nat.le_of_ble_eq_true rfl) (c_M_attacheIs hR (by omega) (by omega)) ?_
                    refine mw_goto (tgt := 85) dX7_as_76 (by decide) ?_
                    refine mw_iret dX7_as_85 rfl ?_
                    first
                    | (exfalso; omega)
                    | (have ho : ofK (st.1 0 (28 + 5 * a + 0)) k = 0 := by unfold ofK; rw [if_neg (by omega)]
                       refine ⟨_, rfl, ?_⟩
                       unfold sp_as
                       rw [if_pos (by omega), if_pos ho]
                       exact h_82)
                    | (have ho : ofK (st.1 0 (28 + 5 * a + 0)) k = 1 := by unfold ofK; rw [if_pos (by omega)]
                       refine ⟨_, rfl, ?_⟩
                       unfold sp_as
                       rw [if_pos (by omega), if_neg (by omega)]
                       exact ⟨rfl, hX, MF.rf⟩)
    · have d_12 := wi_0 c_12
      refine mw_aload_n dX7_as_15 rfl ?_
      refine mw_ldc dX7_as_16 ct_X7_71 ?_
      refine mw_Vi (ci := 7) dX7_as_18 ml_X7_77 ok_X7_finding (by decide) (by first | rfl | assumption) (by decide) rfl rfl rfl (Nat.le_of_ble_eq_true rfl) (c_M_find hX hI 0 (by decide) (by decide)) (fun z_18 m_18 h_18 => ?_)
      refine mw_iret dX7_as_21 rfl ?_
      refine ⟨_, rfl, ?_⟩
      unfold sp_as
      rw [if_neg (by omega)]
      exact h_18
set_option maxHeartbeats 4000000 in
set_option maxRecDepth 100000 in
theorem c_M_days {G : mG} {μ : mMem} {st : aS} (hX : MR μ st) (hI : SI st) {n : Int} (hn_ : -2147483648 ≤ n ∧ n ≤ 2147483647) : mM G yX7_days cX7_days 2 (some .int) 6 [.ref 56, .int (iV n)] μ (qM μ (sp_days st n)) := by
  obtain ⟨hR, hK, hkp, htl, htb, hfd, hfs, hsh⟩ := id hX
  have hFI := hI.1
  have hn := hFI.2.1
  have h0 := hFI.1
  have h99 := hI.2.1
  refine mM.of (lv := [some (.ref 56), some (.int (iV n))]) 0 (by decide +kernel) (Nat.le_of_ble_eq_true rfl) rfl ?_
  intro X
  refine mw_iload_n dX7_days_0 rfl ?_
  refine mw_iconst dX7_days_1 ?_
  refine mw_bipush dX7_days_2 (by decide +kernel) ?_
  refine mw_Spi dX7_days_4 ml_X7_81 ok_X7_within (by decide) rfl rfl (Nat.le_of_ble_eq_true rfl) (c_M_within (by omega) (by omega) (by omega)) ?_
  refine mw_if_ne (tgt := 17) dX7_days_7 (by decide) (wi_bd _ _ _) (fun c_7 => ?_) (fun c_7 => ?_)
  · have d_7 := wi_1 c_7
    refine mw_aload_n dX7_days_17 rfl ?_
    refine mw_gr_7_0 dX7_days_18 gs_X7_9 (by first | rfl | assumption) ?_
    refine mw_iconst dX7_days_21 ?_
    refine mw_iald 68 dX7_days_22 (by first | rfl | assumption) (by first | rfl | assumption) (by omega) ?_
    rw [hR _ (by omega) (by omega)]
    refine mw_iload_n dX7_days_23 rfl ?_
    refine mw_iadd dX7_days_24 ?_
    refine mw_sipush dX7_days_25 (by decide +kernel) ?_
    refine mw_icmp_le (tgt := 38) dX7_days_28 (by decide) (by omega) (by omega) (fun c_28 => ?_) (fun c_28 => ?_)
    · refine mw_aload_n dX7_days_38 rfl ?_
      refine mw_iload_n dX7_days_39 rfl ?_
      refine mw_Vv (ci := 7) dX7_days_40 ml_X7_176 ok_X7_daysGo (by decide) (by first | rfl | assumption) (by decide) rfl rfl rfl (Nat.le_of_ble_eq_true rfl) (c_M_daysGo hR hFI (by omega) (by omega)) (fun m_40 h_40 => ?_)
      refine mw_aload_n dX7_days_43 rfl ?_
      refine mw_iconst dX7_days_44 ?_
      refine mw_Vpi (ci := 7) dX7_days_45 ml_X7_123 ok_X7_tensionOf (by decide) (by first | rfl | assumption) (by decide) rfl rfl rfl (Nat.le_of_ble_eq_true rfl) (c_M_tensionOf h_40.1 (days_inv hFI _) (by omega)) ?_
      refine mw_aload_n dX7_days_48 rfl ?_
      refine mw_iconst dX7_days_49 ?_
      refine mw_Vpi (ci := 7) dX7_days_50 ml_X7_123 ok_X7_tensionOf (by decide) (by first | rfl | assumption) (by decide) rfl rfl rfl (Nat.le_of_ble_eq_true rfl) (c_M_tensionOf h_40.1 (days_inv hFI _) (by omega)) ?_
      refine mw_iadd dX7_days_53 ?_
      refine mw_iret dX7_days_54 rfl ?_
      refine ⟨_, rfl, ?_⟩
      unfold sp_days
      rw [if_pos (by omega), if_neg (by omega)]
      exact ⟨rfl, hX.row h_40.1 h_40.2.dr, h_40.2.mf⟩
    · refine mw_aload_n dX7_days_31 rfl ?_
      refine mw_ldc dX7_days_32 ct_X7_175 ?_
      refine mw_Vi (ci := 7) dX7_days_34 ml_X7_77 ok_X7_finding (by decide) (by first | rfl | assumption) (by decide) rfl rfl rfl (Nat.le_of_ble_eq_true rfl) (c_M_find hX hI 4 (by decide) (by decide)) (fun z_34 m_34 h_34 => ?_)
      refine mw_iret dX7_days_37 rfl ?_
      refine ⟨_, rfl, ?_⟩
      unfold sp_days
      rw [if_pos (by omega), if_pos (by omega)]
      exact h_34
  · have d_7 := wi_0 c_7
    refine mw_aload_n dX7_days_10 rfl ?_
    refine mw_ldc dX7_days_11 ct_X7_71 ?_
    refine mw_Vi (ci := 7) dX7_days_13 ml_X7_77 ok_X7_finding (by decide) (by first | rfl | assumption) (by decide) rfl rfl rfl (Nat.le_of_ble_eq_true rfl) (c_M_find hX hI 0 (by decide) (by decide)) (fun z_13 m_13 h_13 => ?_)
    refine mw_iret dX7_days_16 rfl ?_
    refine ⟨_, rfl, ?_⟩
    unfold sp_days
    rw [if_neg (by omega)]
    exact h_13
set_option maxHeartbeats 4000000 in
set_option maxRecDepth 100000 in
theorem c_M_now {G : mG} {μ : mMem} {st : aS} (hX : MR μ st) (hI : SI st) {v : Int} (hv_ : -2147483648 ≤ v ∧ v ≤ 2147483647) : mM G yX7_now cX7_now 2 (some .int) 4 [.ref 56, .int (iV v)] μ (qM μ (sp_now st v)) := by
  obtain ⟨hR, hK, hkp, htl, htb, hfd, hfs, hsh⟩ := id hX
  have hFI := hI.1
  have hn := hFI.2.1
  have h0 := hFI.1
  have h99 := hI.2.1
  have hal := alike_c (st.1 0)
  have hh0 := home_c 0 (st.1 0)
  have hh1 := home_c 1 (st.1 0)
  refine mM.of (lv := [some (.ref 56), some (.int (iV v))]) 0 (by decide +kernel) (Nat.le_of_ble_eq_true rfl) rfl ?_
  intro X
  refine mw_iload_n dX7_now_0 rfl ?_
  rcases (show v = 0 ∨ v = 1 ∨ v = 2 ∨ v = 3 ∨ v = 4 ∨ v = 5 ∨ (v < 0 ∨ 5 < v) by omega) with rfl | rfl | rfl | rfl | rfl | rfl | c_1
  · refine mw_tblIn (off := 39) (tgt := 40) dX7_now_1 (by decide) (by decide) (by decide) (by decide) (by decide) ?_
    refine mw_aload_n dX7_now_40 rfl ?_
    refine mw_gr_7_0 dX7_now_41 gs_X7_9 (by first | rfl | assumption) ?_
    refine mw_iconst dX7_now_44 ?_
    refine mw_iald 68 dX7_now_45 (by first | rfl | assumption) (by first | rfl | assumption) (by omega) ?_
    rw [hR _ (by omega) (by omega)]
    refine mw_iret dX7_now_46 rfl ?_
    refine ⟨_, rfl, ?_⟩
    unfold sp_now
    rw [if_pos rfl]
    exact ⟨rfl, hX, MF.rf⟩
  · refine mw_tblIn (off := 46) (tgt := 47) dX7_now_1 (by decide) (by decide) (by decide) (by decide) (by decide) ?_
    refine mw_aload_n dX7_now_47 rfl ?_
    refine mw_gr_7_0 dX7_now_48 gs_X7_9 (by first | rfl | assumption) ?_
    refine mw_iconst dX7_now_51 ?_
    refine mw_iald 68 dX7_now_52 (by first | rfl | assumption) (by first | rfl | assumption) (by omega) ?_
    rw [hR _ (by omega) (by omega)]
    refine mw_iconst dX7_now_53 ?_
    refine mw_iremN dX7_now_54 (by omega) (by omega) ?_
    refine mw_iret dX7_now_55 rfl ?_
    refine ⟨_, rfl, ?_⟩
    unfold sp_now
    rw [if_neg (by omega), if_pos rfl]
    exact ⟨rfl, hX, MF.rf⟩
  · refine mw_tblIn (off := 55) (tgt := 56) dX7_now_1 (by decide) (by decide) (by decide) (by decide) (by decide) ?_
    refine mw_aload_n dX7_now_56 rfl ?_
    refine mw_Vpi (ci := 7) dX7_now_57 ml_X7_165 ok_X7_whose (by decide) (by first | rfl | assumption) (by decide) rfl rfl rfl (Nat.le_of_ble_eq_true rfl) (c_M_whose hR hFI (by omega)) ?_
    refine mw_iret dX7_now_60 rfl ?_
    refine ⟨_, rfl, ?_⟩
    unfold sp_now
    rw [if_neg (by omega), if_neg (by omega), if_pos rfl]
    exact ⟨rfl, hX, MF.rf⟩
  · refine mw_tblIn (off := 60) (tgt := 61) dX7_now_1 (by decide) (by decide) (by decide) (by decide) (by decide) ?_
    refine mw_aload_n dX7_now_61 rfl ?_
    refine mw_iconst dX7_now_62 ?_
    refine mw_Vpi (ci := 7) dX7_now_63 ml_X7_126 ok_X7_isHome (by decide) (by first | rfl | assumption) (by decide) rfl rfl rfl (Nat.le_of_ble_eq_true rfl) (c_M_isHome hR hFI (by omega)) ?_
    refine mw_if_eq (tgt := 73) dX7_now_66 (by decide) (by omega) (fun c_66 => ?_) (fun c_66 => ?_)
    · refine mw_iconst dX7_now_73 ?_
      refine mw_aload_n dX7_now_74 rfl ?_
      refine mw_iconst dX7_now_75 ?_
      refine mw_Vpi (ci := 7) dX7_now_76 ml_X7_126 ok_X7_isHome (by decide) (by first | rfl | assumption) (by decide) rfl rfl rfl (Nat.le_of_ble_eq_true rfl) (c_M_isHome hR hFI (by omega)) ?_
      refine mw_if_eq (tgt := 86) dX7_now_79 (by decide) (by omega) (fun c_79 => ?_) (fun c_79 => ?_)
      · refine mw_iconst dX7_now_86 ?_
        refine mw_iadd dX7_now_87 ?_
        refine mw_iret dX7_now_88 rfl ?_
        refine ⟨_, rfl, ?_⟩
        unfold sp_now
        rw [if_neg (by omega), if_neg (by omega), if_neg (by omega), if_pos rfl]
        exact ⟨by omega, hX, MF.rf⟩
      · refine mw_iconst dX7_now_82 ?_
        refine mw_goto (tgt := 87) dX7_now_83 (by decide) ?_
        refine mw_iadd dX7_now_87 ?_
        refine mw_iret dX7_now_88 rfl ?_
        refine ⟨_, rfl, ?_⟩
        unfold sp_now
        rw [if_neg (by omega), if_neg (by omega), if_neg (by omega), if_pos rfl]
        exact ⟨by omega, hX, MF.rf⟩
    · refine mw_iconst dX7_now_69 ?_
      refine mw_goto (tgt := 74) dX7_now_70 (by decide) ?_
      refine mw_aload_n dX7_now_74 rfl ?_
      refine mw_iconst dX7_now_75 ?_
      refine mw_Vpi (ci := 7) dX7_now_76 ml_X7_126 ok_X7_isHome (by decide) (by first | rfl | assumption) (by decide) rfl rfl rfl (Nat.le_of_ble_eq_true rfl) (c_M_isHome hR hFI (by omega)) ?_
      refine mw_if_eq (tgt := 86) dX7_now_79 (by decide) (by omega) (fun c_79 => ?_) (fun c_79 => ?_)
      · refine mw_iconst dX7_now_86 ?_
        refine mw_iadd dX7_now_87 ?_
        refine mw_iret dX7_now_88 rfl ?_
        refine ⟨_, rfl, ?_⟩
        unfold sp_now
        rw [if_neg (by omega), if_neg (by omega), if_neg (by omega), if_pos rfl]
        exact ⟨by omega, hX, MF.rf⟩
      · refine mw_iconst dX7_now_82 ?_
        refine mw_goto (tgt := 87) dX7_now_83 (by decide) ?_
        refine mw_iadd dX7_now_87 ?_
        refine mw_iret dX7_now_88 rfl ?_
        refine ⟨_, rfl, ?_⟩
        unfold sp_now
        rw [if_neg (by omega), if_neg (by omega), if_neg (by omega), if_pos rfl]
        exact ⟨by omega, hX, MF.rf⟩
  · refine mw_tblIn (off := 88) (tgt := 89) dX7_now_1 (by decide) (by decide) (by decide) (by decide) (by decide) ?_
    refine mw_aload_n dX7_now_89 rfl ?_
    refine mw_Vpi (ci := 7) dX7_now_90 ml_X7_179 ok_X7_areAlike (by decide) (by first | rfl | assumption) (by decide) rfl rfl rfl (Nat.le_of_ble_eq_true rfl) (c_M_alike hR hFI) ?_
    refine mw_if_eq (tgt := 100) dX7_now_93 (by decide) (by omega) (fun c_93 => ?_) (fun c_93 => ?_)
    · refine mw_iconst dX7_now_100 ?_
      refine mw_iret dX7_now_101 rfl ?_
      refine ⟨_, rfl, ?_⟩
      unfold sp_now
      rw [if_neg (by omega), if_neg (by omega), if_neg (by omega), if_neg (by omega), if_pos rfl]
      exact ⟨by omega, hX, MF.rf⟩
    · refine mw_iconst dX7_now_96 ?_
      refine mw_goto (tgt := 101) dX7_now_97 (by decide) ?_
      refine mw_iret dX7_now_101 rfl ?_
      refine ⟨_, rfl, ?_⟩
      unfold sp_now
      rw [if_neg (by omega), if_neg (by omega), if_neg (by omega), if_neg (by omega), if_pos rfl]
      exact ⟨by omega, hX, MF.rf⟩
  · refine mw_tblIn (off := 101) (tgt := 102) dX7_now_1 (by decide) (by decide) (by decide) (by decide) (by decide) ?_
    refine mw_aload_n dX7_now_102 rfl ?_
    refine mw_Vpi (ci := 7) dX7_now_103 ml_X7_116 ok_X7_unlikeNow (by decide) (by first | rfl | assumption) (by decide) rfl rfl rfl (Nat.le_of_ble_eq_true rfl) (c_M_unlike hR hFI) ?_
    refine mw_iret dX7_now_106 rfl ?_
    refine ⟨_, rfl, ?_⟩
    unfold sp_now
    rw [if_neg (by omega), if_neg (by omega), if_neg (by omega), if_neg (by omega), if_neg (by omega), if_pos rfl]
    exact ⟨rfl, hX, MF.rf⟩
  · refine mw_tblOut (tgt := 107) dX7_now_1 (by omega) c_1 (by decide) ?_
    refine mw_aload_n dX7_now_107 rfl ?_
    refine mw_ldc dX7_now_108 ct_X7_71 ?_
    refine mw_Vi (ci := 7) dX7_now_110 ml_X7_77 ok_X7_finding (by decide) (by first | rfl | assumption) (by decide) rfl rfl rfl (Nat.le_of_ble_eq_true rfl) (c_M_find hX hI 0 (by decide) (by decide)) (fun z_110 m_110 h_110 => ?_)
    refine mw_iret dX7_now_113 rfl ?_
    refine ⟨_, rfl, ?_⟩
    unfold sp_now
    rw [if_neg (by omega), if_neg (by omega), if_neg (by omega), if_neg (by omega), if_neg (by omega), if_neg (by omega)]
    exact h_110
set_option maxHeartbeats 4000000 in
set_option maxRecDepth 100000 in
theorem c_M_on {G : mG} {μ : mMem} {st : aS} (hX : MR μ st) (hI : SI st) {s i n : Int} (hs_ : -2147483648 ≤ s ∧ s ≤ 2147483647) (hi_ : -2147483648 ≤ i ∧ i ≤ 2147483647) (hn_ : -2147483648 ≤ n ∧ n ≤ 2147483647) : mM G yX7_on cX7_on 4 (some .int) 6 [.ref 56, .int (iV s), .int (iV i), .int (iV n)] μ (qM μ (sp_on st s i n)) := by
  obtain ⟨hR, hK, hkp, htl, htb, hfd, hfs, hsh⟩ := id hX
  have hFI := hI.1
  have hn := hFI.2.1
  have h0 := hFI.1
  have h99 := hI.2.1
  refine mM.of (lv := [some (.ref 56), some (.int (iV s)), some (.int (iV i)), some (.int (iV n))]) 0 (by decide +kernel) (Nat.le_of_ble_eq_true rfl) rfl ?_
  intro X
  refine mw_iload_n dX7_on_0 rfl ?_
  refine mw_Spi dX7_on_1 ml_X7_91 ok_X7_isSide (by decide) rfl rfl (Nat.le_of_ble_eq_true rfl) (c_M_isSide (by omega)) ?_
  refine mw_if_eq (tgt := 24) dX7_on_4 (by decide) (wi_bd _ _ _) (fun c_4 => ?_) (fun c_4 => ?_)
  · have d_4 := wi_0 c_4
    refine mw_aload_n dX7_on_24 rfl ?_
    refine mw_ldc dX7_on_25 ct_X7_71 ?_
    refine mw_Vi (ci := 7) dX7_on_27 ml_X7_77 ok_X7_finding (by decide) (by first | rfl | assumption) (by decide) rfl rfl rfl (Nat.le_of_ble_eq_true rfl) (c_M_find hX hI 0 (by decide) (by decide)) (fun z_27 m_27 h_27 => ?_)
    refine mw_iret dX7_on_30 rfl ?_
    refine ⟨_, rfl, ?_⟩
    unfold sp_on
    rw [if_neg (by omega)]
    exact h_27
  · have d_4 := wi_1 c_4
    refine mw_iload_n dX7_on_7 rfl ?_
    refine mw_iconst dX7_on_8 ?_
    refine mw_bipush dX7_on_9 (by decide +kernel) ?_
    refine mw_Spi dX7_on_11 ml_X7_81 ok_X7_within (by decide) rfl rfl (Nat.le_of_ble_eq_true rfl) (c_M_within (by omega) (by omega) (by omega)) ?_
    refine mw_if_eq (tgt := 24) dX7_on_14 (by decide) (wi_bd _ _ _) (fun c_14 => ?_) (fun c_14 => ?_)
    · have d_14 := wi_0 c_14
      refine mw_aload_n dX7_on_24 rfl ?_
      refine mw_ldc dX7_on_25 ct_X7_71 ?_
      refine mw_Vi (ci := 7) dX7_on_27 ml_X7_77 ok_X7_finding (by decide) (by first | rfl | assumption) (by decide) rfl rfl rfl (Nat.le_of_ble_eq_true rfl) (c_M_find hX hI 0 (by decide) (by decide)) (fun z_27 m_27 h_27 => ?_)
      refine mw_iret dX7_on_30 rfl ?_
      refine ⟨_, rfl, ?_⟩
      unfold sp_on
      rw [if_neg (by omega)]
      exact h_27
    · have d_14 := wi_1 c_14
      refine mw_iload_n dX7_on_17 rfl ?_
      refine mw_Spi dX7_on_18 ml_X7_183 ok_X7_isOn (by decide) rfl rfl (Nat.le_of_ble_eq_true rfl) (c_M_isOn (by omega)) ?_
      refine mw_if_ne (tgt := 31) dX7_on_21 (by decide) (wi_bd _ _ _) (fun c_21 => ?_) (fun c_21 => ?_)
      · have d_21 := wi_1 c_21
        refine mw_aload_n dX7_on_31 rfl ?_
        refine mw_gr_7_0 dX7_on_32 gs_X7_9 (by first | rfl | assumption) ?_
        refine mw_aload_n dX7_on_35 rfl ?_
        refine mw_gr_7_2 dX7_on_36 gs_X7_16 (by first | rfl | assumption) ?_
        refine mw_Sv dX7_on_39 ml_X7_72 ok_X7_copyRow (by decide) rfl rfl (Nat.le_of_ble_eq_true rfl) (c_M_copyRow rfl rfl rfl rfl (by decide)) (fun m_39 h_39 => ?_)
        obtain ⟨a1, a2, a3⟩ := cp_to hR h_39
        refine mw_aload_n dX7_on_42 rfl ?_
        refine mw_iload_n dX7_on_43 rfl ?_
        refine mw_Vv (ci := 7) dX7_on_44 ml_X7_176 ok_X7_daysGo (by decide) (by first | rfl | assumption) (by decide) rfl rfl rfl (Nat.le_of_ble_eq_true rfl) (c_M_daysGo a1 hFI (by omega) (by omega)) (fun m_44 h_44 => ?_)
        have a4 := cp_a a2 h_44.2
        have a5 := a3.tr h_44.2.dr
        have hdi := days_inv hFI n.toNat
        have hl := hdi.2.2.1 s (by omega) (by omega)
        refine mw_aload_n dX7_on_47 rfl ?_
        refine mw_aload_n dX7_on_48 rfl ?_
        refine mw_iload_n dX7_on_49 rfl ?_
        refine mw_aload_n dX7_on_50 rfl ?_
        refine mw_iload_n dX7_on_51 rfl ?_
        refine mw_Vpi (ci := 7) dX7_on_52 ml_X7_99 ok_X7_length (by decide) (by first | rfl | assumption) (by decide) rfl rfl rfl (Nat.le_of_ble_eq_true rfl) (c_M_length h_44.1 (by omega)) ?_
        refine mw_icmp_ge (tgt := 67) dX7_on_55 (by decide) (by omega) (by omega) (fun c_55 => ?_) (fun c_55 => ?_)
        · refine mw_iconst dX7_on_67 ?_
          refine mw_Vi (ci := 7) dX7_on_68 ml_X7_186 ok_X7_putBack (by decide) (by first | rfl | assumption) (by decide) rfl rfl rfl (Nat.le_of_ble_eq_true rfl) (c_M_putBack a4) (fun z_68 m_68 h_68 => ?_)
          have hX2 := hX.same h_68.2.1 (a5.tr h_68.2.2)
          have e_68 := h_68.1
          refine mw_Vi (ci := 7) dX7_on_71 ml_X7_189 ok_X7_orNone (by decide) (by first | rfl | assumption) (by decide) rfl rfl rfl (Nat.le_of_ble_eq_true rfl) (c_M_orNone hX2 hI (by first | omega | (have := hdi.2.2.2.1 s i (by omega) (by omega) (by omega) (by omega); unfold tn at e_68; omega))) (fun z_71 m_71 h_71 => ?_)
          refine mw_iret dX7_on_74 rfl ?_
          refine ⟨_, rfl, ?_⟩
          unfold sp_on
          rw [if_pos (by omega), if_neg (by omega)]
          unfold bstR at h_71
          rw [if_pos (by omega)] at h_71
          exact ⟨h_71.1, h_71.2.1, (a5.tr h_68.2.2).mf.tr h_71.2.2⟩
        · refine mw_aload_n dX7_on_58 rfl ?_
          refine mw_iload_n dX7_on_59 rfl ?_
          refine mw_iload_n dX7_on_60 rfl ?_
          refine mw_Vpi (ci := 7) dX7_on_61 ml_X7_102 ok_X7_toneOf (by decide) (by first | rfl | assumption) (by decide) rfl rfl rfl (Nat.le_of_ble_eq_true rfl) (c_M_toneOf h_44.1 (by omega) (by omega)) ?_
          refine mw_goto (tgt := 68) dX7_on_64 (by decide) ?_
          refine mw_Vi (ci := 7) dX7_on_68 ml_X7_186 ok_X7_putBack (by decide) (by first | rfl | assumption) (by decide) rfl rfl rfl (Nat.le_of_ble_eq_true rfl) (c_M_putBack a4) (fun z_68 m_68 h_68 => ?_)
          have hX2 := hX.same h_68.2.1 (a5.tr h_68.2.2)
          have e_68 := h_68.1
          refine mw_Vi (ci := 7) dX7_on_71 ml_X7_189 ok_X7_orNone (by decide) (by first | rfl | assumption) (by decide) rfl rfl rfl (Nat.le_of_ble_eq_true rfl) (c_M_orNone hX2 hI (by first | omega | (have := hdi.2.2.2.1 s i (by omega) (by omega) (by omega) (by omega); unfold tn at e_68; omega))) (fun z_71 m_71 h_71 => ?_)
          refine mw_iret dX7_on_74 rfl ?_
          refine ⟨_, rfl, ?_⟩
          have ht := hdi.2.2.2.1 s i (by omega) (by omega) (by omega) (by omega)
          unfold tn at e_68
          unfold sp_on
          rw [if_pos (by omega), if_pos (by omega)]
          unfold bstR at h_71
          rw [if_neg (by omega), e_68] at h_71
          exact ⟨h_71.1, h_71.2.1, (a5.tr h_68.2.2).mf.tr h_71.2.2⟩
      · have d_21 := wi_0 c_21
        refine mw_aload_n dX7_on_24 rfl ?_
        refine mw_ldc dX7_on_25 ct_X7_71 ?_
        refine mw_Vi (ci := 7) dX7_on_27 ml_X7_77 ok_X7_finding (by decide) (by first | rfl | assumption) (by decide) rfl rfl rfl (Nat.le_of_ble_eq_true rfl) (c_M_find hX hI 0 (by decide) (by decide)) (fun z_27 m_27 h_27 => ?_)
        refine mw_iret dX7_on_30 rfl ?_
        refine ⟨_, rfl, ?_⟩
        unfold sp_on
        rw [if_neg (by omega)]
        exact h_27
set_option maxHeartbeats 4000000 in
set_option maxRecDepth 100000 in
theorem c_M_tensionOn {G : mG} {μ : mMem} {F : Int → Int} (hR : ROW μ 57 F) (hI : fInv F) {s n : Int} (hs : 0 ≤ s ∧ s ≤ 1) (hN : 0 ≤ n ∧ n ≤ 60) (hd : F 0 ≤ 20000) : mM G yX7_tensionOn cX7_tensionOn 3 (some .int) 6 [.ref 56, .int (iV s), .int (iV n)] μ (qI (fun z m => z = TN (daysF n.toNat F) s ∧ ROW m 57 F ∧ DR μ m)) := by
  refine mM.of (lv := [some (.ref 56), some (.int (iV s)), some (.int (iV n))]) 0 (by decide +kernel) (Nat.le_of_ble_eq_true rfl) rfl ?_
  intro X
  refine mw_aload_n dX7_tensionOn_0 rfl ?_
  refine mw_gr_7_0 dX7_tensionOn_1 gs_X7_9 (by first | rfl | assumption) ?_
  refine mw_aload_n dX7_tensionOn_4 rfl ?_
  refine mw_gr_7_2 dX7_tensionOn_5 gs_X7_16 (by first | rfl | assumption) ?_
  refine mw_Sv dX7_tensionOn_8 ml_X7_72 ok_X7_copyRow (by decide) rfl rfl (Nat.le_of_ble_eq_true rfl) (c_M_copyRow rfl rfl rfl rfl (by decide)) (fun m_8 h_8 => ?_)
  obtain ⟨a1, a2, a3⟩ := cp_to hR h_8
  refine mw_aload_n dX7_tensionOn_11 rfl ?_
  refine mw_iload_n dX7_tensionOn_12 rfl ?_
  refine mw_Vv (ci := 7) dX7_tensionOn_13 ml_X7_176 ok_X7_daysGo (by decide) (by first | rfl | assumption) (by decide) rfl rfl rfl (Nat.le_of_ble_eq_true rfl) (c_M_daysGo a1 hI (by omega) (by omega)) (fun m_13 h_13 => ?_)
  have a4 := cp_a a2 h_13.2
  have a5 := a3.tr h_13.2.dr
  have hdi := days_inv hI n.toNat
  refine mw_aload_n dX7_tensionOn_16 rfl ?_
  refine mw_aload_n dX7_tensionOn_17 rfl ?_
  refine mw_iload_n dX7_tensionOn_18 rfl ?_
  refine mw_Vpi (ci := 7) dX7_tensionOn_19 ml_X7_123 ok_X7_tensionOf (by decide) (by first | rfl | assumption) (by decide) rfl rfl rfl (Nat.le_of_ble_eq_true rfl) (c_M_tensionOf h_13.1 hdi hs) ?_
  refine mw_Vi (ci := 7) dX7_tensionOn_22 ml_X7_186 ok_X7_putBack (by decide) (by first | rfl | assumption) (by decide) rfl rfl rfl (Nat.le_of_ble_eq_true rfl) (c_M_putBack a4) (fun z_22 m_22 h_22 => ?_)
  refine mw_iret dX7_tensionOn_25 rfl ?_
  exact ⟨_, rfl, h_22.1, h_22.2.1, a5.tr h_22.2.2⟩
set_option maxHeartbeats 4000000 in
set_option maxRecDepth 100000 in
theorem c_M_tension {G : mG} {μ : mMem} {st : aS} (hX : MR μ st) (hI : SI st) {s n : Int} (hs_ : -2147483648 ≤ s ∧ s ≤ 2147483647) (hn_ : -2147483648 ≤ n ∧ n ≤ 2147483647) : mM G yX7_tension cX7_tension 3 (some .int) 7 [.ref 56, .int (iV s), .int (iV n)] μ (qM μ (sp_tension st s n)) := by
  obtain ⟨hR, hK, hkp, htl, htb, hfd, hfs, hsh⟩ := id hX
  have hFI := hI.1
  have hn := hFI.2.1
  have h0 := hFI.1
  have h99 := hI.2.1
  refine mM.of (lv := [some (.ref 56), some (.int (iV s)), some (.int (iV n))]) 0 (by decide +kernel) (Nat.le_of_ble_eq_true rfl) rfl ?_
  intro X
  refine mw_iload_n dX7_tension_0 rfl ?_
  refine mw_Spi dX7_tension_1 ml_X7_91 ok_X7_isSide (by decide) rfl rfl (Nat.le_of_ble_eq_true rfl) (c_M_isSide (by omega)) ?_
  refine mw_if_eq (tgt := 23) dX7_tension_4 (by decide) (wi_bd _ _ _) (fun c_4 => ?_) (fun c_4 => ?_)
  · have d_4 := wi_0 c_4
    refine mw_aload_n dX7_tension_23 rfl ?_
    refine mw_ldc dX7_tension_24 ct_X7_71 ?_
    refine mw_Vi (ci := 7) dX7_tension_26 ml_X7_77 ok_X7_finding (by decide) (by first | rfl | assumption) (by decide) rfl rfl rfl (Nat.le_of_ble_eq_true rfl) (c_M_find hX hI 0 (by decide) (by decide)) (fun z_26 m_26 h_26 => ?_)
    refine mw_iret dX7_tension_29 rfl ?_
    refine ⟨_, rfl, ?_⟩
    unfold sp_tension
    rw [if_neg (by omega)]
    exact h_26
  · have d_4 := wi_1 c_4
    refine mw_iload_n dX7_tension_7 rfl ?_
    refine mw_Spi dX7_tension_8 ml_X7_183 ok_X7_isOn (by decide) rfl rfl (Nat.le_of_ble_eq_true rfl) (c_M_isOn (by omega)) ?_
    refine mw_if_eq (tgt := 23) dX7_tension_11 (by decide) (wi_bd _ _ _) (fun c_11 => ?_) (fun c_11 => ?_)
    · have d_11 := wi_0 c_11
      refine mw_aload_n dX7_tension_23 rfl ?_
      refine mw_ldc dX7_tension_24 ct_X7_71 ?_
      refine mw_Vi (ci := 7) dX7_tension_26 ml_X7_77 ok_X7_finding (by decide) (by first | rfl | assumption) (by decide) rfl rfl rfl (Nat.le_of_ble_eq_true rfl) (c_M_find hX hI 0 (by decide) (by decide)) (fun z_26 m_26 h_26 => ?_)
      refine mw_iret dX7_tension_29 rfl ?_
      refine ⟨_, rfl, ?_⟩
      unfold sp_tension
      rw [if_neg (by omega)]
      exact h_26
    · have d_11 := wi_1 c_11
      refine mw_aload_n dX7_tension_14 rfl ?_
      refine mw_iload_n dX7_tension_15 rfl ?_
      refine mw_iload_n dX7_tension_16 rfl ?_
      refine mw_Vi (ci := 7) dX7_tension_17 ml_X7_192 ok_X7_tensionOn (by decide) (by first | rfl | assumption) (by decide) rfl rfl rfl (Nat.le_of_ble_eq_true rfl) (c_M_tensionOn hR hFI (by omega) (by omega) (by omega)) (fun z_17 m_17 h_17 => ?_)
      refine mw_goto (tgt := 29) dX7_tension_20 (by decide) ?_
      refine mw_iret dX7_tension_29 rfl ?_
      refine ⟨_, rfl, ?_⟩
      unfold sp_tension
      rw [if_pos (by omega)]
      exact ⟨h_17.1, hX.same h_17.2.1 h_17.2.2, h_17.2.2.mf⟩

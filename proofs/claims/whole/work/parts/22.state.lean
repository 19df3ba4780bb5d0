/-! ===== the whole state: 0 the row, 1 the row that is kept, 2 (is kept, bytes of the tape), 3 the tape, 4 findings, 5 bits, 6 sizes of sheets; and their numbers ===== -/
abbrev aS : Type := (Nat → Int → Int) × (Int → Int64)
def sU (st : aS) (k : Nat) (g : Int → Int) : aS := (fun k' => if k' = k then g else st.1 k', st.2)
theorem sU_s (st : aS) (k : Nat) (g : Int → Int) : (sU st k g).1 k = g := by simp [sU]
theorem sU_o {st : aS} {k k' : Nat} {g : Int → Int} (h : k' ≠ k) : (sU st k g).1 k' = st.1 k' := by simp [sU, h]
def fd (st : aS) (v : Int) : aS := sU st 4 (fun j => if j = v then st.1 4 j + 1 else st.1 4 j)
def fnd (st : aS) (v : Int) : Int × aS := (-1000000001 - v, fd st v)
def XR (μ : mMem) (st : aS) : Prop := FUG μ 1 (st.1 0) ∧ FUG μ 15 (st.1 1) ∧ μ.1 0 2 = st.1 2 0 ∧ μ.1 43 1 = st.1 2 1 ∧ (∀ i : Int, 0 ≤ i → i < st.1 2 1 → μ.1 (43 + 1) i = st.1 3 i) ∧ (∀ j : Int, 0 ≤ j → j < 7 → μ.1 55 j = st.1 4 j) ∧ ∀ s : Int, 0 ≤ s → s < 4 → μ.1 (47 + 2 * s.toNat) 1 = st.1 5 s ∧ μ.1 (47 + 2 * s.toNat) 2 = st.1 6 s ∧ ∀ i : Int, 0 ≤ i → i < 40 → μ.2 (47 + 2 * s.toNat + 1) i = st.2 (40 * s + i)
def SI (st : aS) : Prop := fInv (st.1 0) ∧ st.1 0 0 ≤ 9999 ∧ fInv (st.1 1) ∧ st.1 1 0 ≤ 9999 ∧ (st.1 2 0 = 0 ∨ st.1 2 0 = 1) ∧ (0 ≤ st.1 2 1 ∧ st.1 2 1 ≤ 120) ∧ (∀ i : Int, 0 ≤ i → i < 120 → 0 ≤ st.1 3 i ∧ st.1 3 i < 256) ∧ ∀ s : Int, 0 ≤ s → s < 4 → (st.1 5 s = 0 ∨ st.1 5 s = 8 ∨ st.1 5 s = 16 ∨ st.1 5 s = 64) ∧ (0 ≤ st.1 6 s ∧ st.1 6 s ≤ 40) ∧ (st.1 5 s = 0 → st.1 6 s = 0)
/-- the reference's cells are as they were -/
def XF (μ m : mMem) : Prop := ∀ c : Nat, 56 ≤ c → m.1 c = μ.1 c ∧ m.2 c = μ.2 c
theorem XF.rf {μ : mMem} : XF μ μ := fun _ _ => ⟨rfl, rfl⟩
theorem XF.tr {μ m m2 : mMem} (h : XF μ m) (h2 : XF m m2) : XF μ m2 := fun c hc => ⟨(h2 c hc).1.trans (h c hc).1, (h2 c hc).2.trans (h c hc).2⟩
theorem FR.xf {b : Nat} {μ m : mMem} (hb : BK b) (h : FR b μ m) : XF μ m := fun c hc => ⟨h.1 c (by unfold BK at hb; omega), by rw [h.2]⟩
def qX (μ : mMem) (r : Int × aS) : Option Value → mMem → Prop := qI (fun z m => z = r.1 ∧ XR m r.2 ∧ XF μ m)
def qXl (μ : mMem) (r : Int64 × aS) : Option Value → mMem → Prop := qL (fun z m => z = r.1 ∧ XR m r.2 ∧ XF μ m)
theorem bk1 : BK 1 := Or.inl rfl
theorem bk15 : BK 15 := Or.inr (Or.inl rfl)
theorem bk29 : BK 29 := Or.inr (Or.inr rfl)
/-- the row alone has changed -/
theorem XR.row {μ m : mMem} {st : aS} {F : Int → Int} (h : XR μ st) (hI : SI st) (hF : FUG m 1 F) (hf : FR 1 μ m) : XR m (sU st 0 F) := by
  obtain ⟨h1, h2, h3, h4, h5, h6, h7⟩ := h
  have e : ∀ c : Nat, 15 ≤ c → m.1 c = μ.1 c := fun c hc => hf.1 c (by omega)
  refine ⟨hF, ?_, ?_, ?_, fun i q1 q2 => ?_, fun j q1 q2 => ?_, fun s q1 q2 => ?_⟩
  · rw [sU_o (by omega)]
    exact h2.keep hI.2.2.1.2.1.2 (fun c q1 q2 => e c q1)
  · rw [sU_o (by omega), hf.1 0 (by omega)]; exact h3
  · rw [sU_o (by omega), e _ (by omega)]; exact h4
  · rw [sU_o (by omega)] at q2 ⊢
    rw [e _ (by omega)]; exact h5 i q1 q2
  · rw [sU_o (by omega), e _ (by omega)]; exact h6 j q1 q2
  · rw [sU_o (by omega), sU_o (by omega), e _ (by omega), hf.2]; exact h7 s q1 q2
/-- the trial alone has changed -/
theorem XR.try {μ m : mMem} {st : aS} (h : XR μ st) (hI : SI st) (hf : FR 29 μ m) : XR m st := by
  obtain ⟨h1, h2, h3, h4, h5, h6, h7⟩ := h
  refine ⟨h1.keep hI.1.2.1.2 (fun c q1 q2 => hf.1 c (by omega)), h2.keep hI.2.2.1.2.1.2 (fun c q1 q2 => hf.1 c (by omega)), ?_, ?_, fun i q1 q2 => ?_, fun j q1 q2 => ?_, fun s q1 q2 => ?_⟩
  · rw [hf.1 0 (by omega)]; exact h3
  · rw [hf.1 43 (by omega)]; exact h4
  · rw [hf.1 _ (by omega)]; exact h5 i q1 q2
  · rw [hf.1 _ (by omega)]; exact h6 j q1 q2
  · rw [hf.1 _ (by omega), hf.2]; exact h7 s q1 q2
theorem XR.find {μ : mMem} {st : aS} (h : XR μ st) (hI : SI st) (v : Int) (hv : 0 ≤ v ∧ v < 7) : XR (u1 μ 55 v (μ.1 55 v + 1)) (fd st v) := by
  obtain ⟨h1, h2, h3, h4, h5, h6, h7⟩ := h
  have e : ∀ c : Nat, c ≠ 55 → (u1 μ 55 v (μ.1 55 v + 1)).1 c = μ.1 c := fun c hc => by funext j; rw [u1_o (by omega)]
  unfold fd
  refine ⟨?_, ?_, ?_, ?_, fun i q1 q2 => ?_, fun j q1 q2 => ?_, fun s q1 q2 => ?_⟩
  · rw [sU_o (by omega)]
    exact h1.keep hI.1.2.1.2 (fun c q1 q2 => e c (by omega))
  · rw [sU_o (by omega)]
    exact h2.keep hI.2.2.1.2.1.2 (fun c q1 q2 => e c (by omega))
  · rw [sU_o (by omega), e _ (by omega)]; exact h3
  · rw [sU_o (by omega), e _ (by omega)]; exact h4
  · rw [sU_o (by omega)] at q2 ⊢
    rw [e _ (by omega)]; exact h5 i q1 q2
  · rw [sU_s]
    by_cases hj : j = v
    · rw [if_pos hj, hj, u1_s, h6 v hv.1 hv.2]
    · rw [if_neg hj, u1_o (by omega)]
      exact h6 j q1 q2
  · rw [sU_o (by omega), sU_o (by omega), e _ (by omega)]; exact h7 s q1 q2
theorem xf_55 {μ : mMem} {v x : Int} : XF μ (u1 μ 55 v x) := fun c hc => ⟨by funext j; rw [u1_o (by omega)], rfl⟩
theorem fd_si {st : aS} (h : SI st) (v : Int) : SI (fd st v) := by
  unfold fd SI
  rw [sU_o (by omega), sU_o (by omega), sU_o (by omega), sU_o (by omega), sU_o (by omega), sU_o (by omega)]
  exact h
def wiI (v lo hi : Int) : Int := if lo ≤ v ∧ v ≤ hi then 1 else 0
theorem wi_0 {v lo hi : Int} (h : wiI v lo hi = 0) : ¬ (lo ≤ v ∧ v ≤ hi) := fun q => by
  unfold wiI at h
  rw [if_pos q] at h
  cases h
theorem wi_1 {v lo hi : Int} (h : ¬ wiI v lo hi = 0) : lo ≤ v ∧ v ≤ hi := Classical.byContradiction (fun q => h (by unfold wiI; rw [if_neg q]))
theorem wi_bd (v lo hi : Int) : -2147483648 ≤ wiI v lo hi ∧ wiI v lo hi ≤ 2147483647 := by unfold wiI; split <;> omega
theorem wi_zn (v lo hi : Int) : narrow .boolean (.int (iV (wiI v lo hi))) = .int (iV (wiI v lo hi)) := by unfold wiI; split <;> decide +kernel
theorem hasI_bd (n a : Int) : -2147483648 ≤ hasI n a ∧ hasI n a ≤ 2147483647 := by unfold hasI; split <;> omega
set_option maxHeartbeats 4000000 in
set_option maxRecDepth 100000 in
theorem c_X_within {G : mG} {μ : mMem} {v lo hi : Int} (hv : -2147483648 ≤ v ∧ v ≤ 2147483647) (hlo : -2147483648 ≤ lo ∧ lo ≤ 2147483647) (hhi : -2147483648 ≤ hi ∧ hi ≤ 2147483647) : mM G yX6_isWithin cX6_isWithin 3 (some .boolean) 0 [.int (iV v), .int (iV lo), .int (iV hi)] μ (pI (wiI v lo hi) μ) := by
  refine mM.of (lv := [some (.int (iV v)), some (.int (iV lo)), some (.int (iV hi))]) 0 (by decide +kernel) (Nat.le_of_ble_eq_true rfl) rfl ?_
  intro X
  refine mw_iload_n dX6_isWithin_0 rfl ?_
  refine mw_iload_n dX6_isWithin_1 rfl ?_
  refine mw_icmp_lt (tgt := 14) dX6_isWithin_2 (by decide) (by omega) (by omega) (fun c_2 => ?_) (fun c_2 => ?_)
  · refine mw_iconst dX6_isWithin_14 ?_
    refine mw_zret dX6_isWithin_15 rfl (by decide +kernel) ?_
    exact ⟨by unfold wiI; rw [if_neg (by omega)], rfl⟩
  · refine mw_iload_n dX6_isWithin_5 rfl ?_
    refine mw_iload_n dX6_isWithin_6 rfl ?_
    refine mw_icmp_gt (tgt := 14) dX6_isWithin_7 (by decide) (by omega) (by omega) (fun c_7 => ?_) (fun c_7 => ?_)
    · refine mw_iconst dX6_isWithin_14 ?_
      refine mw_zret dX6_isWithin_15 rfl (by decide +kernel) ?_
      exact ⟨by unfold wiI; rw [if_neg (by omega)], rfl⟩
    · refine mw_iconst dX6_isWithin_10 ?_
      refine mw_goto (tgt := 15) dX6_isWithin_11 (by decide) ?_
      refine mw_zret dX6_isWithin_15 rfl (by decide +kernel) ?_
      exact ⟨by unfold wiI; rw [if_pos (by omega)], rfl⟩
set_option maxHeartbeats 4000000 in
set_option maxRecDepth 100000 in
theorem c_M_within {G : mG} {μ : mMem} {v lo hi : Int} (hv : -2147483648 ≤ v ∧ v ≤ 2147483647) (hlo : -2147483648 ≤ lo ∧ lo ≤ 2147483647) (hhi : -2147483648 ≤ hi ∧ hi ≤ 2147483647) : mM G yX7_within cX7_within 3 (some .boolean) 0 [.int (iV v), .int (iV lo), .int (iV hi)] μ (pI (wiI v lo hi) μ) := by
  refine mM.of (lv := [some (.int (iV v)), some (.int (iV lo)), some (.int (iV hi))]) 0 (by decide +kernel) (Nat.le_of_ble_eq_true rfl) rfl ?_
  intro X
  refine mw_iload_n dX7_within_0 rfl ?_
  refine mw_iload_n dX7_within_1 rfl ?_
  refine mw_icmp_lt (tgt := 14) dX7_within_2 (by decide) (by omega) (by omega) (fun c_2 => ?_) (fun c_2 => ?_)
  · refine mw_iconst dX7_within_14 ?_
    refine mw_zret dX7_within_15 rfl (by decide +kernel) ?_
    exact ⟨by unfold wiI; rw [if_neg (by omega)], rfl⟩
  · refine mw_iload_n dX7_within_5 rfl ?_
    refine mw_iload_n dX7_within_6 rfl ?_
    refine mw_icmp_gt (tgt := 14) dX7_within_7 (by decide) (by omega) (by omega) (fun c_7 => ?_) (fun c_7 => ?_)
    · refine mw_iconst dX7_within_14 ?_
      refine mw_zret dX7_within_15 rfl (by decide +kernel) ?_
      exact ⟨by unfold wiI; rw [if_neg (by omega)], rfl⟩
    · refine mw_iconst dX7_within_10 ?_
      refine mw_goto (tgt := 15) dX7_within_11 (by decide) ?_
      refine mw_zret dX7_within_15 rfl (by decide +kernel) ?_
      exact ⟨by unfold wiI; rw [if_pos (by omega)], rfl⟩
set_option maxHeartbeats 4000000 in
set_option maxRecDepth 100000 in
theorem c_X_isSide {G : mG} {μ : mMem} {v : Int} (hv : -2147483648 ≤ v ∧ v ≤ 2147483647) : mM G yX6_isSide cX6_isSide 1 (some .boolean) 1 [.int (iV v)] μ (pI (wiI v 0 1) μ) := by
  refine mM.of (lv := [some (.int (iV v))]) 0 (by decide +kernel) (Nat.le_of_ble_eq_true rfl) rfl ?_
  intro X
  refine mw_iload_n dX6_isSide_0 rfl ?_
  refine mw_iconst dX6_isSide_1 ?_
  refine mw_iconst dX6_isSide_2 ?_
  refine mw_Spi dX6_isSide_3 ml_X6_57 ok_X6_isWithin (by decide) rfl rfl (Nat.le_of_ble_eq_true rfl) (c_X_within hv (by decide) (by decide)) ?_
  refine mw_zret dX6_isSide_6 rfl (wi_zn _ _ _) ?_
  exact ⟨rfl, rfl⟩
set_option maxHeartbeats 4000000 in
set_option maxRecDepth 100000 in
theorem c_X_isKind {G : mG} {μ : mMem} {v : Int} (hv : -2147483648 ≤ v ∧ v ≤ 2147483647) : mM G yX6_isKind cX6_isKind 1 (some .boolean) 1 [.int (iV v)] μ (pI (wiI v 0 5) μ) := by
  refine mM.of (lv := [some (.int (iV v))]) 0 (by decide +kernel) (Nat.le_of_ble_eq_true rfl) rfl ?_
  intro X
  refine mw_iload_n dX6_isKind_0 rfl ?_
  refine mw_iconst dX6_isKind_1 ?_
  refine mw_iconst dX6_isKind_2 ?_
  refine mw_Spi dX6_isKind_3 ml_X6_57 ok_X6_isWithin (by decide) rfl rfl (Nat.le_of_ble_eq_true rfl) (c_X_within hv (by decide) (by decide)) ?_
  refine mw_zret dX6_isKind_6 rfl (wi_zn _ _ _) ?_
  exact ⟨rfl, rfl⟩
set_option maxHeartbeats 4000000 in
set_option maxRecDepth 100000 in
theorem c_X_isSheet {G : mG} {μ : mMem} {v : Int} (hv : -2147483648 ≤ v ∧ v ≤ 2147483647) : mM G yX6_isSheet cX6_isSheet 1 (some .boolean) 1 [.int (iV v)] μ (pI (wiI v 0 3) μ) := by
  refine mM.of (lv := [some (.int (iV v))]) 0 (by decide +kernel) (Nat.le_of_ble_eq_true rfl) rfl ?_
  intro X
  refine mw_iload_n dX6_isSheet_0 rfl ?_
  refine mw_iconst dX6_isSheet_1 ?_
  refine mw_iconst dX6_isSheet_2 ?_
  refine mw_Spi dX6_isSheet_3 ml_X6_57 ok_X6_isWithin (by decide) rfl rfl (Nat.le_of_ble_eq_true rfl) (c_X_within hv (by decide) (by decide)) ?_
  refine mw_zret dX6_isSheet_6 rfl (wi_zn _ _ _) ?_
  exact ⟨rfl, rfl⟩
set_option maxHeartbeats 4000000 in
set_option maxRecDepth 100000 in
theorem c_M_isSide {G : mG} {μ : mMem} {v : Int} (hv : -2147483648 ≤ v ∧ v ≤ 2147483647) : mM G yX7_isSide cX7_isSide 1 (some .boolean) 1 [.int (iV v)] μ (pI (wiI v 0 1) μ) := by
  refine mM.of (lv := [some (.int (iV v))]) 0 (by decide +kernel) (Nat.le_of_ble_eq_true rfl) rfl ?_
  intro X
  refine mw_iload_n dX7_isSide_0 rfl ?_
  refine mw_iconst dX7_isSide_1 ?_
  refine mw_iconst dX7_isSide_2 ?_
  refine mw_Spi dX7_isSide_3 ml_X7_81 ok_X7_within (by decide) rfl rfl (Nat.le_of_ble_eq_true rfl) (c_M_within hv (by decide) (by decide)) ?_
  refine mw_zret dX7_isSide_6 rfl (wi_zn _ _ _) ?_
  exact ⟨rfl, rfl⟩
set_option maxHeartbeats 4000000 in
set_option maxRecDepth 100000 in
theorem c_M_isKind {G : mG} {μ : mMem} {v : Int} (hv : -2147483648 ≤ v ∧ v ≤ 2147483647) : mM G yX7_isKind cX7_isKind 1 (some .boolean) 1 [.int (iV v)] μ (pI (wiI v 0 5) μ) := by
  refine mM.of (lv := [some (.int (iV v))]) 0 (by decide +kernel) (Nat.le_of_ble_eq_true rfl) rfl ?_
  intro X
  refine mw_iload_n dX7_isKind_0 rfl ?_
  refine mw_iconst dX7_isKind_1 ?_
  refine mw_iconst dX7_isKind_2 ?_
  refine mw_Spi dX7_isKind_3 ml_X7_81 ok_X7_within (by decide) rfl rfl (Nat.le_of_ble_eq_true rfl) (c_M_within hv (by decide) (by decide)) ?_
  refine mw_zret dX7_isKind_6 rfl (wi_zn _ _ _) ?_
  exact ⟨rfl, rfl⟩
set_option maxHeartbeats 4000000 in
set_option maxRecDepth 100000 in
theorem c_M_isSheet {G : mG} {μ : mMem} {v : Int} (hv : -2147483648 ≤ v ∧ v ≤ 2147483647) : mM G yX7_isSheet cX7_isSheet 1 (some .boolean) 1 [.int (iV v)] μ (pI (wiI v 0 3) μ) := by
  refine mM.of (lv := [some (.int (iV v))]) 0 (by decide +kernel) (Nat.le_of_ble_eq_true rfl) rfl ?_
  intro X
  refine mw_iload_n dX7_isSheet_0 rfl ?_
  refine mw_iconst dX7_isSheet_1 ?_
  refine mw_iconst dX7_isSheet_2 ?_
  refine mw_Spi dX7_isSheet_3 ml_X7_81 ok_X7_within (by decide) rfl rfl (Nat.le_of_ble_eq_true rfl) (c_M_within hv (by decide) (by decide)) ?_
  refine mw_zret dX7_isSheet_6 rfl (wi_zn _ _ _) ?_
  exact ⟨rfl, rfl⟩
set_option maxHeartbeats 4000000 in
set_option maxRecDepth 100000 in
theorem c_M_isOn {G : mG} {μ : mMem} {v : Int} (hv : -2147483648 ≤ v ∧ v ≤ 2147483647) : mM G yX7_isOn cX7_isOn 1 (some .boolean) 1 [.int (iV v)] μ (pI (wiI v 0 60) μ) := by
  refine mM.of (lv := [some (.int (iV v))]) 0 (by decide +kernel) (Nat.le_of_ble_eq_true rfl) rfl ?_
  intro X
  refine mw_iload_n dX7_isOn_0 rfl ?_
  refine mw_iconst dX7_isOn_1 ?_
  refine mw_bipush dX7_isOn_2 (by decide +kernel) ?_
  refine mw_Spi dX7_isOn_4 ml_X7_81 ok_X7_within (by decide) rfl rfl (Nat.le_of_ble_eq_true rfl) (c_M_within hv (by decide) (by decide)) ?_
  refine mw_zret dX7_isOn_7 rfl (wi_zn _ _ _) ?_
  exact ⟨rfl, rfl⟩
set_option maxHeartbeats 4000000 in
set_option maxRecDepth 100000 in
theorem c_X_found {G : mG} {μ : mMem} {f v : Int} (hf : f = -1000000001 - v) (hv : 0 ≤ v ∧ v < 7) : mM G yX6_found cX6_found 3 (some .int) 1 [.ref 0, .int (iV f)] μ (pI f (u1 μ 55 v (μ.1 55 v + 1))) := by
  refine mM.of (lv := [some (.ref 0), some (.int (iV f)), none]) 1 (by decide +kernel) (Nat.le_of_ble_eq_true rfl) rfl ?_
  intro X
  refine mw_ldc dX6_found_0 ct_X6_61 ?_
  refine mw_iload_n dX6_found_2 rfl ?_
  refine mw_isub dX6_found_3 ?_
  rw [show (-1000000001 - f : Int) = v by omega]
  refine mw_is2 dX6_found_4 (by decide) rfl ?_
  refine mw_iload_n dX6_found_5 rfl ?_
  refine mw_iconst dX6_found_6 ?_
  refine mw_bipush dX6_found_7 (by decide +kernel) ?_
  refine mw_Spi dX6_found_9 ml_X6_57 ok_X6_isWithin (by decide) rfl rfl (Nat.le_of_ble_eq_true rfl) (c_X_within (by omega) (by decide) (by decide)) ?_
  refine mw_if_eq (tgt := 25) dX6_found_12 (by decide) (wi_bd _ _ _) (fun c_12 => ?_) (fun c_12 => ?_)
  · exact absurd (wi_0 c_12) (by omega)
  · refine mw_aload_n dX6_found_15 rfl ?_
    refine mw_gr_6_7 dX6_found_16 gs_X6_49 (by first | rfl | assumption) ?_
    refine mw_iload_n dX6_found_19 rfl ?_
    refine mw_dup2 dX6_found_20 rfl rfl ?_
    refine mw_iald 7 dX6_found_21 (by first | rfl | assumption) (by first | rfl | assumption) (by omega) ?_
    refine mw_iconst dX6_found_22 ?_
    refine mw_iadd dX6_found_23 ?_
    refine mw_iast 7 dX6_found_24 (by first | rfl | assumption) (by first | rfl | assumption) (by omega) ?_
    refine mw_iload_n dX6_found_25 rfl ?_
    refine mw_iret dX6_found_26 rfl ?_
    exact ⟨rfl, rfl⟩
theorem c_X_find {G : mG} {μ : mMem} {st : aS} (hX : XR μ st) (hI : SI st) {f : Int} (v : Int) (hf : f = -1000000001 - v) (hv : 0 ≤ v ∧ v < 7) : mM G yX6_found cX6_found 3 (some .int) 1 [.ref 0, .int (iV f)] μ (qX μ (fnd st v)) :=
  (c_X_found hf hv).mono (fun r m h => by obtain ⟨rfl, rfl⟩ := h; exact ⟨f, rfl, hf, hX.find hI v hv, xf_55⟩)
set_option maxHeartbeats 4000000 in
set_option maxRecDepth 100000 in
theorem c_X_startTrial {G : mG} {μ : mMem} {F : Int → Int} (hF : FUG μ 1 F) (hI : fInv F) : mM G yX6_startTrial cX6_startTrial 1 none 3 [.ref 0] μ (qV (fun m => FUG m 29 F ∧ FR 29 μ m)) := by
  refine mM.of (lv := [some (.ref 0)]) 0 (by decide +kernel) (Nat.le_of_ble_eq_true rfl) rfl ?_
  intro X
  refine mw_aload_n dX6_startTrial_0 rfl ?_
  refine mw_gr_6_3 dX6_startTrial_1 gs_X6_23 (by first | rfl | assumption) ?_
  refine mw_aload_n dX6_startTrial_4 rfl ?_
  refine mw_gr_6_0 dX6_startTrial_5 gs_X6_10 (by first | rfl | assumption) ?_
  refine mw_Vv (ci := 1) dX6_startTrial_8 ml_X6_214 ok_X1_become (by decide) (by first | rfl | assumption) (by decide) rfl rfl rfl (Nat.le_of_ble_eq_true rfl) (c_F_become bk29 bk1 (by decide) hF hI) (fun m_8 h_8 => ?_)
  refine mw_vret dX6_startTrial_11 rfl ?_
  exact ⟨rfl, h_8⟩
set_option maxHeartbeats 4000000 in
set_option maxRecDepth 100000 in
theorem c_X_mostToSet {G : mG} {μ : mMem} {v : Int} (hv : -2147483648 ≤ v ∧ v ≤ 2147483647) : mM G yX6_mostToSet cX6_mostToSet 1 (some .int) 0 [.int (iV v)] μ (pI (if v = 1 then 1 else if v = 2 then 11 else if v = 3 then 4095 else if v = 4 then 9999 else -1) μ) := by
  refine mM.of (lv := [some (.int (iV v))]) 0 (by decide +kernel) (Nat.le_of_ble_eq_true rfl) rfl ?_
  intro X
  refine mw_iload_n dX6_mostToSet_0 rfl ?_
  rcases (show v = 1 ∨ v = 2 ∨ v = 3 ∨ v = 4 ∨ (v < 1 ∨ 4 < v) by omega) with rfl | rfl | rfl | rfl | c_1
  · refine mw_tblIn (off := 31) (tgt := 32) dX6_mostToSet_1 (by decide) (by decide) (by decide) (by decide) (by decide) ?_
    refine mw_iconst dX6_mostToSet_32 ?_
    refine mw_iret dX6_mostToSet_33 rfl ?_
    exact ⟨rfl, rfl⟩
  · refine mw_tblIn (off := 33) (tgt := 34) dX6_mostToSet_1 (by decide) (by decide) (by decide) (by decide) (by decide) ?_
    refine mw_bipush dX6_mostToSet_34 (by decide +kernel) ?_
    refine mw_iret dX6_mostToSet_36 rfl ?_
    exact ⟨rfl, rfl⟩
  · refine mw_tblIn (off := 36) (tgt := 37) dX6_mostToSet_1 (by decide) (by decide) (by decide) (by decide) (by decide) ?_
    refine mw_sipush dX6_mostToSet_37 (by decide +kernel) ?_
    refine mw_iret dX6_mostToSet_40 rfl ?_
    exact ⟨rfl, rfl⟩
  · refine mw_tblIn (off := 40) (tgt := 41) dX6_mostToSet_1 (by decide) (by decide) (by decide) (by decide) (by decide) ?_
    refine mw_sipush dX6_mostToSet_41 (by decide +kernel) ?_
    refine mw_iret dX6_mostToSet_44 rfl ?_
    exact ⟨rfl, rfl⟩
  · refine mw_tblOut (tgt := 45) dX6_mostToSet_1 (by omega) c_1 (by decide) ?_
    refine mw_iconst dX6_mostToSet_45 ?_
    refine mw_iret dX6_mostToSet_46 rfl ?_
    exact ⟨by rw [if_neg (by omega), if_neg (by omega), if_neg (by omega), if_neg (by omega)], rfl⟩
set_option maxHeartbeats 4000000 in
set_option maxRecDepth 100000 in
theorem c_X_isBits {G : mG} {μ : mMem} {v : Int} (hv : -2147483648 ≤ v ∧ v ≤ 2147483647) : mM G yX6_isBits cX6_isBits 1 (some .boolean) 0 [.int (iV v)] μ (pI (if v = 0 ∨ v = 8 ∨ v = 16 ∨ v = 64 then 1 else 0) μ) := by
  refine mM.of (lv := [some (.int (iV v))]) 0 (by decide +kernel) (Nat.le_of_ble_eq_true rfl) rfl ?_
  intro X
  refine mw_iload_n dX6_isBits_0 rfl ?_
  refine mw_if_eq (tgt := 22) dX6_isBits_1 (by decide) (by omega) (fun c_1 => ?_) (fun c_1 => ?_)
  · refine mw_iconst dX6_isBits_22 ?_
    refine mw_goto (tgt := 27) dX6_isBits_23 (by decide) ?_
    refine mw_zret dX6_isBits_27 rfl (by decide +kernel) ?_
    exact ⟨by first | rw [if_pos (by omega)] | rw [if_neg (by omega)], rfl⟩
  · refine mw_iload_n dX6_isBits_4 rfl ?_
    refine mw_bipush dX6_isBits_5 (by decide +kernel) ?_
    refine mw_icmp_eq (tgt := 22) dX6_isBits_7 (by decide) (by omega) (by omega) (fun c_7 => ?_) (fun c_7 => ?_)
    · refine mw_iconst dX6_isBits_22 ?_
      refine mw_goto (tgt := 27) dX6_isBits_23 (by decide) ?_
      refine mw_zret dX6_isBits_27 rfl (by decide +kernel) ?_
      exact ⟨by first | rw [if_pos (by omega)] | rw [if_neg (by omega)], rfl⟩
    · refine mw_iload_n dX6_isBits_10 rfl ?_
      refine mw_bipush dX6_isBits_11 (by decide +kernel) ?_
      refine mw_icmp_eq (tgt := 22) dX6_isBits_13 (by decide) (by omega) (by omega) (fun c_13 => ?_) (fun c_13 => ?_)
      · refine mw_iconst dX6_isBits_22 ?_
        refine mw_goto (tgt := 27) dX6_isBits_23 (by decide) ?_
        refine mw_zret dX6_isBits_27 rfl (by decide +kernel) ?_
        exact ⟨by first | rw [if_pos (by omega)] | rw [if_neg (by omega)], rfl⟩
      · refine mw_iload_n dX6_isBits_16 rfl ?_
        refine mw_bipush dX6_isBits_17 (by decide +kernel) ?_
        refine mw_icmp_ne (tgt := 26) dX6_isBits_19 (by decide) (by omega) (by omega) (fun c_19 => ?_) (fun c_19 => ?_)
        · refine mw_iconst dX6_isBits_26 ?_
          refine mw_zret dX6_isBits_27 rfl (by decide +kernel) ?_
          exact ⟨by first | rw [if_pos (by omega)] | rw [if_neg (by omega)], rfl⟩
        · refine mw_iconst dX6_isBits_22 ?_
          refine mw_goto (tgt := 27) dX6_isBits_23 (by decide) ?_
          refine mw_zret dX6_isBits_27 rfl (by decide +kernel) ?_
          exact ⟨by first | rw [if_pos (by omega)] | rw [if_neg (by omega)], rfl⟩
theorem abv : Cond.fieldLink RX6 280 "FugueNotes" "ABOVE" "[I" ∈ mTb := mTb_in (List.mem_of_getElem? (i := 387) (by decide +kernel)) rfl
def aboveI (z : Int) : Int := if z = 0 then -1 else if z = 4 then 1 else if z = 5 then 2 else 0
theorem mw_above {X : mX} {cc : ByteArray} {nL : Nat} {rt : Option FieldType} {d : Nat} {G : mG} {Q : Option Value → mMem → Prop} {pc : Nat} {lv : List (Option Value)} {st : List Value} {μ : mMem} (hd : decode cc pc = .ok (.getstatic 280, 3)) (kk : mW X cc nL rt RX6 d G Q (pc + 3) lv (.ref 120 :: st) μ) : mW X cc nL rt RX6 d G Q pc lv st μ := by
  obtain ⟨p, e, R, s, m, args, below, meth, c⟩ := X
  intro hC H locs ls hP hS hl
  obtain ⟨hx, hb', hml, hrt, hown, hlocks, rfl, hts, hE⟩ := id hC
  exact va_gets hx hb' hE.2.2.1.2.2.1 hS hown (hts _ abv) (fun _ h9 => h9) hd (kk hC H locs ls hP hS hl)
theorem mw_aboveAt {X : mX} {cc : ByteArray} {nL : Nat} {rt : Option FieldType} {own : String} {d : Nat} {G : mG} {Q : Option Value → mMem → Prop} {pc : Nat} {lv : List (Option Value)} {st : List Value} {μ : mMem} {z : Int} (hd : decode cc pc = .ok (.iaload, 1)) (hz : 0 ≤ z ∧ z < 6) (kk : mW X cc nL rt own d G Q (pc + 1) lv (.int (iV (aboveI z)) :: st) μ) : mW X cc nL rt own d G Q pc lv (.int (iV z) :: .ref 120 :: st) μ := by
  obtain ⟨p, e, R, s, m, args, below, meth, c⟩ := X
  intro hC H locs ls hP hS hl
  obtain ⟨hx, hb', hml, hrt, hown, hlocks, rfl, hts, hE⟩ := id hC
  obtain ⟨scr, t1, t2, t3, t4, t5, t6, t7⟩ := hE.2.2.1.2.2.2.1.kept hS.2.1
  have hcl := iV_clamp (z := z) (by omega)
  have hv : scr.slots[(iV z).toNatClampNeg]? = some (.int (iV (aboveI z))) := by
    rw [hcl, t6 z.toNat (by omega)]
    have key : ∀ n : Nat, n < 6 → sAbove.getD n 0 = iV (aboveI (n : Int)) := by decide +kernel
    show some (Value.int (sAbove.getD z.toNat 0)) = _
    rw [key z.toNat (by omega), show ((z.toNat : Nat) : Int) = z by omega]
  refine W.iald hx hb' t1 t2 t3 ?_ hv rfl rfl hd (kk hC H locs ls hP hS hl)
  intro q
  rcases q with q | q
  · exact nlt0 ⟨hz.1, by omega⟩ q
  · rw [hcl] at q
    omega

def fltS (st : aS) (s : Int) : Int := if 0 ≤ s ∧ s ≤ 3 then (if st.1 5 s = 0 then -1000000006 else 0) else -1000000001
def flt2 (st : aS) (s d : Int) : Int := if fltS st s = 0 then (if 0 ≤ d ∧ d ≤ 1 then 0 else -1000000001) else fltS st s
theorem flt_c (st : aS) (s : Int) : fltS st s = 0 ∨ fltS st s = -1000000001 ∨ fltS st s = -1000000006 := by
  unfold fltS
  split
  · split <;> simp
  · simp
theorem flt2_c (st : aS) (s d : Int) : flt2 st s d = 0 ∨ flt2 st s d = -1000000001 ∨ flt2 st s d = -1000000006 := by
  have := flt_c st s
  unfold flt2
  split
  · split <;> simp
  · omega
theorem flt_0 {st : aS} {s : Int} (h : fltS st s = 0) : (0 ≤ s ∧ s < 4) ∧ ¬ st.1 5 s = 0 := by
  unfold fltS at h
  split at h
  · split at h
    · omega
    · exact ⟨by omega, by assumption⟩
  · omega
theorem flt2_0 {st : aS} {s d : Int} (h : flt2 st s d = 0) : fltS st s = 0 ∧ (0 ≤ d ∧ d ≤ 1) := by
  unfold flt2 at h
  split at h
  · split at h
    · exact ⟨by assumption, by assumption⟩
    · omega
  · exact absurd h (by assumption)
def fndL (st : aS) (v : Int) : Int64 × aS := ((iV (-1000000001 - v)).toInt64, fd st v)
def sp_sheet (st : aS) (s b n : Int) : Int × aS := if (0 ≤ s ∧ s ≤ 3) ∧ (b = 0 ∨ b = 8 ∨ b = 16 ∨ b = 64) then (if n < 0 then fnd st 6 else if 40 < n then fnd st 0 else (if b = 0 then 0 else n, ((sU (sU st 5 (upF (st.1 5) s b)) 6 (upF (st.1 6) s (if b = 0 then 0 else n))).1, fun j => if 40 * s ≤ j ∧ j < 40 * s + 40 then 0 else st.2 j))) else fnd st 0
def upN (N : Int → Int64) (j : Int) (v : Int64) : Int → Int64 := fun i => if i = j then v else N i
def sp_write (st : aS) (s i : Int) (x : Int64) : Int64 × aS := if fltS st s = 0 then (if 0 ≤ i ∧ i ≤ st.1 6 s - 1 then (st.2 (40 * s + i), (st.1, upN st.2 (40 * s + i) (cutL x (st.1 5 s)))) else fndL st 0) else fndL st (-1000000001 - fltS st s)
def sp_copy (st : aS) (s a t b n : Int) : Int × aS := if (0 ≤ s ∧ s ≤ 3) ∧ (0 ≤ t ∧ t ≤ 3) then (if st.1 5 s = 0 ∨ st.1 5 t = 0 then fnd st 5 else if st.1 5 s = st.1 5 t then (if (0 ≤ a ∧ 0 ≤ n ∧ n ≤ st.1 6 s ∧ a ≤ st.1 6 s - n) ∧ (0 ≤ b ∧ 0 ≤ n ∧ n ≤ st.1 6 t ∧ b ≤ st.1 6 t - n) then (n, (st.1, fun j => if 40 * t + b ≤ j ∧ j < 40 * t + b + n then st.2 (40 * s + a + (j - (40 * t + b))) else st.2 j)) else fnd st 0) else fnd st 2) else fnd st 0
def lyN (N : Int → Int64) (size : Int) : Nat → Int → Int
  | 0, i => i
  | k + 1, i => if i < size ∧ 0 ≤ N i ∧ N i < 12 then lyN N size k (i + 1) else i
theorem lyN_r (N : Int → Int64) (size : Int) : ∀ (k : Nat) (i : Int), i ≤ lyN N size k i ∧ lyN N size k i ≤ i + k ∧ ∀ j : Int, i ≤ j → j < lyN N size k i → 0 ≤ N j ∧ N j < 12
  | 0, i => ⟨Int.le_refl _, by rw [lyN]; omega, fun j h1 h2 => by rw [lyN] at h2; omega⟩
  | k + 1, i => by
    rw [lyN]
    split
    · obtain ⟨h1, h2, h3⟩ := lyN_r N size k (i + 1)
      refine ⟨by omega, by omega, fun j q1 q2 => ?_⟩
      by_cases e : j = i
      · rw [e]; exact (by assumption : i < size ∧ 0 ≤ N i ∧ N i < 12).2
      · exact h3 j (by omega) q2
    · exact ⟨Int.le_refl _, by omega, fun j q1 q2 => by omega⟩
theorem lo12 {x : Int64} (h0 : 0 ≤ x) (h1 : x < 12) : 0 ≤ x.toInt32.toInt ∧ x.toInt32.toInt < 12 := by
  obtain ⟨k, hk, rfl⟩ := pk_lOf (x := x) (Int64.not_lt.mpr h0)
  have h2 : k < 12 := (pk_lLT hk (by omega)).mp (show lN k < lN 12 from h1)
  rw [lN_i, nI_toInt (by omega)]
  omega
def numT (st : aS) (s : Int) : Int → Int64 := fun i => st.2 (40 * s + i)
def sp_lays (st : aS) (s d : Int) : Int × aS := if flt2 st s d = 0 then (lyN (numT st s) (st.1 6 s) 12 0, sU st 0 (setT (st.1 0) d (lyN (numT st s) (st.1 6 s) 12 0) (fun i => (numT st s i).toInt32.toInt))) else fnd st (-1000000001 - flt2 st s d)
def bkN (st : aS) (s d n : Int) : Int → Int64 := fun j => if 40 * s ≤ j ∧ j < 40 * s + n then (iV (TN (daysF (j - 40 * s).toNat (st.1 0)) d)).toInt64 else st.2 j
def sp_book (st : aS) (s d : Int) : Int × aS := if flt2 st s d = 0 then (st.1 6 s, (st.1, bkN st s d (st.1 6 s))) else fnd st (-1000000001 - flt2 st s d)
def jwU (N : Int → Int64) (A : Int → Int) : Nat → Int → Int
  | 0, _ => 1
  | k + 1, i => if N i = (iV (A i)).toInt64 then jwU N A k (i + 1) else 0
theorem jw_c (N : Int → Int64) (A : Int → Int) : ∀ (k : Nat) (i : Int), jwU N A k i = 0 ∨ jwU N A k i = 1
  | 0, _ => Or.inr rfl
  | k + 1, i => by
    rw [jwU]
    split
    · exact jw_c N A k (i + 1)
    · exact Or.inl rfl
theorem jw_congr {N M : Int → Int64} {A B : Int → Int} : ∀ (k : Nat) (i : Int), (∀ j : Int, i ≤ j → j < i + k → N j = M j ∧ A j = B j) → jwU N A k i = jwU M B k i
  | 0, _, _ => rfl
  | k + 1, i, h => by
    obtain ⟨e1, e2⟩ := h i (by omega) (by omega)
    rw [jwU, jwU, e1, e2, jw_congr k (i + 1) (fun j q1 q2 => h j (by omega) (by omega))]
def jwP (st : aS) (s blots d kind key : Int) : Int := if st.1 6 s = lng kind (st.1 0 (2 + d)) then jwU (numT st s) (ansI kind key blots (st.1 0 (2 + d)) (tn (st.1 0) d)) (st.1 6 s).toNat 0 else 0
theorem jwP_c (st : aS) (s blots d kind key : Int) : jwP st s blots d kind key = 0 ∨ jwP st s blots d kind key = 1 := by
  unfold jwP
  split
  · exact jw_c _ _ _ _
  · simp
def rdK (J : Int → Int → Int) : Nat → Int → Int → Int
  | 0, _, c => c
  | n + 1, q, c => rdK J n (q + 1) (kys (J q) 12 0 c)
def sp_read (st : aS) (s a : Int) : Int × aS := if fltS st s = 0 then (if 0 ≤ a ∧ a < st.1 0 1 then (rdK (jwP st s (st.1 0 (28 + 5 * a + 3)) (1 - st.1 0 (28 + 5 * a + 1))) 6 0 0, st) else fnd st 0) else fnd st (-1000000001 - fltS st s)
theorem sk_at {s : Int} (h : 0 ≤ s ∧ s < 4) : mCls (47 + 2 * s.toNat) = 3 ∧ mCls (47 + 2 * s.toNat + 1) = 9 ∧ mLen (47 + 2 * s.toNat + 1) = 40 := by
  have key : ∀ n : Nat, n < 4 → mCls (47 + 2 * n) = 3 ∧ mCls (47 + 2 * n + 1) = 9 ∧ mLen (47 + 2 * n + 1) = 40 := by decide
  exact key s.toNat (by omega)
theorem XR.num {μ m : mMem} {st : aS} {N : Int → Int64} (h : XR μ st) (hI : SI st) (m1 : ∀ c : Nat, c < 29 ∨ 43 ≤ c → m.1 c = μ.1 c) (m5 : ∀ s i : Int, 0 ≤ s → s < 4 → 0 ≤ i → i < 40 → m.2 (47 + 2 * s.toNat + 1) i = N (40 * s + i)) : XR m (st.1, N) := by
  obtain ⟨h1, h2, h3, h4, h5, h6, h7⟩ := h
  refine ⟨h1.keep hI.1.2.1.2 (fun c q1 q2 => m1 c (by omega)), h2.keep hI.2.2.1.2.1.2 (fun c q1 q2 => m1 c (by omega)), ?_, ?_, fun i q1 q2 => ?_, fun j q1 q2 => ?_, fun s q1 q2 => ?_⟩
  · rw [m1 _ (by omega)]; exact h3
  · rw [m1 _ (by omega)]; exact h4
  · rw [m1 _ (by omega)]; exact h5 i q1 q2
  · rw [m1 _ (by omega)]; exact h6 j q1 q2
  · rw [m1 _ (by omega)]; exact ⟨(h7 s q1 q2).1, (h7 s q1 q2).2.1, fun i q3 q4 => m5 s i q1 q2 q3 q4⟩
theorem XR.sheet {μ m : mMem} {st : aS} {N : Int → Int64} (h : XR μ st) (hI : SI st) {s b n : Int} (hs : 0 ≤ s ∧ s < 4) (m1 : ∀ c : Nat, c ≠ 47 + 2 * s.toNat → m.1 c = μ.1 c) (m3 : m.1 (47 + 2 * s.toNat) 1 = b) (m4 : m.1 (47 + 2 * s.toNat) 2 = n) (m5 : ∀ s i : Int, 0 ≤ s → s < 4 → 0 ≤ i → i < 40 → m.2 (47 + 2 * s.toNat + 1) i = N (40 * s + i)) : XR m ((sU (sU st 5 (upF (st.1 5) s b)) 6 (upF (st.1 6) s n)).1, N) := by
  obtain ⟨h1, h2, h3, h4, h5, h6, h7⟩ := h
  refine ⟨?_, ?_, ?_, ?_, fun i q1 q2 => ?_, fun j q1 q2 => ?_, fun s' q1 q2 => ⟨?_, ?_, fun i q3 q4 => m5 s' i q1 q2 q3 q4⟩⟩
  · show FUG m 1 ((sU (sU st 5 (upF (st.1 5) s b)) 6 (upF (st.1 6) s n)).1 0)
    rw [sU_o (by omega), sU_o (by omega)]
    exact h1.keep hI.1.2.1.2 (fun c q1 q2 => m1 c (by omega))
  · show FUG m 15 ((sU (sU st 5 (upF (st.1 5) s b)) 6 (upF (st.1 6) s n)).1 1)
    rw [sU_o (by omega), sU_o (by omega)]
    exact h2.keep hI.2.2.1.2.1.2 (fun c q1 q2 => m1 c (by omega))
  · show _ = (sU (sU st 5 (upF (st.1 5) s b)) 6 (upF (st.1 6) s n)).1 2 0
    rw [sU_o (by omega), sU_o (by omega), m1 _ (by omega)]; exact h3
  · show _ = (sU (sU st 5 (upF (st.1 5) s b)) 6 (upF (st.1 6) s n)).1 2 1
    rw [sU_o (by omega), sU_o (by omega), m1 _ (by omega)]; exact h4
  · show _ = (sU (sU st 5 (upF (st.1 5) s b)) 6 (upF (st.1 6) s n)).1 3 i
    replace q2 : i < (sU (sU st 5 (upF (st.1 5) s b)) 6 (upF (st.1 6) s n)).1 2 1 := q2
    rw [sU_o (by omega), sU_o (by omega)] at q2
    rw [sU_o (by omega), sU_o (by omega), m1 _ (by omega)]; exact h5 i q1 q2
  · show _ = (sU (sU st 5 (upF (st.1 5) s b)) 6 (upF (st.1 6) s n)).1 4 j
    rw [sU_o (by omega), sU_o (by omega), m1 _ (by omega)]; exact h6 j q1 q2
  · show _ = (sU (sU st 5 (upF (st.1 5) s b)) 6 (upF (st.1 6) s n)).1 5 s'
    rw [sU_o (by omega), sU_s]
    by_cases e : s' = s
    · rw [e, upF_s]; exact m3
    · rw [upF_o e, m1 _ (by omega)]; exact (h7 s' q1 q2).1
  · show _ = (sU (sU st 5 (upF (st.1 5) s b)) 6 (upF (st.1 6) s n)).1 6 s'
    rw [sU_s]
    by_cases e : s' = s
    · rw [e, upF_s]; exact m4
    · rw [upF_o e, m1 _ (by omega)]; exact (h7 s' q1 q2).2.1
theorem cut_tab : ∀ n : Nat, n < 13 → (iV (iV (iV (n : Int)).toInt64.toInt32.toInt).toInt8.toInt32.toInt).toInt64 = (iV (n : Int)).toInt64 ∧ (iV (iV (iV (n : Int)).toInt64.toInt32.toInt).toInt16.toInt32.toInt).toInt64 = (iV (n : Int)).toInt64 := by decide +kernel
theorem cut_sm {z b : Int} (h : 0 ≤ z ∧ z ≤ 12) : cutL (iV z).toInt64 b = (iV z).toInt64 := by
  have := cut_tab z.toNat (by omega)
  rw [show ((z.toNat : Nat) : Int) = z by omega] at this
  unfold cutL
  split
  · exact this.1
  · split
    · exact this.2
    · rfl
set_option maxHeartbeats 4000000 in
set_option maxRecDepth 100000 in
theorem c_X_fault {G : mG} {μ : mMem} {st : aS} (hX : XR μ st) (hI : SI st) {s : Int} (hs_ : -2147483648 ≤ s ∧ s ≤ 2147483647) : mM G yX6_faultOfSheet cX6_faultOfSheet 2 (some .int) 2 [.ref 0, .int (iV s)] μ (pI (fltS st s) μ) := by
  obtain ⟨hF, hK, hkp, htl, htb, hfd, hsh⟩ := id hX
  have hFI := hI.1
  have ec := hF.1
  have hn := hFI.2.1
  have ed := hF.2.1
  have h0 := hFI.1
  have h99 := hI.2.1
  refine mM.of (lv := [some (.ref 0), some (.int (iV s))]) 0 (by decide +kernel) (Nat.le_of_ble_eq_true rfl) rfl ?_
  intro X
  refine mw_iload_n dX6_faultOfSheet_0 rfl ?_
  refine mw_Spi dX6_faultOfSheet_1 ml_X6_218 ok_X6_isSheet (by decide) rfl rfl (Nat.le_of_ble_eq_true rfl) (c_X_isSheet (by omega)) ?_
  refine mw_if_ne (tgt := 10) dX6_faultOfSheet_4 (by decide) (wi_bd _ _ _) (fun c_4 => ?_) (fun c_4 => ?_)
  · have d_4 := wi_1 c_4
    have esh := hsh s (by omega) (by omega)
    have sk := sk_at (s := s) (by omega)
    have hsz := (hI.2.2.2.2.2.2.2 s (by omega) (by omega))
    refine mw_aload_n dX6_faultOfSheet_10 rfl ?_
    refine mw_gr_6_6 dX6_faultOfSheet_11 gs_X6_44 (by first | rfl | assumption) ?_
    refine mw_iload_n dX6_faultOfSheet_14 rfl ?_
    refine mw_aa11 dX6_faultOfSheet_15 (by first | rfl | assumption) (by first | rfl | assumption) (by omega) ?_
    refine mw_Vpi (ci := 3) dX6_faultOfSheet_16 ml_X6_243 ok_X3_isMissing (by decide) sk.1 (by decide) rfl rfl rfl (Nat.le_of_ble_eq_true rfl) (c_S_missing sk.1 (by rw [esh.1]; omega)) ?_
    rw [esh.1]
    refine mw_if_eq (tgt := 27) dX6_faultOfSheet_19 (by decide) (by unfold misI; split <;> omega) (fun c_19 => ?_) (fun c_19 => ?_)
    · refine mw_iconst dX6_faultOfSheet_27 ?_
      refine mw_iret dX6_faultOfSheet_28 rfl ?_
      exact ⟨by unfold fltS; rw [if_pos (by omega), if_neg (fun q => by unfold misI at c_19; rw [if_pos q] at c_19; omega)], rfl⟩
    · refine mw_ldc dX6_faultOfSheet_22 ct_X6_246 ?_
      refine mw_goto (tgt := 28) dX6_faultOfSheet_24 (by decide) ?_
      refine mw_iret dX6_faultOfSheet_28 rfl ?_
      exact ⟨by unfold fltS; rw [if_pos (by omega), if_pos (Classical.byContradiction (fun q => c_19 (by unfold misI; rw [if_neg q])))], rfl⟩
  · have d_4 := wi_0 c_4
    refine mw_ldc dX6_faultOfSheet_7 ct_X6_61 ?_
    refine mw_iret dX6_faultOfSheet_9 rfl ?_
    exact ⟨by unfold fltS; rw [if_neg (by omega)], rfl⟩
set_option maxHeartbeats 4000000 in
set_option maxRecDepth 100000 in
theorem c_X_fault2 {G : mG} {μ : mMem} {st : aS} (hX : XR μ st) (hI : SI st) {s d : Int} (hs_ : -2147483648 ≤ s ∧ s ≤ 2147483647) (hd_ : -2147483648 ≤ d ∧ d ≤ 2147483647) : mM G yX6_faultOfSheetAndSide cX6_faultOfSheetAndSide 4 (some .int) 3 [.ref 0, .int (iV s), .int (iV d)] μ (pI (flt2 st s d) μ) := by
  have hc := flt_c st s
  refine mM.of (lv := [some (.ref 0), some (.int (iV s)), some (.int (iV d)), none]) 1 (by decide +kernel) (Nat.le_of_ble_eq_true rfl) rfl ?_
  intro X
  refine mw_aload_n dX6_faultOfSheetAndSide_0 rfl ?_
  refine mw_iload_n dX6_faultOfSheetAndSide_1 rfl ?_
  refine mw_Vpi (ci := 6) dX6_faultOfSheetAndSide_2 ml_X6_229 ok_X6_faultOfSheet (by decide) (by first | rfl | assumption) (by decide) rfl rfl rfl (Nat.le_of_ble_eq_true rfl) (c_X_fault hX hI (by omega)) ?_
  refine mw_is3 dX6_faultOfSheetAndSide_5 (by decide) rfl ?_
  refine mw_iload_n dX6_faultOfSheetAndSide_6 rfl ?_
  refine mw_if_eq (tgt := 12) dX6_faultOfSheetAndSide_7 (by decide) (by omega) (fun c_7 => ?_) (fun c_7 => ?_)
  · refine mw_iload_n dX6_faultOfSheetAndSide_12 rfl ?_
    refine mw_Spi dX6_faultOfSheetAndSide_13 ml_X6_53 ok_X6_isSide (by decide) rfl rfl (Nat.le_of_ble_eq_true rfl) (c_X_isSide (by omega)) ?_
    refine mw_if_eq (tgt := 23) dX6_faultOfSheetAndSide_16 (by decide) (wi_bd _ _ _) (fun c_16 => ?_) (fun c_16 => ?_)
    · have d_16 := wi_0 c_16
      refine mw_ldc dX6_faultOfSheetAndSide_23 ct_X6_61 ?_
      refine mw_iret dX6_faultOfSheetAndSide_25 rfl ?_
      exact ⟨by unfold flt2; rw [if_pos c_7, if_neg (by omega)], rfl⟩
    · have d_16 := wi_1 c_16
      refine mw_iconst dX6_faultOfSheetAndSide_19 ?_
      refine mw_goto (tgt := 25) dX6_faultOfSheetAndSide_20 (by decide) ?_
      refine mw_iret dX6_faultOfSheetAndSide_25 rfl ?_
      exact ⟨by unfold flt2; rw [if_pos c_7, if_pos (by omega)], rfl⟩
  · refine mw_iload_n dX6_faultOfSheetAndSide_10 rfl ?_
    refine mw_iret dX6_faultOfSheetAndSide_11 rfl ?_
    exact ⟨by unfold flt2; rw [if_neg c_7], rfl⟩
set_option maxHeartbeats 4000000 in
set_option maxRecDepth 100000 in
theorem c_X_sheet {G : mG} {μ : mMem} {st : aS} (hX : XR μ st) (hI : SI st) {s b n : Int} (hs_ : -2147483648 ≤ s ∧ s ≤ 2147483647) (hb_ : -2147483648 ≤ b ∧ b ≤ 2147483647) (hn_ : -2147483648 ≤ n ∧ n ≤ 2147483647) : mM G yX6_sheet cX6_sheet 5 (some .int) 2 [.ref 0, .int (iV s), .int (iV b), .int (iV n)] μ (qX μ (sp_sheet st s b n)) := by
  obtain ⟨hF, hK, hkp, htl, htb, hfd, hsh⟩ := id hX
  have hFI := hI.1
  have ec := hF.1
  have hn := hFI.2.1
  have ed := hF.2.1
  have h0 := hFI.1
  have h99 := hI.2.1
  refine mM.of (lv := [some (.ref 0), some (.int (iV s)), some (.int (iV b)), some (.int (iV n)), none]) 1 (by decide +kernel) (Nat.le_of_ble_eq_true rfl) rfl ?_
  intro X
  refine mw_iload_n dX6_sheet_0 rfl ?_
  refine mw_Spi dX6_sheet_1 ml_X6_218 ok_X6_isSheet (by decide) rfl rfl (Nat.le_of_ble_eq_true rfl) (c_X_isSheet (by omega)) ?_
  refine mw_if_eq (tgt := 14) dX6_sheet_4 (by decide) (wi_bd _ _ _) (fun c_4 => ?_) (fun c_4 => ?_)
  · have d_4 := wi_0 c_4
    refine mw_aload_n dX6_sheet_14 rfl ?_
    refine mw_ldc dX6_sheet_15 ct_X6_61 ?_
    refine mw_Vi (ci := 6) dX6_sheet_17 ml_X6_62 ok_X6_found (by decide) (by first | rfl | assumption) (by decide) rfl rfl rfl (Nat.le_of_ble_eq_true rfl) (c_X_find hX hI 0 (by decide) (by decide)) (fun z_17 m_17 h_17 => ?_)
    refine mw_iret dX6_sheet_20 rfl ?_
    refine ⟨_, rfl, ?_⟩
    unfold sp_sheet
    rw [if_neg (fun q => by omega)]
    exact h_17
  · have d_4 := wi_1 c_4
    refine mw_iload_n dX6_sheet_7 rfl ?_
    refine mw_Spi dX6_sheet_8 ml_X6_221 ok_X6_isBits (by decide) rfl rfl (Nat.le_of_ble_eq_true rfl) (c_X_isBits (by omega)) ?_
    refine mw_if_ne (tgt := 21) dX6_sheet_11 (by decide) (by split <;> omega) (fun c_11 => ?_) (fun c_11 => ?_)
    · have hbs : b = 0 ∨ b = 8 ∨ b = 16 ∨ b = 64 := Classical.byContradiction (fun q => c_11 (by rw [if_neg q]))
      have esh := hsh s (by omega) (by omega)
      have sk := sk_at (s := s) (by omega)
      have hsz := (hI.2.2.2.2.2.2.2 s (by omega) (by omega))
      refine mw_iload_n dX6_sheet_21 rfl ?_
      refine mw_if_ge (tgt := 32) dX6_sheet_22 (by decide) (by omega) (fun c_22 => ?_) (fun c_22 => ?_)
      · refine mw_iload_n dX6_sheet_32 rfl ?_
        refine mw_bipush dX6_sheet_33 (by decide +kernel) ?_
        refine mw_icmp_le (tgt := 45) dX6_sheet_35 (by decide) (by omega) (by omega) (fun c_35 => ?_) (fun c_35 => ?_)
        · refine mw_iload_n dX6_sheet_45 rfl ?_
          refine mw_if_ne (tgt := 53) dX6_sheet_46 (by decide) (by omega) (fun c_46 => ?_) (fun c_46 => ?_)
          · refine mw_iload_n dX6_sheet_53 rfl ?_
            refine mw_is4 dX6_sheet_54 (by decide) rfl ?_
            refine mw_aload_n dX6_sheet_56 rfl ?_
            refine mw_gr_6_6 dX6_sheet_57 gs_X6_44 (by first | rfl | assumption) ?_
            refine mw_iload_n dX6_sheet_60 rfl ?_
            refine mw_aa11 dX6_sheet_61 (by first | rfl | assumption) (by first | rfl | assumption) (by omega) ?_
            refine mw_iload_n dX6_sheet_62 rfl ?_
            refine mw_iload dX6_sheet_63 rfl ?_
            refine mw_Vv (ci := 3) dX6_sheet_65 ml_X6_225 ok_X3_begin (by decide) sk.1 (by decide) rfl rfl rfl (Nat.le_of_ble_eq_true rfl) (c_S_begin sk.1 sk.2.1 sk.2.2) (fun m_65 h_65 => ?_)
            refine mw_iload dX6_sheet_68 rfl ?_
            refine mw_iret dX6_sheet_70 rfl ?_
            obtain ⟨g1, g2, g3, g4, g5⟩ := h_65
            refine ⟨_, rfl, ?_⟩
            unfold sp_sheet
            rw [if_pos ⟨by omega, hbs⟩, if_neg (by omega), if_neg (by omega)]
            first
            | rw [if_pos c_46]
            | rw [if_neg c_46]
            refine ⟨rfl, hX.sheet hI (s := s) (by omega) g1 g2 g3 (fun s' i q1 q2 q3 q4 => ?_), fun c hc => ⟨g1 c (by omega), g4 c (by omega)⟩⟩
            by_cases e : s' = s
            · rw [e, if_pos (by omega)]
              exact g5 i q3 q4
            · rw [if_neg (by omega), g4 _ (by omega)]
              exact (hsh s' q1 q2).2.2 i q3 q4
          · refine mw_iconst dX6_sheet_49 ?_
            refine mw_goto (tgt := 54) dX6_sheet_50 (by decide) ?_
            refine mw_is4 dX6_sheet_54 (by decide) rfl ?_
            refine mw_aload_n dX6_sheet_56 rfl ?_
            refine mw_gr_6_6 dX6_sheet_57 gs_X6_44 (by first | rfl | assumption) ?_
            refine mw_iload_n dX6_sheet_60 rfl ?_
            refine mw_aa11 dX6_sheet_61 (by first | rfl | assumption) (by first | rfl | assumption) (by omega) ?_
            refine mw_iload_n dX6_sheet_62 rfl ?_
            refine mw_iload dX6_sheet_63 rfl ?_
            refine mw_Vv (ci := 3) dX6_sheet_65 ml_X6_225 ok_X3_begin (by decide) sk.1 (by decide) rfl rfl rfl (Nat.le_of_ble_eq_true rfl) (c_S_begin sk.1 sk.2.1 sk.2.2) (fun m_65 h_65 => ?_)
            refine mw_iload dX6_sheet_68 rfl ?_
            refine mw_iret dX6_sheet_70 rfl ?_
            obtain ⟨g1, g2, g3, g4, g5⟩ := h_65
            refine ⟨_, rfl, ?_⟩
            unfold sp_sheet
            rw [if_pos ⟨by omega, hbs⟩, if_neg (by omega), if_neg (by omega)]
            first
            | rw [if_pos c_46]
            | rw [if_neg c_46]
            refine ⟨rfl, hX.sheet hI (s := s) (by omega) g1 g2 g3 (fun s' i q1 q2 q3 q4 => ?_), fun c hc => ⟨g1 c (by omega), g4 c (by omega)⟩⟩
            by_cases e : s' = s
            · rw [e, if_pos (by omega)]
              exact g5 i q3 q4
            · rw [if_neg (by omega), g4 _ (by omega)]
              exact (hsh s' q1 q2).2.2 i q3 q4
        · refine mw_aload_n dX6_sheet_38 rfl ?_
          refine mw_ldc dX6_sheet_39 ct_X6_61 ?_
          refine mw_Vi (ci := 6) dX6_sheet_41 ml_X6_62 ok_X6_found (by decide) (by first | rfl | assumption) (by decide) rfl rfl rfl (Nat.le_of_ble_eq_true rfl) (c_X_find hX hI 0 (by decide) (by decide)) (fun z_41 m_41 h_41 => ?_)
          refine mw_iret dX6_sheet_44 rfl ?_
          refine ⟨_, rfl, ?_⟩
          unfold sp_sheet
          rw [if_pos ⟨by omega, hbs⟩, if_neg (by omega), if_pos (by omega)]
          exact h_41
      · refine mw_aload_n dX6_sheet_25 rfl ?_
        refine mw_ldc dX6_sheet_26 ct_X6_224 ?_
        refine mw_Vi (ci := 6) dX6_sheet_28 ml_X6_62 ok_X6_found (by decide) (by first | rfl | assumption) (by decide) rfl rfl rfl (Nat.le_of_ble_eq_true rfl) (c_X_find hX hI 6 (by decide) (by decide)) (fun z_28 m_28 h_28 => ?_)
        refine mw_iret dX6_sheet_31 rfl ?_
        refine ⟨_, rfl, ?_⟩
        unfold sp_sheet
        rw [if_pos ⟨by omega, hbs⟩, if_pos (by omega)]
        exact h_28
    · have hbs : ¬ (b = 0 ∨ b = 8 ∨ b = 16 ∨ b = 64) := fun q => by rw [if_pos q] at c_11; cases c_11
      refine mw_aload_n dX6_sheet_14 rfl ?_
      refine mw_ldc dX6_sheet_15 ct_X6_61 ?_
      refine mw_Vi (ci := 6) dX6_sheet_17 ml_X6_62 ok_X6_found (by decide) (by first | rfl | assumption) (by decide) rfl rfl rfl (Nat.le_of_ble_eq_true rfl) (c_X_find hX hI 0 (by decide) (by decide)) (fun z_17 m_17 h_17 => ?_)
      refine mw_iret dX6_sheet_20 rfl ?_
      refine ⟨_, rfl, ?_⟩
      unfold sp_sheet
      rw [if_neg (fun q => hbs q.2)]
      exact h_17
set_option maxHeartbeats 4000000 in
set_option maxRecDepth 100000 in
theorem c_X_write {G : mG} {μ : mMem} {st : aS} (hX : XR μ st) (hI : SI st) {s i : Int} {x : Int64} (hs_ : -2147483648 ≤ s ∧ s ≤ 2147483647) (hi_ : -2147483648 ≤ i ∧ i ≤ 2147483647) : mM G yX6_write cX6_write 9 (some .long) 3 [.ref 0, .int (iV s), .int (iV i), .long x] μ (qXl μ (sp_write st s i x)) := by
  obtain ⟨hF, hK, hkp, htl, htb, hfd, hsh⟩ := id hX
  have hFI := hI.1
  have ec := hF.1
  have hn := hFI.2.1
  have ed := hF.2.1
  have h0 := hFI.1
  have h99 := hI.2.1
  have hc := flt_c st s
  refine mM.of (lv := [some (.ref 0), some (.int (iV s)), some (.int (iV i)), some (.long x), none, none, none, none, none]) 4 (by decide +kernel) (Nat.le_of_ble_eq_true rfl) rfl ?_
  intro X
  refine mw_aload_n dX6_write_0 rfl ?_
  refine mw_iload_n dX6_write_1 rfl ?_
  refine mw_Vpi (ci := 6) dX6_write_2 ml_X6_229 ok_X6_faultOfSheet (by decide) (by first | rfl | assumption) (by decide) rfl rfl rfl (Nat.le_of_ble_eq_true rfl) (c_X_fault hX hI (by omega)) ?_
  refine mw_is5 dX6_write_5 (by decide) rfl ?_
  refine mw_iload dX6_write_7 rfl ?_
  refine mw_if_eq (tgt := 20) dX6_write_9 (by decide) (by omega) (fun c_9 => ?_) (fun c_9 => ?_)
  · have hf0 := flt_0 c_9
    have esh := hsh s (by omega) (by omega)
    have sk := sk_at (s := s) (by omega)
    have hsz := (hI.2.2.2.2.2.2.2 s (by omega) (by omega))
    refine mw_aload_n dX6_write_20 rfl ?_
    refine mw_gr_6_6 dX6_write_21 gs_X6_44 (by first | rfl | assumption) ?_
    refine mw_iload_n dX6_write_24 rfl ?_
    refine mw_aa11 dX6_write_25 (by first | rfl | assumption) (by first | rfl | assumption) (by omega) ?_
    refine mw_as6 dX6_write_26 (by decide) rfl ?_
    refine mw_iload_n dX6_write_28 rfl ?_
    refine mw_iconst dX6_write_29 ?_
    refine mw_aload dX6_write_30 rfl ?_
    refine mw_getI 2 dX6_write_32 gs_X6_232 sk.1 rfl rfl ?_
    rw [esh.2.1]
    refine mw_iconst dX6_write_35 ?_
    refine mw_isub dX6_write_36 ?_
    have hq := hsz.2.1
    refine mw_Spi dX6_write_37 ml_X6_57 ok_X6_isWithin (by decide) rfl rfl (Nat.le_of_ble_eq_true rfl) (c_X_within (by omega) (by omega) (by omega)) ?_
    refine mw_if_ne (tgt := 51) dX6_write_40 (by decide) (wi_bd _ _ _) (fun c_40 => ?_) (fun c_40 => ?_)
    · have d_40 := wi_1 c_40
      refine mw_aload dX6_write_51 rfl ?_
      refine mw_gr_3_0 dX6_write_53 gs_X6_235 sk.1 ?_
      refine mw_iload_n dX6_write_56 rfl ?_
      refine mw_lald 40 dX6_write_57 sk.2.1 sk.2.2 (by omega) ?_
      refine mw_ls7 dX6_write_58 (by decide) rfl ?_
      refine mw_aload dX6_write_60 rfl ?_
      refine mw_iload_n dX6_write_62 rfl ?_
      refine mw_lload_n dX6_write_63 rfl ?_
      refine mw_Vpv (ci := 3) dX6_write_64 ml_X6_239 ok_X3_put (by decide) sk.1 (by decide) rfl rfl rfl (Nat.le_of_ble_eq_true rfl) (c_S_put sk.1 sk.2.1 sk.2.2 (by rw [esh.1]; omega) (by rw [esh.2.1]; omega) (by rw [esh.2.1]; omega)) ?_
      refine mw_lload dX6_write_67 rfl ?_
      refine mw_lret dX6_write_69 rfl ?_
      refine ⟨_, rfl, ?_⟩
      unfold sp_write
      rw [if_pos c_9, if_pos (by omega)]
      refine ⟨esh.2.2 i (by omega) (by omega), hX.num hI (fun c hc => rfl) (fun s' j q1 q2 q3 q4 => ?_), fun c hc => ⟨rfl, by funext j; rw [u2_o (by omega)]⟩⟩
      unfold upN
      by_cases e : s' = s ∧ j = i
      · rw [e.1, e.2, u2_s, if_pos rfl, esh.1]
      · rw [u2_o (by omega), if_neg (by omega)]
        exact (hsh s' q1 q2).2.2 j q3 q4
    · have d_40 := wi_0 c_40
      refine mw_aload_n dX6_write_43 rfl ?_
      refine mw_ldc dX6_write_44 ct_X6_61 ?_
      refine mw_Vi (ci := 6) dX6_write_46 ml_X6_62 ok_X6_found (by decide) (by first | rfl | assumption) (by decide) rfl rfl rfl (Nat.le_of_ble_eq_true rfl) (c_X_find hX hI 0 (by decide) (by decide)) (fun z_46 m_46 h_46 => ?_)
      refine mw_i2l dX6_write_49 ?_
      refine mw_lret dX6_write_50 rfl ?_
      refine ⟨_, rfl, ?_⟩
      unfold sp_write
      rw [if_pos c_9, if_neg (by omega)]
      exact ⟨by rw [h_46.1]; rfl, h_46.2⟩
  · refine mw_aload_n dX6_write_12 rfl ?_
    refine mw_iload dX6_write_13 rfl ?_
    refine mw_Vi (ci := 6) dX6_write_15 ml_X6_62 ok_X6_found (by decide) (by first | rfl | assumption) (by decide) rfl rfl rfl (Nat.le_of_ble_eq_true rfl) (c_X_find hX hI (-1000000001 - fltS st s) (by omega) (by omega)) (fun z_15 m_15 h_15 => ?_)
    refine mw_i2l dX6_write_18 ?_
    refine mw_lret dX6_write_19 rfl ?_
    refine ⟨_, rfl, ?_⟩
    unfold sp_write
    rw [if_neg c_9]
    exact ⟨by rw [h_15.1]; rfl, h_15.2⟩
set_option maxHeartbeats 4000000 in
set_option maxRecDepth 100000 in
theorem c_X_copy {G : mG} {μ : mMem} {st : aS} (hX : XR μ st) (hI : SI st) {s a t b n : Int} (hs_ : -2147483648 ≤ s ∧ s ≤ 2147483647) (ha_ : -2147483648 ≤ a ∧ a ≤ 2147483647) (ht_ : -2147483648 ≤ t ∧ t ≤ 2147483647) (hb_ : -2147483648 ≤ b ∧ b ≤ 2147483647) (hn_ : -2147483648 ≤ n ∧ n ≤ 2147483647) : mM G yX6_copy cX6_copy 8 (some .int) 2 [.ref 0, .int (iV s), .int (iV a), .int (iV t), .int (iV b), .int (iV n)] μ (qX μ (sp_copy st s a t b n)) := by
  obtain ⟨hF, hK, hkp, htl, htb, hfd, hsh⟩ := id hX
  have hFI := hI.1
  have ec := hF.1
  have hn := hFI.2.1
  have ed := hF.2.1
  have h0 := hFI.1
  have h99 := hI.2.1
  refine mM.of (lv := [some (.ref 0), some (.int (iV s)), some (.int (iV a)), some (.int (iV t)), some (.int (iV b)), some (.int (iV n)), none, none]) 2 (by decide +kernel) (Nat.le_of_ble_eq_true rfl) rfl ?_
  intro X
  refine mw_iload_n dX6_copy_0 rfl ?_
  refine mw_Spi dX6_copy_1 ml_X6_218 ok_X6_isSheet (by decide) rfl rfl (Nat.le_of_ble_eq_true rfl) (c_X_isSheet (by omega)) ?_
  refine mw_if_eq (tgt := 14) dX6_copy_4 (by decide) (wi_bd _ _ _) (fun c_4 => ?_) (fun c_4 => ?_)
  · have d_4 := wi_0 c_4
    refine mw_aload_n dX6_copy_14 rfl ?_
    refine mw_ldc dX6_copy_15 ct_X6_61 ?_
    refine mw_Vi (ci := 6) dX6_copy_17 ml_X6_62 ok_X6_found (by decide) (by first | rfl | assumption) (by decide) rfl rfl rfl (Nat.le_of_ble_eq_true rfl) (c_X_find hX hI 0 (by decide) (by decide)) (fun z_17 m_17 h_17 => ?_)
    refine mw_iret dX6_copy_20 rfl ?_
    refine ⟨_, rfl, ?_⟩
    unfold sp_copy
    rw [if_neg (by omega)]
    exact h_17
  · have d_4 := wi_1 c_4
    refine mw_iload_n dX6_copy_7 rfl ?_
    refine mw_Spi dX6_copy_8 ml_X6_218 ok_X6_isSheet (by decide) rfl rfl (Nat.le_of_ble_eq_true rfl) (c_X_isSheet (by omega)) ?_
    refine mw_if_ne (tgt := 21) dX6_copy_11 (by decide) (wi_bd _ _ _) (fun c_11 => ?_) (fun c_11 => ?_)
    · have d_11 := wi_1 c_11
      have esh := hsh s (by omega) (by omega)
      have sk := sk_at (s := s) (by omega)
      have hsz := (hI.2.2.2.2.2.2.2 s (by omega) (by omega))
      have esh2 := hsh t (by omega) (by omega)
      have sk2 := sk_at (s := t) (by omega)
      have hsz2 := (hI.2.2.2.2.2.2.2 t (by omega) (by omega))
      refine mw_aload_n dX6_copy_21 rfl ?_
      refine mw_gr_6_6 dX6_copy_22 gs_X6_44 (by first | rfl | assumption) ?_
      refine mw_iload_n dX6_copy_25 rfl ?_
      refine mw_aa11 dX6_copy_26 (by first | rfl | assumption) (by first | rfl | assumption) (by omega) ?_
      refine mw_as6 dX6_copy_27 (by decide) rfl ?_
      refine mw_aload_n dX6_copy_29 rfl ?_
      refine mw_gr_6_6 dX6_copy_30 gs_X6_44 (by first | rfl | assumption) ?_
      refine mw_iload_n dX6_copy_33 rfl ?_
      refine mw_aa11 dX6_copy_34 (by first | rfl | assumption) (by first | rfl | assumption) (by omega) ?_
      refine mw_as7 dX6_copy_35 (by decide) rfl ?_
      refine mw_aload dX6_copy_37 rfl ?_
      refine mw_Vpi (ci := 3) dX6_copy_39 ml_X6_243 ok_X3_isMissing (by decide) sk.1 (by decide) rfl rfl rfl (Nat.le_of_ble_eq_true rfl) (c_S_missing sk.1 (by rw [esh.1]; omega)) ?_
      rw [esh.1]
      refine mw_if_ne (tgt := 53) dX6_copy_42 (by decide) (by unfold misI; split <;> omega) (fun c_42 => ?_) (fun c_42 => ?_)
      · have mz : st.1 5 s = 0 := Classical.byContradiction (fun q => c_42 (by unfold misI; rw [if_neg q]))
        refine mw_aload_n dX6_copy_53 rfl ?_
        refine mw_ldc dX6_copy_54 ct_X6_246 ?_
        refine mw_Vi (ci := 6) dX6_copy_56 ml_X6_62 ok_X6_found (by decide) (by first | rfl | assumption) (by decide) rfl rfl rfl (Nat.le_of_ble_eq_true rfl) (c_X_find hX hI 5 (by decide) (by decide)) (fun z_56 m_56 h_56 => ?_)
        refine mw_iret dX6_copy_59 rfl ?_
        refine ⟨_, rfl, ?_⟩
        unfold sp_copy
        rw [if_pos (by omega), if_pos (by omega)]
        exact h_56
      · have mz : ¬ st.1 5 s = 0 := fun q => by unfold misI at c_42; rw [if_pos q] at c_42; omega
        refine mw_aload dX6_copy_45 rfl ?_
        refine mw_Vpi (ci := 3) dX6_copy_47 ml_X6_243 ok_X3_isMissing (by decide) sk2.1 (by decide) rfl rfl rfl (Nat.le_of_ble_eq_true rfl) (c_S_missing sk2.1 (by rw [esh2.1]; omega)) ?_
        rw [esh2.1]
        refine mw_if_eq (tgt := 60) dX6_copy_50 (by decide) (by unfold misI; split <;> omega) (fun c_50 => ?_) (fun c_50 => ?_)
        · have mz2 : ¬ st.1 5 t = 0 := fun q => by unfold misI at c_50; rw [if_pos q] at c_50; omega
          refine mw_aload dX6_copy_60 rfl ?_
          refine mw_getI 1 dX6_copy_62 gs_X6_247 sk.1 rfl rfl ?_
          rw [esh.1]
          refine mw_aload dX6_copy_65 rfl ?_
          refine mw_getI 1 dX6_copy_67 gs_X6_247 sk2.1 rfl rfl ?_
          rw [esh2.1]
          refine mw_icmp_eq (tgt := 80) dX6_copy_70 (by decide) (by omega) (by omega) (fun c_70 => ?_) (fun c_70 => ?_)
          · refine mw_aload dX6_copy_80 rfl ?_
            refine mw_iload_n dX6_copy_82 rfl ?_
            refine mw_iload dX6_copy_83 rfl ?_
            refine mw_Vpi (ci := 3) dX6_copy_85 ml_X6_250 ok_X3_hasRow (by decide) sk.1 (by decide) rfl rfl rfl (Nat.le_of_ble_eq_true rfl) (c_S_hasRow sk.1 (by rw [esh.2.1]; omega) (by omega) (by omega)) ?_
            rw [esh.2.1]
            refine mw_if_eq (tgt := 103) dX6_copy_88 (by decide) (by unfold rowI; split <;> omega) (fun c_88 => ?_) (fun c_88 => ?_)
            · have rw1 : ¬ (0 ≤ a ∧ 0 ≤ n ∧ n ≤ st.1 6 s ∧ a ≤ st.1 6 s - n) := fun q => by unfold rowI at c_88; rw [if_pos q] at c_88; omega
              refine mw_aload_n dX6_copy_103 rfl ?_
              refine mw_ldc dX6_copy_104 ct_X6_61 ?_
              refine mw_Vi (ci := 6) dX6_copy_106 ml_X6_62 ok_X6_found (by decide) (by first | rfl | assumption) (by decide) rfl rfl rfl (Nat.le_of_ble_eq_true rfl) (c_X_find hX hI 0 (by decide) (by decide)) (fun z_106 m_106 h_106 => ?_)
              refine mw_iret dX6_copy_109 rfl ?_
              refine ⟨_, rfl, ?_⟩
              unfold sp_copy
              rw [if_pos (by omega), if_neg (by omega), if_pos c_70, if_neg (fun q => rw1 q.1)]
              exact h_106
            · have rw1 : 0 ≤ a ∧ 0 ≤ n ∧ n ≤ st.1 6 s ∧ a ≤ st.1 6 s - n := Classical.byContradiction (fun q => c_88 (by unfold rowI; rw [if_neg q]))
              refine mw_aload dX6_copy_91 rfl ?_
              refine mw_iload dX6_copy_93 rfl ?_
              refine mw_iload dX6_copy_95 rfl ?_
              refine mw_Vpi (ci := 3) dX6_copy_97 ml_X6_250 ok_X3_hasRow (by decide) sk2.1 (by decide) rfl rfl rfl (Nat.le_of_ble_eq_true rfl) (c_S_hasRow sk2.1 (by rw [esh2.2.1]; omega) (by omega) (by omega)) ?_
              rw [esh2.2.1]
              refine mw_if_ne (tgt := 110) dX6_copy_100 (by decide) (by unfold rowI; split <;> omega) (fun c_100 => ?_) (fun c_100 => ?_)
              · have rw2 : 0 ≤ b ∧ 0 ≤ n ∧ n ≤ st.1 6 t ∧ b ≤ st.1 6 t - n := Classical.byContradiction (fun q => c_100 (by unfold rowI; rw [if_neg q]))
                refine mw_aload dX6_copy_110 rfl ?_
                refine mw_gr_3_0 dX6_copy_112 gs_X6_235 sk.1 ?_
                refine mw_iload_n dX6_copy_115 rfl ?_
                refine mw_aload dX6_copy_116 rfl ?_
                refine mw_gr_3_0 dX6_copy_118 gs_X6_235 sk2.1 ?_
                refine mw_iload dX6_copy_121 rfl ?_
                refine mw_iload dX6_copy_123 rfl ?_
                refine mw_copyl 40 40 dX6_copy_125 ac_X6_253 sk.2.1 sk2.2.1 sk.2.2 sk2.2.2 (by omega) (by decide) (by decide +kernel) ?_
                refine mw_iload dX6_copy_128 rfl ?_
                refine mw_iret dX6_copy_130 rfl ?_
                refine ⟨_, rfl, ?_⟩
                unfold sp_copy
                rw [if_pos (by omega), if_neg (by omega), if_pos c_70, if_pos ⟨rw1, rw2⟩]
                refine ⟨rfl, hX.num hI (fun c hc => rfl) (fun s' j q1 q2 q3 q4 => ?_), fun c hc => ⟨rfl, by funext j; simp only [cpm2]; rw [if_neg (by omega)]⟩⟩
                show (if 47 + 2 * s'.toNat + 1 = 47 + 2 * t.toNat + 1 ∧ b ≤ j ∧ j < b + n then μ.2 (47 + 2 * s.toNat + 1) (a + (j - b)) else μ.2 (47 + 2 * s'.toNat + 1) j) = if 40 * t + b ≤ 40 * s' + j ∧ 40 * s' + j < 40 * t + b + n then st.2 (40 * s + a + (40 * s' + j - (40 * t + b))) else st.2 (40 * s' + j)
                by_cases e : s' = t ∧ b ≤ j ∧ j < b + n
                · rw [if_pos (by omega), if_pos (by omega), esh.2.2 (a + (j - b)) (by omega) (by omega), show 40 * s + (a + (j - b)) = 40 * s + a + (40 * s' + j - (40 * t + b)) by omega]
                · rw [if_neg (by omega), if_neg (by omega)]
                  exact (hsh s' q1 q2).2.2 j q3 q4
              · have rw2 : ¬ (0 ≤ b ∧ 0 ≤ n ∧ n ≤ st.1 6 t ∧ b ≤ st.1 6 t - n) := fun q => by unfold rowI at c_100; rw [if_pos q] at c_100; omega
                refine mw_aload_n dX6_copy_103 rfl ?_
                refine mw_ldc dX6_copy_104 ct_X6_61 ?_
                refine mw_Vi (ci := 6) dX6_copy_106 ml_X6_62 ok_X6_found (by decide) (by first | rfl | assumption) (by decide) rfl rfl rfl (Nat.le_of_ble_eq_true rfl) (c_X_find hX hI 0 (by decide) (by decide)) (fun z_106 m_106 h_106 => ?_)
                refine mw_iret dX6_copy_109 rfl ?_
                refine ⟨_, rfl, ?_⟩
                unfold sp_copy
                rw [if_pos (by omega), if_neg (by omega), if_pos c_70, if_neg (fun q => rw2 q.2)]
                exact h_106
          · refine mw_aload_n dX6_copy_73 rfl ?_
            refine mw_ldc dX6_copy_74 ct_X6_160 ?_
            refine mw_Vi (ci := 6) dX6_copy_76 ml_X6_62 ok_X6_found (by decide) (by first | rfl | assumption) (by decide) rfl rfl rfl (Nat.le_of_ble_eq_true rfl) (c_X_find hX hI 2 (by decide) (by decide)) (fun z_76 m_76 h_76 => ?_)
            refine mw_iret dX6_copy_79 rfl ?_
            refine ⟨_, rfl, ?_⟩
            unfold sp_copy
            rw [if_pos (by omega), if_neg (by omega), if_neg c_70]
            exact h_76
        · have mz2 : st.1 5 t = 0 := Classical.byContradiction (fun q => c_50 (by unfold misI; rw [if_neg q]))
          refine mw_aload_n dX6_copy_53 rfl ?_
          refine mw_ldc dX6_copy_54 ct_X6_246 ?_
          refine mw_Vi (ci := 6) dX6_copy_56 ml_X6_62 ok_X6_found (by decide) (by first | rfl | assumption) (by decide) rfl rfl rfl (Nat.le_of_ble_eq_true rfl) (c_X_find hX hI 5 (by decide) (by decide)) (fun z_56 m_56 h_56 => ?_)
          refine mw_iret dX6_copy_59 rfl ?_
          refine ⟨_, rfl, ?_⟩
          unfold sp_copy
          rw [if_pos (by omega), if_pos (by omega)]
          exact h_56
    · have d_11 := wi_0 c_11
      refine mw_aload_n dX6_copy_14 rfl ?_
      refine mw_ldc dX6_copy_15 ct_X6_61 ?_
      refine mw_Vi (ci := 6) dX6_copy_17 ml_X6_62 ok_X6_found (by decide) (by first | rfl | assumption) (by decide) rfl rfl rfl (Nat.le_of_ble_eq_true rfl) (c_X_find hX hI 0 (by decide) (by decide)) (fun z_17 m_17 h_17 => ?_)
      refine mw_iret dX6_copy_20 rfl ?_
      refine ⟨_, rfl, ?_⟩
      unfold sp_copy
      rw [if_neg (by omega)]
      exact h_17
set_option maxHeartbeats 4000000 in
set_option maxRecDepth 100000 in
theorem c_X_lays {G : mG} {μ : mMem} {st : aS} (hX : XR μ st) (hI : SI st) {s d : Int} (hs_ : -2147483648 ≤ s ∧ s ≤ 2147483647) (hd_ : -2147483648 ≤ d ∧ d ≤ 2147483647) : mM G yX6_lays cX6_lays 9 (some .int) 4 [.ref 0, .int (iV s), .int (iV d)] μ (qX μ (sp_lays st s d)) := by
  obtain ⟨hF, hK, hkp, htl, htb, hfd, hsh⟩ := id hX
  have hFI := hI.1
  have ec := hF.1
  have hn := hFI.2.1
  have ed := hF.2.1
  have h0 := hFI.1
  have h99 := hI.2.1
  have hc := flt2_c st s d
  have hly := lyN_r (numT st s) (st.1 6 s) 12 0
  refine mM.of (lv := [some (.ref 0), some (.int (iV s)), some (.int (iV d)), none, none, none, none, none, none]) 6 (by decide +kernel) (Nat.le_of_ble_eq_true rfl) rfl ?_
  intro X
  have lp : ∀ (n_ : Nat) (q7 : Option Value) (i : Int) (m : mMem), (flt2 st s d = 0) → (0 ≤ i) → (i ≤ 12) → (13 ≤ i + n_) → (∀ c : Nat, c ≠ tc 1 d → c ≠ tc 1 d + 1 → m.1 c = μ.1 c) → (m.2 = μ.2) → (m.1 (tc 1 d) 1 = i) → (∀ j : Int, 0 ≤ j → j < i → m.1 (tc 1 d + 1) j = (numT st s j).toInt32.toInt) → (lyN (numT st s) (st.1 6 s) (12 - i).toNat i = lyN (numT st s) (st.1 6 s) 12 0) → mW X cX6_lays 9 (some .int) yX6_lays.cls 4 G (qX μ (sp_lays st s d)) 43 [some (.ref 0), some (.int (iV s)), some (.int (iV d)), some (.int (iV 0)), some (.ref (47 + 2 * s.toNat)), some (.ref (tc 1 d)), some (.int (iV i)), q7, none] [] m := by
    intro n_
    induction n_ with
    | zero =>
      intro q7 i m hfl h1 h2 h3 h4 h5 h6 h7 h8
      omega
    | succ n_ ih =>
      intro q7 i m hfl h1 h2 h3 h4 h5 h6 h7 h8
      have f2 := flt2_0 hfl
      have f1 := flt_0 f2.1
      have th := bk_t bk1 d
      have htd := tc_c f2.2 1
      have esh := hsh s (by omega) (by omega)
      have sk := sk_at (s := s) (by omega)
      have hsz := (hI.2.2.2.2.2.2.2 s (by omega) (by omega))
      refine mw_iload dX6_lays_43 rfl ?_
      refine mw_aload dX6_lays_45 rfl ?_
      refine mw_getI 2 dX6_lays_47 gs_X6_232 sk.1 rfl rfl ?_
      rw [h4 _ (by omega) (by omega), esh.2.1]
      refine mw_icmp_ge (tgt := 103) dX6_lays_50 (by decide) (by omega) (by omega) (fun c_50 => ?_) (fun c_50 => ?_)
      · refine mw_aload dX6_lays_103 rfl ?_
        refine mw_getI 1 dX6_lays_105 gs_X6_70 th.1 rfl rfl ?_
        refine mw_iret dX6_lays_108 rfl ?_
        have e8 : i = lyN (numT st s) (st.1 6 s) 12 0 := by
          rw [← h8]
          by_cases e12 : i = 12
          · rw [e12]
            rfl
          · rw [show (12 - i).toNat = (12 - (i + 1)).toNat + 1 by omega, lyN, if_neg (by omega)]
        have g := setT_fug (t := fun j => (numT st s j).toInt32.toInt) hF hFI f2.2 (by omega) h4 h5 h6 h7
        refine ⟨_, rfl, ?_⟩
        unfold sp_lays
        rw [if_pos hfl, ← e8]
        exact ⟨h6, hX.row hI g.1 g.2, g.2.xf bk1⟩
      · refine mw_iload dX6_lays_53 rfl ?_
        refine mw_bipush dX6_lays_55 (by decide +kernel) ?_
        refine mw_icmp_ge (tgt := 103) dX6_lays_57 (by decide) (by omega) (by omega) (fun c_57 => ?_) (fun c_57 => ?_)
        · refine mw_aload dX6_lays_103 rfl ?_
          refine mw_getI 1 dX6_lays_105 gs_X6_70 th.1 rfl rfl ?_
          refine mw_iret dX6_lays_108 rfl ?_
          have e8 : i = lyN (numT st s) (st.1 6 s) 12 0 := by
            rw [← h8, show (12 - i).toNat = 0 by omega]
            rfl
          have g := setT_fug (t := fun j => (numT st s j).toInt32.toInt) hF hFI f2.2 (by omega) h4 h5 h6 h7
          refine ⟨_, rfl, ?_⟩
          unfold sp_lays
          rw [if_pos hfl, ← e8]
          exact ⟨h6, hX.row hI g.1 g.2, g.2.xf bk1⟩
        · rw [show (12 - i).toNat = (12 - (i + 1)).toNat + 1 by omega, lyN] at h8
          refine mw_aload dX6_lays_60 rfl ?_
          refine mw_gr_3_0 dX6_lays_62 gs_X6_235 sk.1 ?_
          refine mw_iload dX6_lays_65 rfl ?_
          refine mw_lald 40 dX6_lays_67 sk.2.1 sk.2.2 (by omega) ?_
          rw [h5, esh.2.2 i (by omega) (by omega), show st.2 (40 * s + i) = numT st s i from rfl]
          refine mw_ls7 dX6_lays_68 (by decide) rfl ?_
          refine mw_lload dX6_lays_70 rfl ?_
          refine mw_lconst dX6_lays_72 rfl ?_
          refine mw_lcmp dX6_lays_73 ?_
          refine mw_ifR_lt (tgt := 103) dX6_lays_74 (by decide)  (fun c_74 => ?_) (fun c_74 => ?_)
          · rw [lg_cmp_lt] at c_74
            rw [if_neg (fun q => Int64.not_le.mpr c_74 q.2.1)] at h8
            refine mw_aload dX6_lays_103 rfl ?_
            refine mw_getI 1 dX6_lays_105 gs_X6_70 th.1 rfl rfl ?_
            refine mw_iret dX6_lays_108 rfl ?_
            have e8 : i = lyN (numT st s) (st.1 6 s) 12 0 := h8
            have g := setT_fug (t := fun j => (numT st s j).toInt32.toInt) hF hFI f2.2 (by omega) h4 h5 h6 h7
            refine ⟨_, rfl, ?_⟩
            unfold sp_lays
            rw [if_pos hfl, ← e8]
            exact ⟨h6, hX.row hI g.1 g.2, g.2.xf bk1⟩
          · rw [lg_cmp_lt] at c_74
            refine mw_lload dX6_lays_77 rfl ?_
            refine mw_ldc2 dX6_lays_79 cl_X6_262 ?_
            refine mw_lcmp dX6_lays_82 ?_
            refine mw_ifR_lt (tgt := 89) dX6_lays_83 (by decide)  (fun c_83 => ?_) (fun c_83 => ?_)
            · rw [lg_cmp_lt] at c_83
              rw [if_pos ⟨c_50, Int64.not_lt.mp c_74, c_83⟩] at h8
              refine mw_aload dX6_lays_89 rfl ?_
              refine mw_lload dX6_lays_91 rfl ?_
              refine mw_l2i dX6_lays_93 ?_
              refine mw_Vpv (ci := 5) dX6_lays_94 ml_X6_81 ok_X5_append (by decide) th.1 (by decide) rfl rfl rfl (Nat.le_of_ble_eq_true rfl) (c_T_append th.1 th.2.1 th.2.2 (by rw [h6]; omega)) ?_
              refine mw_ii6 dX6_lays_97 (by decide) rfl ?_
              refine mw_goto (tgt := 43) dX6_lays_100 (by decide) ?_
              refine ih _ _ _ hfl (by omega) (by omega) (by omega) (fun c q1 q2 => ?_) h5 (by rw [u1_s, h6]) (fun j q1 q2 => ?_) h8
              · rw [← h4 c q1 q2]
                funext j
                rw [u1_o (by omega), u1_o (by omega)]
              · rw [u1_o (by omega)]
                by_cases hj : j = i
                · rw [hj, h6, u1_s]
                · rw [u1_o (by omega)]
                  exact h7 j q1 (by omega)
            · rw [lg_cmp_lt] at c_83
              rw [if_neg (fun q => c_83 q.2.2)] at h8
              refine mw_goto (tgt := 103) dX6_lays_86 (by decide) ?_
              refine mw_aload dX6_lays_103 rfl ?_
              refine mw_getI 1 dX6_lays_105 gs_X6_70 th.1 rfl rfl ?_
              refine mw_iret dX6_lays_108 rfl ?_
              have e8 : i = lyN (numT st s) (st.1 6 s) 12 0 := h8
              have g := setT_fug (t := fun j => (numT st s j).toInt32.toInt) hF hFI f2.2 (by omega) h4 h5 h6 h7
              refine ⟨_, rfl, ?_⟩
              unfold sp_lays
              rw [if_pos hfl, ← e8]
              exact ⟨h6, hX.row hI g.1 g.2, g.2.xf bk1⟩
  refine mw_aload_n dX6_lays_0 rfl ?_
  refine mw_iload_n dX6_lays_1 rfl ?_
  refine mw_iload_n dX6_lays_2 rfl ?_
  refine mw_Vpi (ci := 6) dX6_lays_3 ml_X6_259 ok_X6_faultOfSheetAndSide (by decide) (by first | rfl | assumption) (by decide) rfl rfl rfl (Nat.le_of_ble_eq_true rfl) (c_X_fault2 hX hI (by omega) (by omega)) ?_
  refine mw_is3 dX6_lays_6 (by decide) rfl ?_
  refine mw_iload_n dX6_lays_7 rfl ?_
  refine mw_if_eq (tgt := 17) dX6_lays_8 (by decide) (by omega) (fun c_8 => ?_) (fun c_8 => ?_)
  · have f2 := flt2_0 c_8
    have f1 := flt_0 f2.1
    have th := bk_t bk1 d
    refine mw_aload_n dX6_lays_17 rfl ?_
    refine mw_gr_6_6 dX6_lays_18 gs_X6_44 (by first | rfl | assumption) ?_
    refine mw_iload_n dX6_lays_21 rfl ?_
    refine mw_aa11 dX6_lays_22 (by first | rfl | assumption) (by first | rfl | assumption) (by omega) ?_
    refine mw_as4 dX6_lays_23 (by decide) rfl ?_
    refine mw_aload_n dX6_lays_25 rfl ?_
    refine mw_gr_6_0 dX6_lays_26 gs_X6_10 (by first | rfl | assumption) ?_
    refine mw_iload_n dX6_lays_29 rfl ?_
    refine mw_Vpr (ci := 1) dX6_lays_30 ml_X6_66 ok_X1_tuneOf (by decide) (by first | rfl | assumption) (by decide) rfl rfl rfl (Nat.le_of_ble_eq_true rfl) (c_F_tuneOf bk1 f2.2) ?_
    refine mw_as5 dX6_lays_33 (by decide) rfl ?_
    refine mw_aload dX6_lays_35 rfl ?_
    refine mw_Vpv (ci := 5) dX6_lays_37 ml_X6_76 ok_X5_clear (by decide) th.1 (by decide) rfl rfl rfl (Nat.le_of_ble_eq_true rfl) (c_T_clear th.1) ?_
    refine mw_iconst dX6_lays_40 ?_
    refine mw_is6 dX6_lays_41 (by decide) rfl ?_
    rw [c_8]
    refine lp 13 _ _ _ c_8 (by omega) (by omega) (by omega) (fun c q1 q2 => ?_) rfl (u1_s _ _ _ _) (fun j q1 q2 => by omega) rfl
    funext j
    rw [u1_o (by omega)]
  · refine mw_aload_n dX6_lays_11 rfl ?_
    refine mw_iload_n dX6_lays_12 rfl ?_
    refine mw_Vi (ci := 6) dX6_lays_13 ml_X6_62 ok_X6_found (by decide) (by first | rfl | assumption) (by decide) rfl rfl rfl (Nat.le_of_ble_eq_true rfl) (c_X_find hX hI (-1000000001 - flt2 st s d) (by omega) (by omega)) (fun z_13 m_13 h_13 => ?_)
    refine mw_iret dX6_lays_16 rfl ?_
    refine ⟨_, rfl, ?_⟩
    unfold sp_lays
    rw [if_neg c_8]
    exact h_13
set_option maxHeartbeats 4000000 in
set_option maxRecDepth 100000 in
theorem c_X_book {G : mG} {μ : mMem} {st : aS} (hX : XR μ st) (hI : SI st) {s d : Int} (hs_ : -2147483648 ≤ s ∧ s ≤ 2147483647) (hd_ : -2147483648 ≤ d ∧ d ≤ 2147483647) : mM G yX6_book cX6_book 6 (some .int) 4 [.ref 0, .int (iV s), .int (iV d)] μ (qX μ (sp_book st s d)) := by
  obtain ⟨hF, hK, hkp, htl, htb, hfd, hsh⟩ := id hX
  have hFI := hI.1
  have ec := hF.1
  have hn := hFI.2.1
  have ed := hF.2.1
  have h0 := hFI.1
  have h99 := hI.2.1
  have hc := flt2_c st s d
  refine mM.of (lv := [some (.ref 0), some (.int (iV s)), some (.int (iV d)), none, none, none]) 3 (by decide +kernel) (Nat.le_of_ble_eq_true rfl) rfl ?_
  intro X
  have lp : ∀ (n_ : Nat) (i : Int) (m : mMem), (flt2 st s d = 0) → (0 ≤ i) → (i ≤ st.1 6 s) → (41 ≤ i + n_) → (FUG m 29 (daysF i.toNat (st.1 0))) → (∀ c : Nat, c < 29 ∨ 43 ≤ c → m.1 c = μ.1 c) → (∀ c : Nat, c ≠ 47 + 2 * s.toNat + 1 → m.2 c = μ.2 c) → (∀ j : Int, 0 ≤ j → j < 40 → m.2 (47 + 2 * s.toNat + 1) j = bkN st s d i (40 * s + j)) → mW X cX6_book 6 (some .int) yX6_book.cls 4 G (qX μ (sp_book st s d)) 32 [some (.ref 0), some (.int (iV s)), some (.int (iV d)), some (.int (iV 0)), some (.ref (47 + 2 * s.toNat)), some (.int (iV i))] [] m := by
    intro n_
    induction n_ with
    | zero =>
      intro i m hfl h1 h2 h3 h4 h5 h6 h7
      have f1 := flt_0 (flt2_0 hfl).1
      have hq := (hI.2.2.2.2.2.2.2 s (by omega) (by omega)).2.1
      omega
    | succ n_ ih =>
      intro i m hfl h1 h2 h3 h4 h5 h6 h7
      have f2 := flt2_0 hfl
      have f1 := flt_0 f2.1
      have th := bk_t bk29 d
      have esh := hsh s (by omega) (by omega)
      have sk := sk_at (s := s) (by omega)
      have hsz := (hI.2.2.2.2.2.2.2 s (by omega) (by omega))
      have em : m.1 (47 + 2 * s.toNat) = μ.1 (47 + 2 * s.toNat) := h5 _ (by omega)
      have hq := hsz.2.1
      refine mw_iload dX6_book_32 rfl ?_
      refine mw_aload dX6_book_34 rfl ?_
      refine mw_getI 2 dX6_book_36 gs_X6_232 sk.1 rfl rfl ?_
      rw [em, esh.2.1]
      refine mw_icmp_ge (tgt := 74) dX6_book_39 (by decide) (by omega) (by omega) (fun c_39 => ?_) (fun c_39 => ?_)
      · refine mw_aload dX6_book_74 rfl ?_
        refine mw_getI 2 dX6_book_76 gs_X6_232 sk.1 rfl rfl ?_
        refine mw_iret dX6_book_79 rfl ?_
        refine ⟨_, rfl, ?_⟩
        unfold sp_book
        rw [if_pos hfl]
        refine ⟨by rw [em]; exact esh.2.1, hX.num hI h5 (fun s' j q1 q2 q3 q4 => ?_), fun c hc => ⟨h5 c (by omega), h6 c (by omega)⟩⟩
        by_cases e : s' = s
        · rw [e, h7 j q3 q4, show i = st.1 6 s by omega]
        · rw [h6 _ (by omega), (hsh s' q1 q2).2.2 j q3 q4]
          unfold bkN
          rw [if_neg (by omega)]
      · have tnh := h4.tn (days_inv hFI _) f2.2
        have htn := tn_len (days_inv hFI i.toNat) d f2.2
        refine mw_aload dX6_book_42 rfl ?_
        refine mw_iload dX6_book_44 rfl ?_
        refine mw_aload_n dX6_book_46 rfl ?_
        refine mw_gr_6_3 dX6_book_47 gs_X6_23 (by first | rfl | assumption) ?_
        refine mw_iload_n dX6_book_50 rfl ?_
        refine mw_Vpr (ci := 1) dX6_book_51 ml_X6_66 ok_X1_tuneOf (by decide) (by first | rfl | assumption) (by decide) rfl rfl rfl (Nat.le_of_ble_eq_true rfl) (c_F_tuneOf bk29 f2.2) ?_
        refine mw_Vpi (ci := 5) dX6_book_54 ml_X6_89 ok_X5_wideLeaps (by decide) th.1 (by decide) rfl rfl rfl (Nat.le_of_ble_eq_true rfl) (c_T_wide th.1 th.2.1 th.2.2 tnh.2.1 tnh.2.2.1) ?_
        rw [tens_eq h4 (days_inv hFI _) f2.2]
        refine mw_i2l dX6_book_57 ?_
        refine mw_Vpv (ci := 3) dX6_book_58 ml_X6_239 ok_X3_put (by decide) sk.1 (by decide) rfl rfl rfl (Nat.le_of_ble_eq_true rfl) (c_S_put sk.1 sk.2.1 sk.2.2 (by rw [em, esh.1]; omega) (by rw [em, esh.2.1]; omega) (by rw [em, esh.2.1]; omega)) ?_
        refine mw_aload_n dX6_book_61 rfl ?_
        refine mw_gr_6_3 dX6_book_62 gs_X6_23 (by first | rfl | assumption) ?_
        refine mw_Vv (ci := 1) dX6_book_65 ml_X6_193 ok_X1_passDay (by decide) (by first | rfl | assumption) (by decide) rfl rfl rfl (Nat.le_of_ble_eq_true rfl) (c_F_passDay bk29 (h4.keep (days_inv hFI _).2.1.2 (fun c q1 q2 => rfl)) (days_inv hFI _) (by rw [days_day]; omega)) (fun m_65 h_65 => ?_)
        refine mw_ii5 dX6_book_68 (by decide) rfl ?_
        refine mw_goto (tgt := 32) dX6_book_71 (by decide) ?_
        rw [cut_sm htn] at h_65
        refine ih _ _ hfl (by omega) (by omega) (by omega) (by rw [show (i + 1).toNat = i.toNat + 1 by omega, days_succ]; exact h_65.1) (fun c hc => ?_) (fun c hc => ?_) (fun j q1 q2 => ?_)
        · rw [h_65.2.1 c (by omega)]
          exact h5 c hc
        · rw [h_65.2.2, ← h6 c hc]
          funext j
          rw [u2_o (by omega)]
        · rw [h_65.2.2]
          unfold bkN
          by_cases e : j = i
          · rw [e, u2_s, if_pos (by omega), show (40 * s + i - 40 * s).toNat = i.toNat by omega]
          · rw [u2_o (by omega), h7 j q1 q2]
            unfold bkN
            by_cases e2 : j < i
            · rw [if_pos (by omega), if_pos (by omega)]
            · rw [if_neg (by omega), if_neg (by omega)]
  refine mw_aload_n dX6_book_0 rfl ?_
  refine mw_iload_n dX6_book_1 rfl ?_
  refine mw_iload_n dX6_book_2 rfl ?_
  refine mw_Vpi (ci := 6) dX6_book_3 ml_X6_259 ok_X6_faultOfSheetAndSide (by decide) (by first | rfl | assumption) (by decide) rfl rfl rfl (Nat.le_of_ble_eq_true rfl) (c_X_fault2 hX hI (by omega) (by omega)) ?_
  refine mw_is3 dX6_book_6 (by decide) rfl ?_
  refine mw_iload_n dX6_book_7 rfl ?_
  refine mw_if_eq (tgt := 17) dX6_book_8 (by decide) (by omega) (fun c_8 => ?_) (fun c_8 => ?_)
  · have f2 := flt2_0 c_8
    have f1 := flt_0 f2.1
    have esh := hsh s (by omega) (by omega)
    have sk := sk_at (s := s) (by omega)
    have hsz := (hI.2.2.2.2.2.2.2 s (by omega) (by omega))
    have hq := hsz.2.1
    refine mw_aload_n dX6_book_17 rfl ?_
    refine mw_gr_6_6 dX6_book_18 gs_X6_44 (by first | rfl | assumption) ?_
    refine mw_iload_n dX6_book_21 rfl ?_
    refine mw_aa11 dX6_book_22 (by first | rfl | assumption) (by first | rfl | assumption) (by omega) ?_
    refine mw_as4 dX6_book_23 (by decide) rfl ?_
    refine mw_aload_n dX6_book_25 rfl ?_
    refine mw_Vv (ci := 6) dX6_book_26 ml_X6_183 ok_X6_startTrial (by decide) (by first | rfl | assumption) (by decide) rfl rfl rfl (Nat.le_of_ble_eq_true rfl) (c_X_startTrial hF hFI) (fun m_26 h_26 => ?_)
    refine mw_iconst dX6_book_29 ?_
    refine mw_is5 dX6_book_30 (by decide) rfl ?_
    rw [c_8]
    refine lp 41 _ _ c_8 (by omega) (by omega) (by omega) h_26.1 (fun c hc => h_26.2.1 c (by omega)) (fun c hc => by rw [h_26.2.2]) (fun j q1 q2 => ?_)
    rw [h_26.2.2, esh.2.2 j q1 q2]
    unfold bkN
    rw [if_neg (by omega)]
  · refine mw_aload_n dX6_book_11 rfl ?_
    refine mw_iload_n dX6_book_12 rfl ?_
    refine mw_Vi (ci := 6) dX6_book_13 ml_X6_62 ok_X6_found (by decide) (by first | rfl | assumption) (by decide) rfl rfl rfl (Nat.le_of_ble_eq_true rfl) (c_X_find hX hI (-1000000001 - flt2 st s d) (by omega) (by omega)) (fun z_13 m_13 h_13 => ?_)
    refine mw_iret dX6_book_16 rfl ?_
    refine ⟨_, rfl, ?_⟩
    unfold sp_book
    rw [if_neg c_8]
    exact h_13
set_option maxHeartbeats 4000000 in
set_option maxRecDepth 100000 in
theorem c_X_just {G : mG} {μ : mMem} {st : aS} (hX : XR μ st) (hI : SI st) {s : Int} (hs : 0 ≤ s ∧ s < 4) {k : Nat} (hk : mCls k = 0) (hkd : 0 ≤ μ.1 k 0 ∧ μ.1 k 0 < 6) (hsd : 0 ≤ μ.1 k 1 ∧ μ.1 k 1 ≤ 1) (hky : 0 ≤ μ.1 k 2 ∧ μ.1 k 2 < 12) : mM G yX6_isJustWritten cX6_isJustWritten 5 (some .boolean) 2 [.ref 0, .ref (47 + 2 * s.toNat), .ref k] μ (pI (jwP st s (μ.1 k 3) (1 - μ.1 k 1) (μ.1 k 0) (μ.1 k 2)) μ) := by
  obtain ⟨hF, hK, hkp, htl, htb, hfd, hsh⟩ := id hX
  have hFI := hI.1
  have ec := hF.1
  have hn := hFI.2.1
  have ed := hF.2.1
  have h0 := hFI.1
  have h99 := hI.2.1
  have esh := hsh s (by omega) (by omega)
  have sk := sk_at (s := s) (by omega)
  have hsz := (hI.2.2.2.2.2.2.2 s (by omega) (by omega))
  have th := bk_t bk1 (1 - μ.1 k 1)
  have tnh := hF.tn hFI (s := 1 - μ.1 k 1) (by omega)
  have hl12 := tnh.2.1
  have hL := lng_bd (kind := μ.1 k 0) hl12.1
  rw [tnh.1] at hl12 hL
  have hq := hsz.2.1
  refine mM.of (lv := [some (.ref 0), some (.ref (47 + 2 * s.toNat)), some (.ref k), none, none]) 2 (by decide +kernel) (Nat.le_of_ble_eq_true rfl) rfl ?_
  intro X
  have lp : ∀ (n_ : Nat) (i : Int), (st.1 6 s = lng (μ.1 k 0) (st.1 0 (2 + (1 - μ.1 k 1)))) → (0 ≤ i) → (i ≤ st.1 6 s) → (41 ≤ i + n_) → (jwU (numT st s) (ansI (μ.1 k 0) (μ.1 k 2) (μ.1 k 3) (st.1 0 (2 + (1 - μ.1 k 1))) (tn (st.1 0) (1 - μ.1 k 1))) (st.1 6 s - i).toNat i = jwP st s (μ.1 k 3) (1 - μ.1 k 1) (μ.1 k 0) (μ.1 k 2)) → mW X cX6_isJustWritten 5 (some .boolean) yX6_isJustWritten.cls 2 G (pI (jwP st s (μ.1 k 3) (1 - μ.1 k 1) (μ.1 k 0) (μ.1 k 2)) μ) 26 [some (.ref 0), some (.ref (47 + 2 * s.toNat)), some (.ref k), some (.ref (tc 1 (1 - μ.1 k 1))), some (.int (iV i))] [] μ := by
    intro n_
    induction n_ with
    | zero =>
      intro i hsl h1 h2 h3 h6
      omega
    | succ n_ ih =>
      intro i hsl h1 h2 h3 h6
      refine mw_iload dX6_isJustWritten_26 rfl ?_
      refine mw_aload_n dX6_isJustWritten_28 rfl ?_
      refine mw_getI 2 dX6_isJustWritten_29 gs_X6_232 sk.1 rfl rfl ?_
      rw [esh.2.1]
      refine mw_icmp_ge (tgt := 62) dX6_isJustWritten_32 (by decide) (by omega) (by omega) (fun c_32 => ?_) (fun c_32 => ?_)
      · refine mw_iconst dX6_isJustWritten_62 ?_
        refine mw_zret dX6_isJustWritten_63 rfl (by decide +kernel) ?_
        exact ⟨by rw [show (st.1 6 s - i).toNat = 0 by omega, jwU] at h6; rw [← h6], rfl⟩
      · rw [show (st.1 6 s - i).toNat = (st.1 6 s - (i + 1)).toNat + 1 by omega, jwU] at h6
        refine mw_aload_n dX6_isJustWritten_35 rfl ?_
        refine mw_gr_3_0 dX6_isJustWritten_36 gs_X6_235 sk.1 ?_
        refine mw_iload dX6_isJustWritten_39 rfl ?_
        refine mw_lald 40 dX6_isJustWritten_41 sk.2.1 sk.2.2 (by omega) ?_
        rw [esh.2.2 i (by omega) (by omega), show st.2 (40 * s + i) = numT st s i from rfl]
        refine mw_aload_n dX6_isJustWritten_42 rfl ?_
        refine mw_aload_n dX6_isJustWritten_43 rfl ?_
        refine mw_iload dX6_isJustWritten_44 rfl ?_
        refine mw_Vpi (ci := 0) dX6_isJustWritten_46 ml_X6_150 ok_X0_toneTo (by decide) hk (by decide) rfl rfl rfl (Nat.le_of_ble_eq_true rfl) (c_A_tone hk th.1 th.2.1 th.2.2 tnh.2.1 tnh.2.2.1 hkd hky (by rw [tnh.1]; omega)) ?_
        rw [tnh.1, ans_congr (by omega) tnh.2.2.2]
        refine mw_i2l dX6_isJustWritten_49 ?_
        refine mw_lcmp dX6_isJustWritten_50 ?_
        refine mw_ifR_eq (tgt := 56) dX6_isJustWritten_51 (by decide)  (fun c_51 => ?_) (fun c_51 => ?_)
        · rw [lg_cmp_eq] at c_51
          rw [if_pos c_51] at h6
          refine mw_ii4 dX6_isJustWritten_56 (by decide) rfl ?_
          refine mw_goto (tgt := 26) dX6_isJustWritten_59 (by decide) ?_
          exact ih _ hsl (by omega) (by omega) (by omega) h6
        · rw [lg_cmp_eq] at c_51
          rw [if_neg c_51] at h6
          refine mw_iconst dX6_isJustWritten_54 ?_
          refine mw_zret dX6_isJustWritten_55 rfl (by decide +kernel) ?_
          exact ⟨by rw [← h6], rfl⟩
  refine mw_aload_n dX6_isJustWritten_0 rfl ?_
  refine mw_gr_6_0 dX6_isJustWritten_1 gs_X6_10 (by first | rfl | assumption) ?_
  refine mw_aload_n dX6_isJustWritten_4 rfl ?_
  refine mw_Vpr (ci := 1) dX6_isJustWritten_5 ml_X6_141 ok_X1_heardBy (by decide) (by first | rfl | assumption) (by decide) rfl rfl rfl (Nat.le_of_ble_eq_true rfl) (c_F_heardBy bk1 hk hsd) ?_
  refine mw_as3 dX6_isJustWritten_8 (by decide) rfl ?_
  refine mw_aload_n dX6_isJustWritten_9 rfl ?_
  refine mw_getI 2 dX6_isJustWritten_10 gs_X6_232 sk.1 rfl rfl ?_
  rw [esh.2.1]
  refine mw_aload_n dX6_isJustWritten_13 rfl ?_
  refine mw_aload_n dX6_isJustWritten_14 rfl ?_
  refine mw_Vpi (ci := 0) dX6_isJustWritten_15 ml_X6_145 ok_X0_lengthTo (by decide) hk (by decide) rfl rfl rfl (Nat.le_of_ble_eq_true rfl) (c_A_long hk th.1 th.2.1 th.2.2 tnh.2.1 hkd) ?_
  rw [tnh.1]
  refine mw_icmp_eq (tgt := 23) dX6_isJustWritten_18 (by decide) (by omega) (by omega) (fun c_18 => ?_) (fun c_18 => ?_)
  · refine mw_iconst dX6_isJustWritten_23 ?_
    refine mw_is4 dX6_isJustWritten_24 (by decide) rfl ?_
    exact lp 41 _ c_18 (by omega) (by omega) (by omega) (by unfold jwP; rw [if_pos c_18, Int.sub_zero])
  · refine mw_iconst dX6_isJustWritten_21 ?_
    refine mw_zret dX6_isJustWritten_22 rfl (by decide +kernel) ?_
    exact ⟨by unfold jwP; rw [if_neg c_18], rfl⟩
set_option maxHeartbeats 4000000 in
set_option maxRecDepth 100000 in
theorem c_X_read {G : mG} {μ : mMem} {st : aS} (hX : XR μ st) (hI : SI st) {s a : Int} (hs_ : -2147483648 ≤ s ∧ s ≤ 2147483647) (ha_ : -2147483648 ≤ a ∧ a ≤ 2147483647) : mM G yX6_read cX6_read 8 (some .int) 4 [.ref 0, .int (iV s), .int (iV a)] μ (qX μ (sp_read st s a)) := by
  obtain ⟨hF, hK, hkp, htl, htb, hfd, hsh⟩ := id hX
  have hFI := hI.1
  have ec := hF.1
  have hn := hFI.2.1
  have ed := hF.2.1
  have h0 := hFI.1
  have h99 := hI.2.1
  have hc := flt_c st s
  refine mM.of (lv := [some (.ref 0), some (.int (iV s)), some (.int (iV a)), none, none, none, none, none]) 5 (by decide +kernel) (Nat.le_of_ble_eq_true rfl) rfl ?_
  intro X
  have lo : ∀ (n_ : Nat) (q7 : Option Value) (q c : Int) (m : mMem), (fltS st s = 0) → (0 ≤ a ∧ a < st.1 0 1) → (0 ≤ q ∧ q ≤ 6) → (7 ≤ q + n_) → (FR 29 μ m) → (m.1 (29 + 5 + 1 + a.toNat) 1 = st.1 0 (28 + 5 * a + 1)) → (m.1 (29 + 5 + 1 + a.toNat) 3 = st.1 0 (28 + 5 * a + 3)) → (rdK (jwP st s (st.1 0 (28 + 5 * a + 3)) (1 - st.1 0 (28 + 5 * a + 1))) (6 - q).toNat q c = rdK (jwP st s (st.1 0 (28 + 5 * a + 3)) (1 - st.1 0 (28 + 5 * a + 1))) 6 0 0) → mW X cX6_read 8 (some .int) yX6_read.cls 4 G (qX μ (sp_read st s a)) 55 [some (.ref 0), some (.int (iV s)), some (.int (iV a)), some (.int (iV 0)), some (.ref (29 + 5 + 1 + a.toNat)), some (.int (iV c)), some (.int (iV q)), q7] [] m := by
    intro n_
    induction n_ with
    | zero =>
      intro q7 q c m hfl ha h1 h3 h4 h5b h5c h6
      omega
    | succ n_ ih =>
      intro q7 q c m hfl ha h1 h3 h4 h5b h5c h6
      have f1 := flt_0 hfl
      have kat := bk_a bk29 (a := a) (by omega)
      have ea := hF.at hFI (a := a) (by omega)
      have li : ∀ (k_ : Nat) (y c : Int) (m : mMem), (q < 6) → (0 ≤ y ∧ y ≤ 12) → (13 ≤ y + k_) → (FR 29 μ m) → (m.1 (29 + 5 + 1 + a.toNat) 0 = q) → (m.1 (29 + 5 + 1 + a.toNat) 1 = st.1 0 (28 + 5 * a + 1)) → (m.1 (29 + 5 + 1 + a.toNat) 3 = st.1 0 (28 + 5 * a + 3)) → (rdK (jwP st s (st.1 0 (28 + 5 * a + 3)) (1 - st.1 0 (28 + 5 * a + 1))) (5 - q).toNat (q + 1) (kys ((jwP st s (st.1 0 (28 + 5 * a + 3)) (1 - st.1 0 (28 + 5 * a + 1))) q) (12 - y).toNat y c) = rdK (jwP st s (st.1 0 (28 + 5 * a + 3)) (1 - st.1 0 (28 + 5 * a + 1))) 6 0 0) → mW X cX6_read 8 (some .int) yX6_read.cls 4 G (qX μ (sp_read st s a)) 72 [some (.ref 0), some (.int (iV s)), some (.int (iV a)), some (.int (iV 0)), some (.ref (29 + 5 + 1 + a.toNat)), some (.int (iV c)), some (.int (iV q)), some (.int (iV y))] [] m := by
        intro k_
        induction k_ with
        | zero =>
          intro y c m hq6 h1i h3i h4 h5 h5b h5c h6
          omega
        | succ k_ ihI =>
          intro y c m hq6 h1i h3i h4 h5 h5b h5c h6
          refine mw_iload dX6_read_72 rfl ?_
          refine mw_bipush dX6_read_74 (by decide +kernel) ?_
          refine mw_icmp_ge (tgt := 110) dX6_read_76 (by decide) (by omega) (by omega) (fun c_76 => ?_) (fun c_76 => ?_)
          · refine mw_ii6 dX6_read_110 (by decide) rfl ?_
            refine mw_goto (tgt := 55) dX6_read_113 (by decide) ?_
            rw [show (12 - y).toNat = 0 by omega, kys] at h6
            exact ih _ _ _ _ hfl ha (by omega) (by omega) h4 h5b h5c (by rw [show (6 - (q + 1)).toNat = (5 - q).toNat by omega]; exact h6)
          · refine mw_aload dX6_read_79 rfl ?_
            refine mw_iload dX6_read_81 rfl ?_
            refine mw_putI 2 dX6_read_83 ps_X6_132 kat rfl rfl ?_
            refine mw_aload_n dX6_read_86 rfl ?_
            refine mw_aload_n dX6_read_87 rfl ?_
            refine mw_gr_6_6 dX6_read_88 gs_X6_44 (by first | rfl | assumption) ?_
            refine mw_iload_n dX6_read_91 rfl ?_
            have ft := h4.tr (m2 := u1 m (29 + 5 + 1 + a.toNat) 2 y) ⟨fun c hc => by funext j; rw [u1_o (by omega)], rfl⟩
            have hX3 := hX.try hI ft
            refine mw_aa11 dX6_read_92 (by first | rfl | assumption) (by first | rfl | assumption) (by omega) ?_
            refine mw_aload dX6_read_93 rfl ?_
            refine mw_Vpi (ci := 6) dX6_read_95 ml_X6_264 ok_X6_isJustWritten (by decide) (by first | rfl | assumption) (by decide) rfl rfl rfl (Nat.le_of_ble_eq_true rfl) (c_X_just hX3 hI f1.1 kat (by rw [u1_o (by omega), h5]; omega) (by rw [u1_o (by omega), h5b]; omega) (by rw [u1_s]; omega)) ?_
            rw [u1_s, u1_o (by omega), u1_o (by omega), u1_o (by omega), h5, h5b, h5c]
            have hjc := jwP_c st s (st.1 0 (28 + 5 * a + 3)) (1 - st.1 0 (28 + 5 * a + 1)) q y
            rw [show (12 - y).toNat = (12 - (y + 1)).toNat + 1 by omega, kys] at h6
            refine mw_if_eq (tgt := 104) dX6_read_98 (by decide) (by omega) (fun c_98 => ?_) (fun c_98 => ?_)
            · refine mw_ii7 dX6_read_104 (by decide) rfl ?_
              refine mw_goto (tgt := 72) dX6_read_107 (by decide) ?_
              rw [if_pos c_98, Int.add_zero] at h6
              exact ihI _ _ _ hq6 (by omega) (by omega) ft (by rw [u1_o (by omega)]; exact h5) (by rw [u1_o (by omega)]; exact h5b) (by rw [u1_o (by omega)]; exact h5c) h6
            · refine mw_ii5 dX6_read_101 (by decide) rfl ?_
              refine mw_ii7 dX6_read_104 (by decide) rfl ?_
              refine mw_goto (tgt := 72) dX6_read_107 (by decide) ?_
              rw [if_neg c_98] at h6
              exact ihI _ _ _ hq6 (by omega) (by omega) ft (by rw [u1_o (by omega)]; exact h5) (by rw [u1_o (by omega)]; exact h5b) (by rw [u1_o (by omega)]; exact h5c) h6
      refine mw_iload dX6_read_55 rfl ?_
      refine mw_bipush dX6_read_57 (by decide +kernel) ?_
      refine mw_icmp_ge (tgt := 116) dX6_read_59 (by decide) (by omega) (by omega) (fun c_59 => ?_) (fun c_59 => ?_)
      · refine mw_iload dX6_read_116 rfl ?_
        refine mw_iret dX6_read_118 rfl ?_
        rw [show (6 - q).toNat = 0 by omega, rdK] at h6
        refine ⟨_, rfl, ?_⟩
        unfold sp_read
        rw [if_pos hfl, if_pos ha]
        exact ⟨h6, hX.try hI h4, h4.xf bk29⟩
      · rw [show (6 - q).toNat = (5 - q).toNat + 1 by omega, rdK] at h6
        refine mw_aload dX6_read_62 rfl ?_
        refine mw_iload dX6_read_64 rfl ?_
        refine mw_putI 0 dX6_read_66 ps_X6_124 kat rfl rfl ?_
        refine mw_iconst dX6_read_69 ?_
        refine mw_is7 dX6_read_70 (by decide) rfl ?_
        exact li 13 _ _ _ (by omega) (by omega) (by omega) (h4.tr ⟨fun c hc => by funext j; rw [u1_o (by omega)], rfl⟩) (u1_s _ _ _ _) (by rw [u1_o (by omega)]; exact h5b) (by rw [u1_o (by omega)]; exact h5c) h6
  refine mw_aload_n dX6_read_0 rfl ?_
  refine mw_iload_n dX6_read_1 rfl ?_
  refine mw_Vpi (ci := 6) dX6_read_2 ml_X6_229 ok_X6_faultOfSheet (by decide) (by first | rfl | assumption) (by decide) rfl rfl rfl (Nat.le_of_ble_eq_true rfl) (c_X_fault hX hI (by omega)) ?_
  refine mw_is3 dX6_read_5 (by decide) rfl ?_
  refine mw_iload_n dX6_read_6 rfl ?_
  refine mw_if_eq (tgt := 16) dX6_read_7 (by decide) (by omega) (fun c_7 => ?_) (fun c_7 => ?_)
  · refine mw_aload_n dX6_read_16 rfl ?_
    refine mw_gr_6_0 dX6_read_17 gs_X6_10 (by first | rfl | assumption) ?_
    refine mw_iload_n dX6_read_20 rfl ?_
    refine mw_Vpi (ci := 1) dX6_read_21 ml_X6_117 ok_X1_has (by decide) (by first | rfl | assumption) (by decide) rfl rfl rfl (Nat.le_of_ble_eq_true rfl) (c_F_has bk1 (by rw [ec]; exact hn) (by omega)) ?_
    refine mw_if_ne (tgt := 34) dX6_read_24 (by decide) (hasI_bd _ _) (fun c_24 => ?_) (fun c_24 => ?_)
    · have d_24 := hasI_1 c_24
      rw [ec] at d_24
      refine mw_aload_n dX6_read_34 rfl ?_
      refine mw_Vv (ci := 6) dX6_read_35 ml_X6_183 ok_X6_startTrial (by decide) (by first | rfl | assumption) (by decide) rfl rfl rfl (Nat.le_of_ble_eq_true rfl) (c_X_startTrial hF hFI) (fun m_35 h_35 => ?_)
      refine mw_aload_n dX6_read_38 rfl ?_
      refine mw_gr_6_3 dX6_read_39 gs_X6_23 (by first | rfl | assumption) ?_
      refine mw_gr_1_2 dX6_read_42 gs_X6_120 (by first | rfl | assumption) ?_
      refine mw_iload_n dX6_read_45 rfl ?_
      refine mw_aa10 dX6_read_46 (by first | rfl | assumption) (by first | rfl | assumption) (by omega) ?_
      refine mw_as4 dX6_read_47 (by decide) rfl ?_
      refine mw_iconst dX6_read_49 ?_
      refine mw_is5 dX6_read_50 (by decide) rfl ?_
      refine mw_iconst dX6_read_52 ?_
      refine mw_is6 dX6_read_53 (by decide) rfl ?_
      have ea := h_35.1.at hFI d_24
      rw [c_7]
      exact lo 7 _ _ _ _ c_7 d_24 (by omega) (by omega) h_35.2 ea.2.1 ea.2.2.2.1 rfl
    · have d_24 := hasI_0 c_24
      rw [ec] at d_24
      refine mw_aload_n dX6_read_27 rfl ?_
      refine mw_ldc dX6_read_28 ct_X6_61 ?_
      refine mw_Vi (ci := 6) dX6_read_30 ml_X6_62 ok_X6_found (by decide) (by first | rfl | assumption) (by decide) rfl rfl rfl (Nat.le_of_ble_eq_true rfl) (c_X_find hX hI 0 (by decide) (by decide)) (fun z_30 m_30 h_30 => ?_)
      refine mw_iret dX6_read_33 rfl ?_
      refine ⟨_, rfl, ?_⟩
      unfold sp_read
      rw [if_pos c_7, if_neg d_24]
      exact h_30
  · refine mw_aload_n dX6_read_10 rfl ?_
    refine mw_iload_n dX6_read_11 rfl ?_
    refine mw_Vi (ci := 6) dX6_read_12 ml_X6_62 ok_X6_found (by decide) (by first | rfl | assumption) (by decide) rfl rfl rfl (Nat.le_of_ble_eq_true rfl) (c_X_find hX hI (-1000000001 - fltS st s) (by omega) (by omega)) (fun z_12 m_12 h_12 => ?_)
    refine mw_iret dX6_read_15 rfl ?_
    refine ⟨_, rfl, ?_⟩
    unfold sp_read
    rw [if_neg c_7]
    exact h_12

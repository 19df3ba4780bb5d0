def sp_image (st : aS) : Int × aS := (1, sU (sU st 1 (st.1 0)) 2 (upF (st.1 2) 0 1))
def sp_undo (st : aS) : Int × aS := if st.1 2 0 = 0 then fnd st 3 else (st.1 1 1, sU st 0 (st.1 1))
def sp_tear (st : aS) : Int × aS := (st.1 2 0, sU st 2 (upF (st.1 2) 0 0))
def sp_count (st : aS) (v : Int) : Int × aS := if v = 0 then (st.1 0 1, st) else if v = 1 then (st.1 2 1, st) else if v = 2 then (sumW (st.1 0) (st.1 0 1).toNat, st) else if v = 3 then (sumB (st.1 0) (st.1 0 1).toNat, st) else fnd st 0
def fsum (g : Int → Int) : Nat → Int
  | 0 => 0
  | n + 1 => fsum g n + g (n : Int)
def sp_status (st : aS) (v : Int) : Int × aS := if -1 ≤ v ∧ v ≤ 6 then (if v < 0 then (fsum (st.1 4) 7, st) else (st.1 4 v, st)) else fnd st 0
def stT (st : aS) (t : Int → Int) (L : Int) : aS := sU (sU st 3 t) 2 (upF (st.1 2) 1 L)
def sp_wipe (st : aS) : Int × aS := (st.1 2 1, stT st (st.1 3) 0)
/-- a byte of a number -/
def byt (x b : Int) : Int := (((iV x).toBitVec.toNat / 2 ^ (8 * b.toNat) % 256 : Nat) : Int)
theorem byt_bd (x b : Int) : 0 ≤ byt x b ∧ byt x b < 256 := by
  unfold byt
  omega
theorem sh8_tab : ∀ b : Nat, b < 4 → ((((iV (8 * (b : Int))).toUInt32 &&& Int32.toUInt32 31).toBitVec % 32).toNat = 8 * b) ∧ (((iV (8 * (b : Int))) &&& 31).toBitVec.smod 32).toNat = 8 * b := by decide +kernel
theorem byt_u (x : Int) {b : Int} (hb : 0 ≤ b ∧ b < 4) : bAnd (bUshr x (8 * b)) 255 = byt x b := by
  obtain ⟨h1, -⟩ := sh8_tab b.toNat (by omega)
  rw [show ((b.toNat : Nat) : Int) = b by omega] at h1
  unfold bAnd bUshr byt
  rw [iV_of, pk_and _ (m := iV 255) 8 (by decide +kernel), pk_ushr _ _ _ h1, nI_toInt (by omega)]
theorem byt_s (x : Int) {b : Int} (hb : 0 ≤ b ∧ b < 4) : bAnd (bShr x (8 * b)) 255 = byt x b := by
  obtain ⟨-, h2⟩ := sh8_tab b.toNat (by omega)
  rw [show ((b.toNat : Nat) : Int) = b by omega] at h2
  unfold bAnd bShr byt
  rw [iV_of, pk_and _ (m := iV 255) 8 (by decide +kernel), nI_toInt (by omega)]
  have h3 := pk_shr (iV x) (iV (8 * b) &&& 31) _ h2
  have h4 : ∀ y : Int32, y.toInt = if 2 * y.toBitVec.toNat < 4294967296 then (y.toBitVec.toNat : Int) else (y.toBitVec.toNat : Int) - 4294967296 := fun y => BitVec.toInt_eq_toNat_cond y.toBitVec
  rw [h4, h4 (iV x), Int.shiftRight_eq_div_pow] at h3
  have h5 := (iV x >>> (iV (8 * b) &&& 31)).toBitVec.isLt
  have h6 := (iV x).toBitVec.isLt
  generalize (iV x >>> (iV (8 * b) &&& 31)).toBitVec.toNat = p at h3 h5 ⊢
  generalize (iV x).toBitVec.toNat = q at h3 h6 ⊢
  rcases (show b = 0 ∨ b = 1 ∨ b = 2 ∨ b = 3 by omega) with rfl | rfl | rfl | rfl
  · have e : ((2 : Nat) ^ (8 * (0 : Int).toNat)) = 1 := rfl
    rw [e] at h3 ⊢
    split at h3 <;> split at h3 <;> omega
  · have e : ((2 : Nat) ^ (8 * (1 : Int).toNat)) = 256 := rfl
    rw [e] at h3 ⊢
    split at h3 <;> split at h3 <;> omega
  · have e : ((2 : Nat) ^ (8 * (2 : Int).toNat)) = 65536 := rfl
    rw [e] at h3 ⊢
    split at h3 <;> split at h3 <;> omega
  · have e : ((2 : Nat) ^ (8 * (3 : Int).toNat)) = 16777216 := rfl
    rw [e] at h3 ⊢
    split at h3 <;> split at h3 <;> omega
def feT (t : Int → Int) (L x n : Int) : Int → Int := fun i => if L ≤ i ∧ i < L + n then byt x (n - 1 - (i - L)) else t i
def sp_feed (st : aS) (x n : Int) : Int × aS := if 1 ≤ n ∧ n ≤ 4 then (if 120 < st.1 2 1 + n then fnd st 1 else (st.1 2 1 + n, stT st (feT (st.1 3) (st.1 2 1) x n) (st.1 2 1 + n))) else fnd st 0
theorem XR.tape {μ m : mMem} {st : aS} (h : XR μ st) (hI : SI st) {t : Int → Int} {L : Int} (m1 : ∀ c : Nat, c ≠ 43 → c ≠ 43 + 1 → m.1 c = μ.1 c) (m2 : m.2 = μ.2) (m3 : m.1 43 1 = L) (m4 : ∀ i : Int, 0 ≤ i → i < L → m.1 (43 + 1) i = t i) : XR m (stT st t L) := by
  obtain ⟨h1, h2, h3, h4, h5, h6, h7⟩ := h
  unfold stT
  refine ⟨?_, ?_, ?_, ?_, fun i q1 q2 => ?_, fun j q1 q2 => ?_, fun s q1 q2 => ?_⟩
  · rw [sU_o (by omega), sU_o (by omega)]
    exact h1.keep hI.1.2.1.2 (fun c q1 q2 => m1 c (by omega) (by omega))
  · rw [sU_o (by omega), sU_o (by omega)]
    exact h2.keep hI.2.2.1.2.1.2 (fun c q1 q2 => m1 c (by omega) (by omega))
  · rw [sU_s, upF_o (by omega), m1 _ (by omega) (by omega)]; exact h3
  · rw [sU_s, upF_s]; exact m3
  · rw [sU_s, upF_s] at q2
    rw [sU_o (by omega), sU_s]
    exact m4 i q1 q2
  · rw [sU_o (by omega), sU_o (by omega), m1 _ (by omega) (by omega)]; exact h6 j q1 q2
  · rw [sU_o (by omega), sU_o (by omega), sU_o (by omega), sU_o (by omega), m1 _ (by omega) (by omega), m2]; exact h7 s q1 q2
theorem XR.kept {μ m : mMem} {st : aS} (h : XR μ st) (hI : SI st) {v : Int} (m1 : ∀ c : Nat, c ≠ 0 → m.1 c = μ.1 c) (m2 : m.2 = μ.2) (m3 : m.1 0 2 = v) : XR m (sU st 2 (upF (st.1 2) 0 v)) := by
  obtain ⟨h1, h2, h3, h4, h5, h6, h7⟩ := h
  refine ⟨?_, ?_, ?_, ?_, fun i q1 q2 => ?_, fun j q1 q2 => ?_, fun s q1 q2 => ?_⟩
  · rw [sU_o (by omega)]
    exact h1.keep hI.1.2.1.2 (fun c q1 q2 => m1 c (by omega))
  · rw [sU_o (by omega)]
    exact h2.keep hI.2.2.1.2.1.2 (fun c q1 q2 => m1 c (by omega))
  · rw [sU_s, upF_s]; exact m3
  · rw [sU_s, upF_o (by omega), m1 _ (by omega)]; exact h4
  · rw [sU_s, upF_o (by omega)] at q2
    rw [sU_o (by omega), m1 _ (by omega)]; exact h5 i q1 q2
  · rw [sU_o (by omega), m1 _ (by omega)]; exact h6 j q1 q2
  · rw [sU_o (by omega), sU_o (by omega), m1 _ (by omega), m2]; exact h7 s q1 q2
theorem XR.img {μ m : mMem} {st : aS} (h : XR μ st) (hI : SI st) (hF : FUG m 15 (st.1 0)) (hf : FR 15 μ m) : XR m (sU st 1 (st.1 0)) := by
  obtain ⟨h1, h2, h3, h4, h5, h6, h7⟩ := h
  refine ⟨?_, ?_, ?_, ?_, fun i q1 q2 => ?_, fun j q1 q2 => ?_, fun s q1 q2 => ?_⟩
  · rw [sU_o (by omega)]
    exact h1.keep hI.1.2.1.2 (fun c q1 q2 => hf.1 c (by omega))
  · rw [sU_s]; exact hF
  · rw [sU_o (by omega), hf.1 0 (by omega)]; exact h3
  · rw [sU_o (by omega), hf.1 _ (by omega)]; exact h4
  · rw [sU_o (by omega)] at q2 ⊢
    rw [hf.1 _ (by omega)]; exact h5 i q1 q2
  · rw [sU_o (by omega), hf.1 _ (by omega)]; exact h6 j q1 q2
  · rw [sU_o (by omega), sU_o (by omega), hf.1 _ (by omega), hf.2]; exact h7 s q1 q2
theorem img_si {st : aS} (h : SI st) : SI (sU st 1 (st.1 0)) := by
  unfold SI
  rw [sU_o (by omega), sU_s, sU_o (by omega), sU_o (by omega), sU_o (by omega), sU_o (by omega)]
  exact ⟨h.1, h.2.1, h.1, h.2.1, h.2.2.2.2⟩
theorem xf_0 {μ : mMem} {j v : Int} {c : Nat} (hc : c < 56) : XF μ (u1 μ c j v) := fun c' hc' => ⟨by funext i; rw [u1_o (by omega)], rfl⟩
set_option maxHeartbeats 4000000 in
set_option maxRecDepth 100000 in
theorem c_X_image {G : mG} {μ : mMem} {st : aS} (hX : XR μ st) (hI : SI st) : mM G yX6_image cX6_image 1 (some .int) 3 [.ref 0] μ (qX μ (sp_image st)) := by
  obtain ⟨hF, hK, hkp, htl, htb, hfd, hsh⟩ := id hX
  have hFI := hI.1
  have ec := hF.1
  have hn := hFI.2.1
  have ed := hF.2.1
  have h0 := hFI.1
  have h99 := hI.2.1
  refine mM.of (lv := [some (.ref 0)]) 0 (by decide +kernel) (Nat.le_of_ble_eq_true rfl) rfl ?_
  intro X
  refine mw_aload_n dX6_image_0 rfl ?_
  refine mw_gr_6_1 dX6_image_1 gs_X6_16 (by first | rfl | assumption) ?_
  refine mw_aload_n dX6_image_4 rfl ?_
  refine mw_gr_6_0 dX6_image_5 gs_X6_10 (by first | rfl | assumption) ?_
  refine mw_Vv (ci := 1) dX6_image_8 ml_X6_214 ok_X1_become (by decide) (by first | rfl | assumption) (by decide) rfl rfl rfl (Nat.le_of_ble_eq_true rfl) (c_F_become bk15 bk1 (by decide) hF hFI) (fun m_8 h_8 => ?_)
  refine mw_aload_n dX6_image_11 rfl ?_
  refine mw_iconst dX6_image_12 ?_
  refine mw_putZ 2 dX6_image_13 ps_X6_19 (by first | rfl | assumption) rfl rfl (by omega) ?_
  refine mw_iconst dX6_image_16 ?_
  refine mw_iret dX6_image_17 rfl ?_
  have g := hX.img hI h_8.1 h_8.2
  have g2 := g.kept (img_si hI) (m := u1 m_8 0 2 1) (v := 1) (fun c hc => by funext j; rw [u1_o (by omega)]) rfl (u1_s _ _ _ _)
  rw [sU_o (by omega)] at g2
  exact ⟨_, rfl, rfl, g2, (h_8.2.xf bk15).tr (xf_0 (by omega))⟩
set_option maxHeartbeats 4000000 in
set_option maxRecDepth 100000 in
theorem c_X_undo {G : mG} {μ : mMem} {st : aS} (hX : XR μ st) (hI : SI st) : mM G yX6_undo cX6_undo 1 (some .int) 3 [.ref 0] μ (qX μ (sp_undo st)) := by
  obtain ⟨hF, hK, hkp, htl, htb, hfd, hsh⟩ := id hX
  have hFI := hI.1
  have ec := hF.1
  have hn := hFI.2.1
  have ed := hF.2.1
  have h0 := hFI.1
  have h99 := hI.2.1
  refine mM.of (lv := [some (.ref 0)]) 0 (by decide +kernel) (Nat.le_of_ble_eq_true rfl) rfl ?_
  intro X
  refine mw_aload_n dX6_undo_0 rfl ?_
  refine mw_getI 2 dX6_undo_1 gs_X6_19 (by first | rfl | assumption) rfl rfl ?_
  rw [hkp]
  refine mw_if_ne (tgt := 14) dX6_undo_4 (by decide) (by have := hI.2.2.2.2.1; omega) (fun c_4 => ?_) (fun c_4 => ?_)
  · refine mw_aload_n dX6_undo_14 rfl ?_
    refine mw_gr_6_0 dX6_undo_15 gs_X6_10 (by first | rfl | assumption) ?_
    refine mw_aload_n dX6_undo_18 rfl ?_
    refine mw_gr_6_1 dX6_undo_19 gs_X6_16 (by first | rfl | assumption) ?_
    refine mw_Vv (ci := 1) dX6_undo_22 ml_X6_214 ok_X1_become (by decide) (by first | rfl | assumption) (by decide) rfl rfl rfl (Nat.le_of_ble_eq_true rfl) (c_F_become bk1 bk15 (by decide) hK hI.2.2.1) (fun m_22 h_22 => ?_)
    refine mw_aload_n dX6_undo_25 rfl ?_
    refine mw_gr_6_0 dX6_undo_26 gs_X6_10 (by first | rfl | assumption) ?_
    refine mw_getI 3 dX6_undo_29 gs_X6_110 (by first | rfl | assumption) rfl rfl ?_
    refine mw_iret dX6_undo_32 rfl ?_
    refine ⟨_, rfl, ?_⟩
    unfold sp_undo
    rw [if_neg c_4]
    exact ⟨h_22.1.1, hX.row hI h_22.1 h_22.2, h_22.2.xf bk1⟩
  · refine mw_aload_n dX6_undo_7 rfl ?_
    refine mw_ldc dX6_undo_8 ct_X6_149 ?_
    refine mw_Vi (ci := 6) dX6_undo_10 ml_X6_62 ok_X6_found (by decide) (by first | rfl | assumption) (by decide) rfl rfl rfl (Nat.le_of_ble_eq_true rfl) (c_X_find hX hI 3 (by decide) (by decide)) (fun z_10 m_10 h_10 => ?_)
    refine mw_iret dX6_undo_13 rfl ?_
    refine ⟨_, rfl, ?_⟩
    unfold sp_undo
    rw [if_pos c_4]
    exact h_10
set_option maxHeartbeats 4000000 in
set_option maxRecDepth 100000 in
theorem c_X_tear {G : mG} {μ : mMem} {st : aS} (hX : XR μ st) (hI : SI st) : mM G yX6_tear cX6_tear 2 (some .int) 0 [.ref 0] μ (qX μ (sp_tear st)) := by
  obtain ⟨hF, hK, hkp, htl, htb, hfd, hsh⟩ := id hX
  have hFI := hI.1
  have ec := hF.1
  have hn := hFI.2.1
  have ed := hF.2.1
  have h0 := hFI.1
  have h99 := hI.2.1
  refine mM.of (lv := [some (.ref 0), none]) 1 (by decide +kernel) (Nat.le_of_ble_eq_true rfl) rfl ?_
  intro X
  refine mw_aload_n dX6_tear_0 rfl ?_
  refine mw_getI 2 dX6_tear_1 gs_X6_19 (by first | rfl | assumption) rfl rfl ?_
  rw [hkp]
  refine mw_if_eq (tgt := 11) dX6_tear_4 (by decide) (by have := hI.2.2.2.2.1; omega) (fun c_4 => ?_) (fun c_4 => ?_)
  · refine mw_iconst dX6_tear_11 ?_
    refine mw_is1 dX6_tear_12 (by decide) rfl ?_
    refine mw_aload_n dX6_tear_13 rfl ?_
    refine mw_iconst dX6_tear_14 ?_
    refine mw_putZ 2 dX6_tear_15 ps_X6_19 (by first | rfl | assumption) rfl rfl (by omega) ?_
    refine mw_iload_n dX6_tear_18 rfl ?_
    refine mw_iret dX6_tear_19 rfl ?_
    exact ⟨_, rfl, by show (0 : Int) = st.1 2 0; omega, hX.kept hI (m := u1 μ 0 2 0) (fun c hc => by funext j; rw [u1_o (by omega)]) rfl (u1_s _ _ _ _), xf_0 (by omega)⟩
  · refine mw_iconst dX6_tear_7 ?_
    refine mw_goto (tgt := 12) dX6_tear_8 (by decide) ?_
    refine mw_is1 dX6_tear_12 (by decide) rfl ?_
    refine mw_aload_n dX6_tear_13 rfl ?_
    refine mw_iconst dX6_tear_14 ?_
    refine mw_putZ 2 dX6_tear_15 ps_X6_19 (by first | rfl | assumption) rfl rfl (by omega) ?_
    refine mw_iload_n dX6_tear_18 rfl ?_
    refine mw_iret dX6_tear_19 rfl ?_
    exact ⟨_, rfl, by show (1 : Int) = st.1 2 0; have := hI.2.2.2.2.1; omega, hX.kept hI (m := u1 μ 0 2 0) (fun c hc => by funext j; rw [u1_o (by omega)]) rfl (u1_s _ _ _ _), xf_0 (by omega)⟩
set_option maxHeartbeats 4000000 in
set_option maxRecDepth 100000 in
theorem c_X_count {G : mG} {μ : mMem} {st : aS} (hX : XR μ st) (hI : SI st) {v : Int} (hv_ : -2147483648 ≤ v ∧ v ≤ 2147483647) : mM G yX6_count cX6_count 2 (some .int) 2 [.ref 0, .int (iV v)] μ (qX μ (sp_count st v)) := by
  obtain ⟨hF, hK, hkp, htl, htb, hfd, hsh⟩ := id hX
  have hFI := hI.1
  have ec := hF.1
  have hn := hFI.2.1
  have ed := hF.2.1
  have h0 := hFI.1
  have h99 := hI.2.1
  refine mM.of (lv := [some (.ref 0), some (.int (iV v))]) 0 (by decide +kernel) (Nat.le_of_ble_eq_true rfl) rfl ?_
  intro X
  refine mw_iload_n dX6_count_0 rfl ?_
  rcases (show v = 0 ∨ v = 1 ∨ v = 2 ∨ v = 3 ∨ (v < 0 ∨ 3 < v) by omega) with rfl | rfl | rfl | rfl | c_1
  · refine mw_tblIn (off := 31) (tgt := 32) dX6_count_1 (by decide) (by decide) (by decide) (by decide) (by decide) ?_
    refine mw_aload_n dX6_count_32 rfl ?_
    refine mw_gr_6_0 dX6_count_33 gs_X6_10 (by first | rfl | assumption) ?_
    refine mw_getI 3 dX6_count_36 gs_X6_110 (by first | rfl | assumption) rfl rfl ?_
    refine mw_iret dX6_count_39 rfl ?_
    refine ⟨_, rfl, ?_⟩
    unfold sp_count
    rw [if_pos rfl]
    exact ⟨ec, hX, XF.rf⟩
  · refine mw_tblIn (off := 39) (tgt := 40) dX6_count_1 (by decide) (by decide) (by decide) (by decide) (by decide) ?_
    refine mw_aload_n dX6_count_40 rfl ?_
    refine mw_gr_6_4 dX6_count_41 gs_X6_29 (by first | rfl | assumption) ?_
    refine mw_getI 1 dX6_count_44 gs_X6_207 (by first | rfl | assumption) rfl rfl ?_
    refine mw_iret dX6_count_47 rfl ?_
    refine ⟨_, rfl, ?_⟩
    unfold sp_count
    rw [if_neg (by omega), if_pos rfl]
    exact ⟨htl, hX, XF.rf⟩
  · refine mw_tblIn (off := 47) (tgt := 48) dX6_count_1 (by decide) (by decide) (by decide) (by decide) (by decide) ?_
    refine mw_aload_n dX6_count_48 rfl ?_
    refine mw_gr_6_0 dX6_count_49 gs_X6_10 (by first | rfl | assumption) ?_
    refine mw_Vpi (ci := 1) dX6_count_52 ml_X6_268 ok_X1_wroteTogether (by decide) (by first | rfl | assumption) (by decide) rfl rfl rfl (Nat.le_of_ble_eq_true rfl) (c_F_wrote bk1 hF hFI) ?_
    refine mw_iret dX6_count_55 rfl ?_
    refine ⟨_, rfl, ?_⟩
    unfold sp_count
    rw [if_neg (by omega), if_neg (by omega), if_pos rfl]
    exact ⟨rfl, hX, XF.rf⟩
  · refine mw_tblIn (off := 55) (tgt := 56) dX6_count_1 (by decide) (by decide) (by decide) (by decide) (by decide) ?_
    refine mw_aload_n dX6_count_56 rfl ?_
    refine mw_gr_6_0 dX6_count_57 gs_X6_10 (by first | rfl | assumption) ?_
    refine mw_Vpi (ci := 1) dX6_count_60 ml_X6_271 ok_X1_blotsTogether (by decide) (by first | rfl | assumption) (by decide) rfl rfl rfl (Nat.le_of_ble_eq_true rfl) (c_F_blots bk1 hF hFI) ?_
    refine mw_iret dX6_count_63 rfl ?_
    refine ⟨_, rfl, ?_⟩
    unfold sp_count
    rw [if_neg (by omega), if_neg (by omega), if_neg (by omega), if_pos rfl]
    exact ⟨rfl, hX, XF.rf⟩
  · refine mw_tblOut (tgt := 64) dX6_count_1 (by omega) c_1 (by decide) ?_
    refine mw_aload_n dX6_count_64 rfl ?_
    refine mw_ldc dX6_count_65 ct_X6_61 ?_
    refine mw_Vi (ci := 6) dX6_count_67 ml_X6_62 ok_X6_found (by decide) (by first | rfl | assumption) (by decide) rfl rfl rfl (Nat.le_of_ble_eq_true rfl) (c_X_find hX hI 0 (by decide) (by decide)) (fun z_67 m_67 h_67 => ?_)
    refine mw_iret dX6_count_70 rfl ?_
    refine ⟨_, rfl, ?_⟩
    unfold sp_count
    rw [if_neg (by omega), if_neg (by omega), if_neg (by omega), if_neg (by omega)]
    exact h_67
set_option maxHeartbeats 4000000 in
set_option maxRecDepth 100000 in
theorem c_X_status {G : mG} {μ : mMem} {st : aS} (hX : XR μ st) (hI : SI st) {v : Int} (hv_ : -2147483648 ≤ v ∧ v ≤ 2147483647) : mM G yX6_status cX6_status 4 (some .int) 2 [.ref 0, .int (iV v)] μ (qX μ (sp_status st v)) := by
  obtain ⟨hF, hK, hkp, htl, htb, hfd, hsh⟩ := id hX
  have hFI := hI.1
  have ec := hF.1
  have hn := hFI.2.1
  have ed := hF.2.1
  have h0 := hFI.1
  have h99 := hI.2.1
  refine mM.of (lv := [some (.ref 0), some (.int (iV v)), none, none]) 2 (by decide +kernel) (Nat.le_of_ble_eq_true rfl) rfl ?_
  intro X
  have lp : ∀ (n_ : Nat) (i c : Int), (-1 ≤ v ∧ v < 0) → (0 ≤ i) → (i ≤ 7) → (8 ≤ i + n_) → (c = fsum (st.1 4) i.toNat) → mW X cX6_status 4 (some .int) yX6_status.cls 2 G (qX μ (sp_status st v)) 32 [some (.ref 0), some (.int (iV v)), some (.int (iV c)), some (.int (iV i))] [] μ := by
    intro n_
    induction n_ with
    | zero =>
      intro i c hv h1 h2 h3 h5
      omega
    | succ n_ ih =>
      intro i c hv h1 h2 h3 h5
      refine mw_iload_n dX6_status_32 rfl ?_
      refine mw_bipush dX6_status_33 (by decide +kernel) ?_
      refine mw_icmp_ge (tgt := 53) dX6_status_35 (by decide) (by omega) (by omega) (fun c_35 => ?_) (fun c_35 => ?_)
      · refine mw_iload_n dX6_status_53 rfl ?_
        refine mw_iret dX6_status_54 rfl ?_
        refine ⟨_, rfl, ?_⟩
        unfold sp_status
        rw [if_pos (by omega), if_pos (by omega)]
        exact ⟨by rw [h5, show i.toNat = 7 by omega], hX, XF.rf⟩
      · refine mw_iload_n dX6_status_38 rfl ?_
        refine mw_aload_n dX6_status_39 rfl ?_
        refine mw_gr_6_7 dX6_status_40 gs_X6_49 (by first | rfl | assumption) ?_
        refine mw_iload_n dX6_status_43 rfl ?_
        refine mw_iald 7 dX6_status_44 (by first | rfl | assumption) (by first | rfl | assumption) (by omega) ?_
        rw [hfd i (by omega) (by omega)]
        refine mw_iadd dX6_status_45 ?_
        refine mw_is2 dX6_status_46 (by decide) rfl ?_
        refine mw_ii3 dX6_status_47 (by decide) rfl ?_
        refine mw_goto (tgt := 32) dX6_status_50 (by decide) ?_
        exact ih _ _ hv (by omega) (by omega) (by omega) (by rw [show (i + 1).toNat = i.toNat + 1 by omega, fsum, h5, show ((i.toNat : Nat) : Int) = i by omega])
  refine mw_iload_n dX6_status_0 rfl ?_
  refine mw_iconst dX6_status_1 ?_
  refine mw_bipush dX6_status_2 (by decide +kernel) ?_
  refine mw_Spi dX6_status_4 ml_X6_57 ok_X6_isWithin (by decide) rfl rfl (Nat.le_of_ble_eq_true rfl) (c_X_within (by omega) (by omega) (by omega)) ?_
  refine mw_if_ne (tgt := 17) dX6_status_7 (by decide) (wi_bd _ _ _) (fun c_7 => ?_) (fun c_7 => ?_)
  · have d_7 := wi_1 c_7
    refine mw_iload_n dX6_status_17 rfl ?_
    refine mw_if_lt (tgt := 28) dX6_status_18 (by decide) (by omega) (fun c_18 => ?_) (fun c_18 => ?_)
    · refine mw_iconst dX6_status_28 ?_
      refine mw_is2 dX6_status_29 (by decide) rfl ?_
      refine mw_iconst dX6_status_30 ?_
      refine mw_is3 dX6_status_31 (by decide) rfl ?_
      exact lp 8 _ _ (by omega) (by omega) (by omega) (by omega) rfl
    · refine mw_aload_n dX6_status_21 rfl ?_
      refine mw_gr_6_7 dX6_status_22 gs_X6_49 (by first | rfl | assumption) ?_
      refine mw_iload_n dX6_status_25 rfl ?_
      refine mw_iald 7 dX6_status_26 (by first | rfl | assumption) (by first | rfl | assumption) (by omega) ?_
      refine mw_iret dX6_status_27 rfl ?_
      refine ⟨_, rfl, ?_⟩
      unfold sp_status
      rw [if_pos (by omega), if_neg (by omega)]
      exact ⟨hfd v (by omega) (by omega), hX, XF.rf⟩
  · have d_7 := wi_0 c_7
    refine mw_aload_n dX6_status_10 rfl ?_
    refine mw_ldc dX6_status_11 ct_X6_61 ?_
    refine mw_Vi (ci := 6) dX6_status_13 ml_X6_62 ok_X6_found (by decide) (by first | rfl | assumption) (by decide) rfl rfl rfl (Nat.le_of_ble_eq_true rfl) (c_X_find hX hI 0 (by decide) (by decide)) (fun z_13 m_13 h_13 => ?_)
    refine mw_iret dX6_status_16 rfl ?_
    refine ⟨_, rfl, ?_⟩
    unfold sp_status
    rw [if_neg (by omega)]
    exact h_13
set_option maxHeartbeats 4000000 in
set_option maxRecDepth 100000 in
theorem c_X_wipe {G : mG} {μ : mMem} {st : aS} (hX : XR μ st) (hI : SI st) : mM G yX6_wipe cX6_wipe 2 (some .int) 1 [.ref 0] μ (qX μ (sp_wipe st)) := by
  obtain ⟨hF, hK, hkp, htl, htb, hfd, hsh⟩ := id hX
  have hFI := hI.1
  have ec := hF.1
  have hn := hFI.2.1
  have ed := hF.2.1
  have h0 := hFI.1
  have h99 := hI.2.1
  refine mM.of (lv := [some (.ref 0), none]) 1 (by decide +kernel) (Nat.le_of_ble_eq_true rfl) rfl ?_
  intro X
  refine mw_aload_n dX6_wipe_0 rfl ?_
  refine mw_gr_6_4 dX6_wipe_1 gs_X6_29 (by first | rfl | assumption) ?_
  refine mw_getI 1 dX6_wipe_4 gs_X6_207 (by first | rfl | assumption) rfl rfl ?_
  refine mw_is1 dX6_wipe_7 (by decide) rfl ?_
  refine mw_aload_n dX6_wipe_8 rfl ?_
  refine mw_gr_6_4 dX6_wipe_9 gs_X6_29 (by first | rfl | assumption) ?_
  refine mw_Vpv (ci := 4) dX6_wipe_12 ml_X6_209 ok_X4_clear (by decide) (by first | rfl | assumption) (by decide) rfl rfl rfl (Nat.le_of_ble_eq_true rfl) (c_P_clear rfl) ?_
  refine mw_iload_n dX6_wipe_15 rfl ?_
  refine mw_iret dX6_wipe_16 rfl ?_
  exact ⟨_, rfl, htl, hX.tape hI (fun c q1 q2 => by funext j; rw [u1_o (by omega)]) rfl (u1_s _ _ _ _) (fun i q1 q2 => by omega), xf_0 (by omega)⟩
set_option maxHeartbeats 4000000 in
set_option maxRecDepth 100000 in
theorem c_X_feed {G : mG} {μ : mMem} {st : aS} (hX : XR μ st) (hI : SI st) {x n : Int} (hn_ : -2147483648 ≤ n ∧ n ≤ 2147483647) : mM G yX6_feed cX6_feed 4 (some .int) 2 [.ref 0, .int (iV x), .int (iV n)] μ (qX μ (sp_feed st x n)) := by
  obtain ⟨hF, hK, hkp, htl, htb, hfd, hsh⟩ := id hX
  have hFI := hI.1
  have ec := hF.1
  have hn := hFI.2.1
  have ed := hF.2.1
  have h0 := hFI.1
  have h99 := hI.2.1
  have hL := hI.2.2.2.2.2.1
  refine mM.of (lv := [some (.ref 0), some (.int (iV x)), some (.int (iV n)), none]) 1 (by decide +kernel) (Nat.le_of_ble_eq_true rfl) rfl ?_
  intro X
  have lp : ∀ (n_ : Nat) (i : Int) (m : mMem), (1 ≤ n ∧ n ≤ 4) → (st.1 2 1 + n ≤ 120) → (-1 ≤ i) → (i < n) → (i + 2 ≤ n_) → (∀ c : Nat, c ≠ 43 → c ≠ 43 + 1 → m.1 c = μ.1 c) → (m.2 = μ.2) → (m.1 43 1 = st.1 2 1 + (n - 1 - i)) → (∀ j : Int, 0 ≤ j → j < st.1 2 1 + (n - 1 - i) → m.1 (43 + 1) j = feT (st.1 3) (st.1 2 1) x n j) → mW X cX6_feed 4 (some .int) yX6_feed.cls 2 G (qX μ (sp_feed st x n)) 41 [some (.ref 0), some (.int (iV x)), some (.int (iV n)), some (.int (iV i))] [] m := by
    intro n_
    induction n_ with
    | zero =>
      intro i m hn2 hr h1 h2 h3 h4 h5 h6 h7
      omega
    | succ n_ ih =>
      intro i m hn2 hr h1 h2 h3 h4 h5 h6 h7
      refine mw_iload_n dX6_feed_41 rfl ?_
      refine mw_if_lt (tgt := 68) dX6_feed_42 (by decide) (by omega) (fun c_42 => ?_) (fun c_42 => ?_)
      · refine mw_aload_n dX6_feed_68 rfl ?_
        refine mw_gr_6_4 dX6_feed_69 gs_X6_29 (by first | rfl | assumption) ?_
        refine mw_getI 1 dX6_feed_72 gs_X6_207 (by first | rfl | assumption) rfl rfl ?_
        refine mw_iret dX6_feed_75 rfl ?_
        refine ⟨_, rfl, ?_⟩
        unfold sp_feed
        rw [if_pos (by omega), if_neg (by omega)]
        exact ⟨by omega, hX.tape hI h4 h5 (by omega) (fun j q1 q2 => h7 j q1 (by omega)), fun c hc => ⟨h4 c (by omega) (by omega), by rw [h5]⟩⟩
      · refine mw_aload_n dX6_feed_45 rfl ?_
        refine mw_gr_6_4 dX6_feed_46 gs_X6_29 (by first | rfl | assumption) ?_
        refine mw_iload_n dX6_feed_49 rfl ?_
        refine mw_bipush dX6_feed_50 (by decide +kernel) ?_
        refine mw_iload_n dX6_feed_52 rfl ?_
        refine mw_imul dX6_feed_53 ?_
        refine mw_iushr dX6_feed_54 ?_
        refine mw_sipush dX6_feed_55 (by decide +kernel) ?_
        refine mw_iand dX6_feed_58 ?_
        rw [byt_u x (by omega)]
        refine mw_Vpv (ci := 4) dX6_feed_59 ml_X6_208 ok_X4_append (by decide) (by first | rfl | assumption) (by decide) rfl rfl rfl (Nat.le_of_ble_eq_true rfl) (c_P_append rfl rfl rfl (by rw [h6]; omega)) ?_
        refine mw_ii3 dX6_feed_62 (by decide) rfl ?_
        refine mw_goto (tgt := 41) dX6_feed_65 (by decide) ?_
        refine ih _ _ hn2 hr (by omega) (by omega) (by omega) (fun c q1 q2 => ?_) h5 (by rw [u1_s, h6]; omega) (fun j q1 q2 => ?_)
        · rw [← h4 c q1 q2]
          funext j
          rw [u1_o (by omega), u1_o (by omega)]
        · rw [u1_o (by omega)]
          by_cases hj : j = st.1 2 1 + (n - 1 - i)
          · rw [hj, h6, u1_s]
            unfold feT
            rw [if_pos (by omega)]
            congr 1
            omega
          · rw [u1_o (by omega)]
            exact h7 j q1 (by omega)
  refine mw_iload_n dX6_feed_0 rfl ?_
  refine mw_iconst dX6_feed_1 ?_
  refine mw_iconst dX6_feed_2 ?_
  refine mw_Spi dX6_feed_3 ml_X6_57 ok_X6_isWithin (by decide) rfl rfl (Nat.le_of_ble_eq_true rfl) (c_X_within (by omega) (by omega) (by omega)) ?_
  refine mw_if_ne (tgt := 16) dX6_feed_6 (by decide) (wi_bd _ _ _) (fun c_6 => ?_) (fun c_6 => ?_)
  · have d_6 := wi_1 c_6
    refine mw_aload_n dX6_feed_16 rfl ?_
    refine mw_gr_6_4 dX6_feed_17 gs_X6_29 (by first | rfl | assumption) ?_
    refine mw_getI 1 dX6_feed_20 gs_X6_207 (by first | rfl | assumption) rfl rfl ?_
    refine mw_iload_n dX6_feed_23 rfl ?_
    rw [htl]
    refine mw_iadd dX6_feed_24 ?_
    refine mw_bipush dX6_feed_25 (by decide +kernel) ?_
    refine mw_icmp_le (tgt := 37) dX6_feed_27 (by decide) (by omega) (by omega) (fun c_27 => ?_) (fun c_27 => ?_)
    · refine mw_iload_n dX6_feed_37 rfl ?_
      refine mw_iconst dX6_feed_38 ?_
      refine mw_isub dX6_feed_39 ?_
      refine mw_is3 dX6_feed_40 (by decide) rfl ?_
      refine lp 8 _ _ (by omega) (by omega) (by omega) (by omega) (by omega) (fun c q1 q2 => rfl) rfl (by omega) (fun j q1 q2 => ?_)
      rw [htb j q1 (by omega)]
      unfold feT
      rw [if_neg (by omega)]
    · refine mw_aload_n dX6_feed_30 rfl ?_
      refine mw_ldc dX6_feed_31 ct_X6_109 ?_
      refine mw_Vi (ci := 6) dX6_feed_33 ml_X6_62 ok_X6_found (by decide) (by first | rfl | assumption) (by decide) rfl rfl rfl (Nat.le_of_ble_eq_true rfl) (c_X_find hX hI 1 (by decide) (by decide)) (fun z_33 m_33 h_33 => ?_)
      refine mw_iret dX6_feed_36 rfl ?_
      refine ⟨_, rfl, ?_⟩
      unfold sp_feed
      rw [if_pos (by omega), if_pos (by omega)]
      exact h_33
  · have d_6 := wi_0 c_6
    refine mw_aload_n dX6_feed_9 rfl ?_
    refine mw_ldc dX6_feed_10 ct_X6_61 ?_
    refine mw_Vi (ci := 6) dX6_feed_12 ml_X6_62 ok_X6_found (by decide) (by first | rfl | assumption) (by decide) rfl rfl rfl (Nat.le_of_ble_eq_true rfl) (c_X_find hX hI 0 (by decide) (by decide)) (fun z_12 m_12 h_12 => ?_)
    refine mw_iret dX6_feed_15 rfl ?_
    refine ⟨_, rfl, ?_⟩
    unfold sp_feed
    rw [if_neg (by omega)]
    exact h_12

def ofK (k a : Int) : Int := if a = 0 ∨ a = k ∨ (a = 1 ∧ k = 4) ∨ (a = 2 ∧ k = 5) then 1 else 0
def dpK (z : Int) : Int := if z < 0 then 0 else if z = 0 then 1 else if z ≤ 3 then 2 else 3
theorem ofK_st {z a : Int} (hz : 0 ≤ z ∧ z < 6) (ha : 0 ≤ a ∧ a < 6) (hne : ¬ z = a) : ofK z a = (if aboveI z < 0 then 0 else ofK (aboveI z) a) ∧ dpK (aboveI z) + 1 = dpK z ∧ -1 ≤ aboveI z ∧ aboveI z < 6 := by
  rcases (show z = 0 ∨ z = 1 ∨ z = 2 ∨ z = 3 ∨ z = 4 ∨ z = 5 by omega) with rfl | rfl | rfl | rfl | rfl | rfl <;> rcases (show a = 0 ∨ a = 1 ∨ a = 2 ∨ a = 3 ∨ a = 4 ∨ a = 5 by omega) with rfl | rfl | rfl | rfl | rfl | rfl <;> first | exact absurd rfl hne | decide
theorem ofK_s (z : Int) : ofK z z = 1 := by unfold ofK; rw [if_pos (by omega)]
theorem ofK_c (z a : Int) : ofK z a = 0 ∨ ofK z a = 1 := by unfold ofK; split <;> simp
theorem dpK_0 {z : Int} (h : 0 ≤ z ∧ z < 6) : 1 ≤ dpK z ∧ dpK z ≤ 3 := by unfold dpK; split <;> (try split) <;> (try split) <;> omega
set_option maxHeartbeats 4000000 in
set_option maxRecDepth 100000 in
theorem c_X_isOfKind {G : mG} {μ : mMem} {k a : Int} (hk : 0 ≤ k ∧ k < 6) (ha : 0 ≤ a ∧ a < 6) : mM G yX6_isOfKind cX6_isOfKind 4 (some .boolean) 2 [.int (iV k), .int (iV a)] μ (pI (ofK k a) μ) := by
  refine mM.of (lv := [some (.int (iV k)), some (.int (iV a)), none, none]) 2 (by decide +kernel) (Nat.le_of_ble_eq_true rfl) rfl ?_
  intro X
  have lp : ∀ (n_ : Nat) (i z : Int), (0 ≤ i) → (i + dpK z ≤ 3) → (7 ≤ i + n_) → (-1 ≤ z ∧ z < 6) → ((if z < 0 then 0 else ofK z a) = ofK k a) → (0 ≤ dpK z) → mW X cX6_isOfKind 4 (some .boolean) yX6_isOfKind.cls 2 G (pI (ofK k a) μ) 4 [some (.int (iV k)), some (.int (iV a)), some (.int (iV z)), some (.int (iV i))] [] μ := by
    intro n_
    induction n_ with
    | zero =>
      intro i z h1 h2 h3 h4 h5 h6
      omega
    | succ n_ ih =>
      intro i z h1 h2 h3 h4 h5 h6
      refine mw_iload_n dX6_isOfKind_4 rfl ?_
      refine mw_bipush dX6_isOfKind_5 (by decide +kernel) ?_
      refine mw_icmp_ge (tgt := 36) dX6_isOfKind_7 (by decide) (by omega) (by omega) (fun c_7 => ?_) (fun c_7 => ?_)
      · exact absurd c_7 (by omega)
      · refine mw_iload_n dX6_isOfKind_10 rfl ?_
        refine mw_Spi dX6_isOfKind_11 ml_X6_103 ok_X6_isKind (by decide) rfl rfl (Nat.le_of_ble_eq_true rfl) (c_X_isKind (by omega)) ?_
        refine mw_if_eq (tgt := 36) dX6_isOfKind_14 (by decide) (wi_bd _ _ _) (fun c_14 => ?_) (fun c_14 => ?_)
        · have hz := wi_0 c_14
          rw [if_pos (by omega)] at h5
          refine mw_iconst dX6_isOfKind_36 ?_
          refine mw_zret dX6_isOfKind_37 rfl (by decide +kernel) ?_
          exact ⟨by rw [← h5], rfl⟩
        · have hz : 0 ≤ z ∧ z < 6 := by have := wi_1 c_14; omega
          rw [if_neg (by omega)] at h5
          refine mw_iload_n dX6_isOfKind_17 rfl ?_
          refine mw_iload_n dX6_isOfKind_18 rfl ?_
          refine mw_icmp_ne (tgt := 24) dX6_isOfKind_19 (by decide) (by omega) (by omega) (fun c_19 => ?_) (fun c_19 => ?_)
          · obtain ⟨g1, g2, g3⟩ := ofK_st hz ha c_19
            have hd := dpK_0 hz
            refine mw_above dX6_isOfKind_24 ?_
            refine mw_iload_n dX6_isOfKind_27 rfl ?_
            refine mw_aboveAt dX6_isOfKind_28 hz ?_
            refine mw_is2 dX6_isOfKind_29 (by decide) rfl ?_
            refine mw_ii3 dX6_isOfKind_30 (by decide) rfl ?_
            refine mw_goto (tgt := 4) dX6_isOfKind_33 (by decide) ?_
            exact ih _ _ (by omega) (by omega) (by omega) g3 (g1.symm.trans h5) (by omega)
          · refine mw_iconst dX6_isOfKind_22 ?_
            refine mw_zret dX6_isOfKind_23 rfl (by decide +kernel) ?_
            exact ⟨by rw [← h5, c_19, ofK_s], rfl⟩
  refine mw_iload_n dX6_isOfKind_0 rfl ?_
  refine mw_is2 dX6_isOfKind_1 (by decide) rfl ?_
  refine mw_iconst dX6_isOfKind_2 ?_
  refine mw_is3 dX6_isOfKind_3 (by decide) rfl ?_
  have hd := dpK_0 hk
  exact lp 7 _ _ (by omega) (by omega) (by omega) (by omega) (by rw [if_neg (by omega)]) (by omega)
/-! tones out of the groups of four bits of a long -/
def nib (x : Int64) (i : Int) : Int := ((x.toBitVec.toNat / 2 ^ (4 * i.toNat) % 16 % 12 : Nat) : Int)
theorem nib_bd (x : Int64) (i : Int) : 0 ≤ nib x i ∧ nib x i < 12 := by
  unfold nib
  omega
theorem i64_of (x : Int64) : x = lN x.toBitVec.toNat := by
  apply Int64.toBitVec.inj
  show x.toBitVec = (Int64.ofNat x.toBitVec.toNat).toBitVec
  rw [Int64.toBitVec_ofNat']
  simp
theorem l15 (n : Nat) : (lN n &&& 15) = lN (n % 16) := by
  apply Int64.toBitVec.inj
  rw [Int64.toBitVec_and]
  show BitVec.ofNat 64 n &&& 15#64 = BitVec.ofNat 64 (n % 16)
  apply BitVec.eq_of_toNat_eq
  rw [BitVec.toNat_and, BitVec.toNat_ofNat, BitVec.toNat_ofNat]
  show n % 2 ^ 64 &&& 15 = n % 16 % 2 ^ 64
  rw [show (15 : Nat) = 2 ^ 4 - 1 from rfl, Nat.and_two_pow_sub_one_eq_mod]
  omega
theorem sh_tab : ∀ i : Nat, i < 12 → ((iV (4 * (i : Int))).toInt64.toUInt64 &&& Int64.toUInt64 63).toNat = 4 * i ∧ ((iV (4 * (i : Int))).toInt64 &&& 63).toBitVec = BitVec.ofNat 64 (4 * i) := by decide +kernel
theorem nibU (x : Int64) {i : Int} (hi : 0 ≤ i ∧ i < 12) : ((x.toUInt64 >>> ((iV (4 * i)).toInt64.toUInt64 &&& Int64.toUInt64 63)).toInt64 &&& 15).toInt32.toInt = ((x.toBitVec.toNat / 2 ^ (4 * i.toNat) % 16 : Nat) : Int) := by
  obtain ⟨h1, -⟩ := sh_tab i.toNat (by omega)
  rw [show ((i.toNat : Nat) : Int) = i by omega] at h1
  have e : (x.toUInt64 >>> ((iV (4 * i)).toInt64.toUInt64 &&& Int64.toUInt64 63)).toInt64 = lN (x.toBitVec.toNat / 2 ^ (4 * i.toNat)) := by
    apply Int64.toBitVec.inj
    apply BitVec.eq_of_toNat_eq
    show (x.toUInt64 >>> ((iV (4 * i)).toInt64.toUInt64 &&& Int64.toUInt64 63)).toNat = (BitVec.ofNat 64 (x.toBitVec.toNat / 2 ^ (4 * i.toNat))).toNat
    rw [UInt64.toNat_shiftRight, h1, BitVec.toNat_ofNat, show 4 * i.toNat % 64 = 4 * i.toNat by omega, Nat.shiftRight_eq_div_pow]
    show x.toBitVec.toNat / 2 ^ (4 * i.toNat) = _
    have h2 : x.toBitVec.toNat / 2 ^ (4 * i.toNat) ≤ x.toBitVec.toNat := Nat.div_le_self _ _
    have h3 := x.toBitVec.isLt
    rw [Nat.mod_eq_of_lt (by omega)]
  rw [e, l15, lN_i, nI_toInt (by omega)]
theorem nibS (x : Int64) {i : Int} (hi : 0 ≤ i ∧ i < 12) : ((x >>> ((iV (4 * i)).toInt64 &&& 63)) &&& 15).toInt32.toInt = ((x.toBitVec.toNat / 2 ^ (4 * i.toNat) % 16 : Nat) : Int) := by
  rw [← nibU x hi]
  obtain ⟨h1, h2⟩ := sh_tab i.toNat (by omega)
  rw [show ((i.toNat : Nat) : Int) = i by omega] at h1 h2
  congr 2
  apply Int64.toBitVec.inj
  rw [Int64.toBitVec_and, Int64.toBitVec_and, Int64.toBitVec_shiftRight, h2]
  have hsm : ((BitVec.ofNat 64 (4 * i.toNat)).smod 64) = BitVec.ofNat 64 (4 * i.toNat) := by
    have key : ∀ n : Nat, n < 12 → (BitVec.ofNat 64 (4 * n)).smod 64 = BitVec.ofNat 64 (4 * n) := by decide +kernel
    exact key i.toNat (by omega)
  rw [hsm]
  show BitVec.sshiftRight' x.toBitVec (BitVec.ofNat 64 (4 * i.toNat)) &&& 15#64 = (x.toUInt64 >>> ((iV (4 * i)).toInt64.toUInt64 &&& Int64.toUInt64 63)).toBitVec &&& 15#64
  rw [UInt64.toBitVec_shiftRight]
  have hu : (((iV (4 * i)).toInt64.toUInt64 &&& Int64.toUInt64 63).toBitVec % 64) = BitVec.ofNat 64 (4 * i.toNat) := by
    apply BitVec.eq_of_toNat_eq
    rw [BitVec.toNat_umod, BitVec.toNat_ofNat]
    show (((iV (4 * i)).toInt64.toUInt64 &&& Int64.toUInt64 63).toNat) % 64 = _
    rw [h1]
    omega
  rw [hu]
  apply BitVec.eq_of_getLsbD_eq
  intro j hj
  have hn : (BitVec.ofNat 64 (4 * i.toNat)).toNat = 4 * i.toNat := by rw [BitVec.toNat_ofNat]; omega
  rw [BitVec.getLsbD_and, BitVec.getLsbD_and, BitVec.sshiftRight', hn, BitVec.getLsbD_sshiftRight]
  have e15 : (15#64).getLsbD j = decide (j < 4) := by
    have key : ∀ n : Nat, n < 64 → (15#64).getLsbD n = decide (n < 4) := by decide +kernel
    exact key j hj
  rw [e15]
  by_cases h4 : j < 4
  · show ((!decide (64 ≤ j) && if 4 * i.toNat + j < 64 then x.toBitVec.getLsbD (4 * i.toNat + j) else x.toBitVec.msb) && decide (j < 4)) = ((x.toBitVec >>> (BitVec.ofNat 64 (4 * i.toNat))).getLsbD j && decide (j < 4))
    rw [BitVec.ushiftRight_eq', BitVec.getLsbD_ushiftRight, hn, if_pos (by omega)]
    simp [show ¬ 64 ≤ j by omega]
  · simp [h4]
/-- a side's tune becomes n tones t -/
def setT (F : Int → Int) (s n : Int) (t : Int → Int) : Int → Int := fun j => if 4 + 12 * s ≤ j ∧ j < 4 + 12 * s + n then t (j - (4 + 12 * s)) else if j = 2 + s then n else F j
theorem setT_t {F : Int → Int} {s n i : Int} {t : Int → Int} (hi : 0 ≤ i ∧ i < n) : setT F s n t (4 + 12 * s + i) = t i := by
  unfold setT
  rw [if_pos (by omega), show 4 + 12 * s + i - (4 + 12 * s) = i by omega]
theorem setT_n {F : Int → Int} {s n : Int} {t : Int → Int} (hs : 0 ≤ s ∧ s ≤ 1) : setT F s n t (2 + s) = n := by
  unfold setT
  rw [if_neg (by omega), if_pos rfl]
theorem setT_o {F : Int → Int} {s n j : Int} {t : Int → Int} (h1 : ¬ (4 + 12 * s ≤ j ∧ j < 4 + 12 * s + n)) (h2 : j ≠ 2 + s) : setT F s n t j = F j := by
  unfold setT
  rw [if_neg h1, if_neg h2]
theorem setT_inv {F : Int → Int} {s n : Int} {t : Int → Int} (h : fInv F) (hs : 0 ≤ s ∧ s ≤ 1) (hn : 0 ≤ n ∧ n ≤ 12) (ht : ∀ i : Int, 0 ≤ i → i < n → 0 ≤ t i ∧ t i < 12) : fInv (setT F s n t) := by
  obtain ⟨g0, g1, g2, g3, g4⟩ := h
  refine ⟨by rw [setT_o (by omega) (by omega)]; exact g0, by rw [setT_o (by omega) (by omega)]; exact g1, fun s' q1 q2 => ?_, fun s' i q1 q2 q3 q4 => ?_, fun a q1 q2 => ?_⟩
  · by_cases e : s' = s
    · rw [e, setT_n hs]; exact hn
    · rw [setT_o (by omega) (by omega)]; exact g2 s' q1 q2
  · by_cases e : s' = s ∧ i < n
    · rw [e.1, setT_t (by omega)]; exact ht i q3 e.2
    · rw [setT_o (by omega) (by omega)]; exact g3 s' i q1 q2 q3 q4
  · rw [setT_o (by omega) (by omega), setT_o (by omega) (by omega), setT_o (by omega) (by omega), setT_o (by omega) (by omega), setT_o (by omega) (by omega)]; exact g4 a q1 q2
theorem setT_fug {μ m : mMem} {b : Nat} {F : Int → Int} (hF : FUG μ b F) (hI : fInv F) {s n : Int} {t : Int → Int} (hs : 0 ≤ s ∧ s ≤ 1) (hn : 0 ≤ n ∧ n ≤ 12) (m1 : ∀ c : Nat, c ≠ tc b s → c ≠ tc b s + 1 → m.1 c = μ.1 c) (m2 : m.2 = μ.2) (m3 : m.1 (tc b s) 1 = n) (m4 : ∀ i : Int, 0 ≤ i → i < n → m.1 (tc b s + 1) i = t i) : FUG m b (setT F s n t) ∧ FR b μ m := by
  have hc := hI.2.1
  have hts := tc_c hs b
  obtain ⟨h1, h2, h3, h4⟩ := hF
  refine ⟨⟨?_, ?_, fun s' q1 q2 => ?_, fun a q1 q2 f q3 q4 => ?_⟩, fun c hc => m1 c (by omega) (by omega), m2⟩
  · rw [m1 b (by omega) (by omega), setT_o (by omega) (by omega)]; exact h1
  · rw [m1 b (by omega) (by omega), setT_o (by omega) (by omega)]; exact h2
  · have ht := tc_c ⟨q1, q2⟩ b
    have hl := hI.2.2.1 s' q1 q2
    by_cases e : s' = s
    · subst e
      rw [setT_n hs]
      refine ⟨m3, fun i q3 q4 => ?_⟩
      rw [m4 i q3 q4, setT_t ⟨q3, q4⟩]
    · rw [setT_o (by omega) (by omega), m1 _ (by omega) (by omega), m1 _ (by omega) (by omega)]
      refine ⟨(h3 s' q1 q2).1, fun i q3 q4 => ?_⟩
      rw [setT_o (by omega) (by omega)]
      exact (h3 s' q1 q2).2 i q3 q4
  · rw [setT_o (by omega) (by omega)] at q2
    rw [m1 _ (by omega) (by omega), setT_o (by omega) (by omega)]
    exact h4 a q1 q2 f q3 q4
/-- one place of the row becomes v -/
def upF (F : Int → Int) (j v : Int) : Int → Int := fun i => if i = j then v else F i
theorem upF_s (F : Int → Int) (j v : Int) : upF F j v j = v := by simp [upF]
theorem upF_o {F : Int → Int} {j v i : Int} (h : i ≠ j) : upF F j v i = F i := by simp [upF, h]
theorem upF_fug {μ : mMem} {b : Nat} {F : Int → Int} (hF : FUG μ b F) (hI : fInv F) {a f v : Int} (ha : 0 ≤ a ∧ a < F 1) (hf : 0 ≤ f ∧ f < 5) : FUG (u1 μ (b + 5 + 1 + a.toNat) f v) b (upF F (28 + 5 * a + f) v) ∧ FR b μ (u1 μ (b + 5 + 1 + a.toNat) f v) := by
  have hc := hI.2.1
  obtain ⟨h1, h2, h3, h4⟩ := hF
  refine ⟨⟨?_, ?_, fun s' q1 q2 => ?_, fun a' q1 q2 f' q3 q4 => ?_⟩, fun c hc => ?_, rfl⟩
  · rw [u1_o (by omega), upF_o (by omega)]; exact h1
  · rw [u1_o (by omega), upF_o (by omega)]; exact h2
  · have ht := tc_c ⟨q1, q2⟩ b
    have hl := hI.2.2.1 s' q1 q2
    rw [u1_o (by omega), upF_o (by omega)]
    refine ⟨(h3 s' q1 q2).1, fun i q3 q4 => ?_⟩
    rw [u1_o (by omega), upF_o (by omega)]
    exact (h3 s' q1 q2).2 i q3 q4
  · rw [upF_o (by omega)] at q2
    by_cases e : a' = a ∧ f' = f
    · rw [e.1, e.2, u1_s, upF_s]
    · rw [u1_o (by omega), upF_o (by omega)]
      exact h4 a' q1 q2 f' q3 q4
  · funext j
    rw [u1_o (by omega)]
theorem upF_inv {F : Int → Int} (h : fInv F) {a f v : Int} (ha : 0 ≤ a ∧ a < 8) (hf : 0 ≤ f ∧ f < 5) (hv : 0 ≤ v ∧ v ≤ 9999) (h0 : f = 0 → v < 6) (h1 : f = 1 → v ≤ 1) (h2 : f = 2 → v < 12) (h3 : f = 3 → v < 4096) : fInv (upF F (28 + 5 * a + f) v) := by
  obtain ⟨g0, g1, g2, g3, g4⟩ := h
  refine ⟨by rw [upF_o (by omega)]; exact g0, by rw [upF_o (by omega)]; exact g1, fun s' q1 q2 => ?_, fun s' i q1 q2 q3 q4 => ?_, fun a' q1 q2 => ?_⟩
  · rw [upF_o (by omega)]; exact g2 s' q1 q2
  · rw [upF_o (by omega)]; exact g3 s' i q1 q2 q3 q4
  · obtain ⟨k0, k1, k2, k3, k4⟩ := g4 a' q1 q2
    refine ⟨?_, ?_, ?_, ?_, ?_⟩ <;> (unfold upF; split <;> omega)

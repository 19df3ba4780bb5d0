/-! ===== the reference reads the tape ===== -/
def vl (t : Int → Int) (L e : Int) : Int := if tS t L e = 2 then min (tV t L e) 10000 else 0
theorem vl_bd (t : Int → Int) (L e : Int) : 0 ≤ vl t L e ∧ vl t L e ≤ 10000 := by
  have := tV_0 t L e
  unfold vl
  split <;> omega
def RP (μ : mMem) (t : Int → Int) (L : Int) : Prop := μ.1 56 7 = L ∧ (0 ≤ L ∧ L ≤ 120) ∧ (∀ i : Int, 0 ≤ i → i < L → μ.1 62 i = t i) ∧ ∀ i : Int, 0 ≤ i → i < L → 0 ≤ t i ∧ t i < 256
def RK (m : mMem) (t : Int → Int) (L e w : Int) : Prop := m.1 56 8 = tB t L e ∧ m.1 56 9 = tE t L e ∧ m.1 56 10 = tS t L e ∧ m.1 56 11 = vl t L e ∧ m.1 56 12 = w
def RF (μ m : mMem) : Prop := (∀ c : Nat, c ≠ 56 → m.1 c = μ.1 c) ∧ m.2 = μ.2 ∧ ∀ j : Int, j < 8 ∨ 12 < j → m.1 56 j = μ.1 56 j
theorem RF.rf {μ : mMem} : RF μ μ := ⟨fun _ _ => rfl, rfl, fun _ _ => rfl⟩
theorem RF.tr {μ m m2 : mMem} (h : RF μ m) (h2 : RF m m2) : RF μ m2 := ⟨fun c q => (h2.1 c q).trans (h.1 c q), h2.2.1.trans h.2.1, fun j q => (h2.2.2 j q).trans (h.2.2 j q)⟩
theorem RF.st {μ : mMem} {j v : Int} (hj : 8 ≤ j ∧ j ≤ 12) : RF μ (u1 μ 56 j v) := ⟨fun c q => u56 q, rfl, fun i q => u1_o (by omega)⟩
theorem RP.rf {μ m : mMem} {t : Int → Int} {L : Int} (h : RP μ t L) (hs : RF μ m) : RP m t L := ⟨by rw [hs.2.2 7 (by omega)]; exact h.1, h.2.1, fun i q1 q2 => by rw [hs.1 _ (by omega)]; exact h.2.2.1 i q1 q2, h.2.2.2⟩
theorem bat_c {t : Int → Int} {L : Int} (ht : ∀ i : Int, 0 ≤ i → i < L → 0 ≤ t i ∧ t i < 256) {k : Int} (hk : 0 ≤ k) : (k < L ∧ bAt L t k = t k ∧ 0 ≤ t k ∧ t k < 256) ∨ (L ≤ k ∧ bAt L t k = -1) := by
  unfold bAt
  by_cases h : k < L
  · rw [if_pos ⟨hk, h⟩]
    have := ht k hk h
    exact Or.inl ⟨h, rfl, this.1, this.2⟩
  · rw [if_neg (by omega)]
    exact Or.inr ⟨by omega, rfl⟩
set_option maxHeartbeats 4000000 in
set_option maxRecDepth 100000 in
theorem c_M_byteAt {G : mG} {μ : mMem} {t : Int → Int} {L : Int} (hP : RP μ t L) {k : Int} (hk : 0 ≤ k ∧ k ≤ 1000) : mM G yX7_byteAt cX7_byteAt 2 (some .int) 0 [.ref 56, .int (iV k)] μ (pI (bAt L t k) μ) := by
  have hL := hP.2.1
  refine mM.of (lv := [some (.ref 56), some (.int (iV k))]) 0 (by decide +kernel) (Nat.le_of_ble_eq_true rfl) rfl ?_
  intro X
  refine mw_iload_n dX7_byteAt_0 rfl ?_
  refine mw_aload_n dX7_byteAt_1 rfl ?_
  refine mw_getI 7 dX7_byteAt_2 gs_X7_213 (by first | rfl | assumption) rfl rfl ?_
  rw [hP.1]
  refine mw_icmp_ge (tgt := 17) dX7_byteAt_5 (by decide) (by omega) (by omega) (fun c_5 => ?_) (fun c_5 => ?_)
  · refine mw_iconst dX7_byteAt_17 ?_
    refine mw_iret dX7_byteAt_18 rfl ?_
    exact ⟨by unfold bAt; rw [if_neg (by omega)], rfl⟩
  · refine mw_aload_n dX7_byteAt_8 rfl ?_
    refine mw_gr_7_6 dX7_byteAt_9 gs_X7_25 (by first | rfl | assumption) ?_
    refine mw_iload_n dX7_byteAt_12 rfl ?_
    refine mw_iald 120 dX7_byteAt_13 (by first | rfl | assumption) (by first | rfl | assumption) (by omega) ?_
    rw [hP.2.2.1 k (by omega) (by omega)]
    refine mw_goto (tgt := 18) dX7_byteAt_14 (by decide) ?_
    refine mw_iret dX7_byteAt_18 rfl ?_
    exact ⟨by unfold bAt; rw [if_pos (by omega)], rfl⟩
set_option maxHeartbeats 4000000 in
set_option maxRecDepth 100000 in
theorem c_M_next {G : mG} {μ : mMem} {t : Int → Int} {L : Int} (hP : RP μ t L) {e : Int} (he : μ.1 56 9 = e) (hE : 0 ≤ e ∧ e ≤ L) : mM G yX7_next cX7_next 2 none 1 [.ref 56] μ (qV (fun m => RF μ m ∧ RK m t L e (μ.1 56 12))) := by
  have hL := hP.2.1
  have hbb := tB_bd t hE
  refine mM.of (lv := [some (.ref 56), none]) 1 (by decide +kernel) (Nat.le_of_ble_eq_true rfl) rfl ?_
  intro X
  have l3 : ∀ (n_ : Nat) (c k v : Int) (m : mMem), (tS t L e = 2) → (tB t L e ≤ k) → (k ≤ L) → (122 ≤ k + n_) → (RF μ m) → (m.1 56 8 = tB t L e) → (m.1 56 9 = k) → (m.1 56 10 = 2) → (0 ≤ v) → (m.1 56 11 = min v 10000) → (m.1 56 12 = μ.1 56 12) → (spn 48 57 t L (L - k).toNat k = spn 48 57 t L (L - tB t L e).toNat (tB t L e)) → (nuV t L (L - k).toNat k v = tV t L e) → mW X cX7_next 2 none yX7_next.cls 1 G (qV (fun m => RF μ m ∧ RK m t L e (μ.1 56 12))) 131 [some (.ref 56), some (.int (iV c))] [] m := by
    intro n_
    induction n_ with
    | zero =>
      intro c k v m h0 h1 h2 h3 h4 h5 h6 h7 hv h8 h9 h10 h11
      omega
    | succ n_ ih =>
      intro c k v m h0 h1 h2 h3 h4 h5 h6 h7 hv h8 h9 h10 h11
      have hP2 := hP.rf h4
      have hbt := bat_c hP.2.2.2 (k := k) (by omega)
      refine mw_aload_n dX7_next_131 rfl ?_
      refine mw_aload_n dX7_next_132 rfl ?_
      refine mw_getI 9 dX7_next_133 gs_X7_217 (by first | rfl | assumption) rfl rfl ?_
      rw [h6]
      refine mw_Vpi (ci := 7) dX7_next_136 ml_X7_223 ok_X7_byteAt (by decide) (by first | rfl | assumption) (by decide) rfl rfl rfl (Nat.le_of_ble_eq_true rfl) (c_M_byteAt hP2 (by omega)) ?_
      refine mw_bipush dX7_next_139 (by decide +kernel) ?_
      refine mw_bipush dX7_next_141 (by decide +kernel) ?_
      refine mw_Spi dX7_next_143 ml_X7_81 ok_X7_within (by decide) rfl rfl (Nat.le_of_ble_eq_true rfl) (c_M_within (by omega) (by omega) (by omega)) ?_
      refine mw_if_eq (tgt := 206) dX7_next_146 (by decide) (wi_bd _ _ _) (fun c_146 => ?_) (fun c_146 => ?_)
      · have d_146 := wi_0 c_146
        have e1 : spn 48 57 t L (L - k).toNat k = k := by
          by_cases q : k < L
          · rw [show (L - k).toNat = (L - (k + 1)).toNat + 1 by omega, spn, if_neg (by omega)]
          · rw [show (L - k).toNat = 0 by omega]; rfl
        have e2 : nuV t L (L - k).toNat k v = v := by
          by_cases q : k < L
          · rw [show (L - k).toNat = (L - (k + 1)).toNat + 1 by omega, nuV, if_neg (by omega)]
          · rw [show (L - k).toNat = 0 by omega]; rfl
        refine mw_vret dX7_next_206 rfl ?_
        refine ⟨rfl, h4, h5, ?_, by rw [h7, h0], ?_, h9⟩
        · unfold tE
          rw [h6, if_neg (by omega), if_neg (by omega), if_pos h0, ← h10, e1]
        · unfold vl
          rw [h8, if_pos h0, ← h11, e2]
      · have d_146 := wi_1 c_146
        have hkl : k < L := by omega
        rw [show (L - k).toNat = (L - (k + 1)).toNat + 1 by omega, spn, if_pos (by omega)] at h10
        rw [show (L - k).toNat = (L - (k + 1)).toNat + 1 by omega, nuV, if_pos (by omega)] at h11
        refine mw_aload_n dX7_next_149 rfl ?_
        refine mw_sipush dX7_next_150 (by decide +kernel) ?_
        refine mw_bipush dX7_next_153 (by decide +kernel) ?_
        refine mw_aload_n dX7_next_155 rfl ?_
        refine mw_getI 11 dX7_next_156 gs_X7_226 (by first | rfl | assumption) rfl rfl ?_
        rw [h8]
        refine mw_imul dX7_next_159 ?_
        refine mw_aload_n dX7_next_160 rfl ?_
        refine mw_aload_n dX7_next_161 rfl ?_
        refine mw_getI 9 dX7_next_162 gs_X7_217 (by first | rfl | assumption) rfl rfl ?_
        rw [h6]
        refine mw_Vpi (ci := 7) dX7_next_165 ml_X7_223 ok_X7_byteAt (by decide) (by first | rfl | assumption) (by decide) rfl rfl rfl (Nat.le_of_ble_eq_true rfl) (c_M_byteAt hP2 (by omega)) ?_
        rw [show bAt L t k = t k by omega]
        refine mw_iadd dX7_next_168 ?_
        refine mw_bipush dX7_next_169 (by decide +kernel) ?_
        refine mw_isub dX7_next_171 ?_
        refine mw_Spi dX7_next_172 ml_X7_110 ok_J9_min_7cf53 (by decide) rfl rfl (Nat.le_of_ble_eq_true rfl) (c_min (by omega) (by omega)) ?_
        refine mw_putI 11 dX7_next_175 ps_X7_226 (by first | rfl | assumption) rfl rfl ?_
        refine mw_aload_n dX7_next_178 rfl ?_
        refine mw_dup dX7_next_179 rfl ?_
        refine mw_getI 9 dX7_next_180 gs_X7_217 (by first | rfl | assumption) rfl rfl ?_
        rw [u1_o (by omega), h6]
        refine mw_iconst dX7_next_183 ?_
        refine mw_iadd dX7_next_184 ?_
        refine mw_putI 9 dX7_next_185 ps_X7_217 (by first | rfl | assumption) rfl rfl ?_
        refine mw_goto (tgt := 131) dX7_next_188 (by decide) ?_
        refine ih _ _ _ _ h0 (by omega) (by omega) (by omega) (h4.tr ((RF.st (by omega)).tr (RF.st (by omega)))) (by rw [u1_o (by omega), u1_o (by omega)]; exact h5) (u1_s _ _ _ _) (by rw [u1_o (by omega), u1_o (by omega)]; exact h7) (by omega) (by rw [u1_o (by omega), u1_s]; omega) (by rw [u1_o (by omega), u1_o (by omega)]; exact h9) h10 h11
  have l2 : ∀ (n_ : Nat) (c k : Int) (m : mMem), (tS t L e = 1) → (tB t L e ≤ k) → (k ≤ L) → (122 ≤ k + n_) → (RF μ m) → (m.1 56 8 = tB t L e) → (m.1 56 9 = k) → (m.1 56 10 = 1) → (m.1 56 11 = 0) → (m.1 56 12 = μ.1 56 12) → (spn 97 122 t L (L - k).toNat k = spn 97 122 t L (L - tB t L e).toNat (tB t L e)) → mW X cX7_next 2 none yX7_next.cls 1 G (qV (fun m => RF μ m ∧ RK m t L e (μ.1 56 12))) 84 [some (.ref 56), some (.int (iV c))] [] m := by
    intro n_
    induction n_ with
    | zero =>
      intro c k m h0 h1 h2 h3 h4 h5 h6 h7 h8 h9 h10
      omega
    | succ n_ ih =>
      intro c k m h0 h1 h2 h3 h4 h5 h6 h7 h8 h9 h10
      have hP2 := hP.rf h4
      have hbt := bat_c hP.2.2.2 (k := k) (by omega)
      refine mw_aload_n dX7_next_84 rfl ?_
      refine mw_aload_n dX7_next_85 rfl ?_
      refine mw_getI 9 dX7_next_86 gs_X7_217 (by first | rfl | assumption) rfl rfl ?_
      rw [h6]
      refine mw_Vpi (ci := 7) dX7_next_89 ml_X7_223 ok_X7_byteAt (by decide) (by first | rfl | assumption) (by decide) rfl rfl rfl (Nat.le_of_ble_eq_true rfl) (c_M_byteAt hP2 (by omega)) ?_
      refine mw_bipush dX7_next_92 (by decide +kernel) ?_
      refine mw_bipush dX7_next_94 (by decide +kernel) ?_
      refine mw_Spi dX7_next_96 ml_X7_81 ok_X7_within (by decide) rfl rfl (Nat.le_of_ble_eq_true rfl) (c_M_within (by omega) (by omega) (by omega)) ?_
      refine mw_if_eq (tgt := 206) dX7_next_99 (by decide) (wi_bd _ _ _) (fun c_99 => ?_) (fun c_99 => ?_)
      · have d_99 := wi_0 c_99
        have e1 : spn 97 122 t L (L - k).toNat k = k := by
          by_cases q : k < L
          · rw [show (L - k).toNat = (L - (k + 1)).toNat + 1 by omega, spn, if_neg (by omega)]
          · rw [show (L - k).toNat = 0 by omega]; rfl
        refine mw_vret dX7_next_206 rfl ?_
        refine ⟨rfl, h4, h5, ?_, by rw [h7, h0], ?_, h9⟩
        · unfold tE
          rw [h6, if_neg (by omega), if_pos h0, ← h10, e1]
        · unfold vl
          rw [h8, if_neg (by omega)]
      · have d_99 := wi_1 c_99
        have hkl : k < L := by omega
        rw [show (L - k).toNat = (L - (k + 1)).toNat + 1 by omega, spn, if_pos (by omega)] at h10
        refine mw_aload_n dX7_next_102 rfl ?_
        refine mw_dup dX7_next_103 rfl ?_
        refine mw_getI 9 dX7_next_104 gs_X7_217 (by first | rfl | assumption) rfl rfl ?_
        rw [h6]
        refine mw_iconst dX7_next_107 ?_
        refine mw_iadd dX7_next_108 ?_
        refine mw_putI 9 dX7_next_109 ps_X7_217 (by first | rfl | assumption) rfl rfl ?_
        refine mw_goto (tgt := 84) dX7_next_112 (by decide) ?_
        refine ih _ _ _ h0 (by omega) (by omega) (by omega) (h4.tr (RF.st (by omega))) (by rw [u1_o (by omega)]; exact h5) (u1_s _ _ _ _) (by rw [u1_o (by omega)]; exact h7) (by rw [u1_o (by omega)]; exact h8) (by rw [u1_o (by omega)]; exact h9) h10
  have l1 : ∀ (n_ : Nat) (k : Int) (m : mMem), (e ≤ k) → (k ≤ L) → (122 ≤ k + n_) → (RF μ m) → (m.1 56 8 = k) → (m.1 56 12 = μ.1 56 12) → (spn 32 32 t L (L - k).toNat k = tB t L e) → mW X cX7_next 2 none yX7_next.cls 1 G (qV (fun m => RF μ m ∧ RK m t L e (μ.1 56 12))) 8 [some (.ref 56), none] [] m := by
    intro n_
    induction n_ with
    | zero =>
      intro k m h1 h2 h3 h4 h7 h9 h8
      omega
    | succ n_ ih =>
      intro k m h1 h2 h3 h4 h7 h9 h8
      have hP2 := hP.rf h4
      have hbt := bat_c hP.2.2.2 (k := k) (by omega)
      refine mw_aload_n dX7_next_8 rfl ?_
      refine mw_aload_n dX7_next_9 rfl ?_
      refine mw_getI 8 dX7_next_10 gs_X7_220 (by first | rfl | assumption) rfl rfl ?_
      rw [h7]
      refine mw_Vpi (ci := 7) dX7_next_13 ml_X7_223 ok_X7_byteAt (by decide) (by first | rfl | assumption) (by decide) rfl rfl rfl (Nat.le_of_ble_eq_true rfl) (c_M_byteAt hP2 (by omega)) ?_
      refine mw_bipush dX7_next_16 (by decide +kernel) ?_
      refine mw_icmp_ne (tgt := 34) dX7_next_18 (by decide) (by omega) (by omega) (fun c_18 => ?_) (fun c_18 => ?_)
      · have ek : k = tB t L e := by
          rw [← h8]
          by_cases q : k < L
          · rw [show (L - k).toNat = (L - (k + 1)).toNat + 1 by omega, spn, if_neg (by omega)]
          · rw [show (L - k).toNat = 0 by omega]; rfl
        have hsc := tS_c t L e
        rw [← ek] at hsc
        refine mw_aload_n dX7_next_34 rfl ?_
        refine mw_aload_n dX7_next_35 rfl ?_
        refine mw_getI 8 dX7_next_36 gs_X7_220 (by first | rfl | assumption) rfl rfl ?_
        rw [h7]
        refine mw_Vpi (ci := 7) dX7_next_39 ml_X7_223 ok_X7_byteAt (by decide) (by first | rfl | assumption) (by decide) rfl rfl rfl (Nat.le_of_ble_eq_true rfl) (c_M_byteAt hP2 (by omega)) ?_
        refine mw_is1 dX7_next_42 (by decide) rfl ?_
        refine mw_aload_n dX7_next_43 rfl ?_
        refine mw_aload_n dX7_next_44 rfl ?_
        refine mw_getI 8 dX7_next_45 gs_X7_220 (by first | rfl | assumption) rfl rfl ?_
        rw [h7]
        refine mw_putI 9 dX7_next_48 ps_X7_217 (by first | rfl | assumption) rfl rfl ?_
        refine mw_aload_n dX7_next_51 rfl ?_
        refine mw_iconst dX7_next_52 ?_
        refine mw_putI 11 dX7_next_53 ps_X7_226 (by first | rfl | assumption) rfl rfl ?_
        refine mw_iload_n dX7_next_56 rfl ?_
        refine mw_if_ge (tgt := 68) dX7_next_57 (by decide) (by omega) (fun c_57 => ?_) (fun c_57 => ?_)
        · refine mw_iload_n dX7_next_68 rfl ?_
          refine mw_bipush dX7_next_69 (by decide +kernel) ?_
          refine mw_bipush dX7_next_71 (by decide +kernel) ?_
          refine mw_Spi dX7_next_73 ml_X7_81 ok_X7_within (by decide) rfl rfl (Nat.le_of_ble_eq_true rfl) (c_M_within (by omega) (by omega) (by omega)) ?_
          refine mw_if_eq (tgt := 115) dX7_next_76 (by decide) (wi_bd _ _ _) (fun c_76 => ?_) (fun c_76 => ?_)
          · have d_76 := wi_0 c_76
            refine mw_iload_n dX7_next_115 rfl ?_
            refine mw_bipush dX7_next_116 (by decide +kernel) ?_
            refine mw_bipush dX7_next_118 (by decide +kernel) ?_
            refine mw_Spi dX7_next_120 ml_X7_81 ok_X7_within (by decide) rfl rfl (Nat.le_of_ble_eq_true rfl) (c_M_within (by omega) (by omega) (by omega)) ?_
            refine mw_if_eq (tgt := 191) dX7_next_123 (by decide) (wi_bd _ _ _) (fun c_123 => ?_) (fun c_123 => ?_)
            · have d_123 := wi_0 c_123
              refine mw_aload_n dX7_next_191 rfl ?_
              refine mw_iconst dX7_next_192 ?_
              refine mw_putI 10 dX7_next_193 ps_X7_229 (by first | rfl | assumption) rfl rfl ?_
              refine mw_aload_n dX7_next_196 rfl ?_
              refine mw_dup dX7_next_197 rfl ?_
              refine mw_getI 9 dX7_next_198 gs_X7_217 (by first | rfl | assumption) rfl rfl ?_
              rw [u1_o (by omega), u1_o (by omega), u1_s]
              refine mw_iconst dX7_next_201 ?_
              refine mw_iadd dX7_next_202 ?_
              refine mw_putI 9 dX7_next_203 ps_X7_217 (by first | rfl | assumption) rfl rfl ?_
              refine mw_vret dX7_next_206 rfl ?_
              have h0 : tS t L e = 3 := by omega
              refine ⟨rfl, h4.tr ((RF.st (by omega)).tr ((RF.st (by omega)).tr ((RF.st (by omega)).tr (RF.st (by omega))))), by rw [u1_o (by omega), u1_o (by omega), u1_o (by omega), u1_o (by omega), h7, ek], ?_, by rw [u1_o (by omega), u1_s, h0], ?_, by rw [u1_o (by omega), u1_o (by omega), u1_o (by omega), u1_o (by omega)]; exact h9⟩
              · unfold tE
                rw [u1_s, if_neg (by omega), if_neg (by omega), if_neg (by omega), ek]
              · unfold vl
                rw [u1_o (by omega), u1_o (by omega), u1_s, if_neg (by omega)]
            · have d_123 := wi_1 c_123
              refine mw_aload_n dX7_next_126 rfl ?_
              refine mw_iconst dX7_next_127 ?_
              refine mw_putI 10 dX7_next_128 ps_X7_229 (by first | rfl | assumption) rfl rfl ?_
              refine l3 122 _ k 0 _ (by omega) (by omega) (by omega) (by omega) (h4.tr ((RF.st (by omega)).tr ((RF.st (by omega)).tr (RF.st (by omega))))) (by rw [u1_o (by omega), u1_o (by omega), u1_o (by omega), h7, ek]) (by rw [u1_o (by omega), u1_o (by omega), u1_s]) (u1_s _ _ _ _) (by omega) (by rw [u1_o (by omega), u1_s]; rfl) (by rw [u1_o (by omega), u1_o (by omega), u1_o (by omega)]; exact h9) (by rw [ek]) (by unfold tV; rw [ek])
          · have d_76 := wi_1 c_76
            refine mw_aload_n dX7_next_79 rfl ?_
            refine mw_iconst dX7_next_80 ?_
            refine mw_putI 10 dX7_next_81 ps_X7_229 (by first | rfl | assumption) rfl rfl ?_
            refine l2 122 _ k _ (by omega) (by omega) (by omega) (by omega) (h4.tr ((RF.st (by omega)).tr ((RF.st (by omega)).tr (RF.st (by omega))))) (by rw [u1_o (by omega), u1_o (by omega), u1_o (by omega), h7, ek]) (by rw [u1_o (by omega), u1_o (by omega), u1_s]) (u1_s _ _ _ _) (by rw [u1_o (by omega), u1_s]) (by rw [u1_o (by omega), u1_o (by omega), u1_o (by omega)]; exact h9) (by rw [ek])
        · refine mw_aload_n dX7_next_60 rfl ?_
          refine mw_iconst dX7_next_61 ?_
          refine mw_putI 10 dX7_next_62 ps_X7_229 (by first | rfl | assumption) rfl rfl ?_
          refine mw_goto (tgt := 206) dX7_next_65 (by decide) ?_
          refine mw_vret dX7_next_206 rfl ?_
          have h0 : tS t L e = 0 := by omega
          refine ⟨rfl, h4.tr ((RF.st (by omega)).tr ((RF.st (by omega)).tr (RF.st (by omega)))), by rw [u1_o (by omega), u1_o (by omega), u1_o (by omega), h7, ek], ?_, by rw [u1_s, h0], ?_, by rw [u1_o (by omega), u1_o (by omega), u1_o (by omega)]; exact h9⟩
          · unfold tE
            rw [u1_o (by omega), u1_o (by omega), u1_s, if_pos h0, ek]
          · unfold vl
            rw [u1_o (by omega), u1_s, if_neg (by omega)]
      · have hkl : k < L := by omega
        rw [show (L - k).toNat = (L - (k + 1)).toNat + 1 by omega, spn, if_pos (by omega)] at h8
        refine mw_aload_n dX7_next_21 rfl ?_
        refine mw_dup dX7_next_22 rfl ?_
        refine mw_getI 8 dX7_next_23 gs_X7_220 (by first | rfl | assumption) rfl rfl ?_
        rw [h7]
        refine mw_iconst dX7_next_26 ?_
        refine mw_iadd dX7_next_27 ?_
        refine mw_putI 8 dX7_next_28 ps_X7_220 (by first | rfl | assumption) rfl rfl ?_
        refine mw_goto (tgt := 8) dX7_next_31 (by decide) ?_
        exact ih _ _ (by omega) (by omega) (by omega) (h4.tr (RF.st (by omega))) (u1_s _ _ _ _) (by rw [u1_o (by omega)]; exact h9) h8
  refine mw_aload_n dX7_next_0 rfl ?_
  refine mw_aload_n dX7_next_1 rfl ?_
  refine mw_getI 9 dX7_next_2 gs_X7_217 (by first | rfl | assumption) rfl rfl ?_
  rw [he]
  refine mw_putI 8 dX7_next_5 ps_X7_220 (by first | rfl | assumption) rfl rfl ?_
  exact l1 122 _ _ (by omega) (by omega) (by omega) (RF.st (by omega)) (u1_s _ _ _ _) (u1_o (by omega)) rfl

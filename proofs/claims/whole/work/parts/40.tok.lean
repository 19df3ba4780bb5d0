/-! ===== reading the tape: tokens; a token is told by the place behind the one before ===== -/
def spn (lo hi : Int) (t : Int → Int) (L : Int) : Nat → Int → Int
  | 0, k => k
  | n + 1, k => if k < L ∧ lo ≤ t k ∧ t k ≤ hi then spn lo hi t L n (k + 1) else k
theorem spn_bd (lo hi : Int) (t : Int → Int) (L : Int) : ∀ (n : Nat) (k : Int), k ≤ spn lo hi t L n k ∧ spn lo hi t L n k ≤ k + n
  | 0, k => by rw [spn]; omega
  | n + 1, k => by
    rw [spn]
    split
    · have := spn_bd lo hi t L n (k + 1)
      omega
    · omega
def nuV (t : Int → Int) (L : Int) : Nat → Int → Int → Int
  | 0, _, v => v
  | n + 1, k, v => if k < L ∧ 48 ≤ t k ∧ t k ≤ 57 then nuV t L n (k + 1) (10 * v + t k - 48) else v
theorem nuV_0 (t : Int → Int) (L : Int) : ∀ (n : Nat) (k v : Int), 0 ≤ v → 0 ≤ nuV t L n k v
  | 0, _, v, h => h
  | n + 1, k, v, h => by
    rw [nuV]
    split
    · exact nuV_0 t L n _ _ (by omega)
    · exact h
def tB (t : Int → Int) (L e : Int) : Int := spn 32 32 t L (L - e).toNat e
def tS (t : Int → Int) (L e : Int) : Int := if L ≤ tB t L e then 0 else if 97 ≤ t (tB t L e) ∧ t (tB t L e) ≤ 122 then 1 else if 48 ≤ t (tB t L e) ∧ t (tB t L e) ≤ 57 then 2 else 3
def tE (t : Int → Int) (L e : Int) : Int := if tS t L e = 0 then tB t L e else if tS t L e = 1 then spn 97 122 t L (L - tB t L e).toNat (tB t L e) else if tS t L e = 2 then spn 48 57 t L (L - tB t L e).toNat (tB t L e) else tB t L e + 1
def tV (t : Int → Int) (L e : Int) : Int := nuV t L (L - tB t L e).toNat (tB t L e) 0
theorem tV_0 (t : Int → Int) (L e : Int) : 0 ≤ tV t L e := nuV_0 t L _ _ _ (by omega)
theorem tB_bd (t : Int → Int) {L e : Int} (h : 0 ≤ e ∧ e ≤ L) : e ≤ tB t L e ∧ tB t L e ≤ L := by
  have := spn_bd 32 32 t L (L - e).toNat e
  unfold tB
  omega
theorem tS_c (t : Int → Int) (L e : Int) : (tS t L e = 0 ∧ L ≤ tB t L e) ∨ (tS t L e = 1 ∧ tB t L e < L ∧ 97 ≤ t (tB t L e) ∧ t (tB t L e) ≤ 122) ∨ (tS t L e = 2 ∧ tB t L e < L ∧ 48 ≤ t (tB t L e) ∧ t (tB t L e) ≤ 57) ∨ (tS t L e = 3 ∧ tB t L e < L ∧ ¬ (97 ≤ t (tB t L e) ∧ t (tB t L e) ≤ 122) ∧ ¬ (48 ≤ t (tB t L e) ∧ t (tB t L e) ≤ 57)) := by
  unfold tS
  by_cases h : L ≤ tB t L e
  · rw [if_pos h]; exact Or.inl ⟨rfl, h⟩
  · rw [if_neg h]
    by_cases h1 : 97 ≤ t (tB t L e) ∧ t (tB t L e) ≤ 122
    · rw [if_pos h1]; exact Or.inr (Or.inl ⟨rfl, by omega, h1⟩)
    · rw [if_neg h1]
      by_cases h2 : 48 ≤ t (tB t L e) ∧ t (tB t L e) ≤ 57
      · rw [if_pos h2]; exact Or.inr (Or.inr (Or.inl ⟨rfl, by omega, h2⟩))
      · rw [if_neg h2]; exact Or.inr (Or.inr (Or.inr ⟨rfl, by omega, h1, h2⟩))
theorem tE_bd (t : Int → Int) {L e : Int} (h : 0 ≤ e ∧ e ≤ L) : tB t L e ≤ tE t L e ∧ tE t L e ≤ L ∧ (tS t L e = 3 → tB t L e < tE t L e) := by
  have hb := tB_bd t h
  have h1 := spn_bd 97 122 t L (L - tB t L e).toNat (tB t L e)
  have h2 := spn_bd 48 57 t L (L - tB t L e).toNat (tB t L e)
  unfold tE
  rcases tS_c t L e with c | c | c | c
  · rw [if_pos c.1]; omega
  · rw [if_neg (by omega), if_pos c.1]; omega
  · rw [if_neg (by omega), if_neg (by omega), if_pos c.1]; omega
  · rw [if_neg (by omega), if_neg (by omega), if_neg (by omega)]; omega
def wdL (t : Int → Int) (b : Int) (i : Nat) : Nat → Int → Int
  | 0, _ => 1
  | n + 1, j => if t (b + j) = sBI i j then wdL t b i n (j + 1) else 0
theorem wdL_c (t : Int → Int) (b : Int) (i : Nat) : ∀ (n : Nat) (j : Int), wdL t b i n j = 0 ∨ wdL t b i n j = 1
  | 0, _ => Or.inr rfl
  | n + 1, j => by
    rw [wdL]
    split
    · exact wdL_c t b i n _
    · exact Or.inl rfl
theorem wdL_at {t : Int → Int} {b : Int} {i : Nat} : ∀ (n : Nat) (j : Int), wdL t b i n j = 1 → ∀ q : Int, j ≤ q → q < j + n → t (b + q) = sBI i q
  | 0, _, _, q, h1, h2 => by omega
  | n + 1, j, h, q, h1, h2 => by
    rw [wdL] at h
    by_cases e : t (b + j) = sBI i j
    · rw [if_pos e] at h
      by_cases e2 : q = j
      · rw [e2]; exact e
      · exact wdL_at n (j + 1) h q (by omega) (by omega)
    · rw [if_neg e] at h
      cases h
def wdI (t : Int → Int) (L e : Int) (i : Nat) : Int := if tS t L e = 1 ∧ tE t L e - tB t L e = sLI i then wdL t (tB t L e) i (sLI i).toNat 0 else 0
theorem wd_c (t : Int → Int) (L e : Int) (i : Nat) : wdI t L e i = 0 ∨ wdI t L e i = 1 := by
  unfold wdI
  split
  · exact wdL_c _ _ _ _ _
  · exact Or.inl rfl
theorem sdiff : ∀ i : Nat, i < 10 → ∀ j : Nat, j < 10 → i ≠ j → sLI i = sLI j → ∃ q : Nat, q < (sLI i).toNat ∧ sBI i (q : Int) ≠ sBI j (q : Int) := by decide +kernel
/-- no two of the words are read at one place -/
theorem wd_one {t : Int → Int} {L e : Int} {i j : Nat} (hi : i < 10) (hj : j < 10) (hne : i ≠ j) (h : wdI t L e i = 1) : wdI t L e j = 0 := by
  rcases wd_c t L e j with q | q
  · exact q
  · exfalso
    unfold wdI at h q
    by_cases c1 : tS t L e = 1 ∧ tE t L e - tB t L e = sLI i
    · by_cases c2 : tS t L e = 1 ∧ tE t L e - tB t L e = sLI j
      · rw [if_pos c1] at h
        rw [if_pos c2] at q
        obtain ⟨p, p1, p2⟩ := sdiff i hi j hj hne (by omega)
        have a1 := wdL_at _ _ h p (by omega) (by omega)
        have a2 := wdL_at _ _ q p (by omega) (by have := c1.2; have := c2.2; omega)
        exact p2 (a1.symm.trans a2)
      · rw [if_neg c2] at q; cases q
    · rw [if_neg c1] at h; cases h
/-! the class's side -/
def TP (μ : mMem) (t : Int → Int) (L : Int) : Prop := μ.1 43 1 = L ∧ (0 ≤ L ∧ L ≤ 120) ∧ (∀ i : Int, 0 ≤ i → i < L → μ.1 (43 + 1) i = t i) ∧ ∀ i : Int, 0 ≤ i → i < L → 0 ≤ t i ∧ t i < 256
def SC (μ m : mMem) : Prop := (∀ c : Nat, c ≠ 45 → m.1 c = μ.1 c) ∧ m.2 = μ.2
theorem SC.rf {μ : mMem} : SC μ μ := ⟨fun _ _ => rfl, rfl⟩
theorem SC.tr {μ m m2 : mMem} (h : SC μ m) (h2 : SC m m2) : SC μ m2 := ⟨fun c q => (h2.1 c q).trans (h.1 c q), h2.2.trans h.2⟩
theorem SC.st {μ : mMem} {j v : Int} : SC μ (u1 μ 45 j v) := ⟨fun c q => by funext i; rw [u1_o (by omega)], rfl⟩
theorem TP.sc {μ m : mMem} {t : Int → Int} {L : Int} (h : TP μ t L) (hs : SC μ m) : TP m t L := ⟨by rw [hs.1 _ (by omega)]; exact h.1, h.2.1, fun i q1 q2 => by rw [hs.1 _ (by omega)]; exact h.2.2.1 i q1 q2, h.2.2.2⟩
def cK (t : Int → Int) (L e : Int) : Int := if tS t L e = 3 then (if t (tB t L e) = 59 then 3 else 4) else tS t L e
def TK (m : mMem) (t : Int → Int) (L e : Int) : Prop := m.1 45 1 = cK t L e ∧ m.1 45 2 = tB t L e ∧ m.1 45 3 = tE t L e ∧ (tS t L e = 2 → m.1 45 4 = min (tV t L e) 1000)
theorem c_C_byteAt {G : mG} {μ : mMem} {t : Int → Int} {L : Int} (h : TP μ t L) {i : Int} (hi : 0 ≤ i ∧ i < L) : mM G yX4_byteAt cX4_byteAt 2 (some .int) 0 [.ref 43, .int (iV i)] μ (pI (t i) μ) := by
  have := c_P_byteAt (G := G) (μ := μ) (k := 43) rfl rfl rfl (i := i) (by have := h.2.1; omega) (by rw [h.1]; exact h.2.1)
  rw [h.1, show bAt L (μ.1 (43 + 1)) i = t i by unfold bAt; rw [if_pos hi]; exact h.2.2.1 i hi.1 hi.2] at this
  exact this
set_option maxHeartbeats 4000000 in
set_option maxRecDepth 100000 in
theorem c_C_isLetter {G : mG} {μ : mMem} {v : Int} (hv : -1000 ≤ v ∧ v ≤ 1000) : mM G yX2_isLetter cX2_isLetter 1 (some .boolean) 0 [.int (iV v)] μ (pI (wiI v 97 122) μ) := by
  refine mM.of (lv := [some (.int (iV v))]) 0 (by decide +kernel) (Nat.le_of_ble_eq_true rfl) rfl ?_
  intro X
  refine mw_iload_n dX2_isLetter_0 rfl ?_
  refine mw_bipush dX2_isLetter_1 (by decide +kernel) ?_
  refine mw_icmp_lt (tgt := 16) dX2_isLetter_3 (by decide) (by omega) (by omega) (fun c_3 => ?_) (fun c_3 => ?_)
  · refine mw_iconst dX2_isLetter_16 ?_
    refine mw_zret dX2_isLetter_17 rfl (by decide +kernel) ?_
    exact ⟨by unfold wiI; rw [if_neg (by omega)], rfl⟩
  · refine mw_iload_n dX2_isLetter_6 rfl ?_
    refine mw_bipush dX2_isLetter_7 (by decide +kernel) ?_
    refine mw_icmp_gt (tgt := 16) dX2_isLetter_9 (by decide) (by omega) (by omega) (fun c_9 => ?_) (fun c_9 => ?_)
    · refine mw_iconst dX2_isLetter_16 ?_
      refine mw_zret dX2_isLetter_17 rfl (by decide +kernel) ?_
      exact ⟨by unfold wiI; rw [if_neg (by omega)], rfl⟩
    · refine mw_iconst dX2_isLetter_12 ?_
      refine mw_goto (tgt := 17) dX2_isLetter_13 (by decide) ?_
      refine mw_zret dX2_isLetter_17 rfl (by decide +kernel) ?_
      exact ⟨by unfold wiI; rw [if_pos (by omega)], rfl⟩
set_option maxHeartbeats 4000000 in
set_option maxRecDepth 100000 in
theorem c_C_isDigit {G : mG} {μ : mMem} {v : Int} (hv : -1000 ≤ v ∧ v ≤ 1000) : mM G yX2_isDigit cX2_isDigit 1 (some .boolean) 0 [.int (iV v)] μ (pI (wiI v 48 57) μ) := by
  refine mM.of (lv := [some (.int (iV v))]) 0 (by decide +kernel) (Nat.le_of_ble_eq_true rfl) rfl ?_
  intro X
  refine mw_iload_n dX2_isDigit_0 rfl ?_
  refine mw_bipush dX2_isDigit_1 (by decide +kernel) ?_
  refine mw_icmp_lt (tgt := 16) dX2_isDigit_3 (by decide) (by omega) (by omega) (fun c_3 => ?_) (fun c_3 => ?_)
  · refine mw_iconst dX2_isDigit_16 ?_
    refine mw_zret dX2_isDigit_17 rfl (by decide +kernel) ?_
    exact ⟨by unfold wiI; rw [if_neg (by omega)], rfl⟩
  · refine mw_iload_n dX2_isDigit_6 rfl ?_
    refine mw_bipush dX2_isDigit_7 (by decide +kernel) ?_
    refine mw_icmp_gt (tgt := 16) dX2_isDigit_9 (by decide) (by omega) (by omega) (fun c_9 => ?_) (fun c_9 => ?_)
    · refine mw_iconst dX2_isDigit_16 ?_
      refine mw_zret dX2_isDigit_17 rfl (by decide +kernel) ?_
      exact ⟨by unfold wiI; rw [if_neg (by omega)], rfl⟩
    · refine mw_iconst dX2_isDigit_12 ?_
      refine mw_goto (tgt := 17) dX2_isDigit_13 (by decide) ?_
      refine mw_zret dX2_isDigit_17 rfl (by decide +kernel) ?_
      exact ⟨by unfold wiI; rw [if_pos (by omega)], rfl⟩
set_option maxHeartbeats 4000000 in
set_option maxRecDepth 100000 in
theorem c_C_takeWord {G : mG} {μ : mMem} {t : Int → Int} {L b : Int} (hT : TP μ t L) (hb : μ.1 45 3 = b) (hB : 0 ≤ b ∧ b ≤ L) : mM G yX2_takeWord cX2_takeWord 1 none 1 [.ref 45] μ (qV (fun m => SC μ m ∧ m.1 45 1 = 1 ∧ m.1 45 2 = μ.1 45 2 ∧ m.1 45 3 = spn 97 122 t L (L - b).toNat b)) := by
  have hL := hT.2.1
  refine mM.of (lv := [some (.ref 45)]) 0 (by decide +kernel) (Nat.le_of_ble_eq_true rfl) rfl ?_
  intro X
  have lp : ∀ (n_ : Nat) (k : Int) (m : mMem), (b ≤ k) → (k ≤ L) → (121 ≤ k + n_) → (SC μ m) → (m.1 45 1 = 1) → (m.1 45 2 = μ.1 45 2) → (m.1 45 3 = k) → (spn 97 122 t L (L - k).toNat k = spn 97 122 t L (L - b).toNat b) → mW X cX2_takeWord 1 none yX2_takeWord.cls 1 G (qV (fun m => SC μ m ∧ m.1 45 1 = 1 ∧ m.1 45 2 = μ.1 45 2 ∧ m.1 45 3 = spn 97 122 t L (L - b).toNat b)) 5 [some (.ref 45)] [] m := by
    intro n_
    induction n_ with
    | zero =>
      intro k m h1 h2 h3 h4 h5 h6 h7 h8
      omega
    | succ n_ ih =>
      intro k m h1 h2 h3 h4 h5 h6 h7 h8
      have hT2 := hT.sc h4
      refine mw_aload_n dX2_takeWord_5 rfl ?_
      refine mw_getI 3 dX2_takeWord_6 gs_X2_22 (by first | rfl | assumption) rfl rfl ?_
      rw [h7]
      refine mw_aload_n dX2_takeWord_9 rfl ?_
      refine mw_gr_2_0 dX2_takeWord_10 gs_X2_9 (by first | rfl | assumption) ?_
      refine mw_getI 1 dX2_takeWord_13 gs_X2_118 (by first | rfl | assumption) rfl rfl ?_
      rw [hT2.1]
      refine mw_icmp_ge (tgt := 49) dX2_takeWord_16 (by decide) (by omega) (by omega) (fun c_16 => ?_) (fun c_16 => ?_)
      · refine mw_vret dX2_takeWord_49 rfl ?_
        rw [show (L - k).toNat = 0 by omega, spn] at h8
        exact ⟨rfl, h4, h5, h6, by rw [h7, h8]⟩
      · rw [show (L - k).toNat = (L - (k + 1)).toNat + 1 by omega, spn] at h8
        refine mw_aload_n dX2_takeWord_19 rfl ?_
        refine mw_gr_2_0 dX2_takeWord_20 gs_X2_9 (by first | rfl | assumption) ?_
        refine mw_aload_n dX2_takeWord_23 rfl ?_
        refine mw_getI 3 dX2_takeWord_24 gs_X2_22 (by first | rfl | assumption) rfl rfl ?_
        rw [h7]
        have tk := hT2.2.2.2 k (by omega) (by omega)
        refine mw_Vpi (ci := 4) dX2_takeWord_27 ml_X2_108 ok_X4_byteAt (by decide) (by first | rfl | assumption) (by decide) rfl rfl rfl (Nat.le_of_ble_eq_true rfl) (c_C_byteAt hT2 (by omega)) ?_
        refine mw_Spi dX2_takeWord_30 ml_X2_119 ok_X2_isLetter (by decide) rfl rfl (Nat.le_of_ble_eq_true rfl) (c_C_isLetter (by omega)) ?_
        refine mw_if_eq (tgt := 49) dX2_takeWord_33 (by decide) (wi_bd _ _ _) (fun c_33 => ?_) (fun c_33 => ?_)
        · have d := wi_0 c_33
          refine mw_vret dX2_takeWord_49 rfl ?_
          rw [if_neg (fun q => d q.2)] at h8
          exact ⟨rfl, h4, h5, h6, by rw [h7, h8]⟩
        · have d := wi_1 c_33
          refine mw_aload_n dX2_takeWord_36 rfl ?_
          refine mw_dup dX2_takeWord_37 rfl ?_
          refine mw_getI 3 dX2_takeWord_38 gs_X2_22 (by first | rfl | assumption) rfl rfl ?_
          rw [h7]
          refine mw_iconst dX2_takeWord_41 ?_
          refine mw_iadd dX2_takeWord_42 ?_
          refine mw_putI 3 dX2_takeWord_43 ps_X2_22 (by first | rfl | assumption) rfl rfl ?_
          refine mw_goto (tgt := 5) dX2_takeWord_46 (by decide) ?_
          rw [if_pos ⟨by omega, d⟩] at h8
          exact ih _ _ (by omega) (by omega) (by omega) (h4.tr SC.st) (by rw [u1_o (by omega)]; exact h5) (by rw [u1_o (by omega)]; exact h6) (u1_s _ _ _ _) h8
  refine mw_aload_n dX2_takeWord_0 rfl ?_
  refine mw_iconst dX2_takeWord_1 ?_
  refine mw_putI 1 dX2_takeWord_2 ps_X2_15 (by first | rfl | assumption) rfl rfl ?_
  exact lp 121 _ _ (by omega) (by omega) (by omega) SC.st (u1_s _ _ _ _) (u1_o (by omega)) (by rw [u1_o (by omega)]; exact hb) rfl
set_option maxHeartbeats 4000000 in
set_option maxRecDepth 100000 in
theorem c_C_takeNumber {G : mG} {μ : mMem} {t : Int → Int} {L b : Int} (hT : TP μ t L) (hb : μ.1 45 3 = b) (hB : 0 ≤ b ∧ b ≤ L) : mM G yX2_takeNumber cX2_takeNumber 1 none 1 [.ref 45] μ (qV (fun m => SC μ m ∧ m.1 45 1 = 2 ∧ m.1 45 2 = μ.1 45 2 ∧ m.1 45 3 = spn 48 57 t L (L - b).toNat b ∧ m.1 45 4 = min (nuV t L (L - b).toNat b 0) 1000)) := by
  have hL := hT.2.1
  refine mM.of (lv := [some (.ref 45)]) 0 (by decide +kernel) (Nat.le_of_ble_eq_true rfl) rfl ?_
  intro X
  have lp : ∀ (n_ : Nat) (k v : Int) (m : mMem), (b ≤ k) → (k ≤ L) → (121 ≤ k + n_) → (SC μ m) → (m.1 45 1 = 2) → (m.1 45 2 = μ.1 45 2) → (m.1 45 3 = k) → (spn 48 57 t L (L - k).toNat k = spn 48 57 t L (L - b).toNat b) → (0 ≤ v) → (m.1 45 4 = min v 1000) → (nuV t L (L - k).toNat k v = nuV t L (L - b).toNat b 0) → mW X cX2_takeNumber 1 none yX2_takeNumber.cls 1 G (qV (fun m => SC μ m ∧ m.1 45 1 = 2 ∧ m.1 45 2 = μ.1 45 2 ∧ m.1 45 3 = spn 48 57 t L (L - b).toNat b ∧ m.1 45 4 = min (nuV t L (L - b).toNat b 0) 1000)) 10 [some (.ref 45)] [] m := by
    intro n_
    induction n_ with
    | zero =>
      intro k v m h1 h2 h3 h4 h5 h6 h7 h8 hv h9 h10
      omega
    | succ n_ ih =>
      intro k v m h1 h2 h3 h4 h5 h6 h7 h8 hv h9 h10
      have hT2 := hT.sc h4
      refine mw_aload_n dX2_takeNumber_10 rfl ?_
      refine mw_getI 3 dX2_takeNumber_11 gs_X2_22 (by first | rfl | assumption) rfl rfl ?_
      rw [h7]
      refine mw_aload_n dX2_takeNumber_14 rfl ?_
      refine mw_gr_2_0 dX2_takeNumber_15 gs_X2_9 (by first | rfl | assumption) ?_
      refine mw_getI 1 dX2_takeNumber_18 gs_X2_118 (by first | rfl | assumption) rfl rfl ?_
      rw [hT2.1]
      refine mw_icmp_ge (tgt := 86) dX2_takeNumber_21 (by decide) (by omega) (by omega) (fun c_21 => ?_) (fun c_21 => ?_)
      · refine mw_vret dX2_takeNumber_86 rfl ?_
        rw [show (L - k).toNat = 0 by omega, spn] at h8
        rw [show (L - k).toNat = 0 by omega, nuV] at h10
        exact ⟨rfl, h4, h5, h6, by rw [h7, h8], by rw [h9, h10]⟩
      · rw [show (L - k).toNat = (L - (k + 1)).toNat + 1 by omega, spn] at h8
        rw [show (L - k).toNat = (L - (k + 1)).toNat + 1 by omega, nuV] at h10
        refine mw_aload_n dX2_takeNumber_24 rfl ?_
        refine mw_gr_2_0 dX2_takeNumber_25 gs_X2_9 (by first | rfl | assumption) ?_
        refine mw_aload_n dX2_takeNumber_28 rfl ?_
        refine mw_getI 3 dX2_takeNumber_29 gs_X2_22 (by first | rfl | assumption) rfl rfl ?_
        rw [h7]
        have tk := hT2.2.2.2 k (by omega) (by omega)
        refine mw_Vpi (ci := 4) dX2_takeNumber_32 ml_X2_108 ok_X4_byteAt (by decide) (by first | rfl | assumption) (by decide) rfl rfl rfl (Nat.le_of_ble_eq_true rfl) (c_C_byteAt hT2 (by omega)) ?_
        refine mw_Spi dX2_takeNumber_35 ml_X2_125 ok_X2_isDigit (by decide) rfl rfl (Nat.le_of_ble_eq_true rfl) (c_C_isDigit (by omega)) ?_
        refine mw_if_eq (tgt := 86) dX2_takeNumber_38 (by decide) (wi_bd _ _ _) (fun c_38 => ?_) (fun c_38 => ?_)
        · have d := wi_0 c_38
          refine mw_vret dX2_takeNumber_86 rfl ?_
          rw [if_neg (fun q => d q.2)] at h8 h10
          exact ⟨rfl, h4, h5, h6, by rw [h7, h8], by rw [h9, h10]⟩
        · have d := wi_1 c_38
          refine mw_aload_n dX2_takeNumber_41 rfl ?_
          refine mw_bipush dX2_takeNumber_42 (by decide +kernel) ?_
          refine mw_aload_n dX2_takeNumber_44 rfl ?_
          refine mw_getI 4 dX2_takeNumber_45 gs_X2_25 (by first | rfl | assumption) rfl rfl ?_
          rw [h9]
          refine mw_imul dX2_takeNumber_48 ?_
          refine mw_aload_n dX2_takeNumber_49 rfl ?_
          refine mw_gr_2_0 dX2_takeNumber_50 gs_X2_9 (by first | rfl | assumption) ?_
          refine mw_aload_n dX2_takeNumber_53 rfl ?_
          refine mw_getI 3 dX2_takeNumber_54 gs_X2_22 (by first | rfl | assumption) rfl rfl ?_
          rw [h7]
          refine mw_Vpi (ci := 4) dX2_takeNumber_57 ml_X2_108 ok_X4_byteAt (by decide) (by first | rfl | assumption) (by decide) rfl rfl rfl (Nat.le_of_ble_eq_true rfl) (c_C_byteAt hT2 (by omega)) ?_
          refine mw_iadd dX2_takeNumber_60 ?_
          refine mw_bipush dX2_takeNumber_61 (by decide +kernel) ?_
          refine mw_isub dX2_takeNumber_63 ?_
          refine mw_sipush dX2_takeNumber_64 (by decide +kernel) ?_
          refine mw_Spi dX2_takeNumber_67 ml_X2_131 ok_J9_min_7cf53 (by decide) rfl rfl (Nat.le_of_ble_eq_true rfl) (c_min (by omega) (by omega)) ?_
          refine mw_putI 4 dX2_takeNumber_70 ps_X2_25 (by first | rfl | assumption) rfl rfl ?_
          refine mw_aload_n dX2_takeNumber_73 rfl ?_
          refine mw_dup dX2_takeNumber_74 rfl ?_
          refine mw_getI 3 dX2_takeNumber_75 gs_X2_22 (by first | rfl | assumption) rfl rfl ?_
          rw [u1_o (by omega), h7]
          refine mw_iconst dX2_takeNumber_78 ?_
          refine mw_iadd dX2_takeNumber_79 ?_
          refine mw_putI 3 dX2_takeNumber_80 ps_X2_22 (by first | rfl | assumption) rfl rfl ?_
          refine mw_goto (tgt := 10) dX2_takeNumber_83 (by decide) ?_
          rw [if_pos ⟨by omega, d⟩] at h8 h10
          exact ih _ _ _ (by omega) (by omega) (by omega) (h4.tr (SC.st.tr SC.st)) (by rw [u1_o (by omega), u1_o (by omega)]; exact h5) (by rw [u1_o (by omega), u1_o (by omega)]; exact h6) (u1_s _ _ _ _) h8 (by omega) (by rw [u1_o (by omega), u1_s]; omega) h10
  refine mw_aload_n dX2_takeNumber_0 rfl ?_
  refine mw_iconst dX2_takeNumber_1 ?_
  refine mw_putI 1 dX2_takeNumber_2 ps_X2_15 (by first | rfl | assumption) rfl rfl ?_
  refine mw_aload_n dX2_takeNumber_5 rfl ?_
  refine mw_iconst dX2_takeNumber_6 ?_
  refine mw_putI 4 dX2_takeNumber_7 ps_X2_25 (by first | rfl | assumption) rfl rfl ?_
  exact lp 121 _ 0 _ (by omega) (by omega) (by omega) (SC.st.tr SC.st) (by rw [u1_o (by omega), u1_s]) (by rw [u1_o (by omega), u1_o (by omega)]) (by rw [u1_o (by omega), u1_o (by omega)]; exact hb) rfl (by omega) (by rw [u1_s]; rfl) rfl
set_option maxHeartbeats 4000000 in
set_option maxRecDepth 100000 in
theorem c_C_advance {G : mG} {μ : mMem} {t : Int → Int} {L e : Int} (hT : TP μ t L) (he : μ.1 45 3 = e) (hE : 0 ≤ e ∧ e ≤ L) : mM G yX2_advance cX2_advance 1 none 2 [.ref 45] μ (qV (fun m => SC μ m ∧ TK m t L e)) := by
  have hL := hT.2.1
  have hbb := tB_bd t hE
  refine mM.of (lv := [some (.ref 45)]) 0 (by decide +kernel) (Nat.le_of_ble_eq_true rfl) rfl ?_
  intro X
  have lp : ∀ (n_ : Nat) (k : Int) (m : mMem), (e ≤ k) → (k ≤ L) → (121 ≤ k + n_) → (SC μ m) → (m.1 45 2 = k) → (spn 32 32 t L (L - k).toNat k = tB t L e) → mW X cX2_advance 1 none yX2_advance.cls 2 G (qV (fun m => SC μ m ∧ TK m t L e)) 8 [some (.ref 45)] [] m := by
    intro n_
    induction n_ with
    | zero =>
      intro k m h1 h2 h3 h4 h7 h8
      omega
    | succ n_ ih =>
      intro k m h1 h2 h3 h4 h7 h8
      have hT2 := hT.sc h4
      refine mw_aload_n dX2_advance_8 rfl ?_
      refine mw_getI 2 dX2_advance_9 gs_X2_19 (by first | rfl | assumption) rfl rfl ?_
      rw [h7]
      refine mw_aload_n dX2_advance_12 rfl ?_
      refine mw_gr_2_0 dX2_advance_13 gs_X2_9 (by first | rfl | assumption) ?_
      refine mw_getI 1 dX2_advance_16 gs_X2_118 (by first | rfl | assumption) rfl rfl ?_
      rw [hT2.1]
      refine mw_icmp_ge (tgt := 51) dX2_advance_19 (by decide) (by omega) (by omega) (fun c_19 => ?_) (fun c_19 => ?_)
      · rw [show (L - k).toNat = 0 by omega, spn] at h8
        refine mw_aload_n dX2_advance_51 rfl ?_
        refine mw_aload_n dX2_advance_52 rfl ?_
        refine mw_getI 2 dX2_advance_53 gs_X2_19 (by first | rfl | assumption) rfl rfl ?_
        rw [h7]
        have hT3 : TP (u1 m 45 3 k) t L := hT.sc (h4.tr SC.st)
        refine mw_putI 3 dX2_advance_56 ps_X2_22 (by first | rfl | assumption) rfl rfl ?_
        refine mw_aload_n dX2_advance_59 rfl ?_
        refine mw_getI 2 dX2_advance_60 gs_X2_19 (by first | rfl | assumption) rfl rfl ?_
        rw [u1_o (by omega), h7]
        refine mw_aload_n dX2_advance_63 rfl ?_
        refine mw_gr_2_0 dX2_advance_64 gs_X2_9 (by first | rfl | assumption) ?_
        refine mw_getI 1 dX2_advance_67 gs_X2_118 (by first | rfl | assumption) rfl rfl ?_
        rw [hT3.1]
        refine mw_icmp_lt (tgt := 81) dX2_advance_70 (by decide) (by omega) (by omega) (fun c_70 => ?_) (fun c_70 => ?_)
        · refine mw_aload_n dX2_advance_81 rfl ?_
          refine mw_gr_2_0 dX2_advance_82 gs_X2_9 (by first | rfl | assumption) ?_
          refine mw_aload_n dX2_advance_85 rfl ?_
          refine mw_getI 2 dX2_advance_86 gs_X2_19 (by first | rfl | assumption) rfl rfl ?_
          rw [u1_o (by omega), h7]
          have tk := hT3.2.2.2 k (by omega) (by omega)
          refine mw_Vpi (ci := 4) dX2_advance_89 ml_X2_108 ok_X4_byteAt (by decide) (by first | rfl | assumption) (by decide) rfl rfl rfl (Nat.le_of_ble_eq_true rfl) (c_C_byteAt hT3 (by omega)) ?_
          refine mw_Spi dX2_advance_92 ml_X2_119 ok_X2_isLetter (by decide) rfl rfl (Nat.le_of_ble_eq_true rfl) (c_C_isLetter (by omega)) ?_
          refine mw_if_eq (tgt := 105) dX2_advance_95 (by decide) (wi_bd _ _ _) (fun c_95 => ?_) (fun c_95 => ?_)
          · have d := wi_0 c_95
            refine mw_aload_n dX2_advance_105 rfl ?_
            refine mw_gr_2_0 dX2_advance_106 gs_X2_9 (by first | rfl | assumption) ?_
            refine mw_aload_n dX2_advance_109 rfl ?_
            refine mw_getI 2 dX2_advance_110 gs_X2_19 (by first | rfl | assumption) rfl rfl ?_
            rw [u1_o (by omega), h7]
            refine mw_Vpi (ci := 4) dX2_advance_113 ml_X2_108 ok_X4_byteAt (by decide) (by first | rfl | assumption) (by decide) rfl rfl rfl (Nat.le_of_ble_eq_true rfl) (c_C_byteAt hT3 (by omega)) ?_
            refine mw_Spi dX2_advance_116 ml_X2_125 ok_X2_isDigit (by decide) rfl rfl (Nat.le_of_ble_eq_true rfl) (c_C_isDigit (by omega)) ?_
            refine mw_if_eq (tgt := 129) dX2_advance_119 (by decide) (wi_bd _ _ _) (fun c_119 => ?_) (fun c_119 => ?_)
            · have d2 := wi_0 c_119
              refine mw_aload_n dX2_advance_129 rfl ?_
              refine mw_aload_n dX2_advance_130 rfl ?_
              refine mw_gr_2_0 dX2_advance_131 gs_X2_9 (by first | rfl | assumption) ?_
              refine mw_aload_n dX2_advance_134 rfl ?_
              refine mw_getI 2 dX2_advance_135 gs_X2_19 (by first | rfl | assumption) rfl rfl ?_
              rw [u1_o (by omega), h7]
              refine mw_Vpi (ci := 4) dX2_advance_138 ml_X2_108 ok_X4_byteAt (by decide) (by first | rfl | assumption) (by decide) rfl rfl rfl (Nat.le_of_ble_eq_true rfl) (c_C_byteAt hT3 (by omega)) ?_
              refine mw_bipush dX2_advance_141 (by decide +kernel) ?_
              refine mw_icmp_ne (tgt := 150) dX2_advance_143 (by decide) (by omega) (by omega) (fun c_143 => ?_) (fun c_143 => ?_)
              · refine mw_iconst dX2_advance_150 ?_
                refine mw_putI 1 dX2_advance_151 ps_X2_15 (by first | rfl | assumption) rfl rfl ?_
                refine mw_aload_n dX2_advance_154 rfl ?_
                refine mw_aload_n dX2_advance_155 rfl ?_
                refine mw_getI 2 dX2_advance_156 gs_X2_19 (by first | rfl | assumption) rfl rfl ?_
                rw [u1_o (by omega), u1_o (by omega), h7]
                refine mw_iconst dX2_advance_159 ?_
                refine mw_iadd dX2_advance_160 ?_
                refine mw_putI 3 dX2_advance_161 ps_X2_22 (by first | rfl | assumption) rfl rfl ?_
                refine mw_vret dX2_advance_164 rfl ?_
                first
                | (exfalso; omega)
                | (have hts : tS t L e = 0 := by unfold tS; rw [if_pos (by omega)]
                   have hte : tE t L e = tB t L e := by unfold tE; rw [if_pos hts]
                   exact ⟨rfl, h4.tr (SC.st.tr SC.st), by rw [u1_s]; unfold cK; rw [if_neg (by omega), hts], by rw [u1_o (by omega), u1_o (by omega), h7, h8], by rw [u1_o (by omega), u1_s, hte, h8], fun q => by omega⟩)
                | (have hts : tS t L e = 1 := by unfold tS; rw [if_neg (by omega), if_pos (by rw [← h8]; exact d)]
                   have hte : tE t L e = spn 97 122 t L (L - tB t L e).toNat (tB t L e) := by unfold tE; rw [if_neg (by omega), if_pos hts]
                   obtain ⟨m1, m2, m3, m4⟩ := h_99
                   exact ⟨rfl, h4.tr (SC.st.tr m1), by rw [m2]; unfold cK; rw [if_neg (by omega), hts], by rw [m3, u1_o (by omega), h7, h8], by rw [m4, hte, h8], fun q => by omega⟩)
                | (have hts : tS t L e = 2 := by unfold tS; rw [if_neg (by omega), if_neg (by rw [← h8]; exact d), if_pos (by rw [← h8]; exact d2)]
                   have hte : tE t L e = spn 48 57 t L (L - tB t L e).toNat (tB t L e) := by unfold tE; rw [if_neg (by omega), if_neg (by omega), if_pos hts]
                   obtain ⟨m1, m2, m3, m4, m5⟩ := h_123
                   exact ⟨rfl, h4.tr (SC.st.tr m1), by rw [m2]; unfold cK; rw [if_neg (by omega), hts], by rw [m3, u1_o (by omega), h7, h8], by rw [m4, hte, h8], fun q => by rw [m5, h8]; rfl⟩)
                | (have hts : tS t L e = 3 := by unfold tS; rw [if_neg (by omega), if_neg (by rw [← h8]; exact d), if_neg (by rw [← h8]; exact d2)]
                   have hte : tE t L e = tB t L e + 1 := by unfold tE; rw [if_neg (by omega), if_neg (by omega), if_neg (by omega)]
                   exact ⟨rfl, h4.tr (SC.st.tr (SC.st.tr SC.st)), by rw [u1_o (by omega), u1_s]; unfold cK; rw [if_pos hts, ← h8]; first | rw [if_pos c_143] | rw [if_neg c_143], by rw [u1_o (by omega), u1_o (by omega), u1_o (by omega), h7, h8], by rw [u1_s, hte, h8], fun q => by omega⟩)
              · refine mw_iconst dX2_advance_146 ?_
                refine mw_goto (tgt := 151) dX2_advance_147 (by decide) ?_
                refine mw_putI 1 dX2_advance_151 ps_X2_15 (by first | rfl | assumption) rfl rfl ?_
                refine mw_aload_n dX2_advance_154 rfl ?_
                refine mw_aload_n dX2_advance_155 rfl ?_
                refine mw_getI 2 dX2_advance_156 gs_X2_19 (by first | rfl | assumption) rfl rfl ?_
                rw [u1_o (by omega), u1_o (by omega), h7]
                refine mw_iconst dX2_advance_159 ?_
                refine mw_iadd dX2_advance_160 ?_
                refine mw_putI 3 dX2_advance_161 ps_X2_22 (by first | rfl | assumption) rfl rfl ?_
                refine mw_vret dX2_advance_164 rfl ?_
                first
                | (exfalso; omega)
                | (have hts : tS t L e = 0 := by unfold tS; rw [if_pos (by omega)]
                   have hte : tE t L e = tB t L e := by unfold tE; rw [if_pos hts]
                   exact ⟨rfl, h4.tr (SC.st.tr SC.st), by rw [u1_s]; unfold cK; rw [if_neg (by omega), hts], by rw [u1_o (by omega), u1_o (by omega), h7, h8], by rw [u1_o (by omega), u1_s, hte, h8], fun q => by omega⟩)
                | (have hts : tS t L e = 1 := by unfold tS; rw [if_neg (by omega), if_pos (by rw [← h8]; exact d)]
                   have hte : tE t L e = spn 97 122 t L (L - tB t L e).toNat (tB t L e) := by unfold tE; rw [if_neg (by omega), if_pos hts]
                   obtain ⟨m1, m2, m3, m4⟩ := h_99
                   exact ⟨rfl, h4.tr (SC.st.tr m1), by rw [m2]; unfold cK; rw [if_neg (by omega), hts], by rw [m3, u1_o (by omega), h7, h8], by rw [m4, hte, h8], fun q => by omega⟩)
                | (have hts : tS t L e = 2 := by unfold tS; rw [if_neg (by omega), if_neg (by rw [← h8]; exact d), if_pos (by rw [← h8]; exact d2)]
                   have hte : tE t L e = spn 48 57 t L (L - tB t L e).toNat (tB t L e) := by unfold tE; rw [if_neg (by omega), if_neg (by omega), if_pos hts]
                   obtain ⟨m1, m2, m3, m4, m5⟩ := h_123
                   exact ⟨rfl, h4.tr (SC.st.tr m1), by rw [m2]; unfold cK; rw [if_neg (by omega), hts], by rw [m3, u1_o (by omega), h7, h8], by rw [m4, hte, h8], fun q => by rw [m5, h8]; rfl⟩)
                | (have hts : tS t L e = 3 := by unfold tS; rw [if_neg (by omega), if_neg (by rw [← h8]; exact d), if_neg (by rw [← h8]; exact d2)]
                   have hte : tE t L e = tB t L e + 1 := by unfold tE; rw [if_neg (by omega), if_neg (by omega), if_neg (by omega)]
                   exact ⟨rfl, h4.tr (SC.st.tr (SC.st.tr SC.st)), by rw [u1_o (by omega), u1_s]; unfold cK; rw [if_pos hts, ← h8]; first | rw [if_pos c_143] | rw [if_neg c_143], by rw [u1_o (by omega), u1_o (by omega), u1_o (by omega), h7, h8], by rw [u1_s, hte, h8], fun q => by omega⟩)
            · have d2 := wi_1 c_119
              refine mw_aload_n dX2_advance_122 rfl ?_
              refine mw_Vv (ci := 2) dX2_advance_123 ml_X2_128 ok_X2_takeNumber (by decide) (by first | rfl | assumption) (by decide) rfl rfl rfl (Nat.le_of_ble_eq_true rfl) (c_C_takeNumber hT3 (u1_s _ _ _ _) (by omega)) (fun m_123 h_123 => ?_)
              refine mw_goto (tgt := 164) dX2_advance_126 (by decide) ?_
              refine mw_vret dX2_advance_164 rfl ?_
              first
              | (exfalso; omega)
              | (have hts : tS t L e = 0 := by unfold tS; rw [if_pos (by omega)]
                 have hte : tE t L e = tB t L e := by unfold tE; rw [if_pos hts]
                 exact ⟨rfl, h4.tr (SC.st.tr SC.st), by rw [u1_s]; unfold cK; rw [if_neg (by omega), hts], by rw [u1_o (by omega), u1_o (by omega), h7, h8], by rw [u1_o (by omega), u1_s, hte, h8], fun q => by omega⟩)
              | (have hts : tS t L e = 1 := by unfold tS; rw [if_neg (by omega), if_pos (by rw [← h8]; exact d)]
                 have hte : tE t L e = spn 97 122 t L (L - tB t L e).toNat (tB t L e) := by unfold tE; rw [if_neg (by omega), if_pos hts]
                 obtain ⟨m1, m2, m3, m4⟩ := h_99
                 exact ⟨rfl, h4.tr (SC.st.tr m1), by rw [m2]; unfold cK; rw [if_neg (by omega), hts], by rw [m3, u1_o (by omega), h7, h8], by rw [m4, hte, h8], fun q => by omega⟩)
              | (have hts : tS t L e = 2 := by unfold tS; rw [if_neg (by omega), if_neg (by rw [← h8]; exact d), if_pos (by rw [← h8]; exact d2)]
                 have hte : tE t L e = spn 48 57 t L (L - tB t L e).toNat (tB t L e) := by unfold tE; rw [if_neg (by omega), if_neg (by omega), if_pos hts]
                 obtain ⟨m1, m2, m3, m4, m5⟩ := h_123
                 exact ⟨rfl, h4.tr (SC.st.tr m1), by rw [m2]; unfold cK; rw [if_neg (by omega), hts], by rw [m3, u1_o (by omega), h7, h8], by rw [m4, hte, h8], fun q => by rw [m5, h8]; rfl⟩)
              | (have hts : tS t L e = 3 := by unfold tS; rw [if_neg (by omega), if_neg (by rw [← h8]; exact d), if_neg (by rw [← h8]; exact d2)]
                 have hte : tE t L e = tB t L e + 1 := by unfold tE; rw [if_neg (by omega), if_neg (by omega), if_neg (by omega)]
                 exact ⟨rfl, h4.tr (SC.st.tr (SC.st.tr SC.st)), by rw [u1_o (by omega), u1_s]; unfold cK; rw [if_pos hts, ← h8]; first | rw [if_pos c_143] | rw [if_neg c_143], by rw [u1_o (by omega), u1_o (by omega), u1_o (by omega), h7, h8], by rw [u1_s, hte, h8], fun q => by omega⟩)
          · have d := wi_1 c_95
            refine mw_aload_n dX2_advance_98 rfl ?_
            refine mw_Vv (ci := 2) dX2_advance_99 ml_X2_122 ok_X2_takeWord (by decide) (by first | rfl | assumption) (by decide) rfl rfl rfl (Nat.le_of_ble_eq_true rfl) (c_C_takeWord hT3 (u1_s _ _ _ _) (by omega)) (fun m_99 h_99 => ?_)
            refine mw_goto (tgt := 164) dX2_advance_102 (by decide) ?_
            refine mw_vret dX2_advance_164 rfl ?_
            first
            | (exfalso; omega)
            | (have hts : tS t L e = 0 := by unfold tS; rw [if_pos (by omega)]
               have hte : tE t L e = tB t L e := by unfold tE; rw [if_pos hts]
               exact ⟨rfl, h4.tr (SC.st.tr SC.st), by rw [u1_s]; unfold cK; rw [if_neg (by omega), hts], by rw [u1_o (by omega), u1_o (by omega), h7, h8], by rw [u1_o (by omega), u1_s, hte, h8], fun q => by omega⟩)
            | (have hts : tS t L e = 1 := by unfold tS; rw [if_neg (by omega), if_pos (by rw [← h8]; exact d)]
               have hte : tE t L e = spn 97 122 t L (L - tB t L e).toNat (tB t L e) := by unfold tE; rw [if_neg (by omega), if_pos hts]
               obtain ⟨m1, m2, m3, m4⟩ := h_99
               exact ⟨rfl, h4.tr (SC.st.tr m1), by rw [m2]; unfold cK; rw [if_neg (by omega), hts], by rw [m3, u1_o (by omega), h7, h8], by rw [m4, hte, h8], fun q => by omega⟩)
            | (have hts : tS t L e = 2 := by unfold tS; rw [if_neg (by omega), if_neg (by rw [← h8]; exact d), if_pos (by rw [← h8]; exact d2)]
               have hte : tE t L e = spn 48 57 t L (L - tB t L e).toNat (tB t L e) := by unfold tE; rw [if_neg (by omega), if_neg (by omega), if_pos hts]
               obtain ⟨m1, m2, m3, m4, m5⟩ := h_123
               exact ⟨rfl, h4.tr (SC.st.tr m1), by rw [m2]; unfold cK; rw [if_neg (by omega), hts], by rw [m3, u1_o (by omega), h7, h8], by rw [m4, hte, h8], fun q => by rw [m5, h8]; rfl⟩)
            | (have hts : tS t L e = 3 := by unfold tS; rw [if_neg (by omega), if_neg (by rw [← h8]; exact d), if_neg (by rw [← h8]; exact d2)]
               have hte : tE t L e = tB t L e + 1 := by unfold tE; rw [if_neg (by omega), if_neg (by omega), if_neg (by omega)]
               exact ⟨rfl, h4.tr (SC.st.tr (SC.st.tr SC.st)), by rw [u1_o (by omega), u1_s]; unfold cK; rw [if_pos hts, ← h8]; first | rw [if_pos c_143] | rw [if_neg c_143], by rw [u1_o (by omega), u1_o (by omega), u1_o (by omega), h7, h8], by rw [u1_s, hte, h8], fun q => by omega⟩)
        · refine mw_aload_n dX2_advance_73 rfl ?_
          refine mw_iconst dX2_advance_74 ?_
          refine mw_putI 1 dX2_advance_75 ps_X2_15 (by first | rfl | assumption) rfl rfl ?_
          refine mw_goto (tgt := 164) dX2_advance_78 (by decide) ?_
          refine mw_vret dX2_advance_164 rfl ?_
          first
          | (exfalso; omega)
          | (have hts : tS t L e = 0 := by unfold tS; rw [if_pos (by omega)]
             have hte : tE t L e = tB t L e := by unfold tE; rw [if_pos hts]
             exact ⟨rfl, h4.tr (SC.st.tr SC.st), by rw [u1_s]; unfold cK; rw [if_neg (by omega), hts], by rw [u1_o (by omega), u1_o (by omega), h7, h8], by rw [u1_o (by omega), u1_s, hte, h8], fun q => by omega⟩)
          | (have hts : tS t L e = 1 := by unfold tS; rw [if_neg (by omega), if_pos (by rw [← h8]; exact d)]
             have hte : tE t L e = spn 97 122 t L (L - tB t L e).toNat (tB t L e) := by unfold tE; rw [if_neg (by omega), if_pos hts]
             obtain ⟨m1, m2, m3, m4⟩ := h_99
             exact ⟨rfl, h4.tr (SC.st.tr m1), by rw [m2]; unfold cK; rw [if_neg (by omega), hts], by rw [m3, u1_o (by omega), h7, h8], by rw [m4, hte, h8], fun q => by omega⟩)
          | (have hts : tS t L e = 2 := by unfold tS; rw [if_neg (by omega), if_neg (by rw [← h8]; exact d), if_pos (by rw [← h8]; exact d2)]
             have hte : tE t L e = spn 48 57 t L (L - tB t L e).toNat (tB t L e) := by unfold tE; rw [if_neg (by omega), if_neg (by omega), if_pos hts]
             obtain ⟨m1, m2, m3, m4, m5⟩ := h_123
             exact ⟨rfl, h4.tr (SC.st.tr m1), by rw [m2]; unfold cK; rw [if_neg (by omega), hts], by rw [m3, u1_o (by omega), h7, h8], by rw [m4, hte, h8], fun q => by rw [m5, h8]; rfl⟩)
          | (have hts : tS t L e = 3 := by unfold tS; rw [if_neg (by omega), if_neg (by rw [← h8]; exact d), if_neg (by rw [← h8]; exact d2)]
             have hte : tE t L e = tB t L e + 1 := by unfold tE; rw [if_neg (by omega), if_neg (by omega), if_neg (by omega)]
             exact ⟨rfl, h4.tr (SC.st.tr (SC.st.tr SC.st)), by rw [u1_o (by omega), u1_s]; unfold cK; rw [if_pos hts, ← h8]; first | rw [if_pos c_143] | rw [if_neg c_143], by rw [u1_o (by omega), u1_o (by omega), u1_o (by omega), h7, h8], by rw [u1_s, hte, h8], fun q => by omega⟩)
      · refine mw_aload_n dX2_advance_22 rfl ?_
        refine mw_gr_2_0 dX2_advance_23 gs_X2_9 (by first | rfl | assumption) ?_
        refine mw_aload_n dX2_advance_26 rfl ?_
        refine mw_getI 2 dX2_advance_27 gs_X2_19 (by first | rfl | assumption) rfl rfl ?_
        rw [h7]
        have tk := hT2.2.2.2 k (by omega) (by omega)
        refine mw_Vpi (ci := 4) dX2_advance_30 ml_X2_108 ok_X4_byteAt (by decide) (by first | rfl | assumption) (by decide) rfl rfl rfl (Nat.le_of_ble_eq_true rfl) (c_C_byteAt hT2 (by omega)) ?_
        refine mw_bipush dX2_advance_33 (by decide +kernel) ?_
        refine mw_icmp_ne (tgt := 51) dX2_advance_35 (by decide) (by omega) (by omega) (fun c_35 => ?_) (fun c_35 => ?_)
        · rw [show (L - k).toNat = (L - (k + 1)).toNat + 1 by omega, spn] at h8
          rw [if_neg (fun q => c_35 (by omega))] at h8
          refine mw_aload_n dX2_advance_51 rfl ?_
          refine mw_aload_n dX2_advance_52 rfl ?_
          refine mw_getI 2 dX2_advance_53 gs_X2_19 (by first | rfl | assumption) rfl rfl ?_
          rw [h7]
          have hT3 : TP (u1 m 45 3 k) t L := hT.sc (h4.tr SC.st)
          refine mw_putI 3 dX2_advance_56 ps_X2_22 (by first | rfl | assumption) rfl rfl ?_
          refine mw_aload_n dX2_advance_59 rfl ?_
          refine mw_getI 2 dX2_advance_60 gs_X2_19 (by first | rfl | assumption) rfl rfl ?_
          rw [u1_o (by omega), h7]
          refine mw_aload_n dX2_advance_63 rfl ?_
          refine mw_gr_2_0 dX2_advance_64 gs_X2_9 (by first | rfl | assumption) ?_
          refine mw_getI 1 dX2_advance_67 gs_X2_118 (by first | rfl | assumption) rfl rfl ?_
          rw [hT3.1]
          refine mw_icmp_lt (tgt := 81) dX2_advance_70 (by decide) (by omega) (by omega) (fun c_70 => ?_) (fun c_70 => ?_)
          · refine mw_aload_n dX2_advance_81 rfl ?_
            refine mw_gr_2_0 dX2_advance_82 gs_X2_9 (by first | rfl | assumption) ?_
            refine mw_aload_n dX2_advance_85 rfl ?_
            refine mw_getI 2 dX2_advance_86 gs_X2_19 (by first | rfl | assumption) rfl rfl ?_
            rw [u1_o (by omega), h7]
            have tk := hT3.2.2.2 k (by omega) (by omega)
            refine mw_Vpi (ci := 4) dX2_advance_89 ml_X2_108 ok_X4_byteAt (by decide) (by first | rfl | assumption) (by decide) rfl rfl rfl (Nat.le_of_ble_eq_true rfl) (c_C_byteAt hT3 (by omega)) ?_
            refine mw_Spi dX2_advance_92 ml_X2_119 ok_X2_isLetter (by decide) rfl rfl (Nat.le_of_ble_eq_true rfl) (c_C_isLetter (by omega)) ?_
            refine mw_if_eq (tgt := 105) dX2_advance_95 (by decide) (wi_bd _ _ _) (fun c_95 => ?_) (fun c_95 => ?_)
            · have d := wi_0 c_95
              refine mw_aload_n dX2_advance_105 rfl ?_
              refine mw_gr_2_0 dX2_advance_106 gs_X2_9 (by first | rfl | assumption) ?_
              refine mw_aload_n dX2_advance_109 rfl ?_
              refine mw_getI 2 dX2_advance_110 gs_X2_19 (by first | rfl | assumption) rfl rfl ?_
              rw [u1_o (by omega), h7]
              refine mw_Vpi (ci := 4) dX2_advance_113 ml_X2_108 ok_X4_byteAt (by decide) (by first | rfl | assumption) (by decide) rfl rfl rfl (Nat.le_of_ble_eq_true rfl) (c_C_byteAt hT3 (by omega)) ?_
              refine mw_Spi dX2_advance_116 ml_X2_125 ok_X2_isDigit (by decide) rfl rfl (Nat.le_of_ble_eq_true rfl) (c_C_isDigit (by omega)) ?_
              refine mw_if_eq (tgt := 129) dX2_advance_119 (by decide) (wi_bd _ _ _) (fun c_119 => ?_) (fun c_119 => ?_)
              · have d2 := wi_0 c_119
                refine mw_aload_n dX2_advance_129 rfl ?_
                refine mw_aload_n dX2_advance_130 rfl ?_
                refine mw_gr_2_0 dX2_advance_131 gs_X2_9 (by first | rfl | assumption) ?_
                refine mw_aload_n dX2_advance_134 rfl ?_
                refine mw_getI 2 dX2_advance_135 gs_X2_19 (by first | rfl | assumption) rfl rfl ?_
                rw [u1_o (by omega), h7]
                refine mw_Vpi (ci := 4) dX2_advance_138 ml_X2_108 ok_X4_byteAt (by decide) (by first | rfl | assumption) (by decide) rfl rfl rfl (Nat.le_of_ble_eq_true rfl) (c_C_byteAt hT3 (by omega)) ?_
                refine mw_bipush dX2_advance_141 (by decide +kernel) ?_
                refine mw_icmp_ne (tgt := 150) dX2_advance_143 (by decide) (by omega) (by omega) (fun c_143 => ?_) (fun c_143 => ?_)
                · refine mw_iconst dX2_advance_150 ?_
                  refine mw_putI 1 dX2_advance_151 ps_X2_15 (by first | rfl | assumption) rfl rfl ?_
                  refine mw_aload_n dX2_advance_154 rfl ?_
                  refine mw_aload_n dX2_advance_155 rfl ?_
                  refine mw_getI 2 dX2_advance_156 gs_X2_19 (by first | rfl | assumption) rfl rfl ?_
                  rw [u1_o (by omega), u1_o (by omega), h7]
                  refine mw_iconst dX2_advance_159 ?_
                  refine mw_iadd dX2_advance_160 ?_
                  refine mw_putI 3 dX2_advance_161 ps_X2_22 (by first | rfl | assumption) rfl rfl ?_
                  refine mw_vret dX2_advance_164 rfl ?_
                  first
                  | (exfalso; omega)
                  | (have hts : tS t L e = 0 := by unfold tS; rw [if_pos (by omega)]
                     have hte : tE t L e = tB t L e := by unfold tE; rw [if_pos hts]
                     exact ⟨rfl, h4.tr (SC.st.tr SC.st), by rw [u1_s]; unfold cK; rw [if_neg (by omega), hts], by rw [u1_o (by omega), u1_o (by omega), h7, h8], by rw [u1_o (by omega), u1_s, hte, h8], fun q => by omega⟩)
                  | (have hts : tS t L e = 1 := by unfold tS; rw [if_neg (by omega), if_pos (by rw [← h8]; exact d)]
                     have hte : tE t L e = spn 97 122 t L (L - tB t L e).toNat (tB t L e) := by unfold tE; rw [if_neg (by omega), if_pos hts]
                     obtain ⟨m1, m2, m3, m4⟩ := h_99
                     exact ⟨rfl, h4.tr (SC.st.tr m1), by rw [m2]; unfold cK; rw [if_neg (by omega), hts], by rw [m3, u1_o (by omega), h7, h8], by rw [m4, hte, h8], fun q => by omega⟩)
                  | (have hts : tS t L e = 2 := by unfold tS; rw [if_neg (by omega), if_neg (by rw [← h8]; exact d), if_pos (by rw [← h8]; exact d2)]
                     have hte : tE t L e = spn 48 57 t L (L - tB t L e).toNat (tB t L e) := by unfold tE; rw [if_neg (by omega), if_neg (by omega), if_pos hts]
                     obtain ⟨m1, m2, m3, m4, m5⟩ := h_123
                     exact ⟨rfl, h4.tr (SC.st.tr m1), by rw [m2]; unfold cK; rw [if_neg (by omega), hts], by rw [m3, u1_o (by omega), h7, h8], by rw [m4, hte, h8], fun q => by rw [m5, h8]; rfl⟩)
                  | (have hts : tS t L e = 3 := by unfold tS; rw [if_neg (by omega), if_neg (by rw [← h8]; exact d), if_neg (by rw [← h8]; exact d2)]
                     have hte : tE t L e = tB t L e + 1 := by unfold tE; rw [if_neg (by omega), if_neg (by omega), if_neg (by omega)]
                     exact ⟨rfl, h4.tr (SC.st.tr (SC.st.tr SC.st)), by rw [u1_o (by omega), u1_s]; unfold cK; rw [if_pos hts, ← h8]; first | rw [if_pos c_143] | rw [if_neg c_143], by rw [u1_o (by omega), u1_o (by omega), u1_o (by omega), h7, h8], by rw [u1_s, hte, h8], fun q => by omega⟩)
                · refine mw_iconst dX2_advance_146 ?_
                  refine mw_goto (tgt := 151) dX2_advance_147 (by decide) ?_
                  refine mw_putI 1 dX2_advance_151 ps_X2_15 (by first | rfl | assumption) rfl rfl ?_
                  refine mw_aload_n dX2_advance_154 rfl ?_
                  refine mw_aload_n dX2_advance_155 rfl ?_
                  refine mw_getI 2 dX2_advance_156 gs_X2_19 (by first | rfl | assumption) rfl rfl ?_
                  rw [u1_o (by omega), u1_o (by omega), h7]
                  refine mw_iconst dX2_advance_159 ?_
                  refine mw_iadd dX2_advance_160 ?_
                  refine mw_putI 3 dX2_advance_161 ps_X2_22 (by first | rfl | assumption) rfl rfl ?_
                  refine mw_vret dX2_advance_164 rfl ?_
                  first
                  | (exfalso; omega)
                  | (have hts : tS t L e = 0 := by unfold tS; rw [if_pos (by omega)]
                     have hte : tE t L e = tB t L e := by unfold tE; rw [if_pos hts]
                     exact ⟨rfl, h4.tr (SC.st.tr SC.st), by rw [u1_s]; unfold cK; rw [if_neg (by omega), hts], by rw [u1_o (by omega), u1_o (by omega), h7, h8], by rw [u1_o (by omega), u1_s, hte, h8], fun q => by omega⟩)
                  | (have hts : tS t L e = 1 := by unfold tS; rw [if_neg (by omega), if_pos (by rw [← h8]; exact d)]
                     have hte : tE t L e = spn 97 122 t L (L - tB t L e).toNat (tB t L e) := by unfold tE; rw [if_neg (by omega), if_pos hts]
                     obtain ⟨m1, m2, m3, m4⟩ := h_99
                     exact ⟨rfl, h4.tr (SC.st.tr m1), by rw [m2]; unfold cK; rw [if_neg (by omega), hts], by rw [m3, u1_o (by omega), h7, h8], by rw [m4, hte, h8], fun q => by omega⟩)
                  | (have hts : tS t L e = 2 := by unfold tS; rw [if_neg (by omega), if_neg (by rw [← h8]; exact d), if_pos (by rw [← h8]; exact d2)]
                     have hte : tE t L e = spn 48 57 t L (L - tB t L e).toNat (tB t L e) := by unfold tE; rw [if_neg (by omega), if_neg (by omega), if_pos hts]
                     obtain ⟨m1, m2, m3, m4, m5⟩ := h_123
                     exact ⟨rfl, h4.tr (SC.st.tr m1), by rw [m2]; unfold cK; rw [if_neg (by omega), hts], by rw [m3, u1_o (by omega), h7, h8], by rw [m4, hte, h8], fun q => by rw [m5, h8]; rfl⟩)
                  | (have hts : tS t L e = 3 := by unfold tS; rw [if_neg (by omega), if_neg (by rw [← h8]; exact d), if_neg (by rw [← h8]; exact d2)]
                     have hte : tE t L e = tB t L e + 1 := by unfold tE; rw [if_neg (by omega), if_neg (by omega), if_neg (by omega)]
                     exact ⟨rfl, h4.tr (SC.st.tr (SC.st.tr SC.st)), by rw [u1_o (by omega), u1_s]; unfold cK; rw [if_pos hts, ← h8]; first | rw [if_pos c_143] | rw [if_neg c_143], by rw [u1_o (by omega), u1_o (by omega), u1_o (by omega), h7, h8], by rw [u1_s, hte, h8], fun q => by omega⟩)
              · have d2 := wi_1 c_119
                refine mw_aload_n dX2_advance_122 rfl ?_
                refine mw_Vv (ci := 2) dX2_advance_123 ml_X2_128 ok_X2_takeNumber (by decide) (by first | rfl | assumption) (by decide) rfl rfl rfl (Nat.le_of_ble_eq_true rfl) (c_C_takeNumber hT3 (u1_s _ _ _ _) (by omega)) (fun m_123 h_123 => ?_)
                refine mw_goto (tgt := 164) dX2_advance_126 (by decide) ?_
                refine mw_vret dX2_advance_164 rfl ?_
                first
                | (exfalso; omega)
                | (have hts : tS t L e = 0 := by unfold tS; rw [if_pos (by omega)]
                   have hte : tE t L e = tB t L e := by unfold tE; rw [if_pos hts]
                   exact ⟨rfl, h4.tr (SC.st.tr SC.st), by rw [u1_s]; unfold cK; rw [if_neg (by omega), hts], by rw [u1_o (by omega), u1_o (by omega), h7, h8], by rw [u1_o (by omega), u1_s, hte, h8], fun q => by omega⟩)
                | (have hts : tS t L e = 1 := by unfold tS; rw [if_neg (by omega), if_pos (by rw [← h8]; exact d)]
                   have hte : tE t L e = spn 97 122 t L (L - tB t L e).toNat (tB t L e) := by unfold tE; rw [if_neg (by omega), if_pos hts]
                   obtain ⟨m1, m2, m3, m4⟩ := h_99
                   exact ⟨rfl, h4.tr (SC.st.tr m1), by rw [m2]; unfold cK; rw [if_neg (by omega), hts], by rw [m3, u1_o (by omega), h7, h8], by rw [m4, hte, h8], fun q => by omega⟩)
                | (have hts : tS t L e = 2 := by unfold tS; rw [if_neg (by omega), if_neg (by rw [← h8]; exact d), if_pos (by rw [← h8]; exact d2)]
                   have hte : tE t L e = spn 48 57 t L (L - tB t L e).toNat (tB t L e) := by unfold tE; rw [if_neg (by omega), if_neg (by omega), if_pos hts]
                   obtain ⟨m1, m2, m3, m4, m5⟩ := h_123
                   exact ⟨rfl, h4.tr (SC.st.tr m1), by rw [m2]; unfold cK; rw [if_neg (by omega), hts], by rw [m3, u1_o (by omega), h7, h8], by rw [m4, hte, h8], fun q => by rw [m5, h8]; rfl⟩)
                | (have hts : tS t L e = 3 := by unfold tS; rw [if_neg (by omega), if_neg (by rw [← h8]; exact d), if_neg (by rw [← h8]; exact d2)]
                   have hte : tE t L e = tB t L e + 1 := by unfold tE; rw [if_neg (by omega), if_neg (by omega), if_neg (by omega)]
                   exact ⟨rfl, h4.tr (SC.st.tr (SC.st.tr SC.st)), by rw [u1_o (by omega), u1_s]; unfold cK; rw [if_pos hts, ← h8]; first | rw [if_pos c_143] | rw [if_neg c_143], by rw [u1_o (by omega), u1_o (by omega), u1_o (by omega), h7, h8], by rw [u1_s, hte, h8], fun q => by omega⟩)
            · have d := wi_1 c_95
              refine mw_aload_n dX2_advance_98 rfl ?_
              refine mw_Vv (ci := 2) dX2_advance_99 ml_X2_122 ok_X2_takeWord (by decide) (by first | rfl | assumption) (by decide) rfl rfl rfl (Nat.le_of_ble_eq_true rfl) (c_C_takeWord hT3 (u1_s _ _ _ _) (by omega)) (fun m_99 h_99 => ?_)
              refine mw_goto (tgt := 164) dX2_advance_102 (by decide) ?_
              refine mw_vret dX2_advance_164 rfl ?_
              first
              | (exfalso; omega)
              | (have hts : tS t L e = 0 := by unfold tS; rw [if_pos (by omega)]
                 have hte : tE t L e = tB t L e := by unfold tE; rw [if_pos hts]
                 exact ⟨rfl, h4.tr (SC.st.tr SC.st), by rw [u1_s]; unfold cK; rw [if_neg (by omega), hts], by rw [u1_o (by omega), u1_o (by omega), h7, h8], by rw [u1_o (by omega), u1_s, hte, h8], fun q => by omega⟩)
              | (have hts : tS t L e = 1 := by unfold tS; rw [if_neg (by omega), if_pos (by rw [← h8]; exact d)]
                 have hte : tE t L e = spn 97 122 t L (L - tB t L e).toNat (tB t L e) := by unfold tE; rw [if_neg (by omega), if_pos hts]
                 obtain ⟨m1, m2, m3, m4⟩ := h_99
                 exact ⟨rfl, h4.tr (SC.st.tr m1), by rw [m2]; unfold cK; rw [if_neg (by omega), hts], by rw [m3, u1_o (by omega), h7, h8], by rw [m4, hte, h8], fun q => by omega⟩)
              | (have hts : tS t L e = 2 := by unfold tS; rw [if_neg (by omega), if_neg (by rw [← h8]; exact d), if_pos (by rw [← h8]; exact d2)]
                 have hte : tE t L e = spn 48 57 t L (L - tB t L e).toNat (tB t L e) := by unfold tE; rw [if_neg (by omega), if_neg (by omega), if_pos hts]
                 obtain ⟨m1, m2, m3, m4, m5⟩ := h_123
                 exact ⟨rfl, h4.tr (SC.st.tr m1), by rw [m2]; unfold cK; rw [if_neg (by omega), hts], by rw [m3, u1_o (by omega), h7, h8], by rw [m4, hte, h8], fun q => by rw [m5, h8]; rfl⟩)
              | (have hts : tS t L e = 3 := by unfold tS; rw [if_neg (by omega), if_neg (by rw [← h8]; exact d), if_neg (by rw [← h8]; exact d2)]
                 have hte : tE t L e = tB t L e + 1 := by unfold tE; rw [if_neg (by omega), if_neg (by omega), if_neg (by omega)]
                 exact ⟨rfl, h4.tr (SC.st.tr (SC.st.tr SC.st)), by rw [u1_o (by omega), u1_s]; unfold cK; rw [if_pos hts, ← h8]; first | rw [if_pos c_143] | rw [if_neg c_143], by rw [u1_o (by omega), u1_o (by omega), u1_o (by omega), h7, h8], by rw [u1_s, hte, h8], fun q => by omega⟩)
          · refine mw_aload_n dX2_advance_73 rfl ?_
            refine mw_iconst dX2_advance_74 ?_
            refine mw_putI 1 dX2_advance_75 ps_X2_15 (by first | rfl | assumption) rfl rfl ?_
            refine mw_goto (tgt := 164) dX2_advance_78 (by decide) ?_
            refine mw_vret dX2_advance_164 rfl ?_
            first
            | (exfalso; omega)
            | (have hts : tS t L e = 0 := by unfold tS; rw [if_pos (by omega)]
               have hte : tE t L e = tB t L e := by unfold tE; rw [if_pos hts]
               exact ⟨rfl, h4.tr (SC.st.tr SC.st), by rw [u1_s]; unfold cK; rw [if_neg (by omega), hts], by rw [u1_o (by omega), u1_o (by omega), h7, h8], by rw [u1_o (by omega), u1_s, hte, h8], fun q => by omega⟩)
            | (have hts : tS t L e = 1 := by unfold tS; rw [if_neg (by omega), if_pos (by rw [← h8]; exact d)]
               have hte : tE t L e = spn 97 122 t L (L - tB t L e).toNat (tB t L e) := by unfold tE; rw [if_neg (by omega), if_pos hts]
               obtain ⟨m1, m2, m3, m4⟩ := h_99
               exact ⟨rfl, h4.tr (SC.st.tr m1), by rw [m2]; unfold cK; rw [if_neg (by omega), hts], by rw [m3, u1_o (by omega), h7, h8], by rw [m4, hte, h8], fun q => by omega⟩)
            | (have hts : tS t L e = 2 := by unfold tS; rw [if_neg (by omega), if_neg (by rw [← h8]; exact d), if_pos (by rw [← h8]; exact d2)]
               have hte : tE t L e = spn 48 57 t L (L - tB t L e).toNat (tB t L e) := by unfold tE; rw [if_neg (by omega), if_neg (by omega), if_pos hts]
               obtain ⟨m1, m2, m3, m4, m5⟩ := h_123
               exact ⟨rfl, h4.tr (SC.st.tr m1), by rw [m2]; unfold cK; rw [if_neg (by omega), hts], by rw [m3, u1_o (by omega), h7, h8], by rw [m4, hte, h8], fun q => by rw [m5, h8]; rfl⟩)
            | (have hts : tS t L e = 3 := by unfold tS; rw [if_neg (by omega), if_neg (by rw [← h8]; exact d), if_neg (by rw [← h8]; exact d2)]
               have hte : tE t L e = tB t L e + 1 := by unfold tE; rw [if_neg (by omega), if_neg (by omega), if_neg (by omega)]
               exact ⟨rfl, h4.tr (SC.st.tr (SC.st.tr SC.st)), by rw [u1_o (by omega), u1_s]; unfold cK; rw [if_pos hts, ← h8]; first | rw [if_pos c_143] | rw [if_neg c_143], by rw [u1_o (by omega), u1_o (by omega), u1_o (by omega), h7, h8], by rw [u1_s, hte, h8], fun q => by omega⟩)
        · rw [show (L - k).toNat = (L - (k + 1)).toNat + 1 by omega, spn, if_pos (by omega)] at h8
          refine mw_aload_n dX2_advance_38 rfl ?_
          refine mw_dup dX2_advance_39 rfl ?_
          refine mw_getI 2 dX2_advance_40 gs_X2_19 (by first | rfl | assumption) rfl rfl ?_
          rw [h7]
          refine mw_iconst dX2_advance_43 ?_
          refine mw_iadd dX2_advance_44 ?_
          refine mw_putI 2 dX2_advance_45 ps_X2_19 (by first | rfl | assumption) rfl rfl ?_
          refine mw_goto (tgt := 8) dX2_advance_48 (by decide) ?_
          exact ih _ _ (by omega) (by omega) (by omega) (h4.tr SC.st) (u1_s _ _ _ _) h8
  refine mw_aload_n dX2_advance_0 rfl ?_
  refine mw_aload_n dX2_advance_1 rfl ?_
  refine mw_getI 3 dX2_advance_2 gs_X2_22 (by first | rfl | assumption) rfl rfl ?_
  rw [he]
  refine mw_putI 2 dX2_advance_5 ps_X2_19 (by first | rfl | assumption) rfl rfl ?_
  exact lp 121 _ _ (by omega) (by omega) (by omega) SC.st (u1_s _ _ _ _) rfl

/-! ===== the reference ===== -/
def ROW (μ : mMem) (c : Nat) (F : Int → Int) : Prop := ∀ j : Int, 0 ≤ j → j < 68 → μ.1 c j = F j
def DY (μ m : mMem) : Prop := (∀ c : Nat, c ≠ 57 → c ≠ 61 → m.1 c = μ.1 c) ∧ m.2 = μ.2
def DR (μ m : mMem) : Prop := (∀ c : Nat, c ≠ 57 → c ≠ 59 → c ≠ 61 → m.1 c = μ.1 c) ∧ m.2 = μ.2
theorem DY.rf {μ : mMem} : DY μ μ := ⟨fun _ _ _ => rfl, rfl⟩
theorem DR.rf {μ : mMem} : DR μ μ := ⟨fun _ _ _ _ => rfl, rfl⟩
theorem DY.tr {μ m m2 : mMem} (h : DY μ m) (h2 : DY m m2) : DY μ m2 := ⟨fun c q1 q2 => (h2.1 c q1 q2).trans (h.1 c q1 q2), h2.2.trans h.2⟩
theorem DR.tr {μ m m2 : mMem} (h : DR μ m) (h2 : DR m m2) : DR μ m2 := ⟨fun c q1 q2 q3 => (h2.1 c q1 q2 q3).trans (h.1 c q1 q2 q3), h2.2.trans h.2⟩
theorem DY.dr {μ m : mMem} (h : DY μ m) : DR μ m := ⟨fun c q1 _ q3 => h.1 c q1 q3, h.2⟩
theorem DY.st {μ : mMem} {j v : Int} : DY μ (u1 μ 57 j v) := ⟨fun c q1 _ => by funext i; rw [u1_o (by omega)], rfl⟩
theorem ROW.up {μ : mMem} {F : Int → Int} (h : ROW μ 57 F) (j v : Int) : ROW (u1 μ 57 j v) 57 (upF F j v) := by
  intro i q1 q2
  by_cases e : i = j
  · rw [e, u1_s, upF_s]
  · rw [u1_o (by omega), upF_o e]
    exact h i q1 q2
theorem ROW.eq {μ : mMem} {c : Nat} {F F' : Int → Int} (h : ROW μ c F) (e : ∀ j : Int, 0 ≤ j → j < 68 → F j = F' j) : ROW μ c F' := fun j q1 q2 => (h j q1 q2).trans (e j q1 q2)
theorem leap_sym (a b : Int) : leap a b = leap b a := by unfold leap; omega
set_option maxHeartbeats 4000000 in
set_option maxRecDepth 100000 in
theorem c_M_finding {G : mG} {μ : mMem} {f v : Int} (hf : f = -1000000001 - v) (hv : 0 ≤ v ∧ v < 7) : mM G yX7_finding cX7_finding 2 (some .int) 0 [.ref 56, .int (iV f)] μ (pI f (u1 (u1 μ 60 (v + 1) (μ.1 60 (v + 1) + 1)) 60 0 (μ.1 60 0 + 1))) := by
  refine mM.of (lv := [some (.ref 56), some (.int (iV f))]) 0 (by decide +kernel) (Nat.le_of_ble_eq_true rfl) rfl ?_
  intro X
  refine mw_aload_n dX7_finding_0 rfl ?_
  refine mw_gr_7_4 dX7_finding_1 gs_X7_19 (by first | rfl | assumption) ?_
  refine mw_ldc dX7_finding_4 ct_X7_71 ?_
  refine mw_iload_n dX7_finding_6 rfl ?_
  refine mw_isub dX7_finding_7 ?_
  refine mw_iconst dX7_finding_8 ?_
  refine mw_iadd dX7_finding_9 ?_
  rw [show (-1000000001 - f + 1 : Int) = v + 1 by omega]
  refine mw_dup2 dX7_finding_10 rfl rfl ?_
  refine mw_iald 8 dX7_finding_11 (by first | rfl | assumption) (by first | rfl | assumption) (by omega) ?_
  refine mw_iconst dX7_finding_12 ?_
  refine mw_iadd dX7_finding_13 ?_
  refine mw_iast 8 dX7_finding_14 (by first | rfl | assumption) (by first | rfl | assumption) (by omega) ?_
  refine mw_aload_n dX7_finding_15 rfl ?_
  refine mw_gr_7_4 dX7_finding_16 gs_X7_19 (by first | rfl | assumption) ?_
  refine mw_iconst dX7_finding_19 ?_
  refine mw_dup2 dX7_finding_20 rfl rfl ?_
  refine mw_iald 8 dX7_finding_21 (by first | rfl | assumption) (by first | rfl | assumption) (by omega) ?_
  rw [u1_o (by omega)]
  refine mw_iconst dX7_finding_22 ?_
  refine mw_iadd dX7_finding_23 ?_
  refine mw_iast 8 dX7_finding_24 (by first | rfl | assumption) (by first | rfl | assumption) (by omega) ?_
  refine mw_iload_n dX7_finding_25 rfl ?_
  refine mw_iret dX7_finding_26 rfl ?_
  exact ⟨rfl, rfl⟩
set_option maxHeartbeats 4000000 in
set_option maxRecDepth 100000 in
theorem c_M_become {G : mG} {μ : mMem} {F : Int → Int} (hR : ROW μ 57 F) {j v : Int} (hj : 0 ≤ j ∧ j < 68) : mM G yX7_become cX7_become 4 (some .int) 0 [.ref 56, .int (iV j), .int (iV v)] μ (pI (F j) (u1 μ 57 j v)) := by
  refine mM.of (lv := [some (.ref 56), some (.int (iV j)), some (.int (iV v)), none]) 1 (by decide +kernel) (Nat.le_of_ble_eq_true rfl) rfl ?_
  intro X
  refine mw_aload_n dX7_become_0 rfl ?_
  refine mw_gr_7_0 dX7_become_1 gs_X7_9 (by first | rfl | assumption) ?_
  refine mw_iload_n dX7_become_4 rfl ?_
  refine mw_iald 68 dX7_become_5 (by first | rfl | assumption) (by first | rfl | assumption) (by omega) ?_
  rw [hR _ (by omega) (by omega)]
  refine mw_is3 dX7_become_6 (by decide) rfl ?_
  refine mw_aload_n dX7_become_7 rfl ?_
  refine mw_gr_7_0 dX7_become_8 gs_X7_9 (by first | rfl | assumption) ?_
  refine mw_iload_n dX7_become_11 rfl ?_
  refine mw_iload_n dX7_become_12 rfl ?_
  refine mw_iast 68 dX7_become_13 (by first | rfl | assumption) (by first | rfl | assumption) (by omega) ?_
  refine mw_iload_n dX7_become_14 rfl ?_
  refine mw_iret dX7_become_15 rfl ?_
  exact ⟨rfl, rfl⟩
set_option maxHeartbeats 4000000 in
set_option maxRecDepth 100000 in
theorem c_M_copyRow {G : mG} {μ : mMem} {c1 c2 : Nat} (h1 : mCls c1 = 8) (h2 : mCls c2 = 8) (l1 : mLen c1 = 68) (l2 : mLen c2 = 68) (hne : c1 ≠ c2) : mM G yX7_copyRow cX7_copyRow 3 none 0 [.ref c1, .ref c2] μ (qV (fun m => (∀ c : Nat, c ≠ c2 → m.1 c = μ.1 c) ∧ m.2 = μ.2 ∧ ∀ j : Int, 0 ≤ j → j < 68 → m.1 c2 j = μ.1 c1 j)) := by
  refine mM.of (lv := [some (.ref c1), some (.ref c2), none]) 1 (by decide +kernel) (Nat.le_of_ble_eq_true rfl) rfl ?_
  intro X
  have lp : ∀ (n_ : Nat) (i : Int) (m : mMem), (0 ≤ i) → (i ≤ 68) → (69 ≤ i + n_) → (∀ c : Nat, c ≠ c2 → m.1 c = μ.1 c) → (m.2 = μ.2) → (∀ j : Int, 0 ≤ j → j < i → m.1 c2 j = μ.1 c1 j) → mW X cX7_copyRow 3 none yX7_copyRow.cls 0 G (qV (fun m => (∀ c : Nat, c ≠ c2 → m.1 c = μ.1 c) ∧ m.2 = μ.2 ∧ ∀ j : Int, 0 ≤ j → j < 68 → m.1 c2 j = μ.1 c1 j)) 2 [some (.ref c1), some (.ref c2), some (.int (iV i))] [] m := by
    intro n_
    induction n_ with
    | zero =>
      intro i m q1 q2 q3 q4 q5 q6
      omega
    | succ n_ ih =>
      intro i m q1 q2 q3 q4 q5 q6
      refine mw_iload_n dX7_copyRow_2 rfl ?_
      refine mw_bipush dX7_copyRow_3 (by decide +kernel) ?_
      refine mw_icmp_ge (tgt := 20) dX7_copyRow_5 (by decide) (by omega) (by omega) (fun c_5 => ?_) (fun c_5 => ?_)
      · refine mw_vret dX7_copyRow_20 rfl ?_
        exact ⟨rfl, q4, q5, fun j p1 p2 => q6 j p1 (by omega)⟩
      · refine mw_aload_n dX7_copyRow_8 rfl ?_
        refine mw_iload_n dX7_copyRow_9 rfl ?_
        refine mw_aload_n dX7_copyRow_10 rfl ?_
        refine mw_iload_n dX7_copyRow_11 rfl ?_
        refine mw_iald 68 dX7_copyRow_12 (by first | rfl | assumption) (by first | rfl | assumption) (by omega) ?_
        refine mw_iast 68 dX7_copyRow_13 (by first | rfl | assumption) (by first | rfl | assumption) (by omega) ?_
        refine mw_ii2 dX7_copyRow_14 (by decide) rfl ?_
        refine mw_goto (tgt := 2) dX7_copyRow_17 (by decide) ?_
        refine ih _ _ (by omega) (by omega) (by omega) (fun c q => ?_) q5 (fun j p1 p2 => ?_)
        · rw [← q4 c q]
          funext j
          rw [u1_o (by omega)]
        · by_cases e : j = i
          · rw [e, u1_s, q4 c1 hne]
          · rw [u1_o (by omega)]
            exact q6 j p1 (by omega)
  refine mw_iconst dX7_copyRow_0 ?_
  refine mw_is2 dX7_copyRow_1 (by decide) rfl ?_
  exact lp 69 _ _ (by omega) (by omega) (by omega) (fun c q => rfl) rfl (fun j p1 p2 => by omega)
theorem cp_to {μ m : mMem} {F : Int → Int} (hR : ROW μ 57 F) (h : (∀ c : Nat, c ≠ 59 → m.1 c = μ.1 c) ∧ m.2 = μ.2 ∧ ∀ j : Int, 0 ≤ j → j < 68 → m.1 59 j = μ.1 57 j) : ROW m 57 F ∧ ROW m 59 F ∧ DR μ m := ⟨fun j q1 q2 => by rw [h.1 57 (by omega)]; exact hR j q1 q2, fun j q1 q2 => by rw [h.2.2 j q1 q2]; exact hR j q1 q2, fun c _ q2 _ => h.1 c q2, h.2.1⟩
set_option maxHeartbeats 4000000 in
set_option maxRecDepth 100000 in
theorem c_M_putBack {G : mG} {μ : mMem} {F : Int → Int} (hA : ROW μ 59 F) {v : Int} : mM G yX7_putBack cX7_putBack 2 (some .int) 1 [.ref 56, .int (iV v)] μ (qI (fun z m => z = v ∧ ROW m 57 F ∧ DR μ m)) := by
  refine mM.of (lv := [some (.ref 56), some (.int (iV v))]) 0 (by decide +kernel) (Nat.le_of_ble_eq_true rfl) rfl ?_
  intro X
  refine mw_aload_n dX7_putBack_0 rfl ?_
  refine mw_gr_7_2 dX7_putBack_1 gs_X7_16 (by first | rfl | assumption) ?_
  refine mw_aload_n dX7_putBack_4 rfl ?_
  refine mw_gr_7_0 dX7_putBack_5 gs_X7_9 (by first | rfl | assumption) ?_
  refine mw_Sv dX7_putBack_8 ml_X7_72 ok_X7_copyRow (by decide) rfl rfl (Nat.le_of_ble_eq_true rfl) (c_M_copyRow rfl rfl rfl rfl (by decide)) (fun m_8 h_8 => ?_)
  refine mw_iload_n dX7_putBack_11 rfl ?_
  refine mw_iret dX7_putBack_12 rfl ?_
  exact ⟨_, rfl, rfl, fun j q1 q2 => by rw [h_8.2.2 j q1 q2]; exact hA j q1 q2, fun c q1 _ _ => h_8.1 c q1, h_8.2.1⟩
set_option maxHeartbeats 4000000 in
set_option maxRecDepth 100000 in
theorem c_M_bits {G : mG} {μ : mMem} {a : Int} (ha : 0 ≤ a ∧ a < 4096) : mM G yX7_bits cX7_bits 3 (some .int) 0 [.int (iV a)] μ (pI (pop a) μ) := by
  refine mM.of (lv := [some (.int (iV a)), none, none]) 2 (by decide +kernel) (Nat.le_of_ble_eq_true rfl) rfl ?_
  intro X
  have lp : ∀ (n_ : Nat) (n x : Int), (0 ≤ x ∧ x < 4096) → (n + pop x = pop a) → (x < n_) → mW X cX7_bits 3 (some .int) yX7_bits.cls 0 G (pI (pop a) μ) 4 [some (.int (iV a)), some (.int (iV n)), some (.int (iV x))] [] μ := by
    intro n_
    induction n_ with
    | zero =>
      intro n x q1 q2 q3
      omega
    | succ n_ ih =>
      intro n x q1 q2 q3
      refine mw_iload_n dX7_bits_4 rfl ?_
      refine mw_if_eq (tgt := 20) dX7_bits_5 (by decide) (by omega) (fun c_5 => ?_) (fun c_5 => ?_)
      · refine mw_iload_n dX7_bits_20 rfl ?_
        refine mw_iret dX7_bits_21 rfl ?_
        exact ⟨by rw [c_5, pop_0, Int.add_zero] at q2; rw [q2], rfl⟩
      · have ht := pop_tab x.toNat (by omega) (by omega)
        rw [show ((x.toNat : Nat) : Int) = x by omega] at ht
        refine mw_ii1 dX7_bits_8 (by decide) rfl ?_
        refine mw_iload_n dX7_bits_11 rfl ?_
        refine mw_iload_n dX7_bits_12 rfl ?_
        refine mw_iconst dX7_bits_13 ?_
        refine mw_isub dX7_bits_14 ?_
        refine mw_iand dX7_bits_15 ?_
        refine mw_is2 dX7_bits_16 (by decide) rfl ?_
        refine mw_goto (tgt := 4) dX7_bits_17 (by decide) ?_
        exact ih _ _ (by omega) (by omega) (by omega)
  refine mw_iconst dX7_bits_0 ?_
  refine mw_is1 dX7_bits_1 (by decide) rfl ?_
  refine mw_iload_n dX7_bits_2 rfl ?_
  refine mw_is2 dX7_bits_3 (by decide) rfl ?_
  exact lp 4096 _ _ ha (by omega) (by omega)
set_option maxHeartbeats 4000000 in
set_option maxRecDepth 100000 in
theorem c_M_length {G : mG} {μ : mMem} {F : Int → Int} (hR : ROW μ 57 F) {s : Int} (hs : 0 ≤ s ∧ s ≤ 1) : mM G yX7_length cX7_length 2 (some .int) 0 [.ref 56, .int (iV s)] μ (pI (F (2 + s)) μ) := by
  refine mM.of (lv := [some (.ref 56), some (.int (iV s))]) 0 (by decide +kernel) (Nat.le_of_ble_eq_true rfl) rfl ?_
  intro X
  refine mw_aload_n dX7_length_0 rfl ?_
  refine mw_gr_7_0 dX7_length_1 gs_X7_9 (by first | rfl | assumption) ?_
  refine mw_iconst dX7_length_4 ?_
  refine mw_iload_n dX7_length_5 rfl ?_
  refine mw_iadd dX7_length_6 ?_
  refine mw_iald 68 dX7_length_7 (by first | rfl | assumption) (by first | rfl | assumption) (by omega) ?_
  rw [hR _ (by omega) (by omega)]
  refine mw_iret dX7_length_8 rfl ?_
  exact ⟨rfl, rfl⟩
set_option maxHeartbeats 4000000 in
set_option maxRecDepth 100000 in
theorem c_M_toneOf {G : mG} {μ : mMem} {F : Int → Int} (hR : ROW μ 57 F) {s i : Int} (hs : 0 ≤ s ∧ s ≤ 1) (hi : 0 ≤ i ∧ i < 12) : mM G yX7_toneOf cX7_toneOf 3 (some .int) 0 [.ref 56, .int (iV s), .int (iV i)] μ (pI (tn F s i) μ) := by
  refine mM.of (lv := [some (.ref 56), some (.int (iV s)), some (.int (iV i))]) 0 (by decide +kernel) (Nat.le_of_ble_eq_true rfl) rfl ?_
  intro X
  refine mw_aload_n dX7_toneOf_0 rfl ?_
  refine mw_gr_7_0 dX7_toneOf_1 gs_X7_9 (by first | rfl | assumption) ?_
  refine mw_iconst dX7_toneOf_4 ?_
  refine mw_bipush dX7_toneOf_5 (by decide +kernel) ?_
  refine mw_iload_n dX7_toneOf_7 rfl ?_
  refine mw_imul dX7_toneOf_8 ?_
  refine mw_iadd dX7_toneOf_9 ?_
  refine mw_iload_n dX7_toneOf_10 rfl ?_
  refine mw_iadd dX7_toneOf_11 ?_
  refine mw_iald 68 dX7_toneOf_12 (by first | rfl | assumption) (by first | rfl | assumption) (by omega) ?_
  rw [hR _ (by omega) (by omega)]
  refine mw_iret dX7_toneOf_13 rfl ?_
  exact ⟨rfl, rfl⟩
set_option maxHeartbeats 4000000 in
set_option maxRecDepth 100000 in
theorem c_M_attacheAt {G : mG} {μ : mMem} {a f : Int} : mM G yX7_attacheAt cX7_attacheAt 2 (some .int) 0 [.int (iV a), .int (iV f)] μ (pI (28 + 5 * a + f) μ) := by
  refine mM.of (lv := [some (.int (iV a)), some (.int (iV f))]) 0 (by decide +kernel) (Nat.le_of_ble_eq_true rfl) rfl ?_
  intro X
  refine mw_bipush dX7_attacheAt_0 (by decide +kernel) ?_
  refine mw_iconst dX7_attacheAt_2 ?_
  refine mw_iload_n dX7_attacheAt_3 rfl ?_
  refine mw_imul dX7_attacheAt_4 ?_
  refine mw_iadd dX7_attacheAt_5 ?_
  refine mw_iload_n dX7_attacheAt_6 rfl ?_
  refine mw_iadd dX7_attacheAt_7 ?_
  refine mw_iret dX7_attacheAt_8 rfl ?_
  exact ⟨rfl, rfl⟩
set_option maxHeartbeats 4000000 in
set_option maxRecDepth 100000 in
theorem c_M_attacheIs {G : mG} {μ : mMem} {F : Int → Int} (hR : ROW μ 57 F) {a f : Int} (ha : 0 ≤ a ∧ a < 8) (hf : 0 ≤ f ∧ f < 5) : mM G yX7_attacheIs cX7_attacheIs 3 (some .int) 1 [.ref 56, .int (iV a), .int (iV f)] μ (pI (F (28 + 5 * a + f)) μ) := by
  refine mM.of (lv := [some (.ref 56), some (.int (iV a)), some (.int (iV f))]) 0 (by decide +kernel) (Nat.le_of_ble_eq_true rfl) rfl ?_
  intro X
  refine mw_aload_n dX7_attacheIs_0 rfl ?_
  refine mw_gr_7_0 dX7_attacheIs_1 gs_X7_9 (by first | rfl | assumption) ?_
  refine mw_iload_n dX7_attacheIs_4 rfl ?_
  refine mw_iload_n dX7_attacheIs_5 rfl ?_
  refine mw_Spi dX7_attacheIs_6 ml_X7_135 ok_X7_attacheAt (by decide) rfl rfl (Nat.le_of_ble_eq_true rfl) (c_M_attacheAt) ?_
  refine mw_iald 68 dX7_attacheIs_9 (by first | rfl | assumption) (by first | rfl | assumption) (by omega) ?_
  rw [hR _ (by omega) (by omega)]
  refine mw_iret dX7_attacheIs_10 rfl ?_
  exact ⟨rfl, rfl⟩
set_option maxHeartbeats 4000000 in
set_option maxRecDepth 100000 in
theorem c_M_isAttache {G : mG} {μ : mMem} {F : Int → Int} (hR : ROW μ 57 F) (hI : fInv F) {a : Int} (ha_ : -2147483648 ≤ a ∧ a ≤ 2147483647) : mM G yX7_isAttache cX7_isAttache 2 (some .boolean) 1 [.ref 56, .int (iV a)] μ (pI (wiI a 0 (F 1 - 1)) μ) := by
  have hn := hI.2.1
  refine mM.of (lv := [some (.ref 56), some (.int (iV a))]) 0 (by decide +kernel) (Nat.le_of_ble_eq_true rfl) rfl ?_
  intro X
  refine mw_iload_n dX7_isAttache_0 rfl ?_
  refine mw_iconst dX7_isAttache_1 ?_
  refine mw_aload_n dX7_isAttache_2 rfl ?_
  refine mw_gr_7_0 dX7_isAttache_3 gs_X7_9 (by first | rfl | assumption) ?_
  refine mw_iconst dX7_isAttache_6 ?_
  refine mw_iald 68 dX7_isAttache_7 (by first | rfl | assumption) (by first | rfl | assumption) (by omega) ?_
  rw [hR _ (by omega) (by omega)]
  refine mw_iconst dX7_isAttache_8 ?_
  refine mw_isub dX7_isAttache_9 ?_
  refine mw_Spi dX7_isAttache_10 ml_X7_81 ok_X7_within (by decide) rfl rfl (Nat.le_of_ble_eq_true rfl) (c_M_within (by omega) (by omega) (by omega)) ?_
  refine mw_zret dX7_isAttache_13 rfl (wi_zn _ _ _) ?_
  exact ⟨rfl, rfl⟩
set_option maxHeartbeats 4000000 in
set_option maxRecDepth 100000 in
theorem c_M_isTone {G : mG} {μ : mMem} {x : Int64} : mM G yX7_isTone cX7_isTone 2 (some .boolean) 0 [.long x] μ (pI (if 0 ≤ x ∧ x < 12 then 1 else 0) μ) := by
  refine mM.of (lv := [some (.long x), none]) 0 (by decide +kernel) (Nat.le_of_ble_eq_true rfl) rfl ?_
  intro X
  refine mw_lload_n dX7_isTone_0 rfl ?_
  refine mw_lconst dX7_isTone_1 rfl ?_
  refine mw_lcmp dX7_isTone_2 ?_
  refine mw_ifR_lt (tgt := 18) dX7_isTone_3 (by decide)  (fun c_3 => ?_) (fun c_3 => ?_)
  · refine mw_iconst dX7_isTone_18 ?_
    refine mw_zret dX7_isTone_19 rfl (by decide +kernel) ?_
    rw [lg_cmp_lt] at c_3
    exact ⟨by rw [if_neg (fun q => Int64.not_le.mpr c_3 q.1)], rfl⟩
  · refine mw_lload_n dX7_isTone_6 rfl ?_
    refine mw_ldc2 dX7_isTone_7 cl_X7_138 ?_
    refine mw_lcmp dX7_isTone_10 ?_
    refine mw_ifR_ge (tgt := 18) dX7_isTone_11 (by decide)  (fun c_11 => ?_) (fun c_11 => ?_)
    · refine mw_iconst dX7_isTone_18 ?_
      refine mw_zret dX7_isTone_19 rfl (by decide +kernel) ?_
      rw [lg_cmp_ge] at c_11
      exact ⟨by rw [if_neg (fun q => Int64.not_le.mpr q.2 c_11)], rfl⟩
    · refine mw_iconst dX7_isTone_14 ?_
      refine mw_goto (tgt := 19) dX7_isTone_15 (by decide) ?_
      refine mw_zret dX7_isTone_19 rfl (by decide +kernel) ?_
      rw [lg_cmp_lt] at c_3
      rw [lg_cmp_ge] at c_11
      exact ⟨by rw [if_pos ⟨Int64.not_lt.mp c_3, Int64.not_le.mp c_11⟩], rfl⟩
set_option maxHeartbeats 4000000 in
set_option maxRecDepth 100000 in
theorem c_M_longOf {G : mG} {μ : mMem} {k n : Int} (hk : 0 ≤ k ∧ k < 6) (hn : 0 ≤ n ∧ n ≤ 12) : mM G yX7_longOf cX7_longOf 2 (some .int) 0 [.int (iV k), .int (iV n)] μ (pI (lng k n) μ) := by
  refine mM.of (lv := [some (.int (iV k)), some (.int (iV n))]) 0 (by decide +kernel) (Nat.le_of_ble_eq_true rfl) rfl ?_
  intro X
  refine mw_iload_n dX7_longOf_0 rfl ?_
  refine mw_iconst dX7_longOf_1 ?_
  refine mw_icmp_ne (tgt := 17) dX7_longOf_2 (by decide) (by omega) (by omega) (fun c_2 => ?_) (fun c_2 => ?_)
  · refine mw_iload_n dX7_longOf_17 rfl ?_
    refine mw_iret dX7_longOf_18 rfl ?_
    exact ⟨by unfold lng; rw [if_neg (fun q => c_2 q.1)], rfl⟩
  · refine mw_iload_n dX7_longOf_5 rfl ?_
    refine mw_bipush dX7_longOf_6 (by decide +kernel) ?_
    refine mw_icmp_le (tgt := 17) dX7_longOf_8 (by decide) (by omega) (by omega) (fun c_8 => ?_) (fun c_8 => ?_)
    · refine mw_iload_n dX7_longOf_17 rfl ?_
      refine mw_iret dX7_longOf_18 rfl ?_
      exact ⟨by unfold lng; rw [if_neg (by omega)], rfl⟩
    · refine mw_iload_n dX7_longOf_11 rfl ?_
      refine mw_iconst dX7_longOf_12 ?_
      refine mw_isub dX7_longOf_13 ?_
      refine mw_goto (tgt := 18) dX7_longOf_14 (by decide) ?_
      refine mw_iret dX7_longOf_18 rfl ?_
      exact ⟨by unfold lng; rw [if_pos ⟨c_2, c_8⟩], rfl⟩
set_option maxHeartbeats 4000000 in
set_option maxRecDepth 100000 in
theorem c_M_tensionOf {G : mG} {μ : mMem} {F : Int → Int} (hR : ROW μ 57 F) (hI : fInv F) {s : Int} (hs : 0 ≤ s ∧ s ≤ 1) : mM G yX7_tensionOf cX7_tensionOf 5 (some .int) 1 [.ref 56, .int (iV s)] μ (pI (TN F s) μ) := by
  have hl := hI.2.2.1 s hs.1 hs.2
  have ht : ∀ i : Int, 0 ≤ i → i < 12 → 0 ≤ tn F s i ∧ tn F s i < 12 := fun i q1 q2 => hI.2.2.2.1 s i hs.1 hs.2 q1 q2
  refine mM.of (lv := [some (.ref 56), some (.int (iV s)), none, none, none]) 3 (by decide +kernel) (Nat.le_of_ble_eq_true rfl) rfl ?_
  intro X
  have lp : ∀ (n_ : Nat) (q4 : Option Value) (v i : Int), (1 ≤ i) → (i ≤ 12) → (13 ≤ i + n_) → (i ≤ max 1 (F (2 + s))) → (v = tens (tn F s) i.toNat) → mW X cX7_tensionOf 5 (some .int) yX7_tensionOf.cls 1 G (pI (TN F s) μ) 4 [some (.ref 56), some (.int (iV s)), some (.int (iV v)), some (.int (iV i)), q4] [] μ := by
    intro n_
    induction n_ with
    | zero =>
      intro q4 v i h1 h2 h3 h4 h5
      omega
    | succ n_ ih =>
      intro q4 v i h1 h2 h3 h4 h5
      refine mw_iload_n dX7_tensionOf_4 rfl ?_
      refine mw_aload_n dX7_tensionOf_5 rfl ?_
      refine mw_iload_n dX7_tensionOf_6 rfl ?_
      refine mw_Vpi (ci := 7) dX7_tensionOf_7 ml_X7_99 ok_X7_length (by decide) (by first | rfl | assumption) (by decide) rfl rfl rfl (Nat.le_of_ble_eq_true rfl) (c_M_length hR (by omega)) ?_
      refine mw_icmp_ge (tgt := 61) dX7_tensionOf_10 (by decide) (by omega) (by omega) (fun c_10 => ?_) (fun c_10 => ?_)
      · refine mw_iload_n dX7_tensionOf_61 rfl ?_
        refine mw_iret dX7_tensionOf_62 rfl ?_
        refine ⟨?_, rfl⟩
        unfold TN
        rw [h5]
        by_cases hq : F (2 + s) ≤ 0
        · rw [show i.toNat = 1 by omega, show (F (2 + s)).toNat = 0 by omega]
          rfl
        · rw [show (F (2 + s)).toNat = i.toNat by omega]
      · have ta := ht (i - 1) (by omega) (by omega)
        have tb_ := ht i (by omega) (by omega)
        have hst : tens (tn F s) (i + 1).toNat = tens (tn F s) i.toNat + (if 4 ≤ leap (tn F s i) (tn F s (i - 1)) then 1 else 0) := by
          rw [show (i + 1).toNat = i.toNat + 1 by omega, tens, show ((i.toNat : Nat) : Int) = i by omega, leap_sym]
          congr 1
          by_cases hq : 4 ≤ leap (tn F s i) (tn F s (i - 1))
          · rw [if_pos ⟨by omega, hq⟩, if_pos hq]
          · rw [if_neg (fun q => hq q.2), if_neg hq]
        unfold leap at hst
        refine mw_aload_n dX7_tensionOf_13 rfl ?_
        refine mw_iload_n dX7_tensionOf_14 rfl ?_
        refine mw_iload_n dX7_tensionOf_15 rfl ?_
        refine mw_Vpi (ci := 7) dX7_tensionOf_16 ml_X7_102 ok_X7_toneOf (by decide) (by first | rfl | assumption) (by decide) rfl rfl rfl (Nat.le_of_ble_eq_true rfl) (c_M_toneOf hR (by omega) (by omega)) ?_
        refine mw_aload_n dX7_tensionOf_19 rfl ?_
        refine mw_iload_n dX7_tensionOf_20 rfl ?_
        refine mw_iload_n dX7_tensionOf_21 rfl ?_
        refine mw_iconst dX7_tensionOf_22 ?_
        refine mw_isub dX7_tensionOf_23 ?_
        refine mw_Vpi (ci := 7) dX7_tensionOf_24 ml_X7_102 ok_X7_toneOf (by decide) (by first | rfl | assumption) (by decide) rfl rfl rfl (Nat.le_of_ble_eq_true rfl) (c_M_toneOf hR (by omega) (by omega)) ?_
        refine mw_isub dX7_tensionOf_27 ?_
        refine mw_Spi dX7_tensionOf_28 ml_X7_105 ok_J9_abs_0f7a4 (by decide) rfl rfl (Nat.le_of_ble_eq_true rfl) (c_abs (by omega)) ?_
        refine mw_is4 dX7_tensionOf_31 (by decide) rfl ?_
        refine mw_iload_n dX7_tensionOf_33 rfl ?_
        refine mw_iload dX7_tensionOf_34 rfl ?_
        refine mw_bipush dX7_tensionOf_36 (by decide +kernel) ?_
        refine mw_iload dX7_tensionOf_38 rfl ?_
        refine mw_isub dX7_tensionOf_40 ?_
        refine mw_Spi dX7_tensionOf_41 ml_X7_110 ok_J9_min_7cf53 (by decide) rfl rfl (Nat.le_of_ble_eq_true rfl) (c_min (by omega) (by omega)) ?_
        refine mw_iconst dX7_tensionOf_44 ?_
        refine mw_icmp_lt (tgt := 52) dX7_tensionOf_45 (by decide) (by omega) (by omega) (fun c_45 => ?_) (fun c_45 => ?_)
        · refine mw_iconst dX7_tensionOf_52 ?_
          refine mw_iadd dX7_tensionOf_53 ?_
          refine mw_is2 dX7_tensionOf_54 (by decide) rfl ?_
          refine mw_ii3 dX7_tensionOf_55 (by decide) rfl ?_
          refine mw_goto (tgt := 4) dX7_tensionOf_58 (by decide) ?_
          exact ih _ _ _ (by omega) (by omega) (by omega) (by omega) (by rw [hst, if_neg (by omega), h5])
        · refine mw_iconst dX7_tensionOf_48 ?_
          refine mw_goto (tgt := 53) dX7_tensionOf_49 (by decide) ?_
          refine mw_iadd dX7_tensionOf_53 ?_
          refine mw_is2 dX7_tensionOf_54 (by decide) rfl ?_
          refine mw_ii3 dX7_tensionOf_55 (by decide) rfl ?_
          refine mw_goto (tgt := 4) dX7_tensionOf_58 (by decide) ?_
          exact ih _ _ _ (by omega) (by omega) (by omega) (by omega) (by rw [hst, if_pos (by omega), h5])
  refine mw_iconst dX7_tensionOf_0 ?_
  refine mw_is2 dX7_tensionOf_1 (by decide) rfl ?_
  refine mw_iconst dX7_tensionOf_2 ?_
  refine mw_is3 dX7_tensionOf_3 (by decide) rfl ?_
  exact lp 12 _ _ _ (by omega) (by omega) (by omega) (by omega) rfl
set_option maxHeartbeats 4000000 in
set_option maxRecDepth 100000 in
theorem c_M_isHome {G : mG} {μ : mMem} {F : Int → Int} (hR : ROW μ 57 F) (hI : fInv F) {s : Int} (hs : 0 ≤ s ∧ s ≤ 1) : mM G yX7_isHome cX7_isHome 2 (some .boolean) 1 [.ref 56, .int (iV s)] μ (pI (homeP s F) μ) := by
  have hl := hI.2.2.1 s hs.1 hs.2
  have ht : ∀ i : Int, 0 ≤ i → i < 12 → 0 ≤ tn F s i ∧ tn F s i < 12 := fun i q1 q2 => hI.2.2.2.1 s i hs.1 hs.2 q1 q2
  refine mM.of (lv := [some (.ref 56), some (.int (iV s))]) 0 (by decide +kernel) (Nat.le_of_ble_eq_true rfl) rfl ?_
  intro X
  refine mw_aload_n dX7_isHome_0 rfl ?_
  refine mw_iload_n dX7_isHome_1 rfl ?_
  refine mw_Vpi (ci := 7) dX7_isHome_2 ml_X7_99 ok_X7_length (by decide) (by first | rfl | assumption) (by decide) rfl rfl rfl (Nat.le_of_ble_eq_true rfl) (c_M_length hR (by omega)) ?_
  refine mw_if_le (tgt := 27) dX7_isHome_5 (by decide) (by omega) (fun c_5 => ?_) (fun c_5 => ?_)
  · refine mw_iconst dX7_isHome_27 ?_
    refine mw_zret dX7_isHome_28 rfl (by decide +kernel) ?_
    exact ⟨by unfold homeP homeI; rw [if_neg (by omega)], rfl⟩
  · refine mw_aload_n dX7_isHome_8 rfl ?_
    refine mw_iload_n dX7_isHome_9 rfl ?_
    refine mw_aload_n dX7_isHome_10 rfl ?_
    refine mw_iload_n dX7_isHome_11 rfl ?_
    refine mw_Vpi (ci := 7) dX7_isHome_12 ml_X7_99 ok_X7_length (by decide) (by first | rfl | assumption) (by decide) rfl rfl rfl (Nat.le_of_ble_eq_true rfl) (c_M_length hR (by omega)) ?_
    refine mw_iconst dX7_isHome_15 ?_
    refine mw_isub dX7_isHome_16 ?_
    refine mw_Vpi (ci := 7) dX7_isHome_17 ml_X7_102 ok_X7_toneOf (by decide) (by first | rfl | assumption) (by decide) rfl rfl rfl (Nat.le_of_ble_eq_true rfl) (c_M_toneOf hR (by omega) (by omega)) ?_
    refine mw_if_ne (tgt := 27) dX7_isHome_20 (by decide) (by have := ht (F (2 + s) - 1) (by omega) (by omega); omega) (fun c_20 => ?_) (fun c_20 => ?_)
    · refine mw_iconst dX7_isHome_27 ?_
      refine mw_zret dX7_isHome_28 rfl (by decide +kernel) ?_
      exact ⟨by unfold homeP homeI; rw [if_neg (fun q => c_20 q.2)], rfl⟩
    · refine mw_iconst dX7_isHome_23 ?_
      refine mw_goto (tgt := 28) dX7_isHome_24 (by decide) ?_
      refine mw_zret dX7_isHome_28 rfl (by decide +kernel) ?_
      exact ⟨by unfold homeP homeI; rw [if_pos ⟨c_5, c_20⟩], rfl⟩
set_option maxHeartbeats 4000000 in
set_option maxRecDepth 100000 in
theorem c_M_tonesIn {G : mG} {μ : mMem} {F : Int → Int} (hR : ROW μ 57 F) (hI : fInv F) {s : Int} (hs : 0 ≤ s ∧ s ≤ 1) : mM G yX7_tonesIn cX7_tonesIn 4 (some .int) 1 [.ref 56, .int (iV s)] μ (pI (tset (tn F s) (F (2 + s)).toNat) μ) := by
  have hl := hI.2.2.1 s hs.1 hs.2
  refine mM.of (lv := [some (.ref 56), some (.int (iV s)), none, none]) 2 (by decide +kernel) (Nat.le_of_ble_eq_true rfl) rfl ?_
  intro X
  have lp : ∀ (n_ : Nat) (v i : Int), (0 ≤ i) → (i ≤ F (2 + s)) → (13 ≤ i + n_) → (v = tset (tn F s) i.toNat) → mW X cX7_tonesIn 4 (some .int) yX7_tonesIn.cls 1 G (pI (tset (tn F s) (F (2 + s)).toNat) μ) 4 [some (.ref 56), some (.int (iV s)), some (.int (iV v)), some (.int (iV i))] [] μ := by
    intro n_
    induction n_ with
    | zero =>
      intro v i h1 h2 h3 h5
      omega
    | succ n_ ih =>
      intro v i h1 h2 h3 h5
      refine mw_iload_n dX7_tonesIn_4 rfl ?_
      refine mw_aload_n dX7_tonesIn_5 rfl ?_
      refine mw_iload_n dX7_tonesIn_6 rfl ?_
      refine mw_Vpi (ci := 7) dX7_tonesIn_7 ml_X7_99 ok_X7_length (by decide) (by first | rfl | assumption) (by decide) rfl rfl rfl (Nat.le_of_ble_eq_true rfl) (c_M_length hR (by omega)) ?_
      refine mw_icmp_ge (tgt := 30) dX7_tonesIn_10 (by decide) (by omega) (by omega) (fun c_10 => ?_) (fun c_10 => ?_)
      · refine mw_iload_n dX7_tonesIn_30 rfl ?_
        refine mw_iret dX7_tonesIn_31 rfl ?_
        exact ⟨by rw [h5, show (F (2 + s)).toNat = i.toNat by omega], rfl⟩
      · refine mw_iload_n dX7_tonesIn_13 rfl ?_
        refine mw_iconst dX7_tonesIn_14 ?_
        refine mw_aload_n dX7_tonesIn_15 rfl ?_
        refine mw_iload_n dX7_tonesIn_16 rfl ?_
        refine mw_iload_n dX7_tonesIn_17 rfl ?_
        refine mw_Vpi (ci := 7) dX7_tonesIn_18 ml_X7_102 ok_X7_toneOf (by decide) (by first | rfl | assumption) (by decide) rfl rfl rfl (Nat.le_of_ble_eq_true rfl) (c_M_toneOf hR (by omega) (by omega)) ?_
        refine mw_ishl dX7_tonesIn_21 ?_
        refine mw_ior dX7_tonesIn_22 ?_
        refine mw_is2 dX7_tonesIn_23 (by decide) rfl ?_
        refine mw_ii3 dX7_tonesIn_24 (by decide) rfl ?_
        refine mw_goto (tgt := 4) dX7_tonesIn_27 (by decide) ?_
        exact ih _ _ (by omega) (by omega) (by omega) (by rw [show (i + 1).toNat = i.toNat + 1 by omega, tset, h5, show ((i.toNat : Nat) : Int) = i by omega])
  refine mw_iconst dX7_tonesIn_0 ?_
  refine mw_is2 dX7_tonesIn_1 (by decide) rfl ?_
  refine mw_iconst dX7_tonesIn_2 ?_
  refine mw_is3 dX7_tonesIn_3 (by decide) rfl ?_
  exact lp 13 _ _ (by omega) (by omega) (by omega) rfl
set_option maxHeartbeats 4000000 in
set_option maxRecDepth 100000 in
theorem c_M_unlike {G : mG} {μ : mMem} {F : Int → Int} (hR : ROW μ 57 F) (hI : fInv F) : mM G yX7_unlikeNow cX7_unlikeNow 4 (some .int) 1 [.ref 56] μ (pI (unP F) μ) := by
  have hl0 := hI.2.2.1 0 (by omega) (by omega)
  have hl1 := hI.2.2.1 1 (by omega) (by omega)
  have ht : ∀ s i : Int, 0 ≤ s → s ≤ 1 → 0 ≤ i → i < 12 → 0 ≤ tn F s i ∧ tn F s i < 12 := fun s i q1 q2 q3 q4 => hI.2.2.2.1 s i q1 q2 q3 q4
  refine mM.of (lv := [some (.ref 56), none, none, none]) 3 (by decide +kernel) (Nat.le_of_ble_eq_true rfl) rfl ?_
  intro X
  have lp : ∀ (n_ : Nat) (q3 : Option Value) (v i : Int), (0 ≤ i) → (i ≤ max (F (2 + 0)) (F (2 + 1))) → (13 ≤ i + n_) → (v = unlk (tn F 0) (tn F 1) (F (2 + 0)) (F (2 + 1)) i.toNat) → mW X cX7_unlikeNow 4 (some .int) yX7_unlikeNow.cls 1 G (pI (unP F) μ) 4 [some (.ref 56), some (.int (iV v)), some (.int (iV i)), q3] [] μ := by
    intro n_
    induction n_ with
    | zero =>
      intro q3 v i h1 h2 h3 h5
      omega
    | succ n_ ih =>
      intro q3 v i h1 h2 h3 h5
      refine mw_iload_n dX7_unlikeNow_4 rfl ?_
      refine mw_aload_n dX7_unlikeNow_5 rfl ?_
      refine mw_iconst dX7_unlikeNow_6 ?_
      refine mw_Vpi (ci := 7) dX7_unlikeNow_7 ml_X7_99 ok_X7_length (by decide) (by first | rfl | assumption) (by decide) rfl rfl rfl (Nat.le_of_ble_eq_true rfl) (c_M_length hR (by omega)) ?_
      refine mw_aload_n dX7_unlikeNow_10 rfl ?_
      refine mw_iconst dX7_unlikeNow_11 ?_
      refine mw_Vpi (ci := 7) dX7_unlikeNow_12 ml_X7_99 ok_X7_length (by decide) (by first | rfl | assumption) (by decide) rfl rfl rfl (Nat.le_of_ble_eq_true rfl) (c_M_length hR (by omega)) ?_
      refine mw_Spi dX7_unlikeNow_15 ml_X7_113 ok_J9_max_7cf53 (by decide) rfl rfl (Nat.le_of_ble_eq_true rfl) (c_max (by omega) (by omega)) ?_
      refine mw_icmp_ge (tgt := 78) dX7_unlikeNow_18 (by decide) (by omega) (by omega) (fun c_18 => ?_) (fun c_18 => ?_)
      · refine mw_iload_n dX7_unlikeNow_78 rfl ?_
        refine mw_iret dX7_unlikeNow_79 rfl ?_
        exact ⟨by unfold unP; rw [h5, show (max (F (2 + 0)) (F (2 + 1))).toNat = i.toNat by omega], rfl⟩
      · have hst : unlk (tn F 0) (tn F 1) (F (2 + 0)) (F (2 + 1)) (i + 1).toNat = unlk (tn F 0) (tn F 1) (F (2 + 0)) (F (2 + 1)) i.toNat + (if (i < F (2 + 0) ∧ i < F (2 + 1)) ∧ tn F 0 i = tn F 1 i then 0 else 1) := by
          rw [show (i + 1).toNat = i.toNat + 1 by omega, unlk, show ((i.toNat : Nat) : Int) = i by omega]
        refine mw_iload_n dX7_unlikeNow_21 rfl ?_
        refine mw_aload_n dX7_unlikeNow_22 rfl ?_
        refine mw_iconst dX7_unlikeNow_23 ?_
        refine mw_Vpi (ci := 7) dX7_unlikeNow_24 ml_X7_99 ok_X7_length (by decide) (by first | rfl | assumption) (by decide) rfl rfl rfl (Nat.le_of_ble_eq_true rfl) (c_M_length hR (by omega)) ?_
        refine mw_icmp_ge (tgt := 43) dX7_unlikeNow_27 (by decide) (by omega) (by omega) (fun c_27 => ?_) (fun c_27 => ?_)
        · refine mw_iconst dX7_unlikeNow_43 ?_
          refine mw_is3 dX7_unlikeNow_44 (by decide) rfl ?_
          refine mw_iload_n dX7_unlikeNow_45 rfl ?_
          refine mw_iload_n dX7_unlikeNow_46 rfl ?_
          refine mw_if_eq (tgt := 69) dX7_unlikeNow_47 (by decide) (by omega) (fun c_47 => ?_) (fun c_47 => ?_)
          · refine mw_iconst dX7_unlikeNow_69 ?_
            refine mw_iadd dX7_unlikeNow_70 ?_
            refine mw_is1 dX7_unlikeNow_71 (by decide) rfl ?_
            refine mw_ii2 dX7_unlikeNow_72 (by decide) rfl ?_
            refine mw_goto (tgt := 4) dX7_unlikeNow_75 (by decide) ?_
            first
            | (exfalso; omega)
            | exact ih _ _ _ (by omega) (by omega) (by omega) (by first | rw [hst, if_neg (by omega), h5] | rw [hst, if_pos (by omega), h5])
          · refine mw_aload_n dX7_unlikeNow_50 rfl ?_
            refine mw_iconst dX7_unlikeNow_51 ?_
            refine mw_iload_n dX7_unlikeNow_52 rfl ?_
            refine mw_Vpi (ci := 7) dX7_unlikeNow_53 ml_X7_102 ok_X7_toneOf (by decide) (by first | rfl | assumption) (by decide) rfl rfl rfl (Nat.le_of_ble_eq_true rfl) (c_M_toneOf hR (by omega) (by omega)) ?_
            refine mw_aload_n dX7_unlikeNow_56 rfl ?_
            refine mw_iconst dX7_unlikeNow_57 ?_
            refine mw_iload_n dX7_unlikeNow_58 rfl ?_
            refine mw_Vpi (ci := 7) dX7_unlikeNow_59 ml_X7_102 ok_X7_toneOf (by decide) (by first | rfl | assumption) (by decide) rfl rfl rfl (Nat.le_of_ble_eq_true rfl) (c_M_toneOf hR (by omega) (by omega)) ?_
            refine mw_icmp_ne (tgt := 69) dX7_unlikeNow_62 (by decide) (by have := ht 0 i (by omega) (by omega) (by omega) (by omega); have := ht 1 i (by omega) (by omega) (by omega) (by omega); omega) (by have := ht 0 i (by omega) (by omega) (by omega) (by omega); have := ht 1 i (by omega) (by omega) (by omega) (by omega); omega) (fun c_62 => ?_) (fun c_62 => ?_)
            · refine mw_iconst dX7_unlikeNow_69 ?_
              refine mw_iadd dX7_unlikeNow_70 ?_
              refine mw_is1 dX7_unlikeNow_71 (by decide) rfl ?_
              refine mw_ii2 dX7_unlikeNow_72 (by decide) rfl ?_
              refine mw_goto (tgt := 4) dX7_unlikeNow_75 (by decide) ?_
              first
              | (exfalso; omega)
              | exact ih _ _ _ (by omega) (by omega) (by omega) (by first | rw [hst, if_neg (by omega), h5] | rw [hst, if_pos (by omega), h5])
            · refine mw_iconst dX7_unlikeNow_65 ?_
              refine mw_goto (tgt := 70) dX7_unlikeNow_66 (by decide) ?_
              refine mw_iadd dX7_unlikeNow_70 ?_
              refine mw_is1 dX7_unlikeNow_71 (by decide) rfl ?_
              refine mw_ii2 dX7_unlikeNow_72 (by decide) rfl ?_
              refine mw_goto (tgt := 4) dX7_unlikeNow_75 (by decide) ?_
              first
              | (exfalso; omega)
              | exact ih _ _ _ (by omega) (by omega) (by omega) (by first | rw [hst, if_neg (by omega), h5] | rw [hst, if_pos (by omega), h5])
        · refine mw_iload_n dX7_unlikeNow_30 rfl ?_
          refine mw_aload_n dX7_unlikeNow_31 rfl ?_
          refine mw_iconst dX7_unlikeNow_32 ?_
          refine mw_Vpi (ci := 7) dX7_unlikeNow_33 ml_X7_99 ok_X7_length (by decide) (by first | rfl | assumption) (by decide) rfl rfl rfl (Nat.le_of_ble_eq_true rfl) (c_M_length hR (by omega)) ?_
          refine mw_icmp_ge (tgt := 43) dX7_unlikeNow_36 (by decide) (by omega) (by omega) (fun c_36 => ?_) (fun c_36 => ?_)
          · refine mw_iconst dX7_unlikeNow_43 ?_
            refine mw_is3 dX7_unlikeNow_44 (by decide) rfl ?_
            refine mw_iload_n dX7_unlikeNow_45 rfl ?_
            refine mw_iload_n dX7_unlikeNow_46 rfl ?_
            refine mw_if_eq (tgt := 69) dX7_unlikeNow_47 (by decide) (by omega) (fun c_47 => ?_) (fun c_47 => ?_)
            · refine mw_iconst dX7_unlikeNow_69 ?_
              refine mw_iadd dX7_unlikeNow_70 ?_
              refine mw_is1 dX7_unlikeNow_71 (by decide) rfl ?_
              refine mw_ii2 dX7_unlikeNow_72 (by decide) rfl ?_
              refine mw_goto (tgt := 4) dX7_unlikeNow_75 (by decide) ?_
              first
              | (exfalso; omega)
              | exact ih _ _ _ (by omega) (by omega) (by omega) (by first | rw [hst, if_neg (by omega), h5] | rw [hst, if_pos (by omega), h5])
            · refine mw_aload_n dX7_unlikeNow_50 rfl ?_
              refine mw_iconst dX7_unlikeNow_51 ?_
              refine mw_iload_n dX7_unlikeNow_52 rfl ?_
              refine mw_Vpi (ci := 7) dX7_unlikeNow_53 ml_X7_102 ok_X7_toneOf (by decide) (by first | rfl | assumption) (by decide) rfl rfl rfl (Nat.le_of_ble_eq_true rfl) (c_M_toneOf hR (by omega) (by omega)) ?_
              refine mw_aload_n dX7_unlikeNow_56 rfl ?_
              refine mw_iconst dX7_unlikeNow_57 ?_
              refine mw_iload_n dX7_unlikeNow_58 rfl ?_
              refine mw_Vpi (ci := 7) dX7_unlikeNow_59 ml_X7_102 ok_X7_toneOf (by decide) (by first | rfl | assumption) (by decide) rfl rfl rfl (Nat.le_of_ble_eq_true rfl) (c_M_toneOf hR (by omega) (by omega)) ?_
              refine mw_icmp_ne (tgt := 69) dX7_unlikeNow_62 (by decide) (by have := ht 0 i (by omega) (by omega) (by omega) (by omega); have := ht 1 i (by omega) (by omega) (by omega) (by omega); omega) (by have := ht 0 i (by omega) (by omega) (by omega) (by omega); have := ht 1 i (by omega) (by omega) (by omega) (by omega); omega) (fun c_62 => ?_) (fun c_62 => ?_)
              · refine mw_iconst dX7_unlikeNow_69 ?_
                refine mw_iadd dX7_unlikeNow_70 ?_
                refine mw_is1 dX7_unlikeNow_71 (by decide) rfl ?_
                refine mw_ii2 dX7_unlikeNow_72 (by decide) rfl ?_
                refine mw_goto (tgt := 4) dX7_unlikeNow_75 (by decide) ?_
                first
                | (exfalso; omega)
                | exact ih _ _ _ (by omega) (by omega) (by omega) (by first | rw [hst, if_neg (by omega), h5] | rw [hst, if_pos (by omega), h5])
              · refine mw_iconst dX7_unlikeNow_65 ?_
                refine mw_goto (tgt := 70) dX7_unlikeNow_66 (by decide) ?_
                refine mw_iadd dX7_unlikeNow_70 ?_
                refine mw_is1 dX7_unlikeNow_71 (by decide) rfl ?_
                refine mw_ii2 dX7_unlikeNow_72 (by decide) rfl ?_
                refine mw_goto (tgt := 4) dX7_unlikeNow_75 (by decide) ?_
                first
                | (exfalso; omega)
                | exact ih _ _ _ (by omega) (by omega) (by omega) (by first | rw [hst, if_neg (by omega), h5] | rw [hst, if_pos (by omega), h5])
          · refine mw_iconst dX7_unlikeNow_39 ?_
            refine mw_goto (tgt := 44) dX7_unlikeNow_40 (by decide) ?_
            refine mw_is3 dX7_unlikeNow_44 (by decide) rfl ?_
            refine mw_iload_n dX7_unlikeNow_45 rfl ?_
            refine mw_iload_n dX7_unlikeNow_46 rfl ?_
            refine mw_if_eq (tgt := 69) dX7_unlikeNow_47 (by decide) (by omega) (fun c_47 => ?_) (fun c_47 => ?_)
            · refine mw_iconst dX7_unlikeNow_69 ?_
              refine mw_iadd dX7_unlikeNow_70 ?_
              refine mw_is1 dX7_unlikeNow_71 (by decide) rfl ?_
              refine mw_ii2 dX7_unlikeNow_72 (by decide) rfl ?_
              refine mw_goto (tgt := 4) dX7_unlikeNow_75 (by decide) ?_
              first
              | (exfalso; omega)
              | exact ih _ _ _ (by omega) (by omega) (by omega) (by first | rw [hst, if_neg (by omega), h5] | rw [hst, if_pos (by omega), h5])
            · refine mw_aload_n dX7_unlikeNow_50 rfl ?_
              refine mw_iconst dX7_unlikeNow_51 ?_
              refine mw_iload_n dX7_unlikeNow_52 rfl ?_
              refine mw_Vpi (ci := 7) dX7_unlikeNow_53 ml_X7_102 ok_X7_toneOf (by decide) (by first | rfl | assumption) (by decide) rfl rfl rfl (Nat.le_of_ble_eq_true rfl) (c_M_toneOf hR (by omega) (by omega)) ?_
              refine mw_aload_n dX7_unlikeNow_56 rfl ?_
              refine mw_iconst dX7_unlikeNow_57 ?_
              refine mw_iload_n dX7_unlikeNow_58 rfl ?_
              refine mw_Vpi (ci := 7) dX7_unlikeNow_59 ml_X7_102 ok_X7_toneOf (by decide) (by first | rfl | assumption) (by decide) rfl rfl rfl (Nat.le_of_ble_eq_true rfl) (c_M_toneOf hR (by omega) (by omega)) ?_
              refine mw_icmp_ne (tgt := 69) dX7_unlikeNow_62 (by decide) (by have := ht 0 i (by omega) (by omega) (by omega) (by omega); have := ht 1 i (by omega) (by omega) (by omega) (by omega); omega) (by have := ht 0 i (by omega) (by omega) (by omega) (by omega); have := ht 1 i (by omega) (by omega) (by omega) (by omega); omega) (fun c_62 => ?_) (fun c_62 => ?_)
              · refine mw_iconst dX7_unlikeNow_69 ?_
                refine mw_iadd dX7_unlikeNow_70 ?_
                refine mw_is1 dX7_unlikeNow_71 (by decide) rfl ?_
                refine mw_ii2 dX7_unlikeNow_72 (by decide) rfl ?_
                refine mw_goto (tgt := 4) dX7_unlikeNow_75 (by decide) ?_
                first
                | (exfalso; omega)
                | exact ih _ _ _ (by omega) (by omega) (by omega) (by first | rw [hst, if_neg (by omega), h5] | rw [hst, if_pos (by omega), h5])
              · refine mw_iconst dX7_unlikeNow_65 ?_
                refine mw_goto (tgt := 70) dX7_unlikeNow_66 (by decide) ?_
                refine mw_iadd dX7_unlikeNow_70 ?_
                refine mw_is1 dX7_unlikeNow_71 (by decide) rfl ?_
                refine mw_ii2 dX7_unlikeNow_72 (by decide) rfl ?_
                refine mw_goto (tgt := 4) dX7_unlikeNow_75 (by decide) ?_
                first
                | (exfalso; omega)
                | exact ih _ _ _ (by omega) (by omega) (by omega) (by first | rw [hst, if_neg (by omega), h5] | rw [hst, if_pos (by omega), h5])
  refine mw_iconst dX7_unlikeNow_0 ?_
  refine mw_is1 dX7_unlikeNow_1 (by decide) rfl ?_
  refine mw_iconst dX7_unlikeNow_2 ?_
  refine mw_is2 dX7_unlikeNow_3 (by decide) rfl ?_
  exact lp 13 _ _ _ (by omega) (by omega) (by omega) rfl
set_option maxHeartbeats 4000000 in
set_option maxRecDepth 100000 in
theorem c_M_alike {G : mG} {μ : mMem} {F : Int → Int} (hR : ROW μ 57 F) (hI : fInv F) : mM G yX7_areAlike cX7_areAlike 1 (some .boolean) 2 [.ref 56] μ (pI (alikeP F) μ) := by
  have hl0 := hI.2.2.1 0 (by omega) (by omega)
  have hl1 := hI.2.2.1 1 (by omega) (by omega)
  have hu := un_bd F hI
  refine mM.of (lv := [some (.ref 56)]) 0 (by decide +kernel) (Nat.le_of_ble_eq_true rfl) rfl ?_
  intro X
  refine mw_aload_n dX7_areAlike_0 rfl ?_
  refine mw_iconst dX7_areAlike_1 ?_
  refine mw_Vpi (ci := 7) dX7_areAlike_2 ml_X7_99 ok_X7_length (by decide) (by first | rfl | assumption) (by decide) rfl rfl rfl (Nat.le_of_ble_eq_true rfl) (c_M_length hR (by omega)) ?_
  refine mw_if_le (tgt := 19) dX7_areAlike_5 (by decide) (by omega) (fun c_5 => ?_) (fun c_5 => ?_)
  · refine mw_iconst dX7_areAlike_19 ?_
    refine mw_zret dX7_areAlike_20 rfl (by decide +kernel) ?_
    exact ⟨by unfold alikeP; rw [if_neg (by omega)], rfl⟩
  · refine mw_aload_n dX7_areAlike_8 rfl ?_
    refine mw_Vpi (ci := 7) dX7_areAlike_9 ml_X7_116 ok_X7_unlikeNow (by decide) (by first | rfl | assumption) (by decide) rfl rfl rfl (Nat.le_of_ble_eq_true rfl) (c_M_unlike hR hI) ?_
    refine mw_if_ne (tgt := 19) dX7_areAlike_12 (by decide) (by omega) (fun c_12 => ?_) (fun c_12 => ?_)
    · refine mw_iconst dX7_areAlike_19 ?_
      refine mw_zret dX7_areAlike_20 rfl (by decide +kernel) ?_
      exact ⟨by unfold alikeP; rw [if_neg (fun q => c_12 q.2)], rfl⟩
    · refine mw_iconst dX7_areAlike_15 ?_
      refine mw_goto (tgt := 20) dX7_areAlike_16 (by decide) ?_
      refine mw_zret dX7_areAlike_20 rfl (by decide +kernel) ?_
      exact ⟨by unfold alikeP; rw [if_pos ⟨c_5, c_12⟩], rfl⟩
set_option maxHeartbeats 4000000 in
set_option maxRecDepth 100000 in
theorem c_M_manyOf {G : mG} {μ : mMem} {F : Int → Int} (hR : ROW μ 57 F) (hI : fInv F) {s : Int} (hs : 0 ≤ s ∧ s ≤ 1) : mM G yX7_manyOf cX7_manyOf 4 (some .int) 2 [.ref 56, .int (iV s)] μ (pI (many F s (F 1).toNat) μ) := by
  have hn := hI.2.1
  refine mM.of (lv := [some (.ref 56), some (.int (iV s)), none, none]) 2 (by decide +kernel) (Nat.le_of_ble_eq_true rfl) rfl ?_
  intro X
  have lp : ∀ (n_ : Nat) (v i : Int), (0 ≤ i) → (i ≤ F 1) → (9 ≤ i + n_) → (v = many F s i.toNat) → mW X cX7_manyOf 4 (some .int) yX7_manyOf.cls 2 G (pI (many F s (F 1).toNat) μ) 4 [some (.ref 56), some (.int (iV s)), some (.int (iV v)), some (.int (iV i))] [] μ := by
    intro n_
    induction n_ with
    | zero =>
      intro v i h1 h2 h3 h5
      omega
    | succ n_ ih =>
      intro v i h1 h2 h3 h5
      refine mw_iload_n dX7_manyOf_4 rfl ?_
      refine mw_aload_n dX7_manyOf_5 rfl ?_
      refine mw_gr_7_0 dX7_manyOf_6 gs_X7_9 (by first | rfl | assumption) ?_
      refine mw_iconst dX7_manyOf_9 ?_
      refine mw_iald 68 dX7_manyOf_10 (by first | rfl | assumption) (by first | rfl | assumption) (by omega) ?_
      rw [hR _ (by omega) (by omega)]
      refine mw_icmp_ge (tgt := 38) dX7_manyOf_11 (by decide) (by omega) (by omega) (fun c_11 => ?_) (fun c_11 => ?_)
      · refine mw_iload_n dX7_manyOf_38 rfl ?_
        refine mw_iret dX7_manyOf_39 rfl ?_
        exact ⟨by rw [h5, show (F 1).toNat = i.toNat by omega], rfl⟩
      · have ha := (hI.2.2.2.2 i (by omega) (by omega)).2.1
        have hst : many F s (i + 1).toNat = many F s i.toNat + (if F (28 + 5 * i + 1) = s then 1 else 0) := by
          rw [show (i + 1).toNat = i.toNat + 1 by omega, many, show ((i.toNat : Nat) : Int) = i by omega]
        refine mw_iload_n dX7_manyOf_14 rfl ?_
        refine mw_aload_n dX7_manyOf_15 rfl ?_
        refine mw_iload_n dX7_manyOf_16 rfl ?_
        refine mw_iconst dX7_manyOf_17 ?_
        refine mw_Vpi (ci := 7) dX7_manyOf_18 ml_X7_120 ok_X7_attacheIs (by decide) (by first | rfl | assumption) (by decide) rfl rfl rfl (Nat.le_of_ble_eq_true rfl) (c_M_attacheIs hR (by omega) (by omega)) ?_
        refine mw_iload_n dX7_manyOf_21 rfl ?_
        refine mw_icmp_ne (tgt := 29) dX7_manyOf_22 (by decide) (by omega) (by omega) (fun c_22 => ?_) (fun c_22 => ?_)
        · refine mw_iconst dX7_manyOf_29 ?_
          refine mw_iadd dX7_manyOf_30 ?_
          refine mw_is2 dX7_manyOf_31 (by decide) rfl ?_
          refine mw_ii3 dX7_manyOf_32 (by decide) rfl ?_
          refine mw_goto (tgt := 4) dX7_manyOf_35 (by decide) ?_
          exact ih _ _ (by omega) (by omega) (by omega) (by rw [hst, if_neg c_22, h5])
        · refine mw_iconst dX7_manyOf_25 ?_
          refine mw_goto (tgt := 30) dX7_manyOf_26 (by decide) ?_
          refine mw_iadd dX7_manyOf_30 ?_
          refine mw_is2 dX7_manyOf_31 (by decide) rfl ?_
          refine mw_ii3 dX7_manyOf_32 (by decide) rfl ?_
          refine mw_goto (tgt := 4) dX7_manyOf_35 (by decide) ?_
          exact ih _ _ (by omega) (by omega) (by omega) (by rw [hst, if_pos c_22, h5])
  refine mw_iconst dX7_manyOf_0 ?_
  refine mw_is2 dX7_manyOf_1 (by decide) rfl ?_
  refine mw_iconst dX7_manyOf_2 ?_
  refine mw_is3 dX7_manyOf_3 (by decide) rfl ?_
  exact lp 9 _ _ (by omega) (by omega) (by omega) rfl

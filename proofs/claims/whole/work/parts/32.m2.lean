set_option maxHeartbeats 4000000 in
set_option maxRecDepth 100000 in
theorem c_M_answers {G : mG} {μ : mMem} {F : Int → Int} (hR : ROW μ 57 F) (hI : fInv F) {k y b d i : Int} (hk : 0 ≤ k ∧ k < 6) (hy : 0 ≤ y ∧ y < 12) (hd : 0 ≤ d ∧ d ≤ 1) (hi : 0 ≤ i ∧ i < F (2 + d)) : mM G yX7_answers cX7_answers 8 (some .int) 1 [.ref 56, .int (iV k), .int (iV y), .int (iV b), .int (iV d), .int (iV i)] μ (pI (ansI k y b (F (2 + d)) (tn F d) i) μ) := by
  have hl := hI.2.2.1 d hd.1 hd.2
  have ht : ∀ i : Int, 0 ≤ i → i < 12 → 0 ≤ tn F d i ∧ tn F d i < 12 := fun i q1 q2 => hI.2.2.2.1 d i hd.1 hd.2 q1 q2
  have h0 := ht 0 (by omega) (by omega)
  have h1 := ht i (by omega) (by omega)
  have h2 := ht (F (2 + d) - 1) (by omega) (by omega)
  have h3 := ht (F (2 + d) - 1 - i) (by omega) (by omega)
  have hb := and1 (bShr b i)
  refine mM.of (lv := [some (.ref 56), some (.int (iV k)), some (.int (iV y)), some (.int (iV b)), some (.int (iV d)), some (.int (iV i)), none, none]) 2 (by decide +kernel) (Nat.le_of_ble_eq_true rfl) rfl ?_
  intro X
  refine mw_aload_n dX7_answers_0 rfl ?_
  refine mw_iload dX7_answers_1 rfl ?_
  refine mw_Vpi (ci := 7) dX7_answers_3 ml_X7_99 ok_X7_length (by decide) (by first | rfl | assumption) (by decide) rfl rfl rfl (Nat.le_of_ble_eq_true rfl) (c_M_length hR (by omega)) ?_
  refine mw_iconst dX7_answers_6 ?_
  refine mw_isub dX7_answers_7 ?_
  refine mw_is6 dX7_answers_8 (by decide) rfl ?_
  refine mw_iload_n dX7_answers_10 rfl ?_
  refine mw_bipush dX7_answers_11 (by decide +kernel) ?_
  refine mw_iload_n dX7_answers_13 rfl ?_
  refine mw_iload dX7_answers_14 rfl ?_
  refine mw_ishr dX7_answers_16 ?_
  refine mw_iconst dX7_answers_17 ?_
  refine mw_iand dX7_answers_18 ?_
  refine mw_imul dX7_answers_19 ?_
  refine mw_iadd dX7_answers_20 ?_
  refine mw_is7 dX7_answers_21 (by decide) rfl ?_
  refine mw_iload_n dX7_answers_23 rfl ?_
  rcases (show k = 1 ∨ k = 2 ∨ k = 3 ∨ k = 4 ∨ k = 5 ∨ (k < 1 ∨ 5 < k) by omega) with rfl | rfl | rfl | rfl | rfl | c_24
  · refine mw_tblIn (off := 36) (tgt := 60) dX7_answers_24 (by decide) (by decide) (by decide) (by decide) (by decide) ?_
    refine mw_iload dX7_answers_60 rfl ?_
    refine mw_iconst dX7_answers_62 ?_
    refine mw_aload_n dX7_answers_63 rfl ?_
    refine mw_iload dX7_answers_64 rfl ?_
    refine mw_iconst dX7_answers_66 ?_
    refine mw_Vpi (ci := 7) dX7_answers_67 ml_X7_102 ok_X7_toneOf (by decide) (by first | rfl | assumption) (by decide) rfl rfl rfl (Nat.le_of_ble_eq_true rfl) (c_M_toneOf hR (by omega) (by omega)) ?_
    refine mw_imul dX7_answers_70 ?_
    refine mw_aload_n dX7_answers_71 rfl ?_
    refine mw_iload dX7_answers_72 rfl ?_
    refine mw_iload dX7_answers_74 rfl ?_
    refine mw_Vpi (ci := 7) dX7_answers_76 ml_X7_102 ok_X7_toneOf (by decide) (by first | rfl | assumption) (by decide) rfl rfl rfl (Nat.le_of_ble_eq_true rfl) (c_M_toneOf hR (by omega) (by omega)) ?_
    refine mw_isub dX7_answers_79 ?_
    refine mw_iadd dX7_answers_80 ?_
    refine mw_is7 dX7_answers_81 (by decide) rfl ?_
    refine mw_goto (tgt := 187) dX7_answers_83 (by decide) ?_
    refine mw_iload dX7_answers_187 rfl ?_
    refine mw_bipush dX7_answers_189 (by decide +kernel) ?_
    refine mw_iadd dX7_answers_191 ?_
    refine mw_bipush dX7_answers_192 (by decide +kernel) ?_
    refine mw_iremN dX7_answers_194 (by omega) (by omega) ?_
    refine mw_iret dX7_answers_195 rfl ?_
    refine ⟨?_, rfl⟩
    congr 3
    unfold ansI tb blB
    rw [if_pos rfl]
    omega
  · refine mw_tblIn (off := 62) (tgt := 86) dX7_answers_24 (by decide) (by decide) (by decide) (by decide) (by decide) ?_
    refine mw_iload dX7_answers_86 rfl ?_
    refine mw_aload_n dX7_answers_88 rfl ?_
    refine mw_iload dX7_answers_89 rfl ?_
    refine mw_iload dX7_answers_91 rfl ?_
    refine mw_iload dX7_answers_93 rfl ?_
    refine mw_isub dX7_answers_95 ?_
    refine mw_Vpi (ci := 7) dX7_answers_96 ml_X7_102 ok_X7_toneOf (by decide) (by first | rfl | assumption) (by decide) rfl rfl rfl (Nat.le_of_ble_eq_true rfl) (c_M_toneOf hR (by omega) (by omega)) ?_
    refine mw_iadd dX7_answers_99 ?_
    refine mw_is7 dX7_answers_100 (by decide) rfl ?_
    refine mw_goto (tgt := 187) dX7_answers_102 (by decide) ?_
    refine mw_iload dX7_answers_187 rfl ?_
    refine mw_bipush dX7_answers_189 (by decide +kernel) ?_
    refine mw_iadd dX7_answers_191 ?_
    refine mw_bipush dX7_answers_192 (by decide +kernel) ?_
    refine mw_iremN dX7_answers_194 (by omega) (by omega) ?_
    refine mw_iret dX7_answers_195 rfl ?_
    refine ⟨?_, rfl⟩
    congr 3
    unfold ansI tb blB
    rw [if_neg (by decide), if_pos rfl]
    omega
  · refine mw_tblIn (off := 81) (tgt := 105) dX7_answers_24 (by decide) (by decide) (by decide) (by decide) (by decide) ?_
    refine mw_iload dX7_answers_105 rfl ?_
    refine mw_aload_n dX7_answers_107 rfl ?_
    refine mw_iload dX7_answers_108 rfl ?_
    refine mw_iconst dX7_answers_110 ?_
    refine mw_Vpi (ci := 7) dX7_answers_111 ml_X7_102 ok_X7_toneOf (by decide) (by first | rfl | assumption) (by decide) rfl rfl rfl (Nat.le_of_ble_eq_true rfl) (c_M_toneOf hR (by omega) (by omega)) ?_
    refine mw_iadd dX7_answers_114 ?_
    refine mw_is7 dX7_answers_115 (by decide) rfl ?_
    refine mw_goto (tgt := 187) dX7_answers_117 (by decide) ?_
    refine mw_iload dX7_answers_187 rfl ?_
    refine mw_bipush dX7_answers_189 (by decide +kernel) ?_
    refine mw_iadd dX7_answers_191 ?_
    refine mw_bipush dX7_answers_192 (by decide +kernel) ?_
    refine mw_iremN dX7_answers_194 (by omega) (by omega) ?_
    refine mw_iret dX7_answers_195 rfl ?_
    refine ⟨?_, rfl⟩
    congr 3
    unfold ansI tb blB
    rw [if_neg (by decide), if_neg (by decide), if_pos rfl]
    omega
  · refine mw_tblIn (off := 96) (tgt := 120) dX7_answers_24 (by decide) (by decide) (by decide) (by decide) (by decide) ?_
    refine mw_iload dX7_answers_120 rfl ?_
    refine mw_iconst dX7_answers_122 ?_
    refine mw_aload_n dX7_answers_123 rfl ?_
    refine mw_iload dX7_answers_124 rfl ?_
    refine mw_iload dX7_answers_126 rfl ?_
    refine mw_Vpi (ci := 7) dX7_answers_128 ml_X7_102 ok_X7_toneOf (by decide) (by first | rfl | assumption) (by decide) rfl rfl rfl (Nat.le_of_ble_eq_true rfl) (c_M_toneOf hR (by omega) (by omega)) ?_
    refine mw_imul dX7_answers_131 ?_
    refine mw_aload_n dX7_answers_132 rfl ?_
    refine mw_iload dX7_answers_133 rfl ?_
    refine mw_iload dX7_answers_135 rfl ?_
    refine mw_iload dX7_answers_137 rfl ?_
    refine mw_isub dX7_answers_139 ?_
    refine mw_Vpi (ci := 7) dX7_answers_140 ml_X7_102 ok_X7_toneOf (by decide) (by first | rfl | assumption) (by decide) rfl rfl rfl (Nat.le_of_ble_eq_true rfl) (c_M_toneOf hR (by omega) (by omega)) ?_
    refine mw_isub dX7_answers_143 ?_
    refine mw_iadd dX7_answers_144 ?_
    refine mw_is7 dX7_answers_145 (by decide) rfl ?_
    refine mw_goto (tgt := 187) dX7_answers_147 (by decide) ?_
    refine mw_iload dX7_answers_187 rfl ?_
    refine mw_bipush dX7_answers_189 (by decide +kernel) ?_
    refine mw_iadd dX7_answers_191 ?_
    refine mw_bipush dX7_answers_192 (by decide +kernel) ?_
    refine mw_iremN dX7_answers_194 (by omega) (by omega) ?_
    refine mw_iret dX7_answers_195 rfl ?_
    refine ⟨?_, rfl⟩
    congr 3
    unfold ansI tb blB
    rw [if_neg (by decide), if_neg (by decide), if_neg (by decide), if_pos rfl]
    omega
  · refine mw_tblIn (off := 126) (tgt := 150) dX7_answers_24 (by decide) (by decide) (by decide) (by decide) (by decide) ?_
    refine mw_iload dX7_answers_150 rfl ?_
    refine mw_aload_n dX7_answers_152 rfl ?_
    refine mw_iload dX7_answers_153 rfl ?_
    refine mw_iload dX7_answers_155 rfl ?_
    refine mw_iload dX7_answers_157 rfl ?_
    refine mw_isub dX7_answers_159 ?_
    refine mw_Vpi (ci := 7) dX7_answers_160 ml_X7_102 ok_X7_toneOf (by decide) (by first | rfl | assumption) (by decide) rfl rfl rfl (Nat.le_of_ble_eq_true rfl) (c_M_toneOf hR (by omega) (by omega)) ?_
    refine mw_iload dX7_answers_163 rfl ?_
    refine mw_iconst dX7_answers_165 ?_
    refine mw_iremN dX7_answers_166 (by omega) (by omega) ?_
    refine mw_iadd dX7_answers_167 ?_
    refine mw_iadd dX7_answers_168 ?_
    refine mw_is7 dX7_answers_169 (by decide) rfl ?_
    refine mw_goto (tgt := 187) dX7_answers_171 (by decide) ?_
    refine mw_iload dX7_answers_187 rfl ?_
    refine mw_bipush dX7_answers_189 (by decide +kernel) ?_
    refine mw_iadd dX7_answers_191 ?_
    refine mw_bipush dX7_answers_192 (by decide +kernel) ?_
    refine mw_iremN dX7_answers_194 (by omega) (by omega) ?_
    refine mw_iret dX7_answers_195 rfl ?_
    refine ⟨?_, rfl⟩
    congr 3
    unfold ansI tb blB
    rw [if_neg (by decide), if_neg (by decide), if_neg (by decide), if_neg (by decide), if_pos rfl]
    omega
  · refine mw_tblOut (tgt := 174) dX7_answers_24 (by omega) c_24 (by decide) ?_
    refine mw_iload dX7_answers_174 rfl ?_
    refine mw_aload_n dX7_answers_176 rfl ?_
    refine mw_iload dX7_answers_177 rfl ?_
    refine mw_iload dX7_answers_179 rfl ?_
    refine mw_Vpi (ci := 7) dX7_answers_181 ml_X7_102 ok_X7_toneOf (by decide) (by first | rfl | assumption) (by decide) rfl rfl rfl (Nat.le_of_ble_eq_true rfl) (c_M_toneOf hR (by omega) (by omega)) ?_
    refine mw_iadd dX7_answers_184 ?_
    refine mw_is7 dX7_answers_185 (by decide) rfl ?_
    refine mw_iload dX7_answers_187 rfl ?_
    refine mw_bipush dX7_answers_189 (by decide +kernel) ?_
    refine mw_iadd dX7_answers_191 ?_
    refine mw_bipush dX7_answers_192 (by decide +kernel) ?_
    refine mw_iremN dX7_answers_194 (by omega) (by omega) ?_
    refine mw_iret dX7_answers_195 rfl ?_
    refine ⟨?_, rfl⟩
    congr 3
    unfold ansI tb blB
    rw [if_neg (by omega), if_neg (by omega), if_neg (by omega), if_neg (by omega), if_neg (by omega)]
    omega
set_option maxHeartbeats 4000000 in
set_option maxRecDepth 100000 in
theorem c_M_longNow {G : mG} {μ : mMem} {F : Int → Int} (hR : ROW μ 57 F) (hI : fInv F) {a : Int} (h8 : 0 ≤ a ∧ a < 8) : mM G yX7_longNow cX7_longNow 2 (some .int) 2 [.ref 56, .int (iV a)] μ (pI (lgF F a) μ) := by
  have ha := hI.2.2.2.2 a (by omega) (by omega)
  have hl := hI.2.2.1 (1 - F (28 + 5 * a + 1)) (by omega) (by omega)
  refine mM.of (lv := [some (.ref 56), some (.int (iV a))]) 0 (by decide +kernel) (Nat.le_of_ble_eq_true rfl) rfl ?_
  intro X
  refine mw_aload_n dX7_longNow_0 rfl ?_
  refine mw_iload_n dX7_longNow_1 rfl ?_
  refine mw_iconst dX7_longNow_2 ?_
  refine mw_Vpi (ci := 7) dX7_longNow_3 ml_X7_120 ok_X7_attacheIs (by decide) (by first | rfl | assumption) (by decide) rfl rfl rfl (Nat.le_of_ble_eq_true rfl) (c_M_attacheIs hR (by omega) (by omega)) ?_
  refine mw_aload_n dX7_longNow_6 rfl ?_
  refine mw_iconst dX7_longNow_7 ?_
  refine mw_aload_n dX7_longNow_8 rfl ?_
  refine mw_iload_n dX7_longNow_9 rfl ?_
  refine mw_iconst dX7_longNow_10 ?_
  refine mw_Vpi (ci := 7) dX7_longNow_11 ml_X7_120 ok_X7_attacheIs (by decide) (by first | rfl | assumption) (by decide) rfl rfl rfl (Nat.le_of_ble_eq_true rfl) (c_M_attacheIs hR (by omega) (by omega)) ?_
  refine mw_isub dX7_longNow_14 ?_
  refine mw_Vpi (ci := 7) dX7_longNow_15 ml_X7_99 ok_X7_length (by decide) (by first | rfl | assumption) (by decide) rfl rfl rfl (Nat.le_of_ble_eq_true rfl) (c_M_length hR (by omega)) ?_
  refine mw_Spi dX7_longNow_18 ml_X7_152 ok_X7_longOf (by decide) rfl rfl (Nat.le_of_ble_eq_true rfl) (c_M_longOf ha.1 hl) ?_
  refine mw_iret dX7_longNow_21 rfl ?_
  exact ⟨rfl, rfl⟩
set_option maxHeartbeats 4000000 in
set_option maxRecDepth 100000 in
theorem c_M_answerAt {G : mG} {μ : mMem} {F : Int → Int} (hR : ROW μ 57 F) (hI : fInv F) {a i : Int} (h8 : 0 ≤ a ∧ a < 8) (hi : 0 ≤ i ∧ i < lgF F a) : mM G yX7_answerAt cX7_answerAt 3 (some .int) 2 [.ref 56, .int (iV a), .int (iV i)] μ (pI (anF F a i) μ) := by
  have ha := hI.2.2.2.2 a (by omega) (by omega)
  have hl := hI.2.2.1 (1 - F (28 + 5 * a + 1)) (by omega) (by omega)
  have hL := lng_bd (kind := F (28 + 5 * a + 0)) hl.1
  unfold lgF at hi
  refine mM.of (lv := [some (.ref 56), some (.int (iV a)), some (.int (iV i))]) 0 (by decide +kernel) (Nat.le_of_ble_eq_true rfl) rfl ?_
  intro X
  refine mw_aload_n dX7_answerAt_0 rfl ?_
  refine mw_aload_n dX7_answerAt_1 rfl ?_
  refine mw_iload_n dX7_answerAt_2 rfl ?_
  refine mw_iconst dX7_answerAt_3 ?_
  refine mw_Vpi (ci := 7) dX7_answerAt_4 ml_X7_120 ok_X7_attacheIs (by decide) (by first | rfl | assumption) (by decide) rfl rfl rfl (Nat.le_of_ble_eq_true rfl) (c_M_attacheIs hR (by omega) (by omega)) ?_
  refine mw_aload_n dX7_answerAt_7 rfl ?_
  refine mw_iload_n dX7_answerAt_8 rfl ?_
  refine mw_iconst dX7_answerAt_9 ?_
  refine mw_Vpi (ci := 7) dX7_answerAt_10 ml_X7_120 ok_X7_attacheIs (by decide) (by first | rfl | assumption) (by decide) rfl rfl rfl (Nat.le_of_ble_eq_true rfl) (c_M_attacheIs hR (by omega) (by omega)) ?_
  refine mw_aload_n dX7_answerAt_13 rfl ?_
  refine mw_iload_n dX7_answerAt_14 rfl ?_
  refine mw_iconst dX7_answerAt_15 ?_
  refine mw_Vpi (ci := 7) dX7_answerAt_16 ml_X7_120 ok_X7_attacheIs (by decide) (by first | rfl | assumption) (by decide) rfl rfl rfl (Nat.le_of_ble_eq_true rfl) (c_M_attacheIs hR (by omega) (by omega)) ?_
  refine mw_iconst dX7_answerAt_19 ?_
  refine mw_aload_n dX7_answerAt_20 rfl ?_
  refine mw_iload_n dX7_answerAt_21 rfl ?_
  refine mw_iconst dX7_answerAt_22 ?_
  refine mw_Vpi (ci := 7) dX7_answerAt_23 ml_X7_120 ok_X7_attacheIs (by decide) (by first | rfl | assumption) (by decide) rfl rfl rfl (Nat.le_of_ble_eq_true rfl) (c_M_attacheIs hR (by omega) (by omega)) ?_
  refine mw_isub dX7_answerAt_26 ?_
  refine mw_iload_n dX7_answerAt_27 rfl ?_
  refine mw_Vpi (ci := 7) dX7_answerAt_28 ml_X7_148 ok_X7_answers (by decide) (by first | rfl | assumption) (by decide) rfl rfl rfl (Nat.le_of_ble_eq_true rfl) (c_M_answers hR hI ha.1 ha.2.2.1 (by omega) (by omega)) ?_
  refine mw_iret dX7_answerAt_31 rfl ?_
  exact ⟨rfl, rfl⟩
set_option maxHeartbeats 4000000 in
set_option maxRecDepth 100000 in
theorem c_M_whose {G : mG} {μ : mMem} {F : Int → Int} (hR : ROW μ 57 F) (hI : fInv F) (hd : F 0 ≤ 100000) : mM G yX7_whose cX7_whose 5 (some .int) 3 [.ref 56] μ (pI (whose F) μ) := by
  have hn := hI.2.1
  have h0 := hI.1
  have hm := many_bd F (F 0 % 2) (F 1).toNat
  refine mM.of (lv := [some (.ref 56), none, none, none, none]) 4 (by decide +kernel) (Nat.le_of_ble_eq_true rfl) rfl ?_
  intro X
  have lp : ∀ (n_ : Nat) (i l : Int), (0 ≤ i) → (i ≤ F 1) → (9 ≤ i + n_) → (-100 ≤ l + i ∧ l ≤ 100) → (many F (F 0 % 2) (F 1).toNat = 0 → whose F = -1) → (¬ many F (F 0 % 2) (F 1).toNat = 0 → whL F (F 0 % 2) (F 1 - i).toNat i l = whose F) → mW X cX7_whose 5 (some .int) yX7_whose.cls 3 G (pI (whose F) μ) 37 [some (.ref 56), some (.int (iV (F 0 % 2))), some (.int (iV (many F (F 0 % 2) (F 1).toNat))), some (.int (iV l)), some (.int (iV i))] [] μ := by
    intro n_
    induction n_ with
    | zero =>
      intro i l h1 h2 h3 h4 h5 h6
      omega
    | succ n_ ih =>
      intro i l h1 h2 h3 h4 h5 h6
      refine mw_iload dX7_whose_37 rfl ?_
      refine mw_aload_n dX7_whose_39 rfl ?_
      refine mw_gr_7_0 dX7_whose_40 gs_X7_9 (by first | rfl | assumption) ?_
      refine mw_iconst dX7_whose_43 ?_
      refine mw_iald 68 dX7_whose_44 (by first | rfl | assumption) (by first | rfl | assumption) (by omega) ?_
      rw [hR _ (by omega) (by omega)]
      refine mw_icmp_ge (tgt := 79) dX7_whose_45 (by decide) (by omega) (by omega) (fun c_45 => ?_) (fun c_45 => ?_)
      · refine mw_iconst dX7_whose_79 ?_
        refine mw_iret dX7_whose_80 rfl ?_
        refine ⟨?_, rfl⟩
        by_cases e : many F (F 0 % 2) (F 1).toNat = 0
        · rw [h5 e]
        · have h7 := h6 e
          rw [show (F 1 - i).toNat = 0 by omega] at h7
          rw [← h7]
          rfl
      · refine mw_iload_n dX7_whose_48 rfl ?_
        refine mw_if_le (tgt := 79) dX7_whose_49 (by decide) (by omega) (fun c_49 => ?_) (fun c_49 => ?_)
        · refine mw_iconst dX7_whose_79 ?_
          refine mw_iret dX7_whose_80 rfl ?_
          exact ⟨by rw [h5 (by omega)], rfl⟩
        · have ha := (hI.2.2.2.2 i (by omega) (by omega)).2.1
          have h7 := h6 (by omega)
          rw [show (F 1 - i).toNat = (F 1 - (i + 1)).toNat + 1 by omega, whL] at h7
          refine mw_aload_n dX7_whose_52 rfl ?_
          refine mw_iload dX7_whose_53 rfl ?_
          refine mw_iconst dX7_whose_55 ?_
          refine mw_Vpi (ci := 7) dX7_whose_56 ml_X7_120 ok_X7_attacheIs (by decide) (by first | rfl | assumption) (by decide) rfl rfl rfl (Nat.le_of_ble_eq_true rfl) (c_M_attacheIs hR (by omega) (by omega)) ?_
          refine mw_iload_n dX7_whose_59 rfl ?_
          refine mw_icmp_ne (tgt := 73) dX7_whose_60 (by decide) (by omega) (by omega) (fun c_60 => ?_) (fun c_60 => ?_)
          · rw [if_neg c_60] at h7
            refine mw_ii4 dX7_whose_73 (by decide) rfl ?_
            refine mw_goto (tgt := 37) dX7_whose_76 (by decide) ?_
            exact ih _ _ (by omega) (by omega) (by omega) (by omega) h5 (fun _ => h7)
          · rw [if_pos c_60] at h7
            refine mw_iload_n dX7_whose_63 rfl ?_
            refine mw_if_ne (tgt := 70) dX7_whose_64 (by decide) (by omega) (fun c_64 => ?_) (fun c_64 => ?_)
            · rw [if_neg c_64] at h7
              refine mw_ii3 dX7_whose_70 (by decide) rfl ?_
              refine mw_ii4 dX7_whose_73 (by decide) rfl ?_
              refine mw_goto (tgt := 37) dX7_whose_76 (by decide) ?_
              exact ih _ _ (by omega) (by omega) (by omega) (by omega) h5 (fun _ => h7)
            · refine mw_iload dX7_whose_67 rfl ?_
              refine mw_iret dX7_whose_69 rfl ?_
              exact ⟨by rw [if_pos c_64] at h7; rw [h7], rfl⟩
  refine mw_aload_n dX7_whose_0 rfl ?_
  refine mw_gr_7_0 dX7_whose_1 gs_X7_9 (by first | rfl | assumption) ?_
  refine mw_iconst dX7_whose_4 ?_
  refine mw_iald 68 dX7_whose_5 (by first | rfl | assumption) (by first | rfl | assumption) (by omega) ?_
  rw [hR _ (by omega) (by omega)]
  refine mw_iconst dX7_whose_6 ?_
  refine mw_iremN dX7_whose_7 (by omega) (by omega) ?_
  refine mw_is1 dX7_whose_8 (by decide) rfl ?_
  refine mw_aload_n dX7_whose_9 rfl ?_
  refine mw_iload_n dX7_whose_10 rfl ?_
  refine mw_Vpi (ci := 7) dX7_whose_11 ml_X7_132 ok_X7_manyOf (by decide) (by first | rfl | assumption) (by decide) rfl rfl rfl (Nat.le_of_ble_eq_true rfl) (c_M_manyOf hR hI (by omega)) ?_
  refine mw_is2 dX7_whose_14 (by decide) rfl ?_
  refine mw_iload_n dX7_whose_15 rfl ?_
  refine mw_if_ne (tgt := 23) dX7_whose_16 (by decide) (by omega) (fun c_16 => ?_) (fun c_16 => ?_)
  · refine mw_aload_n dX7_whose_23 rfl ?_
    refine mw_gr_7_0 dX7_whose_24 gs_X7_9 (by first | rfl | assumption) ?_
    refine mw_iconst dX7_whose_27 ?_
    refine mw_iald 68 dX7_whose_28 (by first | rfl | assumption) (by first | rfl | assumption) (by omega) ?_
    rw [hR _ (by omega) (by omega)]
    refine mw_iconst dX7_whose_29 ?_
    refine mw_idivN dX7_whose_30 (by omega) (by omega) ?_
    refine mw_iload_n dX7_whose_31 rfl ?_
    refine mw_iremN dX7_whose_32 (by omega) (by omega) ?_
    refine mw_is3 dX7_whose_33 (by decide) rfl ?_
    refine mw_iconst dX7_whose_34 ?_
    refine mw_is4 dX7_whose_35 (by decide) rfl ?_
    have hm1 := Int.emod_nonneg (F 0 / 2) c_16
    have hm2 := Int.emod_lt_of_pos (F 0 / 2) (show 0 < many F (F 0 % 2) (F 1).toNat by omega)
    exact lp 9 _ _ (by omega) (by omega) (by omega) (by omega) (fun e => absurd e c_16) (fun e => by unfold whose; rw [if_neg e, Int.sub_zero])
  · refine mw_iconst dX7_whose_19 ?_
    refine mw_goto (tgt := 33) dX7_whose_20 (by decide) ?_
    refine mw_is3 dX7_whose_33 (by decide) rfl ?_
    refine mw_iconst dX7_whose_34 ?_
    refine mw_is4 dX7_whose_35 (by decide) rfl ?_
    exact lp 9 _ _ (by omega) (by omega) (by omega) (by omega) (fun e => by unfold whose; rw [if_pos e]) (fun e => absurd c_16 e)
set_option maxHeartbeats 4000000 in
set_option maxRecDepth 100000 in
theorem c_M_writes {G : mG} {μ : mMem} {F : Int → Int} (hR : ROW μ 57 F) (hI : fInv F) {a : Int} (h8 : 0 ≤ a ∧ a < 8) : mM G yX7_writes cX7_writes 5 none 3 [.ref 56, .int (iV a)] μ (qV (fun m => ROW m 57 (wrF F a) ∧ DY μ m)) := by
  have ha := hI.2.2.2.2 a (by omega) (by omega)
  have hl := hI.2.2.1 (1 - F (28 + 5 * a + 1)) (by omega) (by omega)
  have hL := lng_bd (kind := F (28 + 5 * a + 0)) hl.1
  rw [show lng (F (28 + 5 * a + 0)) (F (2 + (1 - F (28 + 5 * a + 1)))) = lgF F a from rfl] at hL
  refine mM.of (lv := [some (.ref 56), some (.int (iV a)), none, none, none]) 3 (by decide +kernel) (Nat.le_of_ble_eq_true rfl) rfl ?_
  intro X
  have l2 : ∀ (n_ : Nat) (i : Int) (m : mMem), (0 ≤ i) → (i ≤ lgF F a) → (13 ≤ i + n_) → (DY μ m) → (ROW m 57 (fun j => if 4 + 12 * F (28 + 5 * a + 1) ≤ j ∧ j < 4 + 12 * F (28 + 5 * a + 1) + i then anF F a (j - (4 + 12 * F (28 + 5 * a + 1))) else F j)) → (∀ j : Int, 0 ≤ j → j < lgF F a → m.1 61 j = anF F a j) → mW X cX7_writes 5 none yX7_writes.cls 3 G (qV (fun m => ROW m 57 (wrF F a) ∧ DY μ m)) 45 [some (.ref 56), some (.int (iV a)), some (.int (iV (lgF F a))), some (.int (iV (F (28 + 5 * a + 1)))), some (.int (iV i))] [] m := by
    intro n_
    induction n_ with
    | zero =>
      intro i m h1 h2 h3 h4 h5 h6
      omega
    | succ n_ ih =>
      intro i m h1 h2 h3 h4 h5 h6
      refine mw_iload dX7_writes_45 rfl ?_
      refine mw_iload_n dX7_writes_47 rfl ?_
      refine mw_icmp_ge (tgt := 78) dX7_writes_48 (by decide) (by omega) (by omega) (fun c_48 => ?_) (fun c_48 => ?_)
      · refine mw_aload_n dX7_writes_78 rfl ?_
        refine mw_gr_7_0 dX7_writes_79 gs_X7_9 (by first | rfl | assumption) ?_
        refine mw_iconst dX7_writes_82 ?_
        refine mw_iload_n dX7_writes_83 rfl ?_
        refine mw_iadd dX7_writes_84 ?_
        refine mw_iload_n dX7_writes_85 rfl ?_
        refine mw_iast 68 dX7_writes_86 (by first | rfl | assumption) (by first | rfl | assumption) (by omega) ?_
        have hR2 := h5.up (2 + F (28 + 5 * a + 1)) (lgF F a)
        refine mw_aload_n dX7_writes_87 rfl ?_
        refine mw_gr_7_0 dX7_writes_88 gs_X7_9 (by first | rfl | assumption) ?_
        refine mw_iload_n dX7_writes_91 rfl ?_
        refine mw_iconst dX7_writes_92 ?_
        refine mw_Spi dX7_writes_93 ml_X7_135 ok_X7_attacheAt (by decide) rfl rfl (Nat.le_of_ble_eq_true rfl) (c_M_attacheAt) ?_
        refine mw_sipush dX7_writes_96 (by decide +kernel) ?_
        refine mw_aload_n dX7_writes_99 rfl ?_
        refine mw_iload_n dX7_writes_100 rfl ?_
        refine mw_iconst dX7_writes_101 ?_
        refine mw_Vpi (ci := 7) dX7_writes_102 ml_X7_120 ok_X7_attacheIs (by decide) (by first | rfl | assumption) (by decide) rfl rfl rfl (Nat.le_of_ble_eq_true rfl) (c_M_attacheIs (hR2) (by omega) (by omega)) ?_
        rw [upF_o (by omega)]
        try dsimp only
        rw [if_neg (by omega)]
        refine mw_iconst dX7_writes_105 ?_
        refine mw_iadd dX7_writes_106 ?_
        refine mw_Spi dX7_writes_107 ml_X7_110 ok_J9_min_7cf53 (by decide) rfl rfl (Nat.le_of_ble_eq_true rfl) (c_min (by omega) (by omega)) ?_
        refine mw_iast 68 dX7_writes_110 (by first | rfl | assumption) (by first | rfl | assumption) (by omega) ?_
        refine mw_vret dX7_writes_111 rfl ?_
        refine ⟨rfl, (hR2.up (28 + 5 * a + 4) _).eq (fun j q1 q2 => ?_), (h4.tr DY.st).tr DY.st⟩
        unfold wrF
        rw [show lng (F (28 + 5 * a + 0)) (F (2 + (1 - F (28 + 5 * a + 1)))) = lgF F a from rfl]
        by_cases e1 : 4 + 12 * F (28 + 5 * a + 1) ≤ j ∧ j < 4 + 12 * F (28 + 5 * a + 1) + lgF F a
        · rw [upF_o (by omega), upF_o (by omega)]
          try dsimp only
          rw [if_pos (by omega), if_pos e1]
          rfl
        · rw [if_neg e1]
          by_cases e2 : j = 2 + F (28 + 5 * a + 1)
          · rw [if_pos e2, upF_o (by omega), e2, upF_s]
          · rw [if_neg e2]
            by_cases e3 : j = 28 + 5 * a + 4
            · rw [if_pos e3, e3, upF_s]
              omega
            · rw [if_neg e3, upF_o e3, upF_o e2]
              try dsimp only
              rw [if_neg (by omega)]
      · refine mw_aload_n dX7_writes_51 rfl ?_
        refine mw_gr_7_0 dX7_writes_52 gs_X7_9 (by first | rfl | assumption) ?_
        refine mw_iconst dX7_writes_55 ?_
        refine mw_bipush dX7_writes_56 (by decide +kernel) ?_
        refine mw_iload_n dX7_writes_58 rfl ?_
        refine mw_imul dX7_writes_59 ?_
        refine mw_iadd dX7_writes_60 ?_
        refine mw_iload dX7_writes_61 rfl ?_
        refine mw_iadd dX7_writes_63 ?_
        refine mw_aload_n dX7_writes_64 rfl ?_
        refine mw_gr_7_5 dX7_writes_65 gs_X7_22 (by first | rfl | assumption) ?_
        refine mw_iload dX7_writes_68 rfl ?_
        refine mw_iald 12 dX7_writes_70 (by first | rfl | assumption) (by first | rfl | assumption) (by omega) ?_
        rw [h6 i (by omega) (by omega)]
        refine mw_iast 68 dX7_writes_71 (by first | rfl | assumption) (by first | rfl | assumption) (by omega) ?_
        refine mw_ii4 dX7_writes_72 (by decide) rfl ?_
        refine mw_goto (tgt := 45) dX7_writes_75 (by decide) ?_
        refine ih _ _ (by omega) (by omega) (by omega) (h4.tr DY.st) (fun j q1 q2 => ?_) (fun j q1 q2 => by rw [u1_o (by omega)]; exact h6 j q1 q2)
        by_cases e : j = 4 + 12 * F (28 + 5 * a + 1) + i
        · rw [e, u1_s]
          try dsimp only
          rw [if_pos (by omega), show 4 + 12 * F (28 + 5 * a + 1) + i - (4 + 12 * F (28 + 5 * a + 1)) = i by omega]
        · rw [u1_o (by omega), h5 j q1 q2]
          try dsimp only
          by_cases e2 : 4 + 12 * F (28 + 5 * a + 1) ≤ j ∧ j < 4 + 12 * F (28 + 5 * a + 1) + i
          · rw [if_pos e2, if_pos (by omega)]
          · rw [if_neg e2, if_neg (by omega)]
  have l1 : ∀ (n_ : Nat) (i : Int) (m : mMem), (0 ≤ i) → (i ≤ lgF F a) → (13 ≤ i + n_) → (DY μ m) → (ROW m 57 F) → (∀ j : Int, 0 ≤ j → j < i → m.1 61 j = anF F a j) → mW X cX7_writes 5 none yX7_writes.cls 3 G (qV (fun m => ROW m 57 (wrF F a) ∧ DY μ m)) 16 [some (.ref 56), some (.int (iV a)), some (.int (iV (lgF F a))), some (.int (iV (F (28 + 5 * a + 1)))), some (.int (iV i))] [] m := by
    intro n_
    induction n_ with
    | zero =>
      intro i m h1 h2 h3 h4 h5 h6
      omega
    | succ n_ ih =>
      intro i m h1 h2 h3 h4 h5 h6
      refine mw_iload dX7_writes_16 rfl ?_
      refine mw_iload_n dX7_writes_18 rfl ?_
      refine mw_icmp_ge (tgt := 42) dX7_writes_19 (by decide) (by omega) (by omega) (fun c_19 => ?_) (fun c_19 => ?_)
      · refine mw_iconst dX7_writes_42 ?_
        refine mw_is4 dX7_writes_43 (by decide) rfl ?_
        exact l2 13 _ _ (by omega) (by omega) (by omega) h4 (h5.eq (fun j q1 q2 => (if_neg (by omega)).symm)) (fun j q1 q2 => h6 j q1 (by omega))
      · refine mw_aload_n dX7_writes_22 rfl ?_
        refine mw_gr_7_5 dX7_writes_23 gs_X7_22 (by first | rfl | assumption) ?_
        refine mw_iload dX7_writes_26 rfl ?_
        refine mw_aload_n dX7_writes_28 rfl ?_
        refine mw_iload_n dX7_writes_29 rfl ?_
        refine mw_iload dX7_writes_30 rfl ?_
        refine mw_Vpi (ci := 7) dX7_writes_32 ml_X7_161 ok_X7_answerAt (by decide) (by first | rfl | assumption) (by decide) rfl rfl rfl (Nat.le_of_ble_eq_true rfl) (c_M_answerAt h5 hI h8 (by omega)) ?_
        refine mw_iast 12 dX7_writes_35 (by first | rfl | assumption) (by first | rfl | assumption) (by omega) ?_
        refine mw_ii4 dX7_writes_36 (by decide) rfl ?_
        refine mw_goto (tgt := 16) dX7_writes_39 (by decide) ?_
        refine ih _ _ (by omega) (by omega) (by omega) (h4.tr ⟨fun c _ q2 => by funext j; rw [u1_o (by omega)], rfl⟩) (fun j q1 q2 => by rw [u1_o (by omega)]; exact h5 j q1 q2) (fun j q1 q2 => ?_)
        by_cases e : j = i
        · rw [e, u1_s]
        · rw [u1_o (by omega)]
          exact h6 j q1 (by omega)
  refine mw_aload_n dX7_writes_0 rfl ?_
  refine mw_iload_n dX7_writes_1 rfl ?_
  refine mw_Vpi (ci := 7) dX7_writes_2 ml_X7_158 ok_X7_longNow (by decide) (by first | rfl | assumption) (by decide) rfl rfl rfl (Nat.le_of_ble_eq_true rfl) (c_M_longNow hR hI h8) ?_
  refine mw_is2 dX7_writes_5 (by decide) rfl ?_
  refine mw_aload_n dX7_writes_6 rfl ?_
  refine mw_iload_n dX7_writes_7 rfl ?_
  refine mw_iconst dX7_writes_8 ?_
  refine mw_Vpi (ci := 7) dX7_writes_9 ml_X7_120 ok_X7_attacheIs (by decide) (by first | rfl | assumption) (by decide) rfl rfl rfl (Nat.le_of_ble_eq_true rfl) (c_M_attacheIs hR (by omega) (by omega)) ?_
  refine mw_is3 dX7_writes_12 (by decide) rfl ?_
  refine mw_iconst dX7_writes_13 ?_
  refine mw_is4 dX7_writes_14 (by decide) rfl ?_
  exact l1 13 _ _ (by omega) (by omega) (by omega) DY.rf hR (fun j q1 q2 => by omega)
set_option maxHeartbeats 4000000 in
set_option maxRecDepth 100000 in
theorem c_M_day {G : mG} {μ : mMem} {F : Int → Int} (hR : ROW μ 57 F) (hI : fInv F) (hd : F 0 ≤ 50000) : mM G yX7_day cX7_day 2 none 4 [.ref 56] μ (qV (fun m => ROW m 57 (dayF F) ∧ DY μ m)) := by
  have hn := hI.2.1
  have h0 := hI.1
  have hr := whose_r F hn.1
  refine mM.of (lv := [some (.ref 56), none]) 1 (by decide +kernel) (Nat.le_of_ble_eq_true rfl) rfl ?_
  intro X
  refine mw_aload_n dX7_day_0 rfl ?_
  refine mw_Vpi (ci := 7) dX7_day_1 ml_X7_165 ok_X7_whose (by decide) (by first | rfl | assumption) (by decide) rfl rfl rfl (Nat.le_of_ble_eq_true rfl) (c_M_whose hR hI (by omega)) ?_
  refine mw_is1 dX7_day_4 (by decide) rfl ?_
  refine mw_iload_n dX7_day_5 rfl ?_
  refine mw_if_lt (tgt := 22) dX7_day_6 (by decide) (by omega) (fun c_6 => ?_) (fun c_6 => ?_)
  · refine mw_aload_n dX7_day_22 rfl ?_
    refine mw_gr_7_0 dX7_day_23 gs_X7_9 (by first | rfl | assumption) ?_
    refine mw_iconst dX7_day_26 ?_
    refine mw_dup2 dX7_day_27 rfl rfl ?_
    refine mw_iald 68 dX7_day_28 (by first | rfl | assumption) (by first | rfl | assumption) (by omega) ?_
    rw [hR _ (by omega) (by omega)]
    refine mw_iconst dX7_day_29 ?_
    refine mw_iadd dX7_day_30 ?_
    refine mw_iast 68 dX7_day_31 (by first | rfl | assumption) (by first | rfl | assumption) (by omega) ?_
    refine mw_vret dX7_day_32 rfl ?_
    refine ⟨rfl, (hR.up 0 _).eq (fun j q1 q2 => ?_), DY.st⟩
    by_cases e : j = 0
    · rw [e, upF_s, day_0]
    · rw [upF_o e, day_n e (by omega)]
  · have hl := hI.2.2.1 (1 - F (28 + 5 * whose F + 1)) (by omega) (by omega)
    have hL := lng_bd (kind := F (28 + 5 * whose F + 0)) hl.1
    have hp := lng_pos (kind := F (28 + 5 * whose F + 0)) hl.1
    rw [show lng (F (28 + 5 * whose F + 0)) (F (2 + (1 - F (28 + 5 * whose F + 1)))) = lgF F (whose F) from rfl] at hL hp
    refine mw_aload_n dX7_day_9 rfl ?_
    refine mw_iload_n dX7_day_10 rfl ?_
    refine mw_Vpi (ci := 7) dX7_day_11 ml_X7_158 ok_X7_longNow (by decide) (by first | rfl | assumption) (by decide) rfl rfl rfl (Nat.le_of_ble_eq_true rfl) (c_M_longNow hR hI (by omega)) ?_
    refine mw_if_le (tgt := 22) dX7_day_14 (by decide) (by omega) (fun c_14 => ?_) (fun c_14 => ?_)
    · refine mw_aload_n dX7_day_22 rfl ?_
      refine mw_gr_7_0 dX7_day_23 gs_X7_9 (by first | rfl | assumption) ?_
      refine mw_iconst dX7_day_26 ?_
      refine mw_dup2 dX7_day_27 rfl rfl ?_
      refine mw_iald 68 dX7_day_28 (by first | rfl | assumption) (by first | rfl | assumption) (by omega) ?_
      rw [hR _ (by omega) (by omega)]
      refine mw_iconst dX7_day_29 ?_
      refine mw_iadd dX7_day_30 ?_
      refine mw_iast 68 dX7_day_31 (by first | rfl | assumption) (by first | rfl | assumption) (by omega) ?_
      refine mw_vret dX7_day_32 rfl ?_
      refine ⟨rfl, (hR.up 0 _).eq (fun j q1 q2 => ?_), DY.st⟩
      by_cases e : j = 0
      · rw [e, upF_s, day_0]
      · rw [upF_o e, day_n e (by omega)]
    · refine mw_aload_n dX7_day_17 rfl ?_
      refine mw_iload_n dX7_day_18 rfl ?_
      refine mw_Vv (ci := 7) dX7_day_19 ml_X7_168 ok_X7_writes (by decide) (by first | rfl | assumption) (by decide) rfl rfl rfl (Nat.le_of_ble_eq_true rfl) (c_M_writes hR hI (by omega)) (fun m_19 h_19 => ?_)
      refine mw_aload_n dX7_day_22 rfl ?_
      refine mw_gr_7_0 dX7_day_23 gs_X7_9 (by first | rfl | assumption) ?_
      refine mw_iconst dX7_day_26 ?_
      refine mw_dup2 dX7_day_27 rfl rfl ?_
      refine mw_iald 68 dX7_day_28 (by first | rfl | assumption) (by first | rfl | assumption) (by omega) ?_
      rw [h_19.1 _ (by omega) (by omega), wr_o (F (28 + 5 * whose F + 1)) rfl (by omega) (by omega) (by omega)]
      refine mw_iconst dX7_day_29 ?_
      refine mw_iadd dX7_day_30 ?_
      refine mw_iast 68 dX7_day_31 (by first | rfl | assumption) (by first | rfl | assumption) (by omega) ?_
      refine mw_vret dX7_day_32 rfl ?_
      refine ⟨rfl, (h_19.1.up 0 _).eq (fun j q1 q2 => ?_), h_19.2.tr DY.st⟩
      by_cases e : j = 0
      · rw [e, upF_s, day_0]
      · rw [upF_o e, day_w e ⟨c_6, by omega⟩]
set_option maxHeartbeats 4000000 in
set_option maxRecDepth 100000 in
theorem c_M_daysGo {G : mG} {μ : mMem} {F : Int → Int} (hR : ROW μ 57 F) (hI : fInv F) {n : Int} (hN : 0 ≤ n ∧ n ≤ 1000) (hd : F 0 ≤ 40000) : mM G yX7_daysGo cX7_daysGo 3 none 5 [.ref 56, .int (iV n)] μ (qV (fun m => ROW m 57 (daysF n.toNat F) ∧ DY μ m)) := by
  refine mM.of (lv := [some (.ref 56), some (.int (iV n)), none]) 1 (by decide +kernel) (Nat.le_of_ble_eq_true rfl) rfl ?_
  intro X
  have lp : ∀ (n_ : Nat) (i : Int) (m : mMem), (0 ≤ i) → (i ≤ n) → (1001 ≤ i + n_) → (ROW m 57 (daysF i.toNat F)) → (DY μ m) → mW X cX7_daysGo 3 none yX7_daysGo.cls 5 G (qV (fun m => ROW m 57 (daysF n.toNat F) ∧ DY μ m)) 2 [some (.ref 56), some (.int (iV n)), some (.int (iV i))] [] m := by
    intro n_
    induction n_ with
    | zero =>
      intro i m h1 h2 h3 h4 h5
      omega
    | succ n_ ih =>
      intro i m h1 h2 h3 h4 h5
      refine mw_iload_n dX7_daysGo_2 rfl ?_
      refine mw_iload_n dX7_daysGo_3 rfl ?_
      refine mw_icmp_ge (tgt := 17) dX7_daysGo_4 (by decide) (by omega) (by omega) (fun c_4 => ?_) (fun c_4 => ?_)
      · refine mw_vret dX7_daysGo_17 rfl ?_
        exact ⟨rfl, by rw [show n.toNat = i.toNat by omega]; exact h4, h5⟩
      · refine mw_aload_n dX7_daysGo_7 rfl ?_
        refine mw_Vv (ci := 7) dX7_daysGo_8 ml_X7_172 ok_X7_day (by decide) (by first | rfl | assumption) (by decide) rfl rfl rfl (Nat.le_of_ble_eq_true rfl) (c_M_day h4 (days_inv hI _) (by rw [days_day]; omega)) (fun m_8 h_8 => ?_)
        refine mw_ii2 dX7_daysGo_11 (by decide) rfl ?_
        refine mw_goto (tgt := 2) dX7_daysGo_14 (by decide) ?_
        exact ih _ _ (by omega) (by omega) (by omega) (by rw [show (i + 1).toNat = i.toNat + 1 by omega, days_succ]; exact h_8.1) (h5.tr h_8.2)
  refine mw_iconst dX7_daysGo_0 ?_
  refine mw_is2 dX7_daysGo_1 (by decide) rfl ?_
  exact lp 1001 _ _ (by omega) (by omega) (by omega) hR DY.rf
set_option maxHeartbeats 4000000 in
set_option maxRecDepth 100000 in
theorem c_M_comes {G : mG} {μ : mMem} {F : Int → Int} (hR : ROW μ 57 F) (hI : fInv F) {k s y b : Int} (h8 : F 1 < 8) : mM G yX7_comes cX7_comes 6 (some .int) 1 [.ref 56, .int (iV k), .int (iV s), .int (iV y), .int (iV b)] μ (qI (fun z m => z = F 1 ∧ ROW m 57 (engF F k s y b) ∧ DY μ m)) := by
  have hn := hI.2.1
  refine mM.of (lv := [some (.ref 56), some (.int (iV k)), some (.int (iV s)), some (.int (iV y)), some (.int (iV b)), none]) 1 (by decide +kernel) (Nat.le_of_ble_eq_true rfl) rfl ?_
  intro X
  refine mw_aload_n dX7_comes_0 rfl ?_
  refine mw_gr_7_0 dX7_comes_1 gs_X7_9 (by first | rfl | assumption) ?_
  refine mw_iconst dX7_comes_4 ?_
  refine mw_iald 68 dX7_comes_5 (by first | rfl | assumption) (by first | rfl | assumption) (by omega) ?_
  rw [hR _ (by omega) (by omega)]
  refine mw_is5 dX7_comes_6 (by decide) rfl ?_
  refine mw_aload_n dX7_comes_8 rfl ?_
  refine mw_gr_7_0 dX7_comes_9 gs_X7_9 (by first | rfl | assumption) ?_
  refine mw_iload dX7_comes_12 rfl ?_
  refine mw_iconst dX7_comes_14 ?_
  refine mw_Spi dX7_comes_15 ml_X7_135 ok_X7_attacheAt (by decide) rfl rfl (Nat.le_of_ble_eq_true rfl) (c_M_attacheAt) ?_
  refine mw_iload_n dX7_comes_18 rfl ?_
  refine mw_iast 68 dX7_comes_19 (by first | rfl | assumption) (by first | rfl | assumption) (by omega) ?_
  refine mw_aload_n dX7_comes_20 rfl ?_
  refine mw_gr_7_0 dX7_comes_21 gs_X7_9 (by first | rfl | assumption) ?_
  refine mw_iload dX7_comes_24 rfl ?_
  refine mw_iconst dX7_comes_26 ?_
  refine mw_Spi dX7_comes_27 ml_X7_135 ok_X7_attacheAt (by decide) rfl rfl (Nat.le_of_ble_eq_true rfl) (c_M_attacheAt) ?_
  refine mw_iload_n dX7_comes_30 rfl ?_
  refine mw_iast 68 dX7_comes_31 (by first | rfl | assumption) (by first | rfl | assumption) (by omega) ?_
  refine mw_aload_n dX7_comes_32 rfl ?_
  refine mw_gr_7_0 dX7_comes_33 gs_X7_9 (by first | rfl | assumption) ?_
  refine mw_iload dX7_comes_36 rfl ?_
  refine mw_iconst dX7_comes_38 ?_
  refine mw_Spi dX7_comes_39 ml_X7_135 ok_X7_attacheAt (by decide) rfl rfl (Nat.le_of_ble_eq_true rfl) (c_M_attacheAt) ?_
  refine mw_iload_n dX7_comes_42 rfl ?_
  refine mw_iast 68 dX7_comes_43 (by first | rfl | assumption) (by first | rfl | assumption) (by omega) ?_
  refine mw_aload_n dX7_comes_44 rfl ?_
  refine mw_gr_7_0 dX7_comes_45 gs_X7_9 (by first | rfl | assumption) ?_
  refine mw_iload dX7_comes_48 rfl ?_
  refine mw_iconst dX7_comes_50 ?_
  refine mw_Spi dX7_comes_51 ml_X7_135 ok_X7_attacheAt (by decide) rfl rfl (Nat.le_of_ble_eq_true rfl) (c_M_attacheAt) ?_
  refine mw_iload dX7_comes_54 rfl ?_
  refine mw_iast 68 dX7_comes_56 (by first | rfl | assumption) (by first | rfl | assumption) (by omega) ?_
  refine mw_aload_n dX7_comes_57 rfl ?_
  refine mw_gr_7_0 dX7_comes_58 gs_X7_9 (by first | rfl | assumption) ?_
  refine mw_iload dX7_comes_61 rfl ?_
  refine mw_iconst dX7_comes_63 ?_
  refine mw_Spi dX7_comes_64 ml_X7_135 ok_X7_attacheAt (by decide) rfl rfl (Nat.le_of_ble_eq_true rfl) (c_M_attacheAt) ?_
  refine mw_iconst dX7_comes_67 ?_
  refine mw_iast 68 dX7_comes_68 (by first | rfl | assumption) (by first | rfl | assumption) (by omega) ?_
  refine mw_aload_n dX7_comes_69 rfl ?_
  refine mw_gr_7_0 dX7_comes_70 gs_X7_9 (by first | rfl | assumption) ?_
  refine mw_iconst dX7_comes_73 ?_
  refine mw_dup2 dX7_comes_74 rfl rfl ?_
  refine mw_iald 68 dX7_comes_75 (by first | rfl | assumption) (by first | rfl | assumption) (by omega) ?_
  rw [u1_o (by omega), u1_o (by omega), u1_o (by omega), u1_o (by omega), u1_o (by omega), hR _ (by omega) (by omega)]
  refine mw_iconst dX7_comes_76 ?_
  refine mw_iadd dX7_comes_77 ?_
  refine mw_iast 68 dX7_comes_78 (by first | rfl | assumption) (by first | rfl | assumption) (by omega) ?_
  refine mw_iload dX7_comes_79 rfl ?_
  refine mw_iret dX7_comes_81 rfl ?_
  refine ⟨_, rfl, rfl, fun j q1 q2 => ?_, ((((DY.st.tr DY.st).tr DY.st).tr DY.st).tr DY.st).tr DY.st⟩
  unfold engF
  by_cases e1 : j = 1
  · rw [e1, u1_s, if_pos rfl]
  · rw [u1_o (by omega), if_neg e1]
    by_cases e2 : 28 + 5 * F 1 ≤ j ∧ j < 28 + 5 * F 1 + 5
    · rcases (show j = 28 + 5 * F 1 + 0 ∨ j = 28 + 5 * F 1 + 1 ∨ j = 28 + 5 * F 1 + 2 ∨ j = 28 + 5 * F 1 + 3 ∨ j = 28 + 5 * F 1 + 4 by omega) with e | e | e | e | e
      · rw [u1_o (by omega), u1_o (by omega), u1_o (by omega), u1_o (by omega), if_pos e, e, u1_s]
      · rw [u1_o (by omega), u1_o (by omega), u1_o (by omega), if_neg (by omega), if_pos e, e, u1_s]
      · rw [u1_o (by omega), u1_o (by omega), if_neg (by omega), if_neg (by omega), if_pos e, e, u1_s]
      · rw [u1_o (by omega), if_neg (by omega), if_neg (by omega), if_neg (by omega), if_pos e, e, u1_s]
      · rw [if_neg (by omega), if_neg (by omega), if_neg (by omega), if_neg (by omega), if_pos e, e, u1_s]
    · rw [u1_o (by omega), u1_o (by omega), u1_o (by omega), u1_o (by omega), u1_o (by omega), if_neg (by omega), if_neg (by omega), if_neg (by omega), if_neg (by omega), if_neg (by omega)]
      exact hR j q1 q2
set_option maxHeartbeats 4000000 in
set_option maxRecDepth 100000 in
theorem c_M_laysTune {G : mG} {μ : mMem} {F : Int → Int} (hR : ROW μ 57 F) (hI : fInv F) {s n : Int} {x : Int64} (hs : 0 ≤ s ∧ s ≤ 1) (hn : 0 ≤ n ∧ n ≤ 12) : mM G yX7_laysTune cX7_laysTune 6 (some .int) 1 [.ref 56, .int (iV s), .int (iV n), .long x] μ (qI (fun z m => z = F (2 + s) ∧ ROW m 57 (setT F s n (nib x)) ∧ DY μ m)) := by
  refine mM.of (lv := [some (.ref 56), some (.int (iV s)), some (.int (iV n)), some (.long x), none, none]) 1 (by decide +kernel) (Nat.le_of_ble_eq_true rfl) rfl ?_
  intro X
  have lp : ∀ (n_ : Nat) (i : Int) (m : mMem), (0 ≤ i) → (i ≤ n) → (13 ≤ i + n_) → (DY μ m) → (ROW m 57 (fun j => if 4 + 12 * s ≤ j ∧ j < 4 + 12 * s + i then nib x (j - (4 + 12 * s)) else F j)) → mW X cX7_laysTune 6 (some .int) yX7_laysTune.cls 1 G (qI (fun z m => z = F (2 + s) ∧ ROW m 57 (setT F s n (nib x)) ∧ DY μ m)) 3 [some (.ref 56), some (.int (iV s)), some (.int (iV n)), some (.long x), none, some (.int (iV i))] [] m := by
    intro n_
    induction n_ with
    | zero =>
      intro i m h1 h2 h3 h4 h5
      omega
    | succ n_ ih =>
      intro i m h1 h2 h3 h4 h5
      refine mw_iload dX7_laysTune_3 rfl ?_
      refine mw_iload_n dX7_laysTune_5 rfl ?_
      refine mw_icmp_ge (tgt := 43) dX7_laysTune_6 (by decide) (by omega) (by omega) (fun c_6 => ?_) (fun c_6 => ?_)
      · refine mw_aload_n dX7_laysTune_43 rfl ?_
        refine mw_iconst dX7_laysTune_44 ?_
        refine mw_iload_n dX7_laysTune_45 rfl ?_
        refine mw_iadd dX7_laysTune_46 ?_
        refine mw_iload_n dX7_laysTune_47 rfl ?_
        refine mw_Vpi (ci := 7) dX7_laysTune_48 ml_X7_87 ok_X7_become (by decide) (by first | rfl | assumption) (by decide) rfl rfl rfl (Nat.le_of_ble_eq_true rfl) (c_M_become h5 (by omega)) ?_
        try dsimp only
        rw [if_neg (by omega)]
        refine mw_iret dX7_laysTune_51 rfl ?_
        refine ⟨_, rfl, rfl, (h5.up (2 + s) n).eq (fun j q1 q2 => ?_), h4.tr DY.st⟩
        unfold setT
        by_cases e1 : 4 + 12 * s ≤ j ∧ j < 4 + 12 * s + n
        · rw [upF_o (by omega)]
          try dsimp only
          rw [if_pos (by omega), if_pos e1]
        · rw [if_neg e1]
          by_cases e2 : j = 2 + s
          · rw [if_pos e2, e2, upF_s]
          · rw [if_neg e2, upF_o e2]
            try dsimp only
            rw [if_neg (by omega)]
      · refine mw_aload_n dX7_laysTune_9 rfl ?_
        refine mw_gr_7_0 dX7_laysTune_10 gs_X7_9 (by first | rfl | assumption) ?_
        refine mw_iconst dX7_laysTune_13 ?_
        refine mw_bipush dX7_laysTune_14 (by decide +kernel) ?_
        refine mw_iload_n dX7_laysTune_16 rfl ?_
        refine mw_imul dX7_laysTune_17 ?_
        refine mw_iadd dX7_laysTune_18 ?_
        refine mw_iload dX7_laysTune_19 rfl ?_
        refine mw_iadd dX7_laysTune_21 ?_
        refine mw_lload_n dX7_laysTune_22 rfl ?_
        refine mw_iconst dX7_laysTune_23 ?_
        refine mw_iload dX7_laysTune_24 rfl ?_
        refine mw_imul dX7_laysTune_26 ?_
        refine mw_lshr dX7_laysTune_27 ?_
        refine mw_ldc2 dX7_laysTune_28 cl_X7_85 ?_
        refine mw_land dX7_laysTune_31 ?_
        refine mw_l2i dX7_laysTune_32 ?_
        rw [nibS x (by omega)]
        refine mw_bipush dX7_laysTune_33 (by decide +kernel) ?_
        refine mw_iremN dX7_laysTune_35 (by omega) (by omega) ?_
        refine mw_iast 68 dX7_laysTune_36 (by first | rfl | assumption) (by first | rfl | assumption) (by omega) ?_
        refine mw_ii5 dX7_laysTune_37 (by decide) rfl ?_
        refine mw_goto (tgt := 3) dX7_laysTune_40 (by decide) ?_
        refine ih _ _ (by omega) (by omega) (by omega) (h4.tr DY.st) (fun j q1 q2 => ?_)
        by_cases e : j = 4 + 12 * s + i
        · rw [e, u1_s]
          try dsimp only
          rw [if_pos (by omega), show 4 + 12 * s + i - (4 + 12 * s) = i by omega]
          rfl
        · rw [u1_o (by omega), h5 j q1 q2]
          try dsimp only
          by_cases e2 : 4 + 12 * s ≤ j ∧ j < 4 + 12 * s + i
          · rw [if_pos e2, if_pos (by omega)]
          · rw [if_neg e2, if_neg (by omega)]
  refine mw_iconst dX7_laysTune_0 ?_
  refine mw_is5 dX7_laysTune_1 (by decide) rfl ?_
  exact lp 13 _ _ (by omega) (by omega) (by omega) DY.rf (hR.eq (fun j q1 q2 => (if_neg (by omega)).symm))

section GR
variable {X : mX} {cc : ByteArray} {nL : Nat} {rt : Option FieldType} {own : String} {d : Nat} {G : mG} {Q : Option Value → mMem → Prop} {pc : Nat} {lv : List (Option Value)} {st : List Value} {μ : mMem} {idx k : Nat} {z : Int}
theorem mw_gr_1_0 (hd : decode cc pc = .ok (.getfield idx, 3)) (hs : sG own idx 1 0) (hk : mCls k = 1) (kk : mW X cc nL rt own d G Q (pc + 3) lv (.ref (k + 1) :: st) μ) : mW X cc nL rt own d G Q pc lv (.ref k :: st) μ := mw_getR (k + 1) hd hs hk (by decide) (by unfold mRf; rw [hk]; rfl) kk
theorem mw_gr_1_1 (hd : decode cc pc = .ok (.getfield idx, 3)) (hs : sG own idx 1 1) (hk : mCls k = 1) (kk : mW X cc nL rt own d G Q (pc + 3) lv (.ref (k + 3) :: st) μ) : mW X cc nL rt own d G Q pc lv (.ref k :: st) μ := mw_getR (k + 3) hd hs hk (by decide) (by unfold mRf; rw [hk]; rfl) kk
theorem mw_gr_1_2 (hd : decode cc pc = .ok (.getfield idx, 3)) (hs : sG own idx 1 2) (hk : mCls k = 1) (kk : mW X cc nL rt own d G Q (pc + 3) lv (.ref (k + 5) :: st) μ) : mW X cc nL rt own d G Q pc lv (.ref k :: st) μ := mw_getR (k + 5) hd hs hk (by decide) (by unfold mRf; rw [hk]; rfl) kk
theorem mw_gr_2_0 (hd : decode cc pc = .ok (.getfield idx, 3)) (hs : sG own idx 2 0) (hk : mCls k = 2) (kk : mW X cc nL rt own d G Q (pc + 3) lv (.ref (43) :: st) μ) : mW X cc nL rt own d G Q pc lv (.ref k :: st) μ := mw_getR (43) hd hs hk (by decide) (by unfold mRf; rw [hk]; rfl) kk
theorem mw_gr_3_0 (hd : decode cc pc = .ok (.getfield idx, 3)) (hs : sG own idx 3 0) (hk : mCls k = 3) (kk : mW X cc nL rt own d G Q (pc + 3) lv (.ref (k + 1) :: st) μ) : mW X cc nL rt own d G Q pc lv (.ref k :: st) μ := mw_getR (k + 1) hd hs hk (by decide) (by unfold mRf; rw [hk]; rfl) kk
theorem mw_gr_4_0 (hd : decode cc pc = .ok (.getfield idx, 3)) (hs : sG own idx 4 0) (hk : mCls k = 4) (kk : mW X cc nL rt own d G Q (pc + 3) lv (.ref (k + 1) :: st) μ) : mW X cc nL rt own d G Q pc lv (.ref k :: st) μ := mw_getR (k + 1) hd hs hk (by decide) (by unfold mRf; rw [hk]; rfl) kk
theorem mw_gr_5_0 (hd : decode cc pc = .ok (.getfield idx, 3)) (hs : sG own idx 5 0) (hk : mCls k = 5) (kk : mW X cc nL rt own d G Q (pc + 3) lv (.ref (k + 1) :: st) μ) : mW X cc nL rt own d G Q pc lv (.ref k :: st) μ := mw_getR (k + 1) hd hs hk (by decide) (by unfold mRf; rw [hk]; rfl) kk
theorem mw_gr_6_0 (hd : decode cc pc = .ok (.getfield idx, 3)) (hs : sG own idx 6 0) (hk : mCls k = 6) (kk : mW X cc nL rt own d G Q (pc + 3) lv (.ref (1) :: st) μ) : mW X cc nL rt own d G Q pc lv (.ref k :: st) μ := mw_getR (1) hd hs hk (by decide) (by unfold mRf; rw [hk]; rfl) kk
theorem mw_gr_6_1 (hd : decode cc pc = .ok (.getfield idx, 3)) (hs : sG own idx 6 1) (hk : mCls k = 6) (kk : mW X cc nL rt own d G Q (pc + 3) lv (.ref (15) :: st) μ) : mW X cc nL rt own d G Q pc lv (.ref k :: st) μ := mw_getR (15) hd hs hk (by decide) (by unfold mRf; rw [hk]; rfl) kk
theorem mw_gr_6_3 (hd : decode cc pc = .ok (.getfield idx, 3)) (hs : sG own idx 6 3) (hk : mCls k = 6) (kk : mW X cc nL rt own d G Q (pc + 3) lv (.ref (29) :: st) μ) : mW X cc nL rt own d G Q pc lv (.ref k :: st) μ := mw_getR (29) hd hs hk (by decide) (by unfold mRf; rw [hk]; rfl) kk
theorem mw_gr_6_4 (hd : decode cc pc = .ok (.getfield idx, 3)) (hs : sG own idx 6 4) (hk : mCls k = 6) (kk : mW X cc nL rt own d G Q (pc + 3) lv (.ref (43) :: st) μ) : mW X cc nL rt own d G Q pc lv (.ref k :: st) μ := mw_getR (43) hd hs hk (by decide) (by unfold mRf; rw [hk]; rfl) kk
theorem mw_gr_6_5 (hd : decode cc pc = .ok (.getfield idx, 3)) (hs : sG own idx 6 5) (hk : mCls k = 6) (kk : mW X cc nL rt own d G Q (pc + 3) lv (.ref (45) :: st) μ) : mW X cc nL rt own d G Q pc lv (.ref k :: st) μ := mw_getR (45) hd hs hk (by decide) (by unfold mRf; rw [hk]; rfl) kk
theorem mw_gr_6_6 (hd : decode cc pc = .ok (.getfield idx, 3)) (hs : sG own idx 6 6) (hk : mCls k = 6) (kk : mW X cc nL rt own d G Q (pc + 3) lv (.ref (46) :: st) μ) : mW X cc nL rt own d G Q pc lv (.ref k :: st) μ := mw_getR (46) hd hs hk (by decide) (by unfold mRf; rw [hk]; rfl) kk
theorem mw_gr_6_7 (hd : decode cc pc = .ok (.getfield idx, 3)) (hs : sG own idx 6 7) (hk : mCls k = 6) (kk : mW X cc nL rt own d G Q (pc + 3) lv (.ref (55) :: st) μ) : mW X cc nL rt own d G Q pc lv (.ref k :: st) μ := mw_getR (55) hd hs hk (by decide) (by unfold mRf; rw [hk]; rfl) kk
theorem mw_gr_7_0 (hd : decode cc pc = .ok (.getfield idx, 3)) (hs : sG own idx 7 0) (hk : mCls k = 7) (kk : mW X cc nL rt own d G Q (pc + 3) lv (.ref (57) :: st) μ) : mW X cc nL rt own d G Q pc lv (.ref k :: st) μ := mw_getR (57) hd hs hk (by decide) (by unfold mRf; rw [hk]; rfl) kk
theorem mw_gr_7_1 (hd : decode cc pc = .ok (.getfield idx, 3)) (hs : sG own idx 7 1) (hk : mCls k = 7) (kk : mW X cc nL rt own d G Q (pc + 3) lv (.ref (58) :: st) μ) : mW X cc nL rt own d G Q pc lv (.ref k :: st) μ := mw_getR (58) hd hs hk (by decide) (by unfold mRf; rw [hk]; rfl) kk
theorem mw_gr_7_2 (hd : decode cc pc = .ok (.getfield idx, 3)) (hs : sG own idx 7 2) (hk : mCls k = 7) (kk : mW X cc nL rt own d G Q (pc + 3) lv (.ref (59) :: st) μ) : mW X cc nL rt own d G Q pc lv (.ref k :: st) μ := mw_getR (59) hd hs hk (by decide) (by unfold mRf; rw [hk]; rfl) kk
theorem mw_gr_7_4 (hd : decode cc pc = .ok (.getfield idx, 3)) (hs : sG own idx 7 4) (hk : mCls k = 7) (kk : mW X cc nL rt own d G Q (pc + 3) lv (.ref (60) :: st) μ) : mW X cc nL rt own d G Q pc lv (.ref k :: st) μ := mw_getR (60) hd hs hk (by decide) (by unfold mRf; rw [hk]; rfl) kk
theorem mw_gr_7_5 (hd : decode cc pc = .ok (.getfield idx, 3)) (hs : sG own idx 7 5) (hk : mCls k = 7) (kk : mW X cc nL rt own d G Q (pc + 3) lv (.ref (61) :: st) μ) : mW X cc nL rt own d G Q pc lv (.ref k :: st) μ := mw_getR (61) hd hs hk (by decide) (by unfold mRf; rw [hk]; rfl) kk
theorem mw_gr_7_6 (hd : decode cc pc = .ok (.getfield idx, 3)) (hs : sG own idx 7 6) (hk : mCls k = 7) (kk : mW X cc nL rt own d G Q (pc + 3) lv (.ref (62) :: st) μ) : mW X cc nL rt own d G Q pc lv (.ref k :: st) μ := mw_getR (62) hd hs hk (by decide) (by unfold mRf; rw [hk]; rfl) kk
theorem mw_gr_7_13 (hd : decode cc pc = .ok (.getfield idx, 3)) (hs : sG own idx 7 13) (hk : mCls k = 7) (kk : mW X cc nL rt own d G Q (pc + 3) lv (.ref (63) :: st) μ) : mW X cc nL rt own d G Q pc lv (.ref k :: st) μ := mw_getR (63) hd hs hk (by decide) (by unfold mRf; rw [hk]; rfl) kk
theorem mw_gr_7_14 (hd : decode cc pc = .ok (.getfield idx, 3)) (hs : sG own idx 7 14) (hk : mCls k = 7) (kk : mW X cc nL rt own d G Q (pc + 3) lv (.ref (64) :: st) μ) : mW X cc nL rt own d G Q pc lv (.ref k :: st) μ := mw_getR (64) hd hs hk (by decide) (by unfold mRf; rw [hk]; rfl) kk
theorem mw_gr_7_15 (hd : decode cc pc = .ok (.getfield idx, 3)) (hs : sG own idx 7 15) (hk : mCls k = 7) (kk : mW X cc nL rt own d G Q (pc + 3) lv (.ref (65) :: st) μ) : mW X cc nL rt own d G Q pc lv (.ref k :: st) μ := mw_getR (65) hd hs hk (by decide) (by unfold mRf; rw [hk]; rfl) kk
theorem mw_gr_7_16 (hd : decode cc pc = .ok (.getfield idx, 3)) (hs : sG own idx 7 16) (hk : mCls k = 7) (kk : mW X cc nL rt own d G Q (pc + 3) lv (.ref (66) :: st) μ) : mW X cc nL rt own d G Q pc lv (.ref k :: st) μ := mw_getR (66) hd hs hk (by decide) (by unfold mRf; rw [hk]; rfl) kk
theorem mw_gr_7_17 (hd : decode cc pc = .ok (.getfield idx, 3)) (hs : sG own idx 7 17) (hk : mCls k = 7) (kk : mW X cc nL rt own d G Q (pc + 3) lv (.ref (67) :: st) μ) : mW X cc nL rt own d G Q pc lv (.ref k :: st) μ := mw_getR (67) hd hs hk (by decide) (by unfold mRf; rw [hk]; rfl) kk
theorem mw_gr_7_20 (hd : decode cc pc = .ok (.getfield idx, 3)) (hs : sG own idx 7 20) (hk : mCls k = 7) (kk : mW X cc nL rt own d G Q (pc + 3) lv (.ref (68) :: st) μ) : mW X cc nL rt own d G Q pc lv (.ref k :: st) μ := mw_getR (68) hd hs hk (by decide) (by unfold mRf; rw [hk]; rfl) kk
theorem mw_gr_7_21 (hd : decode cc pc = .ok (.getfield idx, 3)) (hs : sG own idx 7 21) (hk : mCls k = 7) (kk : mW X cc nL rt own d G Q (pc + 3) lv (.ref (69) :: st) μ) : mW X cc nL rt own d G Q pc lv (.ref k :: st) μ := mw_getR (69) hd hs hk (by decide) (by unfold mRf; rw [hk]; rfl) kk
theorem mw_gr_7_22 (hd : decode cc pc = .ok (.getfield idx, 3)) (hs : sG own idx 7 22) (hk : mCls k = 7) (kk : mW X cc nL rt own d G Q (pc + 3) lv (.ref (70) :: st) μ) : mW X cc nL rt own d G Q pc lv (.ref k :: st) μ := mw_getR (70) hd hs hk (by decide) (by unfold mRf; rw [hk]; rfl) kk
theorem mw_gr_7_23 (hd : decode cc pc = .ok (.getfield idx, 3)) (hs : sG own idx 7 23) (hk : mCls k = 7) (kk : mW X cc nL rt own d G Q (pc + 3) lv (.ref (71) :: st) μ) : mW X cc nL rt own d G Q pc lv (.ref k :: st) μ := mw_getR (71) hd hs hk (by decide) (by unfold mRf; rw [hk]; rfl) kk
theorem mw_aa10 (hd : decode cc pc = .ok (.aaload, 1)) (hk : mCls k = 10) (hn : mLen k = 8) (hb : 0 ≤ z ∧ z < 8) (kk : mW X cc nL rt own d G Q (pc + 1) lv (.ref (k + 1 + z.toNat) :: st) μ) : mW X cc nL rt own d G Q pc lv (.int (iV z) :: .ref k :: st) μ := mw_aald 10 8 (k + 1 + z.toNat) hd hk (by decide) hn (by omega) (by unfold mRf; rw [hk]; rfl) kk
theorem mw_aa11 (hd : decode cc pc = .ok (.aaload, 1)) (hk : mCls k = 11) (hn : mLen k = 4) (hb : 0 ≤ z ∧ z < 4) (kk : mW X cc nL rt own d G Q (pc + 1) lv (.ref (47 + 2 * z.toNat) :: st) μ) : mW X cc nL rt own d G Q pc lv (.int (iV z) :: .ref k :: st) μ := mw_aald 11 4 (47 + 2 * z.toNat) hd hk (by decide) hn (by omega) (by unfold mRf; rw [hk]; rfl) kk
theorem mw_aa12 (hd : decode cc pc = .ok (.aaload, 1)) (hk : mCls k = 12) (hn : mLen k = 6) (hb : 0 ≤ z ∧ z < 6) (kk : mW X cc nL rt own d G Q (pc + 1) lv (.ref (100 + z.toNat) :: st) μ) : mW X cc nL rt own d G Q pc lv (.int (iV z) :: .ref k :: st) μ := mw_aald 12 6 (100 + z.toNat) hd hk (by decide) hn (by omega) (by unfold mRf; rw [hk]; rfl) kk
end GR
set_option maxHeartbeats 4000000 in
set_option maxRecDepth 100000 in
theorem c_min {G : mG} {μ : mMem} {a b : Int} (ha : -2147483648 ≤ a ∧ a ≤ 2147483647) (hb : -2147483648 ≤ b ∧ b ≤ 2147483647) : mM G yJ9_min_7cf53 cJ9_min_7cf53 2 (some .int) 0 [.int (iV a), .int (iV b)] μ (pI (min a b) μ) := by
  refine mM.of (lv := [some (.int (iV a)), some (.int (iV b))]) 0 (by decide +kernel) (Nat.le_of_ble_eq_true rfl) rfl ?_
  intro X
  refine mw_iload_n dJ9_min_7cf53_0 rfl ?_
  refine mw_iload_n dJ9_min_7cf53_1 rfl ?_
  refine mw_icmp_gt (tgt := 9) dJ9_min_7cf53_2 (by decide) (by omega) (by omega) (fun c_2 => ?_) (fun c_2 => ?_)
  · refine mw_iload_n dJ9_min_7cf53_9 rfl ?_
    refine mw_iret dJ9_min_7cf53_10 rfl ?_
    exact ⟨by congr; omega, rfl⟩
  · refine mw_iload_n dJ9_min_7cf53_5 rfl ?_
    refine mw_goto (tgt := 10) dJ9_min_7cf53_6 (by decide) ?_
    refine mw_iret dJ9_min_7cf53_10 rfl ?_
    exact ⟨by congr; omega, rfl⟩
set_option maxHeartbeats 4000000 in
set_option maxRecDepth 100000 in
theorem c_max {G : mG} {μ : mMem} {a b : Int} (ha : -2147483648 ≤ a ∧ a ≤ 2147483647) (hb : -2147483648 ≤ b ∧ b ≤ 2147483647) : mM G yJ9_max_7cf53 cJ9_max_7cf53 2 (some .int) 0 [.int (iV a), .int (iV b)] μ (pI (max a b) μ) := by
  refine mM.of (lv := [some (.int (iV a)), some (.int (iV b))]) 0 (by decide +kernel) (Nat.le_of_ble_eq_true rfl) rfl ?_
  intro X
  refine mw_iload_n dJ9_max_7cf53_0 rfl ?_
  refine mw_iload_n dJ9_max_7cf53_1 rfl ?_
  refine mw_icmp_lt (tgt := 9) dJ9_max_7cf53_2 (by decide) (by omega) (by omega) (fun c_2 => ?_) (fun c_2 => ?_)
  · refine mw_iload_n dJ9_max_7cf53_9 rfl ?_
    refine mw_iret dJ9_max_7cf53_10 rfl ?_
    exact ⟨by congr; omega, rfl⟩
  · refine mw_iload_n dJ9_max_7cf53_5 rfl ?_
    refine mw_goto (tgt := 10) dJ9_max_7cf53_6 (by decide) ?_
    refine mw_iret dJ9_max_7cf53_10 rfl ?_
    exact ⟨by congr; omega, rfl⟩
set_option maxHeartbeats 4000000 in
set_option maxRecDepth 100000 in
theorem c_abs {G : mG} {μ : mMem} {a : Int} (ha : -2147483647 ≤ a ∧ a ≤ 2147483647) : mM G yJ9_abs_0f7a4 cJ9_abs_0f7a4 1 (some .int) 0 [.int (iV a)] μ (pI (max a (-a)) μ) := by
  refine mM.of (lv := [some (.int (iV a))]) 0 (by decide +kernel) (Nat.le_of_ble_eq_true rfl) rfl ?_
  intro X
  refine mw_iload_n dJ9_abs_0f7a4_0 rfl ?_
  refine mw_if_ge (tgt := 9) dJ9_abs_0f7a4_1 (by decide) (by omega) (fun c_1 => ?_) (fun c_1 => ?_)
  · refine mw_iload_n dJ9_abs_0f7a4_9 rfl ?_
    refine mw_iret dJ9_abs_0f7a4_10 rfl ?_
    exact ⟨by congr; omega, rfl⟩
  · refine mw_iload_n dJ9_abs_0f7a4_4 rfl ?_
    refine mw_ineg dJ9_abs_0f7a4_5 ?_
    refine mw_goto (tgt := 10) dJ9_abs_0f7a4_6 (by decide) ?_
    refine mw_iret dJ9_abs_0f7a4_10 rfl ?_
    exact ⟨by congr; omega, rfl⟩

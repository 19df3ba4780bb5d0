theorem fm_tab : ∀ n : Nat, n < 60 → (-2147483648 ≤ bRem ((n : Int) - 11) 12 ∧ bRem ((n : Int) - 11) 12 ≤ 2147483647) ∧ (-2147483648 ≤ bXor ((n : Int) - 11) 12 ∧ bXor ((n : Int) - 11) 12 ≤ 2147483647) ∧ (0 ≤ bXor ((n : Int) - 11) 12 → bRem ((n : Int) - 11) 12 = ((n : Int) - 11) % 12) ∧ (bXor ((n : Int) - 11) 12 < 0 → bRem ((n : Int) - 11) 12 = 0 → bRem ((n : Int) - 11) 12 = ((n : Int) - 11) % 12) ∧ (bXor ((n : Int) - 11) 12 < 0 → ¬ bRem ((n : Int) - 11) 12 = 0 → bRem ((n : Int) - 11) 12 + 12 = ((n : Int) - 11) % 12) := by decide +kernel
set_option maxHeartbeats 4000000 in
set_option maxRecDepth 100000 in
theorem c_floorMod {G : mG} {μ : mMem} {a : Int} (ha : -11 ≤ a ∧ a < 49) : mM G yJ9_floorMod_7cf53 cJ9_floorMod_7cf53 3 (some .int) 0 [.int (iV a), .int (iV 12)] μ (pI (a % 12) μ) := by
  obtain ⟨h1, h2, h3, h4, h5⟩ := fm_tab (a + 11).toNat (by omega)
  rw [show (((a + 11).toNat : Nat) : Int) - 11 = a by omega] at h1 h2 h3 h4 h5
  refine mM.of (lv := [some (.int (iV a)), some (.int (iV 12)), none]) 1 (by decide +kernel) (Nat.le_of_ble_eq_true rfl) rfl ?_
  intro X
  refine mw_iload_n dJ9_floorMod_7cf53_0 rfl ?_
  refine mw_iload_n dJ9_floorMod_7cf53_1 rfl ?_
  refine mw_irem dJ9_floorMod_7cf53_2 (by omega) (by omega) ?_
  refine mw_is2 dJ9_floorMod_7cf53_3 (by decide) rfl ?_
  refine mw_iload_n dJ9_floorMod_7cf53_4 rfl ?_
  refine mw_iload_n dJ9_floorMod_7cf53_5 rfl ?_
  refine mw_ixor dJ9_floorMod_7cf53_6 ?_
  refine mw_if_ge (tgt := 18) dJ9_floorMod_7cf53_7 (by decide) (by omega) (fun c_7 => ?_) (fun c_7 => ?_)
  · refine mw_iload_n dJ9_floorMod_7cf53_18 rfl ?_
    refine mw_iret dJ9_floorMod_7cf53_19 rfl ?_
    exact ⟨by congr; exact h3 c_7, rfl⟩
  · refine mw_iload_n dJ9_floorMod_7cf53_10 rfl ?_
    refine mw_if_eq (tgt := 18) dJ9_floorMod_7cf53_11 (by decide) (by omega) (fun c_11 => ?_) (fun c_11 => ?_)
    · refine mw_iload_n dJ9_floorMod_7cf53_18 rfl ?_
      refine mw_iret dJ9_floorMod_7cf53_19 rfl ?_
      exact ⟨by congr; exact h4 c_7 c_11, rfl⟩
    · refine mw_iload_n dJ9_floorMod_7cf53_14 rfl ?_
      refine mw_iload_n dJ9_floorMod_7cf53_15 rfl ?_
      refine mw_iadd dJ9_floorMod_7cf53_16 ?_
      refine mw_iret dJ9_floorMod_7cf53_17 rfl ?_
      exact ⟨by congr; exact h5 c_7 c_11, rfl⟩
/-- how many of the twelve bits -/
def pop (a : Int) : Int := ((List.range 12).map (fun i => a / 2 ^ i % 2)).sum
def pcE (a : Int) : Int :=
  let b := a - bAnd (bUshr a 1) 1431655765
  let c := bAnd b 858993459 + bAnd (bUshr b 2) 858993459
  let e := bAnd (c + bUshr c 4) 252645135
  let f := e + bUshr e 8
  let g := f + bUshr f 16
  bAnd g 63
theorem pcE_64 : ∀ i : Nat, i < 64 → ∀ j : Nat, j < 64 → pcE ((64 * i + j : Nat) : Int) = pop ((64 * i + j : Nat) : Int) := by decide +kernel
theorem pcE_tab (n : Nat) (h : n < 4096) : pcE (n : Int) = pop (n : Int) := by
  have := pcE_64 (n / 64) (by omega) (n % 64) (by omega)
  rwa [show 64 * (n / 64) + n % 64 = n by omega] at this
theorem pop_64 : ∀ i : Nat, i < 64 → ∀ j : Nat, j < 64 → ¬ (64 * i + j) = 0 → 0 ≤ bAnd ((64 * i + j : Nat) : Int) (((64 * i + j : Nat) : Int) - 1) ∧ bAnd ((64 * i + j : Nat) : Int) (((64 * i + j : Nat) : Int) - 1) < ((64 * i + j : Nat) : Int) ∧ pop (bAnd ((64 * i + j : Nat) : Int) (((64 * i + j : Nat) : Int) - 1)) + 1 = pop ((64 * i + j : Nat) : Int) := by decide +kernel
theorem pop_tab (n : Nat) (h : n < 4096) (h0 : ¬ n = 0) : 0 ≤ bAnd (n : Int) ((n : Int) - 1) ∧ bAnd (n : Int) ((n : Int) - 1) < (n : Int) ∧ pop (bAnd (n : Int) ((n : Int) - 1)) + 1 = pop (n : Int) := by
  have := pop_64 (n / 64) (by omega) (n % 64) (by omega) (by omega)
  rwa [show 64 * (n / 64) + n % 64 = n by omega] at this
theorem pop_0 : pop 0 = 0 := by decide +kernel
set_option maxHeartbeats 4000000 in
set_option maxRecDepth 100000 in
theorem c_bitCount {G : mG} {μ : mMem} {a : Int} (ha : 0 ≤ a ∧ a < 4096) : mM G yJ6_bitCount_0f7a4 cJ6_bitCount_0f7a4 1 (some .int) 0 [.int (iV a)] μ (pI (pop a) μ) := by
  have h1 := pcE_tab a.toNat (by omega)
  rw [show ((a.toNat : Nat) : Int) = a by omega] at h1
  refine mM.of (lv := [some (.int (iV a))]) 0 (by decide +kernel) (Nat.le_of_ble_eq_true rfl) rfl ?_
  intro X
  refine mw_iload_n dJ6_bitCount_0f7a4_0 rfl ?_
  refine mw_iload_n dJ6_bitCount_0f7a4_1 rfl ?_
  refine mw_iconst dJ6_bitCount_0f7a4_2 ?_
  refine mw_iushr dJ6_bitCount_0f7a4_3 ?_
  refine mw_ldcw dJ6_bitCount_0f7a4_4 ct_J6_265 ?_
  refine mw_iand dJ6_bitCount_0f7a4_7 ?_
  refine mw_isub dJ6_bitCount_0f7a4_8 ?_
  refine mw_is0 dJ6_bitCount_0f7a4_9 (by decide) ?_
  refine mw_iload_n dJ6_bitCount_0f7a4_10 rfl ?_
  refine mw_ldcw dJ6_bitCount_0f7a4_11 ct_J6_266 ?_
  refine mw_iand dJ6_bitCount_0f7a4_14 ?_
  refine mw_iload_n dJ6_bitCount_0f7a4_15 rfl ?_
  refine mw_iconst dJ6_bitCount_0f7a4_16 ?_
  refine mw_iushr dJ6_bitCount_0f7a4_17 ?_
  refine mw_ldcw dJ6_bitCount_0f7a4_18 ct_J6_266 ?_
  refine mw_iand dJ6_bitCount_0f7a4_21 ?_
  refine mw_iadd dJ6_bitCount_0f7a4_22 ?_
  refine mw_is0 dJ6_bitCount_0f7a4_23 (by decide) ?_
  refine mw_iload_n dJ6_bitCount_0f7a4_24 rfl ?_
  refine mw_iload_n dJ6_bitCount_0f7a4_25 rfl ?_
  refine mw_iconst dJ6_bitCount_0f7a4_26 ?_
  refine mw_iushr dJ6_bitCount_0f7a4_27 ?_
  refine mw_iadd dJ6_bitCount_0f7a4_28 ?_
  refine mw_ldcw dJ6_bitCount_0f7a4_29 ct_J6_267 ?_
  refine mw_iand dJ6_bitCount_0f7a4_32 ?_
  refine mw_is0 dJ6_bitCount_0f7a4_33 (by decide) ?_
  refine mw_iload_n dJ6_bitCount_0f7a4_34 rfl ?_
  refine mw_iload_n dJ6_bitCount_0f7a4_35 rfl ?_
  refine mw_bipush dJ6_bitCount_0f7a4_36 (by decide +kernel) ?_
  refine mw_iushr dJ6_bitCount_0f7a4_38 ?_
  refine mw_iadd dJ6_bitCount_0f7a4_39 ?_
  refine mw_is0 dJ6_bitCount_0f7a4_40 (by decide) ?_
  refine mw_iload_n dJ6_bitCount_0f7a4_41 rfl ?_
  refine mw_iload_n dJ6_bitCount_0f7a4_42 rfl ?_
  refine mw_bipush dJ6_bitCount_0f7a4_43 (by decide +kernel) ?_
  refine mw_iushr dJ6_bitCount_0f7a4_45 ?_
  refine mw_iadd dJ6_bitCount_0f7a4_46 ?_
  refine mw_is0 dJ6_bitCount_0f7a4_47 (by decide) ?_
  refine mw_iload_n dJ6_bitCount_0f7a4_48 rfl ?_
  refine mw_bipush dJ6_bitCount_0f7a4_49 (by decide +kernel) ?_
  refine mw_iand dJ6_bitCount_0f7a4_51 ?_
  refine mw_iret dJ6_bitCount_0f7a4_52 rfl ?_
  exact ⟨by rw [← h1]; rfl, rfl⟩

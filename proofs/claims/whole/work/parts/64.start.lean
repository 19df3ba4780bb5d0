theorem nn_L_7 : nN RL 7 6 8 zf6 := ⟨RX6, TX6, tyX6, rfl, inX6, tyX6_ok, zd6, mTb_in (List.mem_of_getElem? (i := 78) (by decide +kernel)) rfl, mTb_in (List.mem_of_getElem? (i := 79) (by decide +kernel)) rfl, mTb_in (List.mem_of_getElem? (i := 63) (by decide +kernel)) rfl⟩
theorem nn_L_10 : nN RL 10 7 24 zf7 := ⟨RX7, TX7, tyX7, rfl, inX7, tyX7_ok, zd7, mTb_in (List.mem_of_getElem? (i := 774) (by decide +kernel)) rfl, mTb_in (List.mem_of_getElem? (i := 775) (by decide +kernel)) rfl, mTb_in (List.mem_of_getElem? (i := 70) (by decide +kernel)) rfl⟩
theorem ll_9 : Cond.methodLink RL 9 yX6_init ∈ mTb := mTb_in (List.mem_of_getElem? (i := 80) (by decide +kernel)) rfl
theorem ll_12 : Cond.methodLink RL 12 yX7_init ∈ mTb := mTb_in (List.mem_of_getElem? (i := 776) (by decide +kernel)) rfl
theorem nk_X6_init : nI_ yX6_init cX6_init 2 0 := ⟨mTb_in (List.mem_of_getElem? (i := 81) (by decide +kernel)) rfl, mTb_in (List.mem_of_getElem? (i := 63) (by decide +kernel)) rfl, mTb_in (List.mem_of_getElem? (i := 82) (by decide +kernel)) rfl, rfl, by decide +kernel, by decide +kernel, by decide +kernel⟩
theorem nk_X7_init : nI_ yX7_init cX7_init 1 0 := ⟨mTb_in (List.mem_of_getElem? (i := 777) (by decide +kernel)) rfl, mTb_in (List.mem_of_getElem? (i := 70) (by decide +kernel)) rfl, mTb_in (List.mem_of_getElem? (i := 778) (by decide +kernel)) rfl, rfl, by decide +kernel, by decide +kernel, by decide +kernel⟩
set_option maxHeartbeats 4000000 in
set_option maxRecDepth 100000 in
theorem whole_start {p : Program} {e : Env} {s : State} {m : MethodId} {below : List Frame} {meth : Method} {c : Code} (l : Launch) {b L : Nat} {xs : Nat → Int32} (hL : L ≤ 3072) (C0 : lw_At p s m meth c b L xs) : W p l e room_1 s m #[Value.ref b] below meth c s.heap [] 0 0 (lw_Z below #[Value.ref b] s) (entryFrame m ([Value.ref b] : List Value).toArray 4) := by
  obtain ⟨hx, hb, hr, hml, hown, hts0, hX, hbl, hlocks, hgv⟩ := id C0
  have hts := lw_mTb hts0
  obtain ⟨D, cA, g, hE, hZ⟩ := lw_given C0
  generalize hG : ((g, D, cA, fun _ => 0, l) : mG) = G
  have hE : nE G (fun q : Nat => s.heap.size ≤ q) s := by rw [← hG]; exact hE l
  have hZ : gZ G.1 (fun q : Nat => s.heap.size ≤ q) s := by rw [← hG]; exact hZ
  have hl5 : G.2.2.2.2 = l := by rw [← hG]
  have hl := lv_entry ([.ref b]) (n := 4) (Nat.le_of_ble_eq_true rfl)
  rw [lg_entry_eq, ← hl5]
  have K : nW (p, e, room_1, s, m, #[Value.ref b], below, meth, c) cL_law 4 RL meth.name room_1 G (fun q : Nat => s.heap.size ≤ q) (lw_Z below #[Value.ref b] s) 0 [(0, .ref b)] [] [] 0 0 := by
    refine nw_new dL_law_0 nn_L_7 (by decide) (by decide) (fun q0 => ?_)
    refine nw_dup dL_law_3 rfl ?_
    refine nw_init (as := []) dL_law_4 ll_9 nk_X6_init (by decide) (n_X6_init q0) rfl rfl (Nat.le_of_ble_eq_true rfl) ⟨by decide, by decide⟩ (fun a => ?_)
    refine nw_astore [(1, .ref q0), (0, .ref b)] dL_law_7 (by decide) rfl ?_
    refine nw_new dL_law_8 nn_L_10 (by decide) (by decide) (fun q1 => ?_)
    refine nw_dup dL_law_11 rfl ?_
    refine nw_init (as := []) dL_law_12 ll_12 nk_X7_init (by decide) (n_X7_init q1) rfl rfl (Nat.le_of_ble_eq_true rfl) ⟨by decide, by decide⟩ (fun a2 => ?_)
    refine nw_astore [(2, .ref q1), (1, .ref q0), (0, .ref b)] dL_law_15 (by decide) rfl ?_
    refine nw_iconst dL_law_16 ?_
    refine nw_istore [(3, .int (iV 0)), (2, .ref q1), (1, .ref q0), (0, .ref b)] dL_law_17 (by decide) rfl ?_
    intro hC H locs ls hP hD hS hl
    have hP2 := born_P hP
    have hD2 := hD.adr (born_map G q0 a q1 a2)
    have h72 : ∀ k : Nat, k < 72 → s.heap.size ≤ (lG G q0 a q1 a2).1 k := fun k hk => hD2.2 k _ (mWs_get _ _ hk)
    have hAB : ∀ q : Nat, mA (lG G q0 a q1 a2) q → s.heap.size ≤ q := fun q hq => by
      obtain ⟨k, hk, rfl⟩ := hq
      exact h72 k hk
    have hEnv : mEnv (lG G q0 a q1 a2) s := by
      refine ⟨hE.1, fun i j hi hj e => hD2.1 i j _ _ (mWs_get _ _ hi) (mWs_get _ _ hj) e, ⟨?_, fun q hq => ?_, ?_, ?_, ?_, ?_⟩, hE.2.1⟩
      · exact (hE.2.2.2.2.2.2.narrow hAB).congr (fun i hi => lG_o G q0 a q1 a2 (by omega)) (fun i hi => lG_o G q0 a q1 a2 (by omega))
      · rw [lG_o G q0 a q1 a2 (by omega)]
        exact hE.2.2.2.2.2.1 q hq
      · rw [lG_o G q0 a q1 a2 (by omega)]
        exact hZ.1.narrow hAB
      · rw [lG_o G q0 a q1 a2 (by omega)]
        exact hZ.2.1.narrow hAB
      · exact hZ.2.2.1.narrow hAB
      · rw [lG_o G q0 a q1 a2 (by omega)]
        exact hZ.2.2.2.imp (fun q => q.narrow hAB) (fun q => q.narrow hAB)
    refine W.widen (k := 600000) (n := 7302250) (by decide) (by decide) ?_
    exact law_loop (X := (p, e, s, m, below, meth, c, b, L, xs)) (G := lG G q0 a q1 a2) hL (L + 7) 0 μ0 (by decide) (by decide) (by show (L : Int) + 7 ≤ 0 + 6 * ((L + 7 : Nat) : Int); omega) both_0 C0 hEnv h72 H locs ls hP2 hS (lv_sub hl [3, 2, 1, 0] rfl)
  exact K ⟨hx, hb, hml, hown, rfl, rfl, hts, hE, fun q h => h⟩ s.heap [] _ (fun k q h => by simp at h) ⟨fun i j p q h => by simp at h, fun k q h => by simp at h⟩ va_S.rf hl

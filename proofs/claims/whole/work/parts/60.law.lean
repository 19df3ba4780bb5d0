/-! ===== the law's frame: the script at b, the class at cell 0, the reference at cell 56, the place i ===== -/
abbrev lX : Type := Program × Env × State × MethodId × List Frame × Method × Code × Nat × Nat × (Nat → Int32)
def lA (X : lX) (i c : Int) : Int := (X.2.2.2.2.2.2.2.2.2 (i + c).toNat).toInt
def lB (X : lX) (i : Int) : Prop := 0 ≤ i ∧ i + 6 ≤ (X.2.2.2.2.2.2.2.2.1 : Int) ∧ X.2.2.2.2.2.2.2.2.1 ≤ 3072
theorem lA_bd (X : lX) (i c : Int) : -2147483648 ≤ lA X i c ∧ lA X i c ≤ 2147483647 := iV_bd _
def lW (X : lX) (G : mG) (pc : Nat) (i : Int) (st : List Value) (μ : mMem) : Prop := match X with
  | (p, e, s, m, below, meth, c, b, L, xs) => lw_At p s m meth c b L xs → mEnv G s → (∀ k : Nat, k < 72 → s.heap.size ≤ G.1 k) → ∀ (H : Heap) (locs : List Loc) (ls : Array Slot), mH G μ H → va_S (fun q : Nat => s.heap.size ≤ q) s.heap H locs → lv_has ls 4 [(0, .ref b), (1, .ref (G.1 0)), (2, .ref (G.1 56)), (3, .int (iV i))] → W p G.2.2.2.2 e room_1 s m #[Value.ref b] below meth c H locs 600000 7302250 (lw_Z below #[Value.ref b] s) (F0 m pc ls (st.map (cv G)))
theorem lw_mTb {args : Array Value} {s : State} (h : ∀ w ∈ lw_tbl, w.before args s = true) : ∀ w ∈ mTb, w.before args s = true := fun w hw => h w (List.mem_filter.mp hw).1
section LAWR
variable {X : lX} {G : mG} {pc : Nat} {i : Int} {st : List Value} {μ : mMem}
theorem lw_x (hd : decode cL_law pc = .ok (.aload_n 1, 1)) (kk : lW X G (pc + 1) i (.ref 0 :: st) μ) : lW X G pc i st μ := by
  obtain ⟨p, e, s, m, below, meth, c, b, L, xs⟩ := X
  intro h1 h2 h3 H locs ls hP hS hl
  exact lv_aload_n h1.1 h1.2.1 hd rfl (lv_at hl 1 rfl) (kk h1 h2 h3 H locs ls hP hS hl)
theorem lw_m (hd : decode cL_law pc = .ok (.aload_n 2, 1)) (kk : lW X G (pc + 1) i (.ref 56 :: st) μ) : lW X G pc i st μ := by
  obtain ⟨p, e, s, m, below, meth, c, b, L, xs⟩ := X
  intro h1 h2 h3 H locs ls hP hS hl
  exact lv_aload_n h1.1 h1.2.1 hd rfl (lv_at hl 2 rfl) (kk h1 h2 h3 H locs ls hP hS hl)
theorem lw_ld {z : Int} (hd0 : decode cL_law pc = .ok (.aload_n 0, 1)) (hd1 : decode cL_law (pc + 1) = .ok (.iload_n 3, 1)) (hd2 : decode cL_law (pc + 1 + 1) = .ok (.iconst z, 1)) (hd3 : decode cL_law (pc + 1 + 1 + 1) = .ok (.iadd, 1)) (hd4 : decode cL_law (pc + 1 + 1 + 1 + 1) = .ok (.iaload, 1)) (hi : lB X i) (hz : 0 ≤ z ∧ z < 6) (kk : lW X G (pc + 1 + 1 + 1 + 1 + 1) i (.int (iV (lA X i z)) :: st) μ) : lW X G pc i st μ := by
  obtain ⟨p, e, s, m, below, meth, c, b, L, xs⟩ := X
  intro h1 h2 h3 H locs ls hP hS hl
  have hi' : 0 ≤ i ∧ i + 6 ≤ (L : Int) ∧ L ≤ 3072 := hi
  obtain ⟨hx, hb, hr, hml, hown, hts, hX, hbl, hlocks, hgv⟩ := id h1
  refine lv_aload_n hx hb hd0 rfl (lv_at hl 0 rfl) ?_
  refine lv_iload_n hx hb hd1 rfl (lv_at hl 3 rfl) ?_
  refine lv_iconst (v := iV z) hx hb hd2 rfl ?_
  refine lv_iadd hx hb hd3 ?_
  rw [iV_add]
  refine va_sld hx hb hX hbl (A := fun q : Nat => s.heap.size ≤ q) (Nat.not_le.mpr hbl) hS (iV_in (by omega) (by omega)) hd4 ?_
  rw [iV_clamp (by omega), ← iV_of (xs (i + z).toNat)]
  exact kk h1 h2 h3 H locs ls hP hS hl
theorem lw_i2l {a : Int} (hd : decode cL_law pc = .ok (.i2l, 1)) (kk : lW X G (pc + 1) i (.long ((iV a).toInt64) :: st) μ) : lW X G pc i (.int (iV a) :: st) μ := by
  obtain ⟨p, e, s, m, below, meth, c, b, L, xs⟩ := X
  intro h1 h2 h3 H locs ls hP hS hl
  exact lv_i2l h1.1 h1.2.1 hd rfl (kk h1 h2 h3 H locs ls hP hS hl)
theorem lw_bipush {z : Int} (hd : decode cL_law pc = .ok (.bipush z, 2)) (hv : (Int8.ofInt z).toInt32 = iV z) (kk : lW X G (pc + 2) i (.int (iV z) :: st) μ) : lW X G pc i st μ := by
  obtain ⟨p, e, s, m, below, meth, c, b, L, xs⟩ := X
  intro h1 h2 h3 H locs ls hP hS hl
  exact lv_bipush h1.1 h1.2.1 hd hv (kk h1 h2 h3 H locs ls hP hS hl)
theorem lw_lshl {x : Int64} {a : Int} (hd : decode cL_law pc = .ok (.lshl, 1)) (kk : lW X G (pc + 1) i (.long (x <<< ((iV a).toInt64 &&& 63)) :: st) μ) : lW X G pc i (.int (iV a) :: .long x :: st) μ := by
  obtain ⟨p, e, s, m, below, meth, c, b, L, xs⟩ := X
  intro h1 h2 h3 H locs ls hP hS hl
  exact lv_lshl h1.1 h1.2.1 hd rfl (kk h1 h2 h3 H locs ls hP hS hl)
theorem lw_land {x y : Int64} (hd : decode cL_law pc = .ok (.land, 1)) (kk : lW X G (pc + 1) i (.long (x &&& y) :: st) μ) : lW X G pc i (.long y :: .long x :: st) μ := by
  obtain ⟨p, e, s, m, below, meth, c, b, L, xs⟩ := X
  intro h1 h2 h3 H locs ls hP hS hl
  exact lv_land h1.1 h1.2.1 hd (kk h1 h2 h3 H locs ls hP hS hl)
theorem lw_lor {x y : Int64} (hd : decode cL_law pc = .ok (.lor, 1)) (kk : lW X G (pc + 1) i (.long (x ||| y) :: st) μ) : lW X G pc i (.long y :: .long x :: st) μ := by
  obtain ⟨p, e, s, m, below, meth, c, b, L, xs⟩ := X
  intro h1 h2 h3 H locs ls hP hS hl
  exact lv_lor h1.1 h1.2.1 hd (kk h1 h2 h3 H locs ls hP hS hl)
theorem lw_ldc2 {idx : Nat} {z : Int64} (hd : decode cL_law pc = .ok (.ldc2_w idx, 3)) (hw : Cond.constantLong RL idx z ∈ mTb) (kk : lW X G (pc + 3) i (.long z :: st) μ) : lW X G pc i st μ := by
  obtain ⟨p, e, s, m, below, meth, c, b, L, xs⟩ := X
  intro h1 h2 h3 H locs ls hP hS hl
  exact lv_ldc2 h1.1 h1.2.1 h1.2.2.2.2.1 (lw_mTb h1.2.2.2.2.2.1 _ hw) hd (kk h1 h2 h3 H locs ls hP hS hl)
theorem lw_eq {a b' off : Int} (tgt : Nat) (hd : decode cL_law pc = .ok (.if_icmp .eq off, 3)) (ht : (pc : Int) + off = (tgt : Int)) (h : a = b') (kk : lW X G tgt i st μ) : lW X G pc i (.int (iV b') :: .int (iV a) :: st) μ := by
  obtain ⟨p, e, s, m, below, meth, c, b, L, xs⟩ := X
  intro h1 h2 h3 H locs ls hP hS hl
  exact lv_icmp_eq h1.1 h1.2.1 hd ht (fun _ => kk h1 h2 h3 H locs ls hP hS hl) (fun q => absurd (by rw [h]) q)
theorem lw_leq {x y : Int64} {off : Int} (tgt : Nat) (hd : decode cL_law pc = .ok (.lcmp, 1)) (hd2 : decode cL_law (pc + 1) = .ok (.ifCond .eq off, 3)) (ht : ((pc + 1 : Nat) : Int) + off = (tgt : Int)) (h : x = y) (kk : lW X G tgt i st μ) : lW X G pc i (.long y :: .long x :: st) μ := by
  obtain ⟨p, e, s, m, below, meth, c, b, L, xs⟩ := X
  intro h1 h2 h3 H locs ls hP hS hl
  refine W.lcmp h1.1 h1.2.1 hd ?_
  refine lv_if_eq h1.1 h1.2.1 hd2 ht (fun _ => kk h1 h2 h3 H locs ls hP hS hl) (fun q => absurd ?_ q)
  rw [h]
  simp [lg_cmp]
theorem lw_back {p : Program} {e : Env} {s : State} {m : MethodId} {args : Array Value} {below : List Frame} {meth : Method} {c : Code} {H : Heap} {locs : List Loc} {ls : Array Slot} {st0 rest : List Value} {a : Array Value} {Q' : Option Value → mMem → Prop} {A : Nat → Prop} {Z : State → Prop}
    (hr : va_Run p G.2.2.2.2 e room_1 s m args below meth c H locs 600000 7302250 0 0 (F0 m pc ls st0) (rest.map (cv G)) (mQ G Q' a) (mA G)) (hS : va_S A s.heap H locs) (hA : ∀ q : Nat, mA G q → A q)
    (kk : ∀ (r : Option Value) (μ' : mMem) (H1 : Heap) (locs1 : List Loc), Q' r μ' → mH G μ' H1 → va_S A s.heap H1 locs1 → W p G.2.2.2.2 e room_1 s m args below meth c H1 locs1 600000 7302250 Z (F0 m (pc + 3) ls ((r.toList ++ rest).map (cv G)))) :
    W p G.2.2.2.2 e room_1 s m args below meth c H locs 600000 7302250 Z (F0 m pc ls st0) := by
  intro T hT X
  obtain ⟨v, st₀, t, T', L, h0, X', hL, e1, e2, ⟨⟨r, μ', hv, hq, hH⟩, hz, hk⟩, stp⟩ := hr T hT X
  cases hv
  rw [h0] at hz hk
  obtain ⟨t2, a1, b1⟩ := kk r μ' T'.heap (locs ++ L) hq (by rw [e1]; exact hH)
    ⟨Nat.le_trans hS.1 (by rw [e1]; exact hz), fun q h1 h2 => by rw [e1, hk q (Nat.lt_of_lt_of_le h1 hS.1) (fun z => h2 (hA q z))]; exact hS.2.1 q h1 h2, fun q hq => by
      rcases List.mem_append.mp hq with h | h
      · exact hS.2.2 q h
      · exact hA _ (hL q h)⟩ T' rfl X'
  refine ⟨t2, stp t2 ?_, b1⟩
  have e3 : (r.toList ++ rest).map (cv G) = (r.map (cv G)).toList ++ rest.map (cv G) := by cases r <;> rfl
  rw [e3] at a1
  exact a1
theorem lw_call {idx : Nat} {y : MethodName} {cc' : ByteArray} {nL' : Nat} {rt' : Option FieldType} {d' n : Nat} {k : Nat} {as rest : List Value} {Q' : Option Value → mMem → Prop} (hd : decode cL_law pc = .ok (.invokevirtual idx, 3)) (hw : Cond.methodLink RL idx y ∈ mTb) (hs : sMv y cc' nL' rt' n) (hD : d' + 1 ≤ 12 ∧ 8 + (nL' + 11) + 37 * d' ≤ 444) (hM : mM G y cc' nL' rt' d' (.ref k :: as) μ Q') {ci : Nat} {T : u_T} {N : Nat} (hk : mCls k = ci) (hci : ci < 8) (hc : vwCl[ci]? = some (y.cls, T, N)) (hn : as.length = n) (hst : as.reverse ++ .ref k :: rest = st) (hr : (rest.map fun v => v.category).sum ≤ 8)
    (kk : ∀ (r : Option Value) (μ' : mMem), Q' r μ' → lW X G (pc + 3) i (r.toList ++ rest) μ') : lW X G pc i st μ := by
  obtain ⟨p, e, s, m, below, meth, c, b, L, xs⟩ := X
  intro h1 hE h3 H locs ls hP hS hl
  obtain ⟨hx, hb, hrt, hml, hown, hts0, hX, hbl, hlocks, hgv⟩ := id h1
  have hts := lw_mTb hts0
  subst hst
  obtain ⟨g1, g2, g3, g4, g5, g6, g7⟩ := hs
  have hk72 := mCls_lt hk (by omega)
  have he : (mWs G μ)[k]? = some (G.1 k, .inr (ci, mFs G μ k ci)) := by rw [mWs_get G μ hk72, mE_obj hk hci]
  have hcb : CallB room_1 s #[Value.ref b] RL idx y cc' nL' rt' (Cond.code y cc' nL' rt' :: mTb) (mRm d') 0 0 n := callB_of n hts (goodIn_cons g4) rfl rfl rfl (hts _ g3) (hts _ hw) ⟨g5, g6, g7⟩ hD
  refine lw_back (rest := rest) (A := fun q : Nat => s.heap.size ≤ q) (va_runV (As := as.map (cv G)) (rest := rest.map (cv G)) (b := G.1 k) (C := y.cls) ⟨hx, hb, hml, hown, hts⟩ hM ⟨hcb, hts _ g1, hts _ g2⟩ ⟨mBlind, va_recv hE.1 hP hc he, fun U hU hW => ⟨rfl, hE.moved hW (fun a h1 h2 => by rw [hU]; exact hS.2.1 a h1 (Nat.not_le.mpr h1)), by rw [hU]; exact hP⟩⟩ rfl (by rw [List.length_map]; exact hn) hl.1 ?_ ?_ hd ⟨Nat.le_refl _, Nat.le_refl _⟩) hS (fun q hq => by obtain ⟨k, hk, rfl⟩ := hq; exact h3 k hk) (fun r μ' H1 locs1 hq hH hS1 => kk r μ' hq h1 hE h3 H1 locs1 ls hH hS1 hl)
  · show List.map (cv G) (as.reverse ++ .ref k :: rest) = _
    rw [List.map_append, List.map_reverse]
    rfl
  · exact lv_room (by rw [mw_cat]; exact hr)
end LAWR
theorem cl_L_13 : Cond.constantLong RL 13 4294967295 ∈ mTb := mTb_in (List.mem_of_getElem? (i := 1224) (by decide +kernel)) rfl
theorem ll_15 : Cond.methodLink RL 15 yX6_tune ∈ mTb := mTb_in (List.mem_of_getElem? (i := 246) (by decide +kernel)) rfl
theorem ll_19 : Cond.methodLink RL 19 yX7_tune ∈ mTb := mTb_in (List.mem_of_getElem? (i := 861) (by decide +kernel)) rfl
theorem ll_20 : Cond.methodLink RL 20 yX6_tone ∈ mTb := mTb_in (List.mem_of_getElem? (i := 274) (by decide +kernel)) rfl
theorem ll_24 : Cond.methodLink RL 24 yX7_tone ∈ mTb := mTb_in (List.mem_of_getElem? (i := 885) (by decide +kernel)) rfl
theorem ll_25 : Cond.methodLink RL 25 yX6_side ∈ mTb := mTb_in (List.mem_of_getElem? (i := 287) (by decide +kernel)) rfl
theorem ll_28 : Cond.methodLink RL 28 yX7_side ∈ mTb := mTb_in (List.mem_of_getElem? (i := 898) (by decide +kernel)) rfl
theorem ll_29 : Cond.methodLink RL 29 yX6_attache ∈ mTb := mTb_in (List.mem_of_getElem? (i := 316) (by decide +kernel)) rfl
theorem ll_32 : Cond.methodLink RL 32 yX7_attache ∈ mTb := mTb_in (List.mem_of_getElem? (i := 927) (by decide +kernel)) rfl
theorem ll_33 : Cond.methodLink RL 33 yX6_of ∈ mTb := mTb_in (List.mem_of_getElem? (i := 333) (by decide +kernel)) rfl
theorem ll_36 : Cond.methodLink RL 36 yX7_of ∈ mTb := mTb_in (List.mem_of_getElem? (i := 939) (by decide +kernel)) rfl
theorem ll_37 : Cond.methodLink RL 37 yX6_answer ∈ mTb := mTb_in (List.mem_of_getElem? (i := 350) (by decide +kernel)) rfl
theorem ll_40 : Cond.methodLink RL 40 yX7_answer ∈ mTb := mTb_in (List.mem_of_getElem? (i := 954) (by decide +kernel)) rfl
theorem ll_41 : Cond.methodLink RL 41 yX6_set ∈ mTb := mTb_in (List.mem_of_getElem? (i := 369) (by decide +kernel)) rfl
theorem ll_45 : Cond.methodLink RL 45 yX7_set ∈ mTb := mTb_in (List.mem_of_getElem? (i := 966) (by decide +kernel)) rfl
theorem ll_46 : Cond.methodLink RL 46 yX6_turn ∈ mTb := mTb_in (List.mem_of_getElem? (i := 376) (by decide +kernel)) rfl
theorem ll_49 : Cond.methodLink RL 49 yX7_turn ∈ mTb := mTb_in (List.mem_of_getElem? (i := 970) (by decide +kernel)) rfl
theorem ll_50 : Cond.methodLink RL 50 yX6_as ∈ mTb := mTb_in (List.mem_of_getElem? (i := 380) (by decide +kernel)) rfl
theorem ll_53 : Cond.methodLink RL 53 yX7_as ∈ mTb := mTb_in (List.mem_of_getElem? (i := 974) (by decide +kernel)) rfl
theorem ll_54 : Cond.methodLink RL 54 yX6_days ∈ mTb := mTb_in (List.mem_of_getElem? (i := 390) (by decide +kernel)) rfl
theorem ll_58 : Cond.methodLink RL 58 yX7_days ∈ mTb := mTb_in (List.mem_of_getElem? (i := 979) (by decide +kernel)) rfl
theorem ll_59 : Cond.methodLink RL 59 yX6_now ∈ mTb := mTb_in (List.mem_of_getElem? (i := 423) (by decide +kernel)) rfl
theorem ll_62 : Cond.methodLink RL 62 yX7_now ∈ mTb := mTb_in (List.mem_of_getElem? (i := 1000) (by decide +kernel)) rfl
theorem ll_63 : Cond.methodLink RL 63 yX6_on ∈ mTb := mTb_in (List.mem_of_getElem? (i := 450) (by decide +kernel)) rfl
theorem ll_66 : Cond.methodLink RL 66 yX7_on ∈ mTb := mTb_in (List.mem_of_getElem? (i := 1013) (by decide +kernel)) rfl
theorem ll_67 : Cond.methodLink RL 67 yX6_tension ∈ mTb := mTb_in (List.mem_of_getElem? (i := 473) (by decide +kernel)) rfl
theorem ll_70 : Cond.methodLink RL 70 yX7_tension ∈ mTb := mTb_in (List.mem_of_getElem? (i := 1031) (by decide +kernel)) rfl
theorem ll_71 : Cond.methodLink RL 71 yX6_home ∈ mTb := mTb_in (List.mem_of_getElem? (i := 477) (by decide +kernel)) rfl
theorem ll_74 : Cond.methodLink RL 74 yX7_home ∈ mTb := mTb_in (List.mem_of_getElem? (i := 1039) (by decide +kernel)) rfl
theorem ll_75 : Cond.methodLink RL 75 yX6_alike ∈ mTb := mTb_in (List.mem_of_getElem? (i := 485) (by decide +kernel)) rfl
theorem ll_79 : Cond.methodLink RL 79 yX7_alike ∈ mTb := mTb_in (List.mem_of_getElem? (i := 1047) (by decide +kernel)) rfl
theorem ll_80 : Cond.methodLink RL 80 yX6_again ∈ mTb := mTb_in (List.mem_of_getElem? (i := 494) (by decide +kernel)) rfl
theorem ll_83 : Cond.methodLink RL 83 yX7_again ∈ mTb := mTb_in (List.mem_of_getElem? (i := 1051) (by decide +kernel)) rfl
theorem ll_84 : Cond.methodLink RL 84 yX6_key ∈ mTb := mTb_in (List.mem_of_getElem? (i := 500) (by decide +kernel)) rfl
theorem ll_87 : Cond.methodLink RL 87 yX7_key ∈ mTb := mTb_in (List.mem_of_getElem? (i := 1059) (by decide +kernel)) rfl
theorem ll_88 : Cond.methodLink RL 88 yX6_kind ∈ mTb := mTb_in (List.mem_of_getElem? (i := 512) (by decide +kernel)) rfl
theorem ll_91 : Cond.methodLink RL 91 yX7_kind ∈ mTb := mTb_in (List.mem_of_getElem? (i := 1067) (by decide +kernel)) rfl
theorem ll_92 : Cond.methodLink RL 92 yX6_blot ∈ mTb := mTb_in (List.mem_of_getElem? (i := 516) (by decide +kernel)) rfl
theorem ll_95 : Cond.methodLink RL 95 yX7_blot ∈ mTb := mTb_in (List.mem_of_getElem? (i := 1071) (by decide +kernel)) rfl
theorem ll_96 : Cond.methodLink RL 96 yX6_calm ∈ mTb := mTb_in (List.mem_of_getElem? (i := 520) (by decide +kernel)) rfl
theorem ll_99 : Cond.methodLink RL 99 yX7_calm ∈ mTb := mTb_in (List.mem_of_getElem? (i := 1075) (by decide +kernel)) rfl
theorem ll_100 : Cond.methodLink RL 100 yX6_swap ∈ mTb := mTb_in (List.mem_of_getElem? (i := 524) (by decide +kernel)) rfl
theorem ll_103 : Cond.methodLink RL 103 yX7_swap ∈ mTb := mTb_in (List.mem_of_getElem? (i := 1079) (by decide +kernel)) rfl
theorem ll_104 : Cond.methodLink RL 104 yX6_keys ∈ mTb := mTb_in (List.mem_of_getElem? (i := 532) (by decide +kernel)) rfl
theorem ll_107 : Cond.methodLink RL 107 yX7_keys ∈ mTb := mTb_in (List.mem_of_getElem? (i := 1087) (by decide +kernel)) rfl
theorem ll_108 : Cond.methodLink RL 108 yX6_feed ∈ mTb := mTb_in (List.mem_of_getElem? (i := 536) (by decide +kernel)) rfl
theorem ll_111 : Cond.methodLink RL 111 yX7_feed ∈ mTb := mTb_in (List.mem_of_getElem? (i := 1095) (by decide +kernel)) rfl
theorem ll_112 : Cond.methodLink RL 112 yX6_wipe ∈ mTb := mTb_in (List.mem_of_getElem? (i := 544) (by decide +kernel)) rfl
theorem ll_115 : Cond.methodLink RL 115 yX7_wipe ∈ mTb := mTb_in (List.mem_of_getElem? (i := 1099) (by decide +kernel)) rfl
theorem ll_116 : Cond.methodLink RL 116 yX6_affair ∈ mTb := mTb_in (List.mem_of_getElem? (i := 552) (by decide +kernel)) rfl
theorem ll_119 : Cond.methodLink RL 119 yX7_affair ∈ mTb := mTb_in (List.mem_of_getElem? (i := 1103) (by decide +kernel)) rfl
theorem ll_120 : Cond.methodLink RL 120 yX6_sheet ∈ mTb := mTb_in (List.mem_of_getElem? (i := 674) (by decide +kernel)) rfl
theorem ll_123 : Cond.methodLink RL 123 yX7_sheet ∈ mTb := mTb_in (List.mem_of_getElem? (i := 1161) (by decide +kernel)) rfl
theorem ll_124 : Cond.methodLink RL 124 yX6_write ∈ mTb := mTb_in (List.mem_of_getElem? (i := 689) (by decide +kernel)) rfl
theorem ll_128 : Cond.methodLink RL 128 yX7_write ∈ mTb := mTb_in (List.mem_of_getElem? (i := 1169) (by decide +kernel)) rfl
theorem ll_129 : Cond.methodLink RL 129 yX6_copy ∈ mTb := mTb_in (List.mem_of_getElem? (i := 710) (by decide +kernel)) rfl
theorem ll_133 : Cond.methodLink RL 133 yX7_copy ∈ mTb := mTb_in (List.mem_of_getElem? (i := 1177) (by decide +kernel)) rfl
theorem ll_134 : Cond.methodLink RL 134 yX6_lays ∈ mTb := mTb_in (List.mem_of_getElem? (i := 719) (by decide +kernel)) rfl
theorem ll_137 : Cond.methodLink RL 137 yX7_lays ∈ mTb := mTb_in (List.mem_of_getElem? (i := 1181) (by decide +kernel)) rfl
theorem ll_138 : Cond.methodLink RL 138 yX6_book ∈ mTb := mTb_in (List.mem_of_getElem? (i := 728) (by decide +kernel)) rfl
theorem ll_141 : Cond.methodLink RL 141 yX7_book ∈ mTb := mTb_in (List.mem_of_getElem? (i := 1189) (by decide +kernel)) rfl
theorem ll_142 : Cond.methodLink RL 142 yX6_read ∈ mTb := mTb_in (List.mem_of_getElem? (i := 732) (by decide +kernel)) rfl
theorem ll_145 : Cond.methodLink RL 145 yX7_read ∈ mTb := mTb_in (List.mem_of_getElem? (i := 1193) (by decide +kernel)) rfl
theorem ll_146 : Cond.methodLink RL 146 yX6_image ∈ mTb := mTb_in (List.mem_of_getElem? (i := 740) (by decide +kernel)) rfl
theorem ll_149 : Cond.methodLink RL 149 yX7_image ∈ mTb := mTb_in (List.mem_of_getElem? (i := 1201) (by decide +kernel)) rfl
theorem ll_150 : Cond.methodLink RL 150 yX6_undo ∈ mTb := mTb_in (List.mem_of_getElem? (i := 744) (by decide +kernel)) rfl
theorem ll_153 : Cond.methodLink RL 153 yX7_undo ∈ mTb := mTb_in (List.mem_of_getElem? (i := 1205) (by decide +kernel)) rfl
theorem ll_154 : Cond.methodLink RL 154 yX6_tear ∈ mTb := mTb_in (List.mem_of_getElem? (i := 748) (by decide +kernel)) rfl
theorem ll_157 : Cond.methodLink RL 157 yX7_tear ∈ mTb := mTb_in (List.mem_of_getElem? (i := 1209) (by decide +kernel)) rfl
theorem ll_158 : Cond.methodLink RL 158 yX6_count ∈ mTb := mTb_in (List.mem_of_getElem? (i := 752) (by decide +kernel)) rfl
theorem ll_161 : Cond.methodLink RL 161 yX7_count ∈ mTb := mTb_in (List.mem_of_getElem? (i := 1213) (by decide +kernel)) rfl
theorem ll_162 : Cond.methodLink RL 162 yX6_status ∈ mTb := mTb_in (List.mem_of_getElem? (i := 770) (by decide +kernel)) rfl
theorem ll_165 : Cond.methodLink RL 165 yX7_status ∈ mTb := mTb_in (List.mem_of_getElem? (i := 1220) (by decide +kernel)) rfl

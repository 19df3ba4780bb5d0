theorem inX0 : ∀ w ∈ wsX00, w ∈ mTb := by decide +kernel
theorem inX1 : ∀ w ∈ wsX10, w ∈ mTb := by decide +kernel
theorem inX2 : ∀ w ∈ wsX20, w ∈ mTb := by decide +kernel
theorem inX3 : ∀ w ∈ wsX30, w ∈ mTb := by decide +kernel
theorem inX4 : ∀ w ∈ wsX40, w ∈ mTb := by decide +kernel
theorem inX5 : ∀ w ∈ wsX50, w ∈ mTb := by decide +kernel
theorem inX6 : ∀ w ∈ wsX60, w ∈ mTb := by decide +kernel
theorem inX7 : ∀ w ∈ wsX70, w ∈ mTb := by decide +kernel
def mKc (ci : Nat) (C : String) (T : u_T) (N : Nat) : Prop := vwCl[ci]? = some (C, T, N) ∧ (∀ w ∈ u_ws C T N, w ∈ mTb) ∧ (∃ ty : Nat → FieldType, ∀ k, k < N → parseFieldDescriptor (T k).2.2.1 = some (ty k)) ∧ (∀ a, a < N → ∀ b, b < N → a ≠ b → (T a).2.1 ≠ (T b).2.1) ∧ N = mNf ci ∧ ci < 8
theorem kcX0 : mKc 0 RX0 TX0 5 := ⟨rfl, inX0, ⟨tyX0, tyX0_ok⟩, nmX0, rfl, by decide⟩
theorem kcX1 : mKc 1 RX1 TX1 5 := ⟨rfl, inX1, ⟨tyX1, tyX1_ok⟩, nmX1, rfl, by decide⟩
theorem kcX2 : mKc 2 RX2 TX2 5 := ⟨rfl, inX2, ⟨tyX2, tyX2_ok⟩, nmX2, rfl, by decide⟩
theorem kcX3 : mKc 3 RX3 TX3 3 := ⟨rfl, inX3, ⟨tyX3, tyX3_ok⟩, nmX3, rfl, by decide⟩
theorem kcX4 : mKc 4 RX4 TX4 2 := ⟨rfl, inX4, ⟨tyX4, tyX4_ok⟩, nmX4, rfl, by decide⟩
theorem kcX5 : mKc 5 RX5 TX5 2 := ⟨rfl, inX5, ⟨tyX5, tyX5_ok⟩, nmX5, rfl, by decide⟩
theorem kcX6 : mKc 6 RX6 TX6 8 := ⟨rfl, inX6, ⟨tyX6, tyX6_ok⟩, nmX6, rfl, by decide⟩
theorem kcX7 : mKc 7 RX7 TX7 24 := ⟨rfl, inX7, ⟨tyX7, tyX7_ok⟩, nmX7, rfl, by decide⟩
/-- a place of a getfield, of a putfield: the class's number, the field's -/
def sG (own : String) (idx ci j : Nat) : Prop := ∃ (C : String) (T : u_T) (N : Nat), mKc ci C T N ∧ j < N ∧ (Cond.fieldLink own idx (T j).1 (T j).2.1 (T j).2.2.1 ∈ mTb ∨ ∃ host, Cond.fieldLinkNest own idx (T j).1 (T j).2.1 (T j).2.2.1 host ∈ mNest)
def sP (own : String) (idx ci j : Nat) (ty : FieldType) : Prop := ∃ (C : String) (T : u_T) (N : Nat), mKc ci C T N ∧ j < N ∧ (Cond.fieldLink own idx (T j).1 (T j).2.1 (T j).2.2.1 ∈ mTb ∨ ∃ host, Cond.fieldLinkNest own idx (T j).1 (T j).2.1 (T j).2.2.1 host ∈ mNest) ∧ (T j).2.2.2 = false ∧ parseFieldDescriptor (T j).2.2.1 = some ty
theorem mLen_le (k : Nat) : mLen k ≤ 1000 := by
  rcases Nat.lt_or_ge k 72 with q | q
  · have h : ∀ k, k < 72 → mLen k ≤ 1000 := by decide
    exact h k q
  · unfold mLen
    rw [List.getD_eq_getElem?_getD, List.getElem?_eq_none (by simpa using q)]
    exact Nat.zero_le _
def qI (P : Int → mMem → Prop) : Option Value → mMem → Prop := fun r μ => ∃ z : Int, r = some (.int (iV z)) ∧ P z μ
def qV (P : mMem → Prop) : Option Value → mMem → Prop := fun r μ => r = none ∧ P μ
def qL (P : Int64 → mMem → Prop) : Option Value → mMem → Prop := fun r μ => ∃ z : Int64, r = some (.long z) ∧ P z μ
def qR (P : Nat → mMem → Prop) : Option Value → mMem → Prop := fun r μ => ∃ k : Nat, r = some (.ref k) ∧ P k μ
/-- the locals that a method begins with -/
def mEn : List Value → List (Option Value)
  | [] => []
  | v :: t => if v.category = 2 then some v :: none :: mEn t else some v :: mEn t
theorem mEn_args (G : mG) : ∀ (as : List Value) (n i : Nat) (v : Value) (t : List (Option Value)), (∀ o ∈ t, o = none) → (mEn as ++ t)[i]? = some (some v) → (n + i, cv G v) ∈ lv_args n (as.map (cv G))
  | [], n, i, v, t, ht, h => by
    rw [mEn, List.nil_append] at h
    exact absurd (ht _ (List.mem_of_getElem? h)) (by simp)
  | a :: as, n, i, v, t, ht, h => by
    show (n + i, cv G v) ∈ (n, cv G a) :: lv_args (if (cv G a).category = 2 then n + 2 else n + 1) (as.map (cv G))
    rw [cv_cat]
    by_cases hc : a.category = 2
    · rw [mEn, if_pos hc] at h
      rw [if_pos hc]
      match i, h with
      | 0, h => cases h; exact List.mem_cons_self
      | 1, h => cases h
      | i + 2, h =>
        have := mEn_args G as (n + 2) i v t ht h
        rw [show n + (i + 2) = n + 2 + i by omega]
        exact List.mem_cons_of_mem _ this
    · rw [mEn, if_neg hc] at h
      rw [if_neg hc]
      match i, h with
      | 0, h => cases h; exact List.mem_cons_self
      | i + 1, h =>
        have := mEn_args G as (n + 1) i v t ht h
        rw [show n + (i + 1) = n + 1 + i by omega]
        exact List.mem_cons_of_mem _ this
theorem met_ofWF {l : Launch} {y : MethodName} {ws ws' : List Cond} {rm : Room} {Pc : Array Value → State → Prop} {Qc : Array Value → State → Outcome → State → Prop} {mc ms : Nat} {free : Addr → Prop} {cc : ByteArray} {maxL : Nat} {ret : Option FieldType}
    (hy : plainFor y = true) (hw : ws = Cond.code y cc maxL ret :: ws')
    (body : ∀ p e s m args below meth c s₁, BodyLoose p l y (headSpec ws rm) cc maxL ret e s m args below meth c s₁ → c.maxLocals = maxL → Pc args s →
      W p l e (headSpec ws rm).room s m args below meth c s.heap [] 0 0 (MQ below Qc args s mc ms free) (entryFrame m args maxL)) : Met l y ws rm Pc Qc mc ms free := by
  refine MetFree.of_bodySF (code := cc) (maxLocals := maxL) (ret := ret) hy ?_ ?_
  · intro args s m h hn
    obtain ⟨meth, c, h1, h2, h3, h4, h5, h6, -, -⟩ := Cond.code_spec hn (atoms_spec (ws := ws) h _ (by rw [hw]; exact List.mem_cons_self))
    exact ⟨meth, c, h1, h2, h3, h4, h5, h6⟩
  · intro p e s m args below meth c s₁ B hml hP _
    have hh0 : s₁.heap = s.heap := by rw [B.state]; rfl
    obtain ⟨t, a1, o, b1, b2, b3⟩ := body p e s m args below meth c s₁ B hml hP s₁ hh0 (Stand.of_body B)
    exact ⟨t, o, a1, b1, b2, ⟨b3.1, b3.2⟩⟩
theorem mM.of {G : mG} {y : MethodName} {cc : ByteArray} {nL : Nat} {rt : Option FieldType} {d : Nat} {as : List Value} {μ : mMem} {Q : Option Value → mMem → Prop} (t : Nat) (hy : plainFor y = true) (hn : (lg_sl (as.map (cv G))).length ≤ nL) {lv : List (Option Value)} (hlv : mEn as ++ List.replicate t none = lv)
    (h : ∀ X : mX, mW X cc nL rt y.cls d G Q 0 lv [] μ) : mM G y cc nL rt d as μ Q := by
  refine met_ofWF (cc := cc) (maxL := nL) (ret := rt) hy rfl ?_
  intro p e s m args below meth c s₁ B hml hv
  obtain ⟨rfl, hE, hH⟩ := hv
  have hts := atoms_spec (ws := Cond.code y cc nL rt :: mTb) B.pre
  have hown : s.vm.findClass y.cls = some m.cls := findClass_of_methodNamed B.named
  have hl := lv_entry (as.map (cv G)) (n := nL) hn
  rw [lg_entry_eq]
  refine h (p, e, _, s, m, _, below, meth, c) ⟨B.exec, B.bytes, hml, B.returns, hown, B.notSynchronized, rfl, fun w hw => hts w (List.mem_cons_of_mem _ hw), hE⟩ s.heap [] _ hH va_S.rf ⟨hl.1, hl.2.1, fun i v hi => ?_⟩
  subst hlv
  have h1 := mEn_args G as 0 i v _ (fun o ho => List.eq_of_mem_replicate ho) hi
  rw [Nat.zero_add] at h1
  exact hl.2.2 _ h1
theorem mM.mono {G : mG} {y : MethodName} {cc : ByteArray} {nL : Nat} {rt : Option FieldType} {d : Nat} {as : List Value} {μ : mMem} {Q Q' : Option Value → mMem → Prop} (h : mM G y cc nL rt d as μ Q) (hq : ∀ r μ', Q r μ' → Q' r μ') : mM G y cc nL rt d as μ Q' := by
  intro p e ha hc hk s m args below hf hap hP hT
  obtain ⟨t, o, h1, h2, h3, ⟨⟨⟨r, μ', h4, h5, h6⟩, h7⟩, h8⟩⟩ := h p e ha hc hk s m args below hf hap hP hT
  exact ⟨t, o, h1, h2, h3, ⟨⟨r, μ', h4, hq _ _ h5, h6⟩, h7⟩, h8⟩
/-- a method of an object, a static one: what a call of it asks of the tables -/
def sMv (y : MethodName) (cc : ByteArray) (nL : Nat) (rt : Option FieldType) (n : Nat) : Prop := Cond.instanceMethod y ∈ mTb ∧ Cond.selects y.cls y y ∈ mTb ∧ Cond.initialized y.cls ∈ mTb ∧ Cond.code y cc nL rt ∈ mTb ∧ y.cls ≠ "java/lang/invoke/MethodHandle" ∧ y.cls ≠ "java/lang/invoke/VarHandle" ∧ (parseMethodDescriptor y.desc).map (fun d => d.parameters.length) = some n
def sMs (y : MethodName) (cc : ByteArray) (nL : Nat) (rt : Option FieldType) (n : Nat) : Prop := Cond.static y ∈ mTb ∧ Cond.initialized y.cls ∈ mTb ∧ Cond.code y cc nL rt ∈ mTb ∧ y.cls ≠ "java/lang/invoke/MethodHandle" ∧ y.cls ≠ "java/lang/invoke/VarHandle" ∧ (parseMethodDescriptor y.desc).map (fun d => d.parameters.length) = some n
theorem goodIn_cons {c : Cond} (h : c ∈ mTb) : GoodIn mTb (c :: mTb) := fun w hw => (List.mem_cons.mp hw).elim (fun e => ⟨by rw [e]; exact h, mTb_good w (by rw [e]; exact h)⟩) (fun h => ⟨h, mTb_good w h⟩)
theorem mBlind {G : mG} {as : List Value} {μ : mMem} : FrameBlind (fun v U => v = (as.map (cv G)).toArray ∧ mEnv G U ∧ mH G μ U.heap) := fun a U g mk h => ⟨h.1, mEnv.same (s := U) (U := U.calling g mk a) rfl rfl h.2.1, h.2.2⟩
section MINIH
variable {X : mX} {cc : ByteArray} {nL : Nat} {rt : Option FieldType} {own : String} {d : Nat} {G : mG} {Q : Option Value → mMem → Prop} {pc : Nat} {lv : List (Option Value)} {st : List Value} {μ : mMem}
theorem mw_getV {idx ci j k : Nat} (hd : decode cc pc = .ok (.getfield idx, 3)) (hs : sG own idx ci j) (hk : mCls k = ci) {v : Value} (hv : cv G v = if mIsR ci j = true then .ref (G.1 (mRf k j)) else .int (iV (μ.1 k (j : Int)))) (kk : mW X cc nL rt own d G Q (pc + 3) lv (v :: st) μ) : mW X cc nL rt own d G Q pc lv (.ref k :: st) μ := by
  obtain ⟨p, e, R, s, m, args, below, meth, c⟩ := X
  intro hC H locs ls hP hS hl
  have hx := hC.1
  have hb := hC.2.1
  have hown := hC.2.2.2.2.1
  have hts := hC.2.2.2.2.2.2.2.1
  have hE := hC.2.2.2.2.2.2.2.2
  obtain ⟨C, T, N, ⟨hc, hin, ⟨ty, hty⟩, hnm, hN, hc8⟩, hj, hlk⟩ := hs
  have hk72 := mCls_lt hk (by omega)
  have he : (mWs G μ)[k]? = some (G.1 k, .inr (ci, mFs G μ k ci)) := by rw [mWs_get G μ hk72, mE_obj hk hc8]
  have hf : (mFs G μ k ci)[j]? = some (cv G v) := by rw [mFs_get (by omega), hv]
  rcases hlk with h | ⟨host, h⟩
  · exact va_get hx hb hts hin hown hE.1 hP k he hc j hj (hts _ h) (fun _ h9 => h9) hf hd (kk hC H locs ls hP hS hl)
  · exact va_getN hx hb hts hin hown hE.1 hP k he hc j hj (va_Nw.use rfl (hE.2.2.2 _ h)) (fun _ h9 => h9) hf hd (kk hC H locs ls hP hS hl)
theorem mw_getI {idx ci j k : Nat} (z : Int) (hd : decode cc pc = .ok (.getfield idx, 3)) (hs : sG own idx ci j) (hk : mCls k = ci) (hr : mIsR ci j = false) (hz : (j : Int) = z) (kk : mW X cc nL rt own d G Q (pc + 3) lv (.int (iV (μ.1 k z)) :: st) μ) : mW X cc nL rt own d G Q pc lv (.ref k :: st) μ :=
  mw_getV hd hs hk (v := .int (iV (μ.1 k z))) (by rw [hr, hz]; rfl) kk
theorem mw_getR {idx ci j k : Nat} (q : Nat) (hd : decode cc pc = .ok (.getfield idx, 3)) (hs : sG own idx ci j) (hk : mCls k = ci) (hr : mIsR ci j = true) (hz : mRf k j = q) (kk : mW X cc nL rt own d G Q (pc + 3) lv (.ref q :: st) μ) : mW X cc nL rt own d G Q pc lv (.ref k :: st) μ :=
  mw_getV hd hs hk (v := .ref q) (by rw [hr, hz]; rfl) kk
theorem mw_putV {idx ci j k : Nat} {v : Int} {ty : FieldType} (z : Int) (hd : decode cc pc = .ok (.putfield idx, 3)) (hs : sP own idx ci j ty) (hk : mCls k = ci) (hr : mIsR ci j = false) (hz : (j : Int) = z) (hn : narrow ty (.int (iV v)) = .int (iV v)) (hfit : fits ty (.int (iV v)) = true) (kk : mW X cc nL rt own d G Q (pc + 3) lv st (u1 μ k z v)) : mW X cc nL rt own d G Q pc lv (.int (iV v) :: .ref k :: st) μ := by
  obtain ⟨p, e, R, s, m, args, below, meth, c⟩ := X
  intro hC H locs ls hP hS hl
  have hx := hC.1
  have hb := hC.2.1
  have hown := hC.2.2.2.2.1
  have hts := hC.2.2.2.2.2.2.2.1
  have hE := hC.2.2.2.2.2.2.2.2
  obtain ⟨C, T, N, ⟨hc, hin, ⟨ty0, hty⟩, hnm, hN, hc8⟩, hj, hlk, hfin, hpd⟩ := hs
  have hk72 := mCls_lt hk (by omega)
  have he : (mWs G μ)[k]? = some (G.1 k, .inr (ci, mFs G μ k ci)) := by rw [mWs_get G μ hk72, mE_obj hk hc8]
  have hset : (mWs G μ).set k (G.1 k, .inr (ci, (mFs G μ k ci).set j (.int (iV v)))) = mWs G (u1 μ k z v) := by
    subst hz
    exact mWs_set hk72 (by rw [mE_obj hk hc8, mFs_set hr]) (fun j hj => mE_o hj)
  have hkk : ∀ (H1 : Heap) (locs1 : List Loc), va_P G.2.1 vwCl ((mWs G μ).set k (G.1 k, .inr (ci, (mFs G μ k ci).set j (.int (iV v))))) H1 → va_D (mA G) ((mWs G μ).set k (G.1 k, .inr (ci, (mFs G μ k ci).set j (.int (iV v))))) → va_S (mA G) s.heap H1 locs1 → W p G.2.2.2.2 e R s m args below meth c H1 locs1 0 0 (MQ below (mQ G Q) args s 0 0 (mA G)) (F0 m (pc + 3) ls (st.map (cv G))) := by
    intro H1 locs1 h1 _ h3
    rw [hset] at h1
    exact kk hC H1 locs1 ls h1 h3 hl
  rcases hlk with h | ⟨host, h⟩
  · exact va_put hx hb hts hin ty0 hty hnm hown hE.1 hP (mD μ hE.2.1) hS k he hc j hj (hts _ h) (fun _ h9 => h9) hfin hpd hn hfit (by rw [mFs_len]; omega) hd hkk
  · exact va_putN hx hb hts hin ty0 hty hnm hown hE.1 hP (mD μ hE.2.1) hS k he hc j hj (va_Nw.use rfl (hE.2.2.2 _ h)) (fun _ h9 => h9) hfin hpd hn hfit (by rw [mFs_len]; omega) hd hkk
theorem mw_putI {idx ci j k : Nat} {v : Int} (z : Int) (hd : decode cc pc = .ok (.putfield idx, 3)) (hs : sP own idx ci j .int) (hk : mCls k = ci) (hr : mIsR ci j = false) (hz : (j : Int) = z) (kk : mW X cc nL rt own d G Q (pc + 3) lv st (u1 μ k z v)) : mW X cc nL rt own d G Q pc lv (.int (iV v) :: .ref k :: st) μ :=
  mw_putV z hd hs hk hr hz rfl rfl kk
theorem mw_putZ {idx ci j k : Nat} {v : Int} (z : Int) (hd : decode cc pc = .ok (.putfield idx, 3)) (hs : sP own idx ci j .boolean) (hk : mCls k = ci) (hr : mIsR ci j = false) (hz : (j : Int) = z) (hv : v = 0 ∨ v = 1) (kk : mW X cc nL rt own d G Q (pc + 3) lv st (u1 μ k z v)) : mW X cc nL rt own d G Q pc lv (.int (iV v) :: .ref k :: st) μ :=
  mw_putV z hd hs hk hr hz (by rcases hv with rfl | rfl <;> decide +kernel) (by rcases hv with rfl | rfl <;> decide +kernel) kk
theorem mw_iald {k : Nat} {z : Int} (n : Nat) (hd : decode cc pc = .ok (.iaload, 1)) (hk : mCls k = 8) (hn : mLen k = n) (hb : 0 ≤ z ∧ z < n) (kk : mW X cc nL rt own d G Q (pc + 1) lv (.int (iV (μ.1 k z)) :: st) μ) : mW X cc nL rt own d G Q pc lv (.int (iV z) :: .ref k :: st) μ := by
  obtain ⟨p, e, R, s, m, args, below, meth, c⟩ := X
  intro hC H locs ls hP hS hl
  have hE := hC.2.2.2.2.2.2.2.2
  have hk72 := mCls_lt hk (by omega)
  have hle := mLen_le k
  have he : (mWs G μ)[k]? = some (G.1 k, .inl (G.2.2.1 0, mLen k, .inl (fun j => iV (μ.1 k (j : Int))))) := by rw [mWs_get G μ hk72, mE_int hk]
  refine va_iald hC.1 hC.2.1 hE.1 hP k 0 he rfl (iV_in (by omega) (by omega)) hd ?_
  rw [iV_clamp (by omega), show ((z.toNat : Nat) : Int) = z by omega]
  exact kk hC H locs ls hP hS hl
theorem mw_lald {k : Nat} {z : Int} (n : Nat) (hd : decode cc pc = .ok (.laload, 1)) (hk : mCls k = 9) (hn : mLen k = n) (hb : 0 ≤ z ∧ z < n) (kk : mW X cc nL rt own d G Q (pc + 1) lv (.long (μ.2 k z) :: st) μ) : mW X cc nL rt own d G Q pc lv (.int (iV z) :: .ref k :: st) μ := by
  obtain ⟨p, e, R, s, m, args, below, meth, c⟩ := X
  intro hC H locs ls hP hS hl
  have hE := hC.2.2.2.2.2.2.2.2
  have hk72 := mCls_lt hk (by omega)
  have hle := mLen_le k
  have he : (mWs G μ)[k]? = some (G.1 k, .inl (G.2.2.1 1, mLen k, .inr (.inl (fun j => μ.2 k (j : Int))))) := by rw [mWs_get G μ hk72, mE_lng hk]
  refine va_lald hC.1 hC.2.1 hE.1 hP k 1 he rfl (iV_in (by omega) (by omega)) hd ?_
  rw [iV_clamp (by omega), show ((z.toNat : Nat) : Int) = z by omega]
  exact kk hC H locs ls hP hS hl
theorem mw_aald {k : Nat} {z : Int} (ci n q : Nat) (hd : decode cc pc = .ok (.aaload, 1)) (hk : mCls k = ci) (hci : 10 ≤ ci ∧ ci ≤ 12) (hn : mLen k = n) (hb : 0 ≤ z ∧ z < n) (hq : mRf k z.toNat = q) (kk : mW X cc nL rt own d G Q (pc + 1) lv (.ref q :: st) μ) : mW X cc nL rt own d G Q pc lv (.int (iV z) :: .ref k :: st) μ := by
  obtain ⟨p, e, R, s, m, args, below, meth, c⟩ := X
  intro hC H locs ls hP hS hl
  have hE := hC.2.2.2.2.2.2.2.2
  have hk72 := mCls_lt hk (by omega)
  have hle := mLen_le k
  have he : (mWs G μ)[k]? = some (G.1 k, .inl (G.2.2.1 (ci - 8), mLen k, .inr (.inr (.inr (.inr (fun j => some (G.1 (mRf k j)))))))) := by rw [mWs_get G μ hk72, mE_ref hk hci.1]
  have kk' : W p G.2.2.2.2 e R s m args below meth c H locs 0 0 (MQ below (mQ G Q) args s 0 0 (mA G)) (F0 m (pc + 1) ls (va_rf ((fun j => some (G.1 (mRf k j))) (iV z).toNatClampNeg) :: st.map (cv G))) := by
    rw [iV_clamp (by omega)]
    show W p G.2.2.2.2 e R s m args below meth c H locs 0 0 _ (F0 m (pc + 1) ls (.ref (G.1 (mRf k z.toNat)) :: st.map (cv G)))
    rw [hq]
    exact kk hC H locs ls hP hS hl
  have h3 : ci = 10 ∨ ci = 11 ∨ ci = 12 := by omega
  rcases h3 with rfl | rfl | rfl
  · exact va_aldq hC.1 hC.2.1 hE.1 hP k 2 he rfl (iV_in (by omega) (by omega)) hd kk'
  · exact va_aldq hC.1 hC.2.1 hE.1 hP k 3 he rfl (iV_in (by omega) (by omega)) hd kk'
  · exact va_aldq hC.1 hC.2.1 hE.1 hP k 4 he rfl (iV_in (by omega) (by omega)) hd kk'
theorem mw_iast {k : Nat} {z v : Int} (n : Nat) (hd : decode cc pc = .ok (.iastore, 1)) (hk : mCls k = 8) (hn : mLen k = n) (hb : 0 ≤ z ∧ z < n) (kk : mW X cc nL rt own d G Q (pc + 1) lv st (u1 μ k z v)) : mW X cc nL rt own d G Q pc lv (.int (iV v) :: .int (iV z) :: .ref k :: st) μ := by
  obtain ⟨p, e, R, s, m, args, below, meth, c⟩ := X
  intro hC H locs ls hP hS hl
  have hE := hC.2.2.2.2.2.2.2.2
  have hk72 := mCls_lt hk (by omega)
  have hle := mLen_le k
  have he : (mWs G μ)[k]? = some (G.1 k, .inl (G.2.2.1 0, mLen k, .inl (fun j => iV (μ.1 k (j : Int))))) := by rw [mWs_get G μ hk72, mE_int hk]
  refine va_iast hC.1 hC.2.1 hE.1 hP (mD μ hE.2.1) hS k 0 he rfl (iV_in (by omega) (by omega)) hd (fun H1 locs1 h1 _ h3 => kk hC H1 locs1 ls ?_ h3 hl)
  rw [mWs_set (μ' := u1 μ k z v) hk72 _ (fun j hj => mE_o hj)] at h1
  · exact h1
  · rw [mE_int hk]
    congr 4
    funext j
    rw [iV_clamp (by omega)]
    by_cases hj : j = z.toNat
    · subst hj
      rw [show ((z.toNat : Nat) : Int) = z by omega, u1_s]
      simp [upd]
    · rw [u1_o (by omega)]
      simp [upd, hj]
theorem mw_last {k : Nat} {z : Int} {v : Int64} (n : Nat) (hd : decode cc pc = .ok (.lastore, 1)) (hk : mCls k = 9) (hn : mLen k = n) (hb : 0 ≤ z ∧ z < n) (kk : mW X cc nL rt own d G Q (pc + 1) lv st (u2 μ k z v)) : mW X cc nL rt own d G Q pc lv (.long v :: .int (iV z) :: .ref k :: st) μ := by
  obtain ⟨p, e, R, s, m, args, below, meth, c⟩ := X
  intro hC H locs ls hP hS hl
  have hE := hC.2.2.2.2.2.2.2.2
  have hk72 := mCls_lt hk (by omega)
  have hle := mLen_le k
  have he : (mWs G μ)[k]? = some (G.1 k, .inl (G.2.2.1 1, mLen k, .inr (.inl (fun j => μ.2 k (j : Int))))) := by rw [mWs_get G μ hk72, mE_lng hk]
  refine va_last hC.1 hC.2.1 hE.1 hP (mD μ hE.2.1) hS k 1 he rfl (iV_in (by omega) (by omega)) hd (fun H1 locs1 h1 _ h3 => kk hC H1 locs1 ls ?_ h3 hl)
  rw [mWs_set (μ' := u2 μ k z v) hk72 _ (fun j hj => mE_2o hj)] at h1
  · exact h1
  · rw [mE_lng hk]
    congr 5
    funext j
    rw [iV_clamp (by omega)]
    by_cases hj : j = z.toNat
    · subst hj
      rw [show ((z.toNat : Nat) : Int) = z by omega, u2_s]
      simp [vp_updL]
    · rw [u2_o (by omega)]
      simp [vp_updL, hj]
theorem mw_alen {k : Nat} (n : Nat) (hd : decode cc pc = .ok (.arraylength, 1)) (hk : 8 ≤ mCls k ∧ mCls k ≤ 12) (hn : mLen k = n) (kk : mW X cc nL rt own d G Q (pc + 1) lv (.int (iV (n : Int)) :: st) μ) : mW X cc nL rt own d G Q pc lv (.ref k :: st) μ := by
  obtain ⟨p, e, R, s, m, args, below, meth, c⟩ := X
  intro hC H locs ls hP hS hl
  have hE := hC.2.2.2.2.2.2.2.2
  have hk72 := mCls_lt (k := k) rfl (by omega)
  have hv : Int32.ofNat (mLen k) = iV (n : Int) := by rw [iV_nat, hn]; rfl
  have h5 : mCls k = 8 ∨ mCls k = 9 ∨ mCls k = 10 ∨ mCls k = 11 ∨ mCls k = 12 := by omega
  rcases h5 with h | h | h | h | h
  · exact va_alen hC.1 hC.2.1 hE.1 hP k 0 (by rw [mWs_get G μ hk72, mE_int h]) rfl hv hd (kk hC H locs ls hP hS hl)
  · exact va_alen hC.1 hC.2.1 hE.1 hP k 1 (by rw [mWs_get G μ hk72, mE_lng h]) rfl hv hd (kk hC H locs ls hP hS hl)
  · exact va_alen hC.1 hC.2.1 hE.1 hP k 2 (by rw [mWs_get G μ hk72, mE_ref h (by omega)]) rfl hv hd (kk hC H locs ls hP hS hl)
  · exact va_alen hC.1 hC.2.1 hE.1 hP k 3 (by rw [mWs_get G μ hk72, mE_ref h (by omega)]) rfl hv hd (kk hC H locs ls hP hS hl)
  · exact va_alen hC.1 hC.2.1 hE.1 hP k 4 (by rw [mWs_get G μ hk72, mE_ref h (by omega)]) rfl hv hd (kk hC H locs ls hP hS hl)
/-- behind a call -/
theorem mw_back {p : Program} {e : Env} {R : Room} {s : State} {m : MethodId} {args : Array Value} {below : List Frame} {meth : Method} {c : Code} {H : Heap} {locs : List Loc} {ls : Array Slot} {st0 rest : List Value} {a : Array Value} {Q' : Option Value → mMem → Prop}
    (hr : va_Run p G.2.2.2.2 e R s m args below meth c H locs 0 0 0 0 (F0 m pc ls st0) (rest.map (cv G)) (mQ G Q' a) (mA G)) (hS : va_S (mA G) s.heap H locs)
    (kk : ∀ (r : Option Value) (μ' : mMem) (H1 : Heap) (locs1 : List Loc), Q' r μ' → mH G μ' H1 → va_S (mA G) s.heap H1 locs1 → W p G.2.2.2.2 e R s m args below meth c H1 locs1 0 0 (MQ below (mQ G Q) args s 0 0 (mA G)) (F0 m (pc + 3) ls ((r.toList ++ rest).map (cv G)))) :
    W p G.2.2.2.2 e R s m args below meth c H locs 0 0 (MQ below (mQ G Q) args s 0 0 (mA G)) (F0 m pc ls st0) := by
  intro T hT X
  obtain ⟨v, st₀, t, T', L, h0, X', hL, e1, e2, ⟨⟨r, μ', hv, hq, hH⟩, hz, hk⟩, stp⟩ := hr T hT X
  cases hv
  rw [h0] at hz hk
  obtain ⟨t2, a1, b1⟩ := kk r μ' T'.heap (locs ++ L) hq (by rw [e1]; exact hH)
    ⟨Nat.le_trans hS.1 (by rw [e1]; exact hz), fun q h1 h2 => by rw [e1, hk q (Nat.lt_of_lt_of_le h1 hS.1) h2]; exact hS.2.1 q h1 h2, fun q hq => by
      rcases List.mem_append.mp hq with h | h
      · exact hS.2.2 q h
      · exact hL q h⟩ T' rfl X'
  refine ⟨t2, stp t2 ?_, b1⟩
  have e3 : (r.toList ++ rest).map (cv G) = (r.map (cv G)).toList ++ rest.map (cv G) := by cases r <;> rfl
  rw [e3] at a1
  exact a1
theorem mw_cat (G : mG) (st : List Value) : (List.map (cv G) st).map (fun v => v.category) = st.map (fun v => v.category) := by
  rw [List.map_map]
  apply List.map_congr_left
  intro v _
  exact cv_cat G v
theorem mw_callV {idx : Nat} {y : MethodName} {cc' : ByteArray} {nL' : Nat} {rt' : Option FieldType} {d' n : Nat} {k : Nat} {as rest : List Value} {Q' : Option Value → mMem → Prop} (hd : decode cc pc = .ok (.invokevirtual idx, 3)) (hw : Cond.methodLink own idx y ∈ mTb) (hs : sMv y cc' nL' rt' n) (hD : d' + 1 ≤ d ∧ 8 + (nL' + 11) + 37 * d' ≤ 37 * d) (hM : mM G y cc' nL' rt' d' (.ref k :: as) μ Q') {ci : Nat} {T : u_T} {N : Nat} (hk : mCls k = ci) (hci : ci < 8) (hc : vwCl[ci]? = some (y.cls, T, N)) (hn : as.length = n) (hst : as.reverse ++ .ref k :: rest = st) (hr : (rest.map fun v => v.category).sum ≤ 8)
    (kk : ∀ (r : Option Value) (μ' : mMem), Q' r μ' → mW X cc nL rt own d G Q (pc + 3) lv (r.toList ++ rest) μ') : mW X cc nL rt own d G Q pc lv st μ := by
  obtain ⟨p, e, R, s, m, args, below, meth, c⟩ := X
  intro hC H locs ls hP hS hl
  obtain ⟨hx, hb, hml, hrt, hown, hlocks, rfl, hts, hE⟩ := id hC
  subst hst
  obtain ⟨g1, g2, g3, g4, g5, g6, g7⟩ := hs
  have hk72 := mCls_lt hk (by omega)
  have he : (mWs G μ)[k]? = some (G.1 k, .inr (ci, mFs G μ k ci)) := by rw [mWs_get G μ hk72, mE_obj hk hci]
  have hcb : CallB (mRm d) s args own idx y cc' nL' rt' (Cond.code y cc' nL' rt' :: mTb) (mRm d') 0 0 n := callB_of n hts (goodIn_cons g4) rfl rfl rfl (hts _ g3) (hts _ hw) ⟨g5, g6, g7⟩ hD
  refine mw_back (rest := rest) (va_runV (As := as.map (cv G)) (rest := rest.map (cv G)) (b := G.1 k) (C := y.cls) ⟨hx, hb, hml, hown, hts⟩ hM ⟨hcb, hts _ g1, hts _ g2⟩ ⟨mBlind, va_recv hE.1 hP hc he, fun U hU hW => ⟨rfl, hE.moved hW (fun a h1 h2 => by rw [hU]; exact hS.2.1 a h1 h2), by rw [hU]; exact hP⟩⟩ rfl (by rw [List.length_map]; exact hn) hl.1 ?_ ?_ hd ⟨Nat.le_refl 0, Nat.le_refl 0⟩) hS (fun r μ' H1 locs1 hq hH hS1 => kk r μ' hq hC H1 locs1 ls hH hS1 hl)
  · show List.map (cv G) (as.reverse ++ .ref k :: rest) = _
    rw [List.map_append, List.map_reverse]
    rfl
  · exact lv_room (by rw [mw_cat]; exact hr)
theorem mw_callS {idx : Nat} {y : MethodName} {cc' : ByteArray} {nL' : Nat} {rt' : Option FieldType} {d' n : Nat} {as rest : List Value} {Q' : Option Value → mMem → Prop} (hd : decode cc pc = .ok (.invokestatic idx, 3)) (hw : Cond.methodLink own idx y ∈ mTb) (hs : sMs y cc' nL' rt' n) (hD : d' + 1 ≤ d ∧ 8 + (nL' + 11) + 37 * d' ≤ 37 * d) (hM : mM G y cc' nL' rt' d' as μ Q') (hn : as.length = n) (hst : as.reverse ++ rest = st) (hr : (rest.map fun v => v.category).sum ≤ 8)
    (kk : ∀ (r : Option Value) (μ' : mMem), Q' r μ' → mW X cc nL rt own d G Q (pc + 3) lv (r.toList ++ rest) μ') : mW X cc nL rt own d G Q pc lv st μ := by
  obtain ⟨p, e, R, s, m, args, below, meth, c⟩ := X
  intro hC H locs ls hP hS hl
  obtain ⟨hx, hb, hml, hrt, hown, hlocks, rfl, hts, hE⟩ := id hC
  subst hst
  obtain ⟨g1, g3, g4, g5, g6, g7⟩ := hs
  have hcb : CallB (mRm d) s args own idx y cc' nL' rt' (Cond.code y cc' nL' rt' :: mTb) (mRm d') 0 0 n := callB_of n hts (goodIn_cons g4) rfl rfl rfl (hts _ g3) (hts _ hw) ⟨g5, g6, g7⟩ hD
  refine mw_back (rest := rest) (va_runS (As := as.map (cv G)) (rest := rest.map (cv G)) ⟨hx, hb, hml, hown, hts⟩ hM ⟨hcb, hts _ g1⟩ ⟨mBlind, fun U hU hW => ⟨rfl, hE.moved hW (fun a h1 h2 => by rw [hU]; exact hS.2.1 a h1 h2), by rw [hU]; exact hP⟩⟩ rfl (by rw [List.length_map]; exact hn) hl.1 ?_ ?_ hd ⟨Nat.le_refl 0, Nat.le_refl 0⟩) hS (fun r μ' H1 locs1 hq hH hS1 => kk r μ' hq hC H1 locs1 ls hH hS1 hl)
  · show List.map (cv G) (as.reverse ++ rest) = _
    rw [List.map_append, List.map_reverse]
  · exact lv_room (by rw [mw_cat]; exact hr)
end MINIH

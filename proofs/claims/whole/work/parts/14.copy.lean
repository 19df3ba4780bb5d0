theorem ac_nat : Cond.native arraycopyName ∈ mTb := mTb_in (List.mem_of_getElem? (i := 468) (by decide +kernel)) rfl
theorem ac_sta : Cond.static arraycopyName ∈ mTb := mTb_in (List.mem_of_getElem? (i := 467) (by decide +kernel)) rfl
theorem ac_ini : Cond.initialized "java/lang/System" ∈ mTb := mTb_in (List.mem_of_getElem? (i := 72) (by decide +kernel)) rfl
theorem ac_X5_19 : Cond.methodLink RX5 19 arraycopyName ∈ mTb := mTb_in (List.mem_of_getElem? (i := 466) (by decide +kernel)) rfl
theorem ac_X6_253 : Cond.methodLink RX6 253 arraycopyName ∈ mTb := mTb_in (List.mem_of_getElem? (i := 718) (by decide +kernel)) rfl
def cpm (μ : mMem) (k0 : Nat) (sp : Int) (k1 : Nat) (dp n : Int) : mMem := (fun c j => if c = k1 ∧ dp ≤ j ∧ j < dp + n then μ.1 k0 (sp + (j - dp)) else μ.1 c j, μ.2)
def cpm2 (μ : mMem) (k0 : Nat) (sp : Int) (k1 : Nat) (dp n : Int) : mMem := (μ.1, fun c j => if c = k1 ∧ dp ≤ j ∧ j < dp + n then μ.2 k0 (sp + (j - dp)) else μ.2 c j)
theorem mE_cpo {G : mG} {μ : mMem} {k0 k1 k' : Nat} {sp dp n : Int} (h : k' ≠ k1) : mE G (cpm μ k0 sp k1 dp n) k' = mE G μ k' := by
  have e0 : (cpm μ k0 sp k1 dp n).1 k' = μ.1 k' := by
    funext j
    simp [cpm, h]
  unfold mE mFs
  rw [e0]
  rfl
theorem mE_cpo2 {G : mG} {μ : mMem} {k0 k1 k' : Nat} {sp dp n : Int} (h : k' ≠ k1) : mE G (cpm2 μ k0 sp k1 dp n) k' = mE G μ k' := by
  have e0 : (cpm2 μ k0 sp k1 dp n).2 k' = μ.2 k' := by
    funext j
    simp [cpm2, h]
  unfold mE
  rw [e0]
  rfl
section COPY
variable {X : mX} {cc : ByteArray} {nL : Nat} {rt : Option FieldType} {own : String} {d : Nat} {G : mG} {Q : Option Value → mMem → Prop} {pc : Nat} {lv : List (Option Value)} {st : List Value} {μ : mMem}
theorem nlt0 {z : Int} (h : 0 ≤ z ∧ z ≤ 2147483647) : ¬ iV z < 0 := by
  rw [← iV_0, iV_lt (by omega) (by omega)]
  omega
theorem mw_copyi {idx k0 k1 : Nat} {sp dp n : Int} (n0 n1 : Nat) (hd : decode cc pc = .ok (.invokestatic idx, 3)) (hw : Cond.methodLink own idx arraycopyName ∈ mTb) (h0 : mCls k0 = 8) (h1 : mCls k1 = 8) (e0 : mLen k0 = n0) (e1 : mLen k1 = n1) (hb : 0 ≤ sp ∧ 0 ≤ dp ∧ 0 ≤ n ∧ sp + n ≤ n0 ∧ dp + n ≤ n1) (hf : 1 ≤ d) (hL : (st.map fun v => v.category).sum + (nativeFrameWords "java/lang/System" "arraycopy" 5 + 11) ≤ 37 * d)
    (kk : mW X cc nL rt own d G Q (pc + 3) lv st (cpm μ k0 sp k1 dp n)) : mW X cc nL rt own d G Q pc lv (.int (iV n) :: .int (iV dp) :: .ref k1 :: .int (iV sp) :: .ref k0 :: st) μ := by
  obtain ⟨p, e, R, s, m, args, below, meth, c⟩ := X
  intro hC H locs ls hP hS hl
  obtain ⟨hx, hb', hml, hrt, hown, hlocks, rfl, hts, hE⟩ := id hC
  have l0 := mLen_le k0
  have l1 := mLen_le k1
  have k072 := mCls_lt h0 (by omega)
  have k172 := mCls_lt h1 (by omega)
  have a0 : (mWs G μ)[k0]? = some (G.1 k0, .inl (G.2.2.1 0, mLen k0, .inl (fun j => iV (μ.1 k0 (j : Int))))) := by rw [mWs_get G μ k072, mE_int h0]
  have a1 : (mWs G μ)[k1]? = some (G.1 k1, .inl (G.2.2.1 0, mLen k1, .inl (fun j => iV (μ.1 k1 (j : Int))))) := by rw [mWs_get G μ k172, mE_int h1]
  refine va_copyi hx hb' (hml.trans hl.1.symm) hown (hts _ hw) (hts _ ac_nat) (hts _ ac_sta) (hts _ ac_ini) hE.1 hP (mD μ hE.2.1) hS k0 k1 0 0 a0 a1 rfl rfl rfl (nlt0 (by omega)) (nlt0 (by omega)) (nlt0 (by omega)) ?_ ?_ (fun i _ => rfl) hf ?_ hd (fun H1 locs1 q1 _ q3 => kk hC H1 locs1 ls ?_ q3 hl)
  · rw [iV_clamp (by omega), iV_clamp (by omega)]; omega
  · rw [iV_clamp (by omega), iV_clamp (by omega)]; omega
  · have e := mw_cat G st
    show (((List.map (cv G) st).map fun v => v.category).sum + _) ≤ 37 * d
    rw [e]
    exact hL
  · rw [mWs_set (μ' := cpm μ k0 sp k1 dp n) k172 _ (fun j hj => mE_cpo hj)] at q1
    · exact q1
    · rw [mE_int h1]
      congr 4
      funext j
      rw [iV_clamp (by omega), iV_clamp (by omega), iV_clamp (by omega)]
      show iV (if k1 = k1 ∧ dp ≤ (j : Int) ∧ (j : Int) < dp + n then μ.1 k0 (sp + ((j : Int) - dp)) else μ.1 k1 (j : Int)) = if dp.toNat ≤ j ∧ j < dp.toNat + n.toNat then iV (μ.1 k0 ((sp.toNat + (j - dp.toNat) : Nat) : Int)) else iV (μ.1 k1 (j : Int))
      by_cases hj : dp ≤ (j : Int) ∧ (j : Int) < dp + n
      · rw [if_pos ⟨rfl, hj⟩, if_pos (by omega)]
        rw [show ((sp.toNat + (j - dp.toNat) : Nat) : Int) = sp + ((j : Int) - dp) by omega]
      · rw [if_neg (fun q => hj q.2), if_neg (by omega)]
theorem mw_copyl {idx k0 k1 : Nat} {sp dp n : Int} (n0 n1 : Nat) (hd : decode cc pc = .ok (.invokestatic idx, 3)) (hw : Cond.methodLink own idx arraycopyName ∈ mTb) (h0 : mCls k0 = 9) (h1 : mCls k1 = 9) (e0 : mLen k0 = n0) (e1 : mLen k1 = n1) (hb : 0 ≤ sp ∧ 0 ≤ dp ∧ 0 ≤ n ∧ sp + n ≤ n0 ∧ dp + n ≤ n1) (hf : 1 ≤ d) (hL : (st.map fun v => v.category).sum + (nativeFrameWords "java/lang/System" "arraycopy" 5 + 11) ≤ 37 * d)
    (kk : mW X cc nL rt own d G Q (pc + 3) lv st (cpm2 μ k0 sp k1 dp n)) : mW X cc nL rt own d G Q pc lv (.int (iV n) :: .int (iV dp) :: .ref k1 :: .int (iV sp) :: .ref k0 :: st) μ := by
  obtain ⟨p, e, R, s, m, args, below, meth, c⟩ := X
  intro hC H locs ls hP hS hl
  obtain ⟨hx, hb', hml, hrt, hown, hlocks, rfl, hts, hE⟩ := id hC
  have l0 := mLen_le k0
  have l1 := mLen_le k1
  have k072 := mCls_lt h0 (by omega)
  have k172 := mCls_lt h1 (by omega)
  have a0 : (mWs G μ)[k0]? = some (G.1 k0, .inl (G.2.2.1 1, mLen k0, .inr (.inl (fun j => μ.2 k0 (j : Int))))) := by rw [mWs_get G μ k072, mE_lng h0]
  have a1 : (mWs G μ)[k1]? = some (G.1 k1, .inl (G.2.2.1 1, mLen k1, .inr (.inl (fun j => μ.2 k1 (j : Int))))) := by rw [mWs_get G μ k172, mE_lng h1]
  refine va_copyl hx hb' (hml.trans hl.1.symm) hown (hts _ hw) (hts _ ac_nat) (hts _ ac_sta) (hts _ ac_ini) hE.1 hP (mD μ hE.2.1) hS k0 k1 1 1 a0 a1 rfl rfl rfl (nlt0 (by omega)) (nlt0 (by omega)) (nlt0 (by omega)) ?_ ?_ (fun i _ => rfl) hf ?_ hd (fun H1 locs1 q1 _ q3 => kk hC H1 locs1 ls ?_ q3 hl)
  · rw [iV_clamp (by omega), iV_clamp (by omega)]; omega
  · rw [iV_clamp (by omega), iV_clamp (by omega)]; omega
  · have e := mw_cat G st
    show (((List.map (cv G) st).map fun v => v.category).sum + _) ≤ 37 * d
    rw [e]
    exact hL
  · rw [mWs_set (μ' := cpm2 μ k0 sp k1 dp n) k172 _ (fun j hj => mE_cpo2 hj)] at q1
    · exact q1
    · rw [mE_lng h1]
      congr 5
      funext j
      rw [iV_clamp (by omega), iV_clamp (by omega), iV_clamp (by omega)]
      show (if k1 = k1 ∧ dp ≤ (j : Int) ∧ (j : Int) < dp + n then μ.2 k0 (sp + ((j : Int) - dp)) else μ.2 k1 (j : Int)) = if dp.toNat ≤ j ∧ j < dp.toNat + n.toNat then μ.2 k0 ((sp.toNat + (j - dp.toNat) : Nat) : Int) else μ.2 k1 (j : Int)
      by_cases hj : dp ≤ (j : Int) ∧ (j : Int) < dp + n
      · rw [if_pos ⟨rfl, hj⟩, if_pos (by omega)]
        rw [show ((sp.toNat + (j - dp.toNat) : Nat) : Int) = sp + ((j : Int) - dp) by omega]
      · rw [if_neg (fun q => hj q.2), if_neg (by omega)]
end COPY
/-! ===== the words of the document, over rows of numbers ===== -/
def leap (a b : Int) : Int := min (max (a - b) (-(a - b))) (12 - max (a - b) (-(a - b)))
/-- leaps of 4 or more among the first n tones -/
def tens (t : Int → Int) : Nat → Int
  | 0 => 0
  | n + 1 => tens t n + (if 1 ≤ n ∧ 4 ≤ leap (t ((n : Int) - 1)) (t (n : Int)) then 1 else 0)
theorem tens_bd (t : Int → Int) : ∀ n : Nat, 0 ≤ tens t n ∧ tens t n ≤ n
  | 0 => ⟨Int.le_refl 0, Int.le_refl 0⟩
  | n + 1 => by
    have h := tens_bd t n
    rw [tens]
    split <;> omega
theorem tens_congr {t u : Int → Int} : ∀ n : Nat, (∀ i : Int, 0 ≤ i → i < n → t i = u i) → tens t n = tens u n
  | 0, _ => rfl
  | n + 1, h => by
    rw [tens, tens, tens_congr n (fun i h1 h2 => h i h1 (by omega))]
    by_cases hn : 1 ≤ n
    · rw [h ((n : Int) - 1) (by omega) (by omega), h (n : Int) (by omega) (by omega)]
    · rw [if_neg (fun q => hn q.1), if_neg (fun q => hn q.1)]
def tset (t : Int → Int) : Nat → Int
  | 0 => 0
  | n + 1 => bOr (tset t n) (bShl 1 (t (n : Int)))
theorem tset_congr {t u : Int → Int} : ∀ n : Nat, (∀ i : Int, 0 ≤ i → i < n → t i = u i) → tset t n = tset u n
  | 0, _ => rfl
  | n + 1, h => by rw [tset, tset, tset_congr n (fun i h1 h2 => h i h1 (by omega)), h (n : Int) (by omega) (by omega)]
/-- places at which two rows are unlike, among the first n -/
def unlk (t u : Int → Int) (a b : Int) : Nat → Int
  | 0 => 0
  | n + 1 => unlk t u a b n + (if ((n : Int) < a ∧ (n : Int) < b) ∧ t (n : Int) = u (n : Int) then 0 else 1)
theorem unlk_bd (t u : Int → Int) (a b : Int) : ∀ n : Nat, 0 ≤ unlk t u a b n ∧ unlk t u a b n ≤ n
  | 0 => ⟨Int.le_refl 0, Int.le_refl 0⟩
  | n + 1 => by
    have h := unlk_bd t u a b n
    rw [unlk]
    split <;> omega
theorem unlk_congr {t u t' u' : Int → Int} {a b : Int} : ∀ n : Nat, (∀ i : Int, 0 ≤ i → i < n → i < a → i < b → t i = t' i ∧ u i = u' i) → unlk t u a b n = unlk t' u' a b n
  | 0, _ => rfl
  | n + 1, h => by
    rw [unlk, unlk, unlk_congr n (fun i h1 h2 h3 h4 => h i h1 (by omega) h3 h4)]
    by_cases hn : (n : Int) < a ∧ (n : Int) < b
    · obtain ⟨e1, e2⟩ := h (n : Int) (by omega) (by omega) hn.1 hn.2
      rw [e1, e2]
    · rw [if_neg (fun q => hn q.1), if_neg (fun q => hn q.1)]
theorem unlk_far {t u : Int → Int} {a b : Int} {n : Nat} (hn : min a b ≤ n) : ∀ k : Nat, unlk t u a b (n + k) = unlk t u a b n + k
  | 0 => (Int.add_zero _).symm
  | k + 1 => by
    rw [show n + (k + 1) = (n + k) + 1 from rfl, unlk, unlk_far hn k, if_neg (by omega)]
    omega
theorem unlk_sym {t u : Int → Int} {a b : Int} : ∀ n : Nat, unlk t u a b n = unlk u t b a n
  | 0 => rfl
  | n + 1 => by
    rw [unlk, unlk, unlk_sym n]
    congr 1
    by_cases h : ((n : Int) < a ∧ (n : Int) < b) ∧ t (n : Int) = u (n : Int)
    · rw [if_pos h, if_pos ⟨⟨h.1.2, h.1.1⟩, h.2.symm⟩]
    · rw [if_neg h, if_neg (fun q => h ⟨⟨q.1.2, q.1.1⟩, q.2.symm⟩)]

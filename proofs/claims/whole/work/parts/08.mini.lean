/-! ===== the small machine: a memory of fixed shape (72 cells), ints by their numbers; its judgement mW over the machine's W, its contract mM over Met ===== -/
def iV (z : Int) : Int32 := Int32.ofInt z
theorem iV_add (a b : Int) : iV a + iV b = iV (a + b) := (Int32.ofInt_add a b).symm
theorem iV_sub (a b : Int) : iV a - iV b = iV (a - b) := (Int32.ofInt_sub a b).symm
theorem iV_mul (a b : Int) : iV a * iV b = iV (a * b) := (Int32.ofInt_mul a b).symm
theorem iV_neg (a : Int) : - iV a = iV (-a) := (Int32.ofInt_neg a).symm
theorem iV_toInt {z : Int} (h : -2147483648 ≤ z ∧ z ≤ 2147483647) : (iV z).toInt = z := Int32.toInt_ofInt_of_le (by omega) (by omega)
theorem iV_of (x : Int32) : iV x.toInt = x := Int32.ofInt_toInt x
theorem iV_bd (x : Int32) : -2147483648 ≤ x.toInt ∧ x.toInt ≤ 2147483647 := ⟨by have := x.le_toInt; omega, by have := x.toInt_lt; omega⟩
theorem iV_nat (n : Nat) : iV (n : Int) = nI n := Int32.ofInt_eq_ofNat
theorem iV_lt {a b : Int} (ha : -2147483648 ≤ a ∧ a ≤ 2147483647) (hb : -2147483648 ≤ b ∧ b ≤ 2147483647) : iV a < iV b ↔ a < b := by rw [Int32.lt_iff_toInt_lt, iV_toInt ha, iV_toInt hb]
theorem iV_le {a b : Int} (ha : -2147483648 ≤ a ∧ a ≤ 2147483647) (hb : -2147483648 ≤ b ∧ b ≤ 2147483647) : iV a ≤ iV b ↔ a ≤ b := by rw [Int32.le_iff_toInt_le, iV_toInt ha, iV_toInt hb]
theorem iV_eq {a b : Int} (ha : -2147483648 ≤ a ∧ a ≤ 2147483647) (hb : -2147483648 ≤ b ∧ b ≤ 2147483647) : iV a = iV b ↔ a = b := by rw [← Int32.toInt_inj, iV_toInt ha, iV_toInt hb]
theorem iV_0 : iV 0 = 0 := by decide +kernel
theorem iV_clamp {z : Int} (h : 0 ≤ z ∧ z ≤ 2147483647) : (iV z).toNatClampNeg = z.toNat := by
  show (iV z).toInt.toNat = z.toNat
  rw [iV_toInt (by omega)]
theorem iV_in {z : Int} {n : Nat} (h : 0 ≤ z ∧ z < n) (hn : n ≤ 2147483647) : vp_in (iV z) n := by
  intro q
  rcases q with q | q
  · rw [← iV_0, iV_lt (by omega) (by omega)] at q
    omega
  · rw [iV_clamp (by omega)] at q
    omega
def bAnd (a b : Int) : Int := (iV a &&& iV b).toInt
def bOr (a b : Int) : Int := (iV a ||| iV b).toInt
def bXor (a b : Int) : Int := (iV a ^^^ iV b).toInt
def bShl (a b : Int) : Int := (iV a <<< (iV b &&& 31)).toInt
def bShr (a b : Int) : Int := (iV a >>> (iV b &&& 31)).toInt
def bUshr (a b : Int) : Int := ((iV a).toUInt32 >>> ((iV b).toUInt32 &&& Int32.toUInt32 31)).toInt32.toInt
def bDiv (a b : Int) : Int := (iV a / iV b).toInt
def bRem (a b : Int) : Int := (iV a - iV a / iV b * iV b).toInt
theorem bDiv_n {a b : Int} (ha : 0 ≤ a ∧ a ≤ 2147483647) (hb : 0 < b ∧ b ≤ 2147483647) : bDiv a b = a / b := by
  obtain ⟨x, rfl⟩ : ∃ x : Nat, a = x := ⟨a.toNat, by omega⟩
  obtain ⟨y, rfl⟩ : ∃ y : Nat, b = y := ⟨b.toNat, by omega⟩
  unfold bDiv
  have h1 : x / y ≤ x := Nat.div_le_self x y
  rw [iV_nat, iV_nat, pk_div (by omega) (by omega) (by omega), nI_toInt (by omega)]
  exact Int.natCast_ediv x y
theorem bRem_n {a b : Int} (ha : 0 ≤ a ∧ a ≤ 2147483647) (hb : 0 < b ∧ b ≤ 2147483647) : bRem a b = a % b := by
  obtain ⟨x, rfl⟩ : ∃ x : Nat, a = x := ⟨a.toNat, by omega⟩
  obtain ⟨y, rfl⟩ : ∃ y : Nat, b = y := ⟨b.toNat, by omega⟩
  unfold bRem
  have h1 : x % y < y := Nat.mod_lt _ (by omega)
  rw [iV_nat, iV_nat, pk_rem (by omega) (by omega) (by omega), nI_toInt (by omega)]
  exact Int.natCast_emod x y
/-- the tables' words that stay as the machine warms; those of nest mates, which stay too -/
def mTb : List Cond := lw_tbl.filter goodWord
theorem mTb_in {w : Cond} (h : w ∈ lw_tbl) (hg : goodWord w = true) : w ∈ mTb := List.mem_filter.mpr ⟨h, hg⟩
theorem mTb_good : ∀ w ∈ mTb, (w.onTables && w.keeps) = true ∨ ∃ ty, w = .arrayClass ty := fun w h => good_of_word (List.mem_filter.mp h).2
def isNest : Cond → Bool
  | .fieldLinkNest .. => true
  | .methodLinkNest .. => true
  | _ => false
def mNest : List Cond := lw_tbl.filter isNest
theorem mNest_warm {s U : State} (hW : s.WarmedH U.vm) {w : Cond} (h : isNest w = true) (hs : va_Nw w s) : va_Nw w U := by
  cases w <;> first | exact va_Nw.warmF hW hs | exact va_Nw.warmM hW hs | cases h
theorem mNest_same {s U : State} (hv : U.vm = s.vm) {w : Cond} (h : isNest w = true) (hs : va_Nw w s) : va_Nw w U := by
  cases w <;> first | exact va_Nw.same rfl hv.symm hs | cases h
abbrev mX : Type := Program × Env × Room × State × MethodId × Array Value × List Frame × Method × Code
/-- where the cells lie, the classes' numbers, the array classes, the strings' rows, the launch -/
abbrev mG : Type := (Nat → Nat) × va_G × (Nat → ClassId) × (Nat → Nat) × Launch
abbrev mMem : Type := (Nat → Int → Int) × (Nat → Int → Int64)
def cv (G : mG) (v : Value) : Value := match v with
  | .ref k => .ref (G.1 k)
  | v => v
theorem cv_cat (G : mG) (v : Value) : (cv G v).category = v.category := by cases v <;> rfl
/-- which cell is what: 0 to 7 the objects by their class, 8 ints, 9 longs, 10 attaches, 11 sheets, 12 texts -/

def mCls (k : Nat) : Nat := ([6, 1, 5, 8, 5, 8, 10, 0, 0, 0, 0, 0, 0, 0, 0, 1, 5, 8, 5, 8, 10, 0, 0, 0, 0, 0, 0, 0, 0, 1, 5, 8, 5, 8, 10, 0, 0, 0, 0, 0, 0, 0, 0, 4, 8, 2, 11, 3, 9, 3, 9, 3, 9, 3, 9, 8, 7, 8, 8, 8, 8, 8, 8, 12, 8, 8, 8, 9, 8, 8, 9, 9] : List Nat).getD k 99
def mLen (k : Nat) : Nat := ([0, 0, 0, 12, 0, 12, 8, 0, 0, 0, 0, 0, 0, 0, 0, 0, 0, 12, 0, 12, 8, 0, 0, 0, 0, 0, 0, 0, 0, 0, 0, 12, 0, 12, 8, 0, 0, 0, 0, 0, 0, 0, 0, 0, 120, 0, 4, 0, 40, 0, 40, 0, 40, 0, 40, 7, 0, 68, 68, 68, 8, 12, 120, 6, 120, 120, 120, 120, 4, 4, 160, 40] : List Nat).getD k 0
def mNf (ci : Nat) : Nat := ([5, 5, 5, 3, 2, 2, 8, 24] : List Nat).getD ci 0
def mIsR (ci j : Nat) : Bool := ([[], [0, 1, 2], [0], [0], [0], [0], [0, 1, 3, 4, 5, 6, 7], [0, 1, 2, 4, 5, 6, 13, 14, 15, 16, 17, 20, 21, 22, 23]] : List (List Nat)).getD ci [] |>.contains j
def mRf (k j : Nat) : Nat := match mCls k with
  | 1 => if j = 0 then k + 1 else if j = 1 then k + 3 else k + 5
  | 2 => 43
  | 3 => k + 1
  | 4 => k + 1
  | 5 => k + 1
  | 6 => ([1, 15, 0, 29, 43, 45, 46, 55] : List Nat).getD j 0
  | 7 => ([57, 58, 59, 0, 60, 61, 62, 0, 0, 0, 0, 0, 0, 63, 64, 65, 66, 67, 0, 0, 68, 69, 70, 71] : List Nat).getD j 0
  | 10 => k + 1 + j
  | 11 => 47 + 2 * j
  | _ => 100 + j
def mFs (G : mG) (μ : mMem) (k ci : Nat) : List Value := (List.range (mNf ci)).map (fun j => if mIsR ci j = true then .ref (G.1 (mRf k j)) else .int (iV (μ.1 k (j : Int))))
def mE (G : mG) (μ : mMem) (k : Nat) : va_E := if mCls k < 8 then .inr (mCls k, mFs G μ k (mCls k)) else if mCls k = 8 then .inl (G.2.2.1 0, mLen k, .inl (fun j => iV (μ.1 k (j : Int)))) else if mCls k = 9 then .inl (G.2.2.1 1, mLen k, .inr (.inl (fun j => μ.2 k (j : Int)))) else .inl (G.2.2.1 (mCls k - 8), mLen k, .inr (.inr (.inr (.inr (fun j => some (G.1 (mRf k j)))))))
def mWs (G : mG) (μ : mMem) : va_W := (List.range 72).map (fun k => (G.1 k, mE G μ k))
def mA (G : mG) : Nat → Prop := fun q => ∃ k : Nat, k < 72 ∧ q = G.1 k
def mTys (G : mG) : List (ClassId × FieldType) := [(G.2.2.1 0, .int), (G.2.2.1 1, .long), (G.2.2.1 2, .object RX0), (G.2.2.1 3, .object RX3), (G.2.2.1 4, .object "java/lang/String")]
def mH (G : mG) (μ : mMem) (H : Heap) : Prop := va_P G.2.1 vwCl (mWs G μ) H
def mRm (d : Nat) : Room := { frames := d, cells := 0, slots := 0, locals := 37 * d }

def sLen : List Nat := [7, 6, 4, 5, 5, 5, 2, 3, 4, 4]
def sByt : List (List Int32) := [[97, 116, 116, 97, 99, 104, 101], [109, 105, 114, 114, 111, 114], [99, 114, 97, 98], [112, 101, 100, 97, 108], [116, 97, 98, 108, 101], [116, 101, 110, 111, 114], [111, 102], [107, 101, 121], [98, 108, 111, 116], [116, 117, 110, 101]]
def sRefs : List (String × Nat × String × Nat) := [("FugueNotes$Scribe", 35, "tune", 9), ("FugueNotes$Scribe", 92, "mirror", 1), ("FugueNotes$Scribe", 94, "crab", 2), ("FugueNotes$Scribe", 96, "pedal", 3), ("FugueNotes$Scribe", 98, "table", 4), ("FugueNotes$Scribe", 100, "tenor", 5), ("FugueNotes$Scribe", 102, "attache", 0), ("FugueNotes$Scribe", 78, "of", 6), ("FugueNotes$Scribe", 80, "key", 7), ("FugueNotes$Scribe", 82, "blot", 8), ("FugueNotesModel", 30, "attache", 0), ("FugueNotesModel", 32, "mirror", 1), ("FugueNotesModel", 34, "crab", 2), ("FugueNotesModel", 36, "pedal", 3), ("FugueNotesModel", 38, "table", 4), ("FugueNotesModel", 40, "tenor", 5), ("FugueNotesModel", 262, "of", 6), ("FugueNotesModel", 264, "key", 7), ("FugueNotesModel", 270, "blot", 8), ("FugueNotesModel", 283, "tune", 9)]
def sAbove : List Int32 := [-1, 0, 0, 0, 1, 2]
/-- what is known of the start and stays: the texts, the class's own table of kinds, one switch of String's -/
def mSt (G : mG) (U : State) : Prop := vk_S 10 sLen sByt (fun i => G.1 (100 + i)) (fun i => G.1 (110 + i)) (mA G) U U.heap ∧ (∀ q ∈ sRefs, vk_R q.1 q.2.1 q.2.2.1 (G.1 (100 + q.2.2.2)) U) ∧ va_Z "FugueNotes" "ABOVE" "[I" (.ref (G.1 120)) (mA G) U U.heap ∧ va_T .int (G.1 120) 6 (fun j => .int (sAbove.getD j 0)) (mA G) U U.heap ∧ va_Z "java/lang/String" "COMPACT_STRINGS" "Z" (.int 1) (mA G) U U.heap ∧ (va_Z "jdk/internal/util/Preconditions" "SIOOBE_FORMATTER" "Ljava/util/function/BiFunction;" (.ref (G.1 121)) (mA G) U U.heap ∨ va_Z "jdk/internal/util/Preconditions" "SIOOBE_FORMATTER" "Ljava/util/function/BiFunction;" .null (mA G) U U.heap)
def mEnv (G : mG) (U : State) : Prop := va_K G.2.1 vwCl (mTys G) U ∧ (∀ i j : Nat, i < 72 → j < 72 → G.1 i = G.1 j → i = j) ∧ mSt G U ∧ ∀ w ∈ mNest, va_Nw w U
theorem mSt.moved {G : mG} {s U : State} (hW : s.WarmedH U.vm) (hk : ∀ a : Nat, a < s.heap.size → ¬ mA G a → U.heap[a]? = s.heap[a]?) (h : mSt G s) : mSt G U :=
  ⟨(h.1.kept hk).moved hW.alike, fun q hq => (h.2.1 q hq).warm hW, (h.2.2.1.kept hk).moved hW.alike, (h.2.2.2.1.kept hk).moved hW.alike, (h.2.2.2.2.1.kept hk).moved hW.alike, h.2.2.2.2.2.imp (fun q => (q.kept hk).moved hW.alike) (fun q => (q.kept hk).moved hW.alike)⟩
theorem mEnv.moved {G : mG} {s U : State} (hW : s.WarmedH U.vm) (hk : ∀ a : Nat, a < s.heap.size → ¬ mA G a → U.heap[a]? = s.heap[a]?) (h : mEnv G s) : mEnv G U := ⟨h.1.moved hW.alike, h.2.1, h.2.2.1.moved hW hk, fun w hw => mNest_warm hW (List.mem_filter.mp hw).2 (h.2.2.2 w hw)⟩
theorem mEnv.same {G : mG} {s U : State} (hv : U.vm = s.vm) (hh : U.heap = s.heap) (h : mEnv G s) : mEnv G U := by
  have ha : s.vm.Alike U.vm := by rw [hv]; exact Vm.Alike.refl _
  refine ⟨h.1.moved ha, h.2.1, ⟨?_, fun q hq => (h.2.2.1.2.1 q hq).same hv, ?_, ?_, ?_, ?_⟩, fun w hw => mNest_same hv (List.mem_filter.mp hw).2 (h.2.2.2 w hw)⟩
  · rw [hh]; exact h.2.2.1.1.moved ha
  · rw [hh]; exact h.2.2.1.2.2.1.moved ha
  · rw [hh]; exact h.2.2.1.2.2.2.1.moved ha
  · rw [hh]; exact h.2.2.1.2.2.2.2.1.moved ha
  · rw [hh]; exact h.2.2.1.2.2.2.2.2.imp (fun q => q.moved ha) (fun q => q.moved ha)
theorem mWs_get (G : mG) (μ : mMem) {k : Nat} (hk : k < 72) : (mWs G μ)[k]? = some (G.1 k, mE G μ k) := by
  unfold mWs
  rw [List.getElem?_map, List.getElem?_range hk]
  rfl
theorem mWs_get' {G : mG} {μ : mMem} {k : Nat} {q : Nat × va_E} (h : (mWs G μ)[k]? = some q) : k < 72 ∧ q = (G.1 k, mE G μ k) := by
  have hk : k < 72 := by
    have := (List.getElem?_eq_some_iff.mp h).1
    simpa [mWs] using this
  rw [mWs_get G μ hk] at h
  exact ⟨hk, (Option.some.inj h).symm⟩
theorem mD {G : mG} (μ : mMem) (h : ∀ i j : Nat, i < 72 → j < 72 → G.1 i = G.1 j → i = j) : va_D (mA G) (mWs G μ) := by
  refine ⟨fun i j p q hi hj e => ?_, fun k q hk => ?_⟩
  · obtain ⟨h1, rfl⟩ := mWs_get' hi
    obtain ⟨h2, rfl⟩ := mWs_get' hj
    exact h i j h1 h2 e
  · obtain ⟨h1, rfl⟩ := mWs_get' hk
    exact ⟨k, h1, rfl⟩
theorem mWs_set {G : mG} {μ μ' : mMem} {k : Nat} {e : va_E} (hk : k < 72) (h1 : mE G μ' k = e) (h2 : ∀ j : Nat, j ≠ k → mE G μ' j = mE G μ j) : (mWs G μ).set k (G.1 k, e) = mWs G μ' := by
  apply List.ext_getElem?
  intro j
  by_cases hj : j < 72
  · rw [mWs_get G μ' hj]
    by_cases hjk : j = k
    · subst hjk
      rw [List.getElem?_set_self (by simp [mWs, hj]), h1]
    · rw [List.getElem?_set_ne (fun q => hjk q.symm), mWs_get G μ hj, h2 j hjk]
  · rw [List.getElem?_eq_none (by simp [mWs]; omega), List.getElem?_eq_none (by simp [mWs]; omega)]
def u1 (μ : mMem) (k : Nat) (j v : Int) : mMem := (fun k' j' => if k' = k ∧ j' = j then v else μ.1 k' j', μ.2)
def u2 (μ : mMem) (k : Nat) (j : Int) (v : Int64) : mMem := (μ.1, fun k' j' => if k' = k ∧ j' = j then v else μ.2 k' j')
theorem u1_s (μ : mMem) (k : Nat) (j v : Int) : (u1 μ k j v).1 k j = v := by simp [u1]
theorem u1_o {μ : mMem} {k k' : Nat} {j j' v : Int} (h : ¬ (k' = k ∧ j' = j)) : (u1 μ k j v).1 k' j' = μ.1 k' j' := by simp [u1, h]
theorem u2_s (μ : mMem) (k : Nat) (j : Int) (v : Int64) : (u2 μ k j v).2 k j = v := by simp [u2]
theorem u2_o {μ : mMem} {k k' : Nat} {j j' : Int} {v : Int64} (h : ¬ (k' = k ∧ j' = j)) : (u2 μ k j v).2 k' j' = μ.2 k' j' := by simp [u2, h]
theorem mE_obj {G : mG} {μ : mMem} {k ci : Nat} (h : mCls k = ci) (hc : ci < 8) : mE G μ k = .inr (ci, mFs G μ k ci) := by
  subst h
  simp [mE, hc]
theorem mE_int {G : mG} {μ : mMem} {k : Nat} (h : mCls k = 8) : mE G μ k = .inl (G.2.2.1 0, mLen k, .inl (fun j => iV (μ.1 k (j : Int)))) := by simp [mE, h]
theorem mE_lng {G : mG} {μ : mMem} {k : Nat} (h : mCls k = 9) : mE G μ k = .inl (G.2.2.1 1, mLen k, .inr (.inl (fun j => μ.2 k (j : Int)))) := by simp [mE, h]
theorem mE_ref {G : mG} {μ : mMem} {k ci : Nat} (h : mCls k = ci) (hc : 10 ≤ ci) : mE G μ k = .inl (G.2.2.1 (ci - 8), mLen k, .inr (.inr (.inr (.inr (fun j => some (G.1 (mRf k j))))))) := by
  subst h
  have h1 : ¬ mCls k < 8 := by omega
  have h2 : ¬ mCls k = 8 := by omega
  have h3 : ¬ mCls k = 9 := by omega
  simp [mE, h1, h2, h3]
theorem mFs_get {G : mG} {μ : mMem} {k ci j : Nat} (hj : j < mNf ci) : (mFs G μ k ci)[j]? = some (if mIsR ci j = true then .ref (G.1 (mRf k j)) else .int (iV (μ.1 k (j : Int)))) := by
  unfold mFs
  rw [List.getElem?_map, List.getElem?_range hj]
  rfl
theorem mFs_len (G : mG) (μ : mMem) (k ci : Nat) : (mFs G μ k ci).length = mNf ci := by simp [mFs]
theorem mFs_set {G : mG} {μ : mMem} {k ci j : Nat} {v : Int} (hr : mIsR ci j = false) : (mFs G μ k ci).set j (.int (iV v)) = mFs G (u1 μ k (j : Int) v) k ci := by
  apply List.ext_getElem?
  intro i
  by_cases hi : i < mNf ci
  · rw [mFs_get hi]
    by_cases hij : i = j
    · subst hij
      rw [List.getElem?_set_self (by rw [mFs_len]; exact hi), u1_s, hr]
      rfl
    · rw [List.getElem?_set_ne (fun q => hij q.symm), mFs_get hi, u1_o (by omega)]
  · rw [List.getElem?_eq_none (by rw [List.length_set, mFs_len]; omega), List.getElem?_eq_none (by rw [mFs_len]; omega)]
theorem mFs_o {G : mG} {μ : mMem} {k k' ci : Nat} {j v : Int} (h : k' ≠ k) : mFs G (u1 μ k j v) k' ci = mFs G μ k' ci := by
  unfold mFs
  apply List.map_congr_left
  intro a _
  rw [u1_o (fun q => h q.1)]
theorem mE_o {G : mG} {μ : mMem} {k k' : Nat} {j v : Int} (h : k' ≠ k) : mE G (u1 μ k j v) k' = mE G μ k' := by
  have e1 : (fun i : Nat => iV ((u1 μ k j v).1 k' (i : Int))) = fun i : Nat => iV (μ.1 k' (i : Int)) := by
    funext i
    rw [u1_o (fun q => h q.1)]
  unfold mE
  rw [mFs_o h, e1]
  rfl
theorem mFs_2 {G : mG} {μ : mMem} {k k' ci : Nat} {j : Int} {v : Int64} : mFs G (u2 μ k j v) k' ci = mFs G μ k' ci := rfl
theorem mE_2o {G : mG} {μ : mMem} {k k' : Nat} {j : Int} {v : Int64} (h : k' ≠ k) : mE G (u2 μ k j v) k' = mE G μ k' := by
  have e1 : (fun i : Nat => (u2 μ k j v).2 k' (i : Int)) = fun i : Nat => μ.2 k' (i : Int) := by
    funext i
    rw [u2_o (fun q => h q.1)]
  unfold mE
  rw [e1]
  rfl
theorem mCls_lt {k ci : Nat} (h : mCls k = ci) (hc : ci ≠ 99) : k < 72 := by
  rcases Nat.lt_or_ge k 72 with q | q
  · exact q
  · exfalso
    apply hc
    rw [← h]
    unfold mCls
    rw [List.getD_eq_getElem?_getD, List.getElem?_eq_none (by simpa using q)]
    rfl
/-- the locals -/
def mL (G : mG) (ls : Array Slot) (nL : Nat) (lv : List (Option Value)) : Prop := ls.size = nL ∧ lv_wf ls ∧ ∀ (i : Nat) (v : Value), lv[i]? = some (some v) → ls[i]? = some (.val (cv G v))
def mAs (G : mG) (lv : List (Option Value)) : List (Nat × Value) := (List.range lv.length).filterMap (fun i => (lv[i]?.join).map (fun v => (i, cv G v)))
theorem mAs_mem {G : mG} {lv : List (Option Value)} {q : Nat × Value} : q ∈ mAs G lv ↔ ∃ v, lv[q.1]? = some (some v) ∧ q.2 = cv G v := by
  obtain ⟨i, x⟩ := q
  unfold mAs
  rw [List.mem_filterMap]
  constructor
  · rintro ⟨a, ha, h⟩
    cases hl : lv[a]? with
    | none => rw [hl] at h; cases h
    | some o =>
      cases o with
      | none => rw [hl] at h; cases h
      | some v =>
        rw [hl] at h
        cases h
        exact ⟨v, hl, rfl⟩
  · rintro ⟨v, h1, h2⟩
    refine ⟨i, List.mem_range.mpr (List.getElem?_eq_some_iff.mp h1).1, ?_⟩
    have h2 : x = cv G v := h2
    have h1 : lv[i]? = some (some v) := h1
    rw [h1, h2]
    rfl
theorem mL.has {G : mG} {ls : Array Slot} {nL : Nat} {lv : List (Option Value)} (h : mL G ls nL lv) : lv_has ls nL (mAs G lv) := by
  refine ⟨h.1, h.2.1, fun q hq => ?_⟩
  obtain ⟨v, h1, h2⟩ := mAs_mem.mp hq
  rw [h2]
  exact h.2.2 q.1 v h1
def mC1 (o : Option Value) : Bool := match o with
  | some v => v.category == 1
  | none => true
theorem mL.st1 {G : mG} {ls : Array Slot} {nL : Nat} {lv : List (Option Value)} {i : Nat} {v : Value} (h : lv_has ls nL ((i, cv G v) :: (mAs G lv).filter (fun q => !(q.1 == i) && !(q.1 + 1 == i && q.2.category == 2)))) (hc : ∀ j o, j + 1 = i → lv[j]? = some o → mC1 o = true) : mL G ls nL (lv.set i (some v)) := by
  refine ⟨h.1, h.2.1, fun j w hj => ?_⟩
  rw [List.getElem?_set] at hj
  by_cases hij : i = j
  · subst hij
    rw [if_pos rfl] at hj
    by_cases hl : i < lv.length
    · rw [if_pos hl] at hj
      cases hj
      exact h.2.2 (i, cv G v) List.mem_cons_self
    · rw [if_neg hl] at hj
      cases hj
  · rw [if_neg hij] at hj
    refine h.2.2 (j, cv G w) (List.mem_cons_of_mem _ (List.mem_filter.mpr ⟨mAs_mem.mpr ⟨w, hj, rfl⟩, ?_⟩))
    have e1 : (j == i) = false := by simpa using fun q : j = i => hij q.symm
    by_cases hj1 : j + 1 = i
    · have h3 := hc j (some w) hj1 hj
      have h4 : w.category = 1 := by simpa [mC1] using h3
      simp [e1, cv_cat, h4]
    · simp [e1, hj1]
theorem mL.st2 {G : mG} {ls : Array Slot} {nL : Nat} {lv : List (Option Value)} {i : Nat} {v : Value} (h : lv_has ls nL ((i, cv G v) :: (mAs G lv).filter (fun q => !(q.1 == i) && (!(q.1 == i + 1) && !(q.1 + 1 == i && q.2.category == 2))))) (hc : ∀ j o, j + 1 = i → lv[j]? = some o → mC1 o = true) : mL G ls nL ((lv.set i (some v)).set (i + 1) none) := by
  refine ⟨h.1, h.2.1, fun j w hj => ?_⟩
  rw [List.getElem?_set] at hj
  by_cases hij1 : i + 1 = j
  · subst hij1
    rw [if_pos rfl] at hj
    split at hj <;> cases hj
  rw [if_neg hij1, List.getElem?_set] at hj
  by_cases hij : i = j
  · subst hij
    rw [if_pos rfl] at hj
    by_cases hl : i < lv.length
    · rw [if_pos hl] at hj
      cases hj
      exact h.2.2 (i, cv G v) List.mem_cons_self
    · rw [if_neg hl] at hj
      cases hj
  · rw [if_neg hij] at hj
    refine h.2.2 (j, cv G w) (List.mem_cons_of_mem _ (List.mem_filter.mpr ⟨mAs_mem.mpr ⟨w, hj, rfl⟩, ?_⟩))
    have e1 : (j == i) = false := by simpa using fun q : j = i => hij q.symm
    have e2 : (j == i + 1) = false := by simpa using fun q : j = i + 1 => hij1 q.symm
    by_cases hj1 : j + 1 = i
    · have h3 := hc j (some w) hj1 hj
      have h4 : w.category = 1 := by simpa [mC1] using h3
      simp [e1, e2, cv_cat, h4]
    · simp [e1, e2, hj1]
/-- what holds in a method's frame -/
def mC (X : mX) (cc : ByteArray) (nL : Nat) (rt : Option FieldType) (own : String) (d : Nat) (G : mG) : Prop := match X with
  | (p, e, R, s, m, args, below, meth, c) => p.tables.exec = Jvm.exec ∧ c.code = cc ∧ c.maxLocals = nL ∧ meth.sig.returnType = rt ∧ s.vm.findClass own = some m.cls ∧ meth.locks = false ∧ R = mRm d ∧ (∀ w ∈ mTb, w.before args s = true) ∧ mEnv G s
def mQ (G : mG) (Q : Option Value → mMem → Prop) : Array Value → State → Outcome → State → Prop := fun _ st o t => (∃ (r : Option Value) (μ : mMem), o = .returned (r.map (cv G)) ∧ Q r μ ∧ mH G μ t.heap) ∧ va_F (mA G) st t
def mW (X : mX) (cc : ByteArray) (nL : Nat) (rt : Option FieldType) (own : String) (d : Nat) (G : mG) (Q : Option Value → mMem → Prop) (pc : Nat) (lv : List (Option Value)) (st : List Value) (μ : mMem) : Prop := match X with
  | (p, e, R, s, m, args, below, meth, c) => mC (p, e, R, s, m, args, below, meth, c) cc nL rt own d G → ∀ (H : Heap) (locs : List Loc) (ls : Array Slot), mH G μ H → va_S (mA G) s.heap H locs → mL G ls nL lv → W p G.2.2.2.2 e R s m args below meth c H locs 0 0 (MQ below (mQ G Q) args s 0 0 (mA G)) (F0 m pc ls (st.map (cv G)))
/-- a method's contract: from these arguments and this memory it returns, with Q -/
def mM (G : mG) (y : MethodName) (cc : ByteArray) (nL : Nat) (rt : Option FieldType) (d : Nat) (as : List Value) (μ : mMem) (Q : Option Value → mMem → Prop) : Prop :=
  Met G.2.2.2.2 y (Cond.code y cc nL rt :: mTb) (mRm d) (fun v U => v = (as.map (cv G)).toArray ∧ mEnv G U ∧ mH G μ U.heap) (mQ G Q) 0 0 (mA G)
section MINI
variable {X : mX} {cc : ByteArray} {nL : Nat} {rt : Option FieldType} {own : String} {d : Nat} {G : mG} {Q : Option Value → mMem → Prop} {pc : Nat} {lv : List (Option Value)} {st : List Value} {μ : mMem}

theorem mw_iconst {n : Int} (hd : decode cc pc = .ok (.iconst n, 1)) 
    (kk : mW X cc nL rt own d G Q (pc + 1) lv (.int (iV n) :: st) μ) : mW X cc nL rt own d G Q pc lv (st) μ := by
  obtain ⟨p, e, R, s, m, args, below, meth, c⟩ := X
  intro hC H locs ls hP hS hl
  have hx := hC.1
  have hb := hC.2.1
  exact lv_iconst (v := iV n) hx hb hd rfl (kk hC H locs ls hP hS hl)
theorem mw_bipush {n : Int} (hd : decode cc pc = .ok (.bipush n, 2)) (hv : (Int8.ofInt n).toInt32 = iV n)
    (kk : mW X cc nL rt own d G Q (pc + 2) lv (.int (iV n) :: st) μ) : mW X cc nL rt own d G Q pc lv (st) μ := by
  obtain ⟨p, e, R, s, m, args, below, meth, c⟩ := X
  intro hC H locs ls hP hS hl
  have hx := hC.1
  have hb := hC.2.1
  exact lv_bipush (v := iV n) hx hb hd hv (kk hC H locs ls hP hS hl)
theorem mw_sipush {n : Int} (hd : decode cc pc = .ok (.sipush n, 3)) (hv : (Int16.ofInt n).toInt32 = iV n)
    (kk : mW X cc nL rt own d G Q (pc + 3) lv (.int (iV n) :: st) μ) : mW X cc nL rt own d G Q pc lv (st) μ := by
  obtain ⟨p, e, R, s, m, args, below, meth, c⟩ := X
  intro hC H locs ls hP hS hl
  have hx := hC.1
  have hb := hC.2.1
  exact lv_sipush (v := iV n) hx hb hd hv (kk hC H locs ls hP hS hl)
theorem mw_lconst {n : Fin 2} (hd : decode cc pc = .ok (.lconst n, 1)) {v : Int64} (hv : Int64.ofNat (n : Nat) = v)
    (kk : mW X cc nL rt own d G Q (pc + 1) lv (.long v :: st) μ) : mW X cc nL rt own d G Q pc lv (st) μ := by
  obtain ⟨p, e, R, s, m, args, below, meth, c⟩ := X
  intro hC H locs ls hP hS hl
  have hx := hC.1
  have hb := hC.2.1
  exact lv_lconst hx hb hd hv (kk hC H locs ls hP hS hl)
theorem mw_ldc {idx : Nat} {z : Int} (hd : decode cc pc = .ok (.ldc idx, 2)) (hw : Cond.constant own idx (iV z) ∈ mTb)
    (kk : mW X cc nL rt own d G Q (pc + 2) lv (.int (iV z) :: st) μ) : mW X cc nL rt own d G Q pc lv (st) μ := by
  obtain ⟨p, e, R, s, m, args, below, meth, c⟩ := X
  intro hC H locs ls hP hS hl
  have hx := hC.1
  have hb := hC.2.1
  exact lv_ldc hx hb hC.2.2.2.2.1 (hC.2.2.2.2.2.2.2.1 _ hw) hd (kk hC H locs ls hP hS hl)
theorem mw_ldcw {idx : Nat} {z : Int} (hd : decode cc pc = .ok (.ldc_w idx, 3)) (hw : Cond.constant own idx (iV z) ∈ mTb)
    (kk : mW X cc nL rt own d G Q (pc + 3) lv (.int (iV z) :: st) μ) : mW X cc nL rt own d G Q pc lv (st) μ := by
  obtain ⟨p, e, R, s, m, args, below, meth, c⟩ := X
  intro hC H locs ls hP hS hl
  have hx := hC.1
  have hb := hC.2.1
  exact lv_ldcw hx hb hC.2.2.2.2.1 (hC.2.2.2.2.2.2.2.1 _ hw) hd (kk hC H locs ls hP hS hl)
theorem mw_ldc2 {idx : Nat} {z : Int64} (hd : decode cc pc = .ok (.ldc2_w idx, 3)) (hw : Cond.constantLong own idx z ∈ mTb)
    (kk : mW X cc nL rt own d G Q (pc + 3) lv (.long z :: st) μ) : mW X cc nL rt own d G Q pc lv (st) μ := by
  obtain ⟨p, e, R, s, m, args, below, meth, c⟩ := X
  intro hC H locs ls hP hS hl
  have hx := hC.1
  have hb := hC.2.1
  exact lv_ldc2 hx hb hC.2.2.2.2.1 (hC.2.2.2.2.2.2.2.1 _ hw) hd (kk hC H locs ls hP hS hl)
theorem mw_ldcS {idx i : Nat} {tx : String} (hd : decode cc pc = .ok (.ldc idx, 2)) (hw : (own, idx, tx, i) ∈ sRefs)
    (kk : mW X cc nL rt own d G Q (pc + 2) lv (.ref (100 + i) :: st) μ) : mW X cc nL rt own d G Q pc lv (st) μ := by
  obtain ⟨p, e, R, s, m, args, below, meth, c⟩ := X
  intro hC H locs ls hP hS hl
  have hx := hC.1
  have hb := hC.2.1
  exact va_ldcS hx hb hC.2.2.2.2.1 (hC.2.2.2.2.2.2.2.2.2.2.1.2.1 _ hw) hd (kk hC H locs ls hP hS hl)
theorem mw_iload_n {k : Fin 4} {x : Int32} (hd : decode cc pc = .ok (.iload_n k, 1)) (h : lv[(k : Nat)]? = some (some (.int x)))
    (kk : mW X cc nL rt own d G Q (pc + 1) lv (.int x :: st) μ) : mW X cc nL rt own d G Q pc lv (st) μ := by
  obtain ⟨p, e, R, s, m, args, below, meth, c⟩ := X
  intro hC H locs ls hP hS hl
  have hx := hC.1
  have hb := hC.2.1
  exact lv_iload_n hx hb hd rfl (hl.2.2 _ _ h) (kk hC H locs ls hP hS hl)
theorem mw_iload {i : Nat} {x : Int32} (hd : decode cc pc = .ok (.iload i, 2)) (h : lv[i]? = some (some (.int x)))
    (kk : mW X cc nL rt own d G Q (pc + 2) lv (.int x :: st) μ) : mW X cc nL rt own d G Q pc lv (st) μ := by
  obtain ⟨p, e, R, s, m, args, below, meth, c⟩ := X
  intro hC H locs ls hP hS hl
  have hx := hC.1
  have hb := hC.2.1
  exact lv_iload hx hb hd (hl.2.2 _ _ h) (kk hC H locs ls hP hS hl)
theorem mw_lload_n {k : Fin 4} {x : Int64} (hd : decode cc pc = .ok (.lload_n k, 1)) (h : lv[(k : Nat)]? = some (some (.long x)))
    (kk : mW X cc nL rt own d G Q (pc + 1) lv (.long x :: st) μ) : mW X cc nL rt own d G Q pc lv (st) μ := by
  obtain ⟨p, e, R, s, m, args, below, meth, c⟩ := X
  intro hC H locs ls hP hS hl
  have hx := hC.1
  have hb := hC.2.1
  exact lv_lload_n hx hb hd rfl (hl.2.2 _ _ h) (kk hC H locs ls hP hS hl)
theorem mw_lload {i : Nat} {x : Int64} (hd : decode cc pc = .ok (.lload i, 2)) (h : lv[i]? = some (some (.long x)))
    (kk : mW X cc nL rt own d G Q (pc + 2) lv (.long x :: st) μ) : mW X cc nL rt own d G Q pc lv (st) μ := by
  obtain ⟨p, e, R, s, m, args, below, meth, c⟩ := X
  intro hC H locs ls hP hS hl
  have hx := hC.1
  have hb := hC.2.1
  exact lv_lload hx hb hd (hl.2.2 _ _ h) (kk hC H locs ls hP hS hl)
theorem mw_aload_n {k : Fin 4} {x : Nat} (hd : decode cc pc = .ok (.aload_n k, 1)) (h : lv[(k : Nat)]? = some (some (.ref x)))
    (kk : mW X cc nL rt own d G Q (pc + 1) lv (.ref x :: st) μ) : mW X cc nL rt own d G Q pc lv (st) μ := by
  obtain ⟨p, e, R, s, m, args, below, meth, c⟩ := X
  intro hC H locs ls hP hS hl
  have hx := hC.1
  have hb := hC.2.1
  exact lv_aload_n hx hb hd rfl (hl.2.2 _ _ h) (kk hC H locs ls hP hS hl)
theorem mw_aload {i : Nat} {x : Nat} (hd : decode cc pc = .ok (.aload i, 2)) (h : lv[i]? = some (some (.ref x)))
    (kk : mW X cc nL rt own d G Q (pc + 2) lv (.ref x :: st) μ) : mW X cc nL rt own d G Q pc lv (st) μ := by
  obtain ⟨p, e, R, s, m, args, below, meth, c⟩ := X
  intro hC H locs ls hP hS hl
  have hx := hC.1
  have hb := hC.2.1
  exact lv_aload hx hb hd (hl.2.2 _ _ h) (kk hC H locs ls hP hS hl)
theorem mw_istore_n {k : Fin 4} {x : Int32} (hd : decode cc pc = .ok (.istore_n k, 1)) (hn : (k : Nat) < nL) (hc : ∀ j o, j + 1 = (k : Nat) → lv[j]? = some o → mC1 o = true)
    (kk : mW X cc nL rt own d G Q (pc + 1) (lv.set (k : Nat) (some (.int x))) (st) μ) : mW X cc nL rt own d G Q pc lv (.int x :: st) μ := by
  obtain ⟨p, e, R, s, m, args, below, meth, c⟩ := X
  intro hC H locs ls hP hS hl
  have hx := hC.1
  have hb := hC.2.1
  exact lv_istore_n hx hb hd rfl hl.has hn rfl (fun ls hl => kk hC H locs ls hP hS (mL.st1 (v := .int x) hl hc))
theorem mw_istore {i : Nat} {x : Int32} (hd : decode cc pc = .ok (.istore i, 2)) (hn : i < nL) (hc : ∀ j o, j + 1 = i → lv[j]? = some o → mC1 o = true)
    (kk : mW X cc nL rt own d G Q (pc + 2) (lv.set i (some (.int x))) (st) μ) : mW X cc nL rt own d G Q pc lv (.int x :: st) μ := by
  obtain ⟨p, e, R, s, m, args, below, meth, c⟩ := X
  intro hC H locs ls hP hS hl
  have hx := hC.1
  have hb := hC.2.1
  exact lv_istore hx hb hd hl.has hn rfl (fun ls hl => kk hC H locs ls hP hS (mL.st1 (v := .int x) hl hc))
theorem mw_astore_n {k : Fin 4} {x : Nat} (hd : decode cc pc = .ok (.astore_n k, 1)) (hn : (k : Nat) < nL) (hc : ∀ j o, j + 1 = (k : Nat) → lv[j]? = some o → mC1 o = true)
    (kk : mW X cc nL rt own d G Q (pc + 1) (lv.set (k : Nat) (some (.ref x))) (st) μ) : mW X cc nL rt own d G Q pc lv (.ref x :: st) μ := by
  obtain ⟨p, e, R, s, m, args, below, meth, c⟩ := X
  intro hC H locs ls hP hS hl
  have hx := hC.1
  have hb := hC.2.1
  exact lv_astore_n hx hb hd rfl hl.has hn rfl (fun ls hl => kk hC H locs ls hP hS (mL.st1 (v := .ref x) hl hc))
theorem mw_astore {i : Nat} {x : Nat} (hd : decode cc pc = .ok (.astore i, 2)) (hn : i < nL) (hc : ∀ j o, j + 1 = i → lv[j]? = some o → mC1 o = true)
    (kk : mW X cc nL rt own d G Q (pc + 2) (lv.set i (some (.ref x))) (st) μ) : mW X cc nL rt own d G Q pc lv (.ref x :: st) μ := by
  obtain ⟨p, e, R, s, m, args, below, meth, c⟩ := X
  intro hC H locs ls hP hS hl
  have hx := hC.1
  have hb := hC.2.1
  exact lv_astore hx hb hd hl.has hn rfl (fun ls hl => kk hC H locs ls hP hS (mL.st1 (v := .ref x) hl hc))
theorem mw_lstore_n {k : Fin 4} {x : Int64} (hd : decode cc pc = .ok (.lstore_n k, 1)) (hn : (k : Nat) + 1 < nL) (hc : ∀ j o, j + 1 = (k : Nat) → lv[j]? = some o → mC1 o = true)
    (kk : mW X cc nL rt own d G Q (pc + 1) ((lv.set (k : Nat) (some (.long x))).set ((k : Nat) + 1) none) (st) μ) : mW X cc nL rt own d G Q pc lv (.long x :: st) μ := by
  obtain ⟨p, e, R, s, m, args, below, meth, c⟩ := X
  intro hC H locs ls hP hS hl
  have hx := hC.1
  have hb := hC.2.1
  exact lv_lstore_n hx hb hd rfl hl.has hn rfl (fun ls hl => kk hC H locs ls hP hS (mL.st2 (v := .long x) hl hc))
theorem mw_lstore {i : Nat} {x : Int64} (hd : decode cc pc = .ok (.lstore i, 2)) (hn : i + 1 < nL) (hc : ∀ j o, j + 1 = i → lv[j]? = some o → mC1 o = true)
    (kk : mW X cc nL rt own d G Q (pc + 2) ((lv.set i (some (.long x))).set (i + 1) none) (st) μ) : mW X cc nL rt own d G Q pc lv (.long x :: st) μ := by
  obtain ⟨p, e, R, s, m, args, below, meth, c⟩ := X
  intro hC H locs ls hP hS hl
  have hx := hC.1
  have hb := hC.2.1
  exact lv_lstore hx hb hd hl.has hn rfl (fun ls hl => kk hC H locs ls hP hS (mL.st2 (v := .long x) hl hc))
theorem mw_iinc {i : Nat} {n z : Int} (hd : decode cc pc = .ok (.iinc i n, 3)) (h : lv[i]? = some (some (.int (iV z)))) (hn : i < nL) (hc : ∀ j o, j + 1 = i → lv[j]? = some o → mC1 o = true)
    (kk : mW X cc nL rt own d G Q (pc + 3) (lv.set i (some (.int (iV (z + n))))) (st) μ) : mW X cc nL rt own d G Q pc lv (st) μ := by
  obtain ⟨p, e, R, s, m, args, below, meth, c⟩ := X
  intro hC H locs ls hP hS hl
  have hx := hC.1
  have hb := hC.2.1
  obtain ⟨k, hk⟩ := List.getElem?_of_mem (mAs_mem.mpr ⟨.int (iV z), h, rfl⟩ : (i, Value.int (iV z)) ∈ mAs G lv)
  exact lv_iinc (v := iV (z + n)) hx hb hd hl.has hk (iV_add z n) hn rfl (fun ls hl => kk hC H locs ls hP hS (mL.st1 (v := .int (iV (z + n))) hl hc))
theorem mw_iadd {a b : Int} (hd : decode cc pc = .ok (.iadd, 1)) 
    (kk : mW X cc nL rt own d G Q (pc + 1) lv (.int (iV (a + b)) :: st) μ) : mW X cc nL rt own d G Q pc lv (.int (iV b) :: .int (iV a) :: st) μ := by
  obtain ⟨p, e, R, s, m, args, below, meth, c⟩ := X
  intro hC H locs ls hP hS hl
  have hx := hC.1
  have hb := hC.2.1
  refine lv_iadd hx hb hd ?_
  rw [iV_add]
  exact kk hC H locs ls hP hS hl
theorem mw_isub {a b : Int} (hd : decode cc pc = .ok (.isub, 1)) 
    (kk : mW X cc nL rt own d G Q (pc + 1) lv (.int (iV (a - b)) :: st) μ) : mW X cc nL rt own d G Q pc lv (.int (iV b) :: .int (iV a) :: st) μ := by
  obtain ⟨p, e, R, s, m, args, below, meth, c⟩ := X
  intro hC H locs ls hP hS hl
  have hx := hC.1
  have hb := hC.2.1
  refine lv_isub hx hb hd ?_
  rw [iV_sub]
  exact kk hC H locs ls hP hS hl
theorem mw_imul {a b : Int} (hd : decode cc pc = .ok (.imul, 1)) 
    (kk : mW X cc nL rt own d G Q (pc + 1) lv (.int (iV (a * b)) :: st) μ) : mW X cc nL rt own d G Q pc lv (.int (iV b) :: .int (iV a) :: st) μ := by
  obtain ⟨p, e, R, s, m, args, below, meth, c⟩ := X
  intro hC H locs ls hP hS hl
  have hx := hC.1
  have hb := hC.2.1
  refine lv_imul hx hb hd ?_
  rw [iV_mul]
  exact kk hC H locs ls hP hS hl
theorem mw_ineg {a : Int} (hd : decode cc pc = .ok (.ineg, 1)) 
    (kk : mW X cc nL rt own d G Q (pc + 1) lv (.int (iV (-a)) :: st) μ) : mW X cc nL rt own d G Q pc lv (.int (iV a) :: st) μ := by
  obtain ⟨p, e, R, s, m, args, below, meth, c⟩ := X
  intro hC H locs ls hP hS hl
  have hx := hC.1
  have hb := hC.2.1
  refine lv_ineg hx hb hd ?_
  rw [iV_neg]
  exact kk hC H locs ls hP hS hl
theorem mw_iand {a b : Int} (hd : decode cc pc = .ok (.iand, 1)) 
    (kk : mW X cc nL rt own d G Q (pc + 1) lv (.int (iV (bAnd a b)) :: st) μ) : mW X cc nL rt own d G Q pc lv (.int (iV b) :: .int (iV a) :: st) μ := by
  obtain ⟨p, e, R, s, m, args, below, meth, c⟩ := X
  intro hC H locs ls hP hS hl
  have hx := hC.1
  have hb := hC.2.1
  refine lv_iand hx hb hd ?_
  rw [← iV_of (iV a &&& iV b)]
  exact kk hC H locs ls hP hS hl
theorem mw_ior {a b : Int} (hd : decode cc pc = .ok (.ior, 1)) 
    (kk : mW X cc nL rt own d G Q (pc + 1) lv (.int (iV (bOr a b)) :: st) μ) : mW X cc nL rt own d G Q pc lv (.int (iV b) :: .int (iV a) :: st) μ := by
  obtain ⟨p, e, R, s, m, args, below, meth, c⟩ := X
  intro hC H locs ls hP hS hl
  have hx := hC.1
  have hb := hC.2.1
  refine lv_ior hx hb hd ?_
  rw [← iV_of (iV a ||| iV b)]
  exact kk hC H locs ls hP hS hl
theorem mw_ixor {a b : Int} (hd : decode cc pc = .ok (.ixor, 1)) 
    (kk : mW X cc nL rt own d G Q (pc + 1) lv (.int (iV (bXor a b)) :: st) μ) : mW X cc nL rt own d G Q pc lv (.int (iV b) :: .int (iV a) :: st) μ := by
  obtain ⟨p, e, R, s, m, args, below, meth, c⟩ := X
  intro hC H locs ls hP hS hl
  have hx := hC.1
  have hb := hC.2.1
  refine lv_ixor hx hb hd ?_
  rw [← iV_of (iV a ^^^ iV b)]
  exact kk hC H locs ls hP hS hl
theorem mw_ishl {a b : Int} (hd : decode cc pc = .ok (.ishl, 1)) 
    (kk : mW X cc nL rt own d G Q (pc + 1) lv (.int (iV (bShl a b)) :: st) μ) : mW X cc nL rt own d G Q pc lv (.int (iV b) :: .int (iV a) :: st) μ := by
  obtain ⟨p, e, R, s, m, args, below, meth, c⟩ := X
  intro hC H locs ls hP hS hl
  have hx := hC.1
  have hb := hC.2.1
  refine lv_ishl hx hb hd ?_
  rw [← iV_of (iV a <<< (iV b &&& 31))]
  exact kk hC H locs ls hP hS hl
theorem mw_ishr {a b : Int} (hd : decode cc pc = .ok (.ishr, 1)) 
    (kk : mW X cc nL rt own d G Q (pc + 1) lv (.int (iV (bShr a b)) :: st) μ) : mW X cc nL rt own d G Q pc lv (.int (iV b) :: .int (iV a) :: st) μ := by
  obtain ⟨p, e, R, s, m, args, below, meth, c⟩ := X
  intro hC H locs ls hP hS hl
  have hx := hC.1
  have hb := hC.2.1
  refine lv_ishr hx hb hd ?_
  rw [← iV_of (iV a >>> (iV b &&& 31))]
  exact kk hC H locs ls hP hS hl
theorem mw_iushr {a b : Int} (hd : decode cc pc = .ok (.iushr, 1)) 
    (kk : mW X cc nL rt own d G Q (pc + 1) lv (.int (iV (bUshr a b)) :: st) μ) : mW X cc nL rt own d G Q pc lv (.int (iV b) :: .int (iV a) :: st) μ := by
  obtain ⟨p, e, R, s, m, args, below, meth, c⟩ := X
  intro hC H locs ls hP hS hl
  have hx := hC.1
  have hb := hC.2.1
  exact lv_iushr hx hb hd (iV_of _).symm (kk hC H locs ls hP hS hl)
theorem mw_idiv {a b : Int} (hd : decode cc pc = .ok (.idiv, 1)) (hr : -2147483648 ≤ b ∧ b ≤ 2147483647) (hne : b ≠ 0)
    (kk : mW X cc nL rt own d G Q (pc + 1) lv (.int (iV (bDiv a b)) :: st) μ) : mW X cc nL rt own d G Q pc lv (.int (iV b) :: .int (iV a) :: st) μ := by
  obtain ⟨p, e, R, s, m, args, below, meth, c⟩ := X
  intro hC H locs ls hP hS hl
  have hx := hC.1
  have hb := hC.2.1
  refine lv_idiv hx hb hd (fun q => hne ((iV_eq hr (by omega)).mp (q.trans iV_0.symm))) ?_
  rw [← iV_of (iV a / iV b)]
  exact kk hC H locs ls hP hS hl
theorem mw_idivN {a b : Int} (hd : decode cc pc = .ok (.idiv, 1)) (ha : 0 ≤ a ∧ a ≤ 2147483647) (hr : 0 < b ∧ b ≤ 2147483647) (kk : mW X cc nL rt own d G Q (pc + 1) lv (.int (iV (a / b)) :: st) μ) : mW X cc nL rt own d G Q pc lv (.int (iV b) :: .int (iV a) :: st) μ := mw_idiv hd (by omega) (by omega) (by rw [bDiv_n ha hr]; exact kk)
theorem mw_irem {a b : Int} (hd : decode cc pc = .ok (.irem, 1)) (hr : -2147483648 ≤ b ∧ b ≤ 2147483647) (hne : b ≠ 0)
    (kk : mW X cc nL rt own d G Q (pc + 1) lv (.int (iV (bRem a b)) :: st) μ) : mW X cc nL rt own d G Q pc lv (.int (iV b) :: .int (iV a) :: st) μ := by
  obtain ⟨p, e, R, s, m, args, below, meth, c⟩ := X
  intro hC H locs ls hP hS hl
  have hx := hC.1
  have hb := hC.2.1
  refine lv_irem hx hb hd (fun q => hne ((iV_eq hr (by omega)).mp (q.trans iV_0.symm))) ?_
  rw [← iV_of (iV a - iV a / iV b * iV b)]
  exact kk hC H locs ls hP hS hl
theorem mw_iremN {a b : Int} (hd : decode cc pc = .ok (.irem, 1)) (ha : 0 ≤ a ∧ a ≤ 2147483647) (hr : 0 < b ∧ b ≤ 2147483647) (kk : mW X cc nL rt own d G Q (pc + 1) lv (.int (iV (a % b)) :: st) μ) : mW X cc nL rt own d G Q pc lv (.int (iV b) :: .int (iV a) :: st) μ := mw_irem hd (by omega) (by omega) (by rw [bRem_n ha hr]; exact kk)
theorem mw_ladd {a b : Int64} (hd : decode cc pc = .ok (.ladd, 1)) 
    (kk : mW X cc nL rt own d G Q (pc + 1) lv (.long (a + b) :: st) μ) : mW X cc nL rt own d G Q pc lv (.long b :: .long a :: st) μ := by
  obtain ⟨p, e, R, s, m, args, below, meth, c⟩ := X
  intro hC H locs ls hP hS hl
  have hx := hC.1
  have hb := hC.2.1
  exact lv_ladd hx hb hd (kk hC H locs ls hP hS hl)
theorem mw_land {a b : Int64} (hd : decode cc pc = .ok (.land, 1)) 
    (kk : mW X cc nL rt own d G Q (pc + 1) lv (.long (a &&& b) :: st) μ) : mW X cc nL rt own d G Q pc lv (.long b :: .long a :: st) μ := by
  obtain ⟨p, e, R, s, m, args, below, meth, c⟩ := X
  intro hC H locs ls hP hS hl
  have hx := hC.1
  have hb := hC.2.1
  exact lv_land hx hb hd (kk hC H locs ls hP hS hl)
theorem mw_lor {a b : Int64} (hd : decode cc pc = .ok (.lor, 1)) 
    (kk : mW X cc nL rt own d G Q (pc + 1) lv (.long (a ||| b) :: st) μ) : mW X cc nL rt own d G Q pc lv (.long b :: .long a :: st) μ := by
  obtain ⟨p, e, R, s, m, args, below, meth, c⟩ := X
  intro hC H locs ls hP hS hl
  have hx := hC.1
  have hb := hC.2.1
  exact lv_lor hx hb hd (kk hC H locs ls hP hS hl)
theorem mw_lushr {x : Int64} {b : Int} (hd : decode cc pc = .ok (.lushr, 1)) 
    (kk : mW X cc nL rt own d G Q (pc + 1) lv (.long ((x.toUInt64 >>> ((iV b).toInt64.toUInt64 &&& Int64.toUInt64 63)).toInt64) :: st) μ) : mW X cc nL rt own d G Q pc lv (.int (iV b) :: .long x :: st) μ := by
  obtain ⟨p, e, R, s, m, args, below, meth, c⟩ := X
  intro hC H locs ls hP hS hl
  have hx := hC.1
  have hb := hC.2.1
  exact lv_lushr hx hb hd rfl (kk hC H locs ls hP hS hl)
theorem mw_lshl {x : Int64} {b : Int} (hd : decode cc pc = .ok (.lshl, 1)) 
    (kk : mW X cc nL rt own d G Q (pc + 1) lv (.long (x <<< ((iV b).toInt64 &&& 63)) :: st) μ) : mW X cc nL rt own d G Q pc lv (.int (iV b) :: .long x :: st) μ := by
  obtain ⟨p, e, R, s, m, args, below, meth, c⟩ := X
  intro hC H locs ls hP hS hl
  have hx := hC.1
  have hb := hC.2.1
  exact lv_lshl hx hb hd rfl (kk hC H locs ls hP hS hl)
theorem mw_lshr {x : Int64} {b : Int} (hd : decode cc pc = .ok (.lshr, 1)) 
    (kk : mW X cc nL rt own d G Q (pc + 1) lv (.long (x >>> ((iV b).toInt64 &&& 63)) :: st) μ) : mW X cc nL rt own d G Q pc lv (.int (iV b) :: .long x :: st) μ := by
  obtain ⟨p, e, R, s, m, args, below, meth, c⟩ := X
  intro hC H locs ls hP hS hl
  have hx := hC.1
  have hb := hC.2.1
  exact lv_lshr hx hb hd rfl (kk hC H locs ls hP hS hl)
theorem mw_i2l {a : Int} (hd : decode cc pc = .ok (.i2l, 1)) 
    (kk : mW X cc nL rt own d G Q (pc + 1) lv (.long ((iV a).toInt64) :: st) μ) : mW X cc nL rt own d G Q pc lv (.int (iV a) :: st) μ := by
  obtain ⟨p, e, R, s, m, args, below, meth, c⟩ := X
  intro hC H locs ls hP hS hl
  have hx := hC.1
  have hb := hC.2.1
  exact lv_i2l hx hb hd rfl (kk hC H locs ls hP hS hl)
theorem mw_l2i {x : Int64} (hd : decode cc pc = .ok (.l2i, 1)) 
    (kk : mW X cc nL rt own d G Q (pc + 1) lv (.int (iV (x.toInt32.toInt)) :: st) μ) : mW X cc nL rt own d G Q pc lv (.long x :: st) μ := by
  obtain ⟨p, e, R, s, m, args, below, meth, c⟩ := X
  intro hC H locs ls hP hS hl
  have hx := hC.1
  have hb := hC.2.1
  exact lv_l2i hx hb hd (iV_of _).symm (kk hC H locs ls hP hS hl)
theorem mw_i2b {a : Int} (hd : decode cc pc = .ok (.i2b, 1)) 
    (kk : mW X cc nL rt own d G Q (pc + 1) lv (.int (iV ((iV a).toInt8.toInt32.toInt)) :: st) μ) : mW X cc nL rt own d G Q pc lv (.int (iV a) :: st) μ := by
  obtain ⟨p, e, R, s, m, args, below, meth, c⟩ := X
  intro hC H locs ls hP hS hl
  have hx := hC.1
  have hb := hC.2.1
  exact lv_i2b hx hb hd (iV_of _).symm (kk hC H locs ls hP hS hl)
theorem mw_i2s {a : Int} (hd : decode cc pc = .ok (.i2s, 1)) 
    (kk : mW X cc nL rt own d G Q (pc + 1) lv (.int (iV ((iV a).toInt16.toInt32.toInt)) :: st) μ) : mW X cc nL rt own d G Q pc lv (.int (iV a) :: st) μ := by
  obtain ⟨p, e, R, s, m, args, below, meth, c⟩ := X
  intro hC H locs ls hP hS hl
  have hx := hC.1
  have hb := hC.2.1
  exact lv_i2s hx hb hd (iV_of _).symm (kk hC H locs ls hP hS hl)
theorem mw_i2c {a : Int} (hd : decode cc pc = .ok (.i2c, 1)) 
    (kk : mW X cc nL rt own d G Q (pc + 1) lv (.int (iV (((iV a).toUInt32 % 65536).toInt32.toInt)) :: st) μ) : mW X cc nL rt own d G Q pc lv (.int (iV a) :: st) μ := by
  obtain ⟨p, e, R, s, m, args, below, meth, c⟩ := X
  intro hC H locs ls hP hS hl
  have hx := hC.1
  have hb := hC.2.1
  exact lv_i2c hx hb hd (iV_of _).symm (kk hC H locs ls hP hS hl)
theorem mw_lcmp {a b : Int64} (hd : decode cc pc = .ok (.lcmp, 1)) 
    (kk : mW X cc nL rt own d G Q (pc + 1) lv (.int (lg_cmp a b) :: st) μ) : mW X cc nL rt own d G Q pc lv (.long b :: .long a :: st) μ := by
  obtain ⟨p, e, R, s, m, args, below, meth, c⟩ := X
  intro hC H locs ls hP hS hl
  have hx := hC.1
  have hb := hC.2.1
  exact W.lcmp hx hb hd (kk hC H locs ls hP hS hl)
theorem mw_dup {v : Value} (hd : decode cc pc = .ok (.dup, 1)) (hv : v.category = 1)
    (kk : mW X cc nL rt own d G Q (pc + 1) lv (v :: v :: st) μ) : mW X cc nL rt own d G Q pc lv (v :: st) μ := by
  obtain ⟨p, e, R, s, m, args, below, meth, c⟩ := X
  intro hC H locs ls hP hS hl
  have hx := hC.1
  have hb := hC.2.1
  exact lv_dup hx hb hd (by rw [cv_cat]; exact hv) (kk hC H locs ls hP hS hl)
theorem mw_dup2 {v u : Value} (hd : decode cc pc = .ok (.dup2, 1)) (hv : v.category = 1) (hu : u.category = 1)
    (kk : mW X cc nL rt own d G Q (pc + 1) lv (v :: u :: v :: u :: st) μ) : mW X cc nL rt own d G Q pc lv (v :: u :: st) μ := by
  obtain ⟨p, e, R, s, m, args, below, meth, c⟩ := X
  intro hC H locs ls hP hS hl
  have hx := hC.1
  have hb := hC.2.1
  exact lv_dup2_11 hx hb hd (by rw [cv_cat]; exact hv) (by rw [cv_cat]; exact hu) (kk hC H locs ls hP hS hl)
theorem mw_pop {v : Value} (hd : decode cc pc = .ok (.pop, 1)) (hv : v.category = 1)
    (kk : mW X cc nL rt own d G Q (pc + 1) lv (st) μ) : mW X cc nL rt own d G Q pc lv (v :: st) μ := by
  obtain ⟨p, e, R, s, m, args, below, meth, c⟩ := X
  intro hC H locs ls hP hS hl
  have hx := hC.1
  have hb := hC.2.1
  exact lv_pop hx hb hd (by rw [cv_cat]; exact hv) (kk hC H locs ls hP hS hl)
theorem mw_ifR_eq {x : Int32} {off : Int} {tgt : Nat} (hd : decode cc pc = .ok (.ifCond .eq off, 3)) (ht : (pc : Int) + off = (tgt : Int)) (kt : x = 0 → mW X cc nL rt own d G Q tgt lv st μ) (kf : ¬ x = 0 → mW X cc nL rt own d G Q (pc + 3) lv st μ) : mW X cc nL rt own d G Q pc lv (.int x :: st) μ := by
  obtain ⟨p, e, R, s, m, args, below, meth, c⟩ := X
  intro hC H locs ls hP hS hl
  exact lv_if_eq hC.1 hC.2.1 hd ht (fun h => kt h hC H locs ls hP hS hl) (fun h => kf h hC H locs ls hP hS hl)
theorem mw_if_eq {a : Int} {off : Int} {tgt : Nat} (hd : decode cc pc = .ok (.ifCond .eq off, 3)) (ht : (pc : Int) + off = (tgt : Int)) (ha : -2147483648 ≤ a ∧ a ≤ 2147483647) (kt : a = 0 → mW X cc nL rt own d G Q tgt lv st μ) (kf : ¬ a = 0 → mW X cc nL rt own d G Q (pc + 3) lv st μ) : mW X cc nL rt own d G Q pc lv (.int (iV a) :: st) μ := by
  have h0 : -2147483648 ≤ (0 : Int) ∧ (0 : Int) ≤ 2147483647 := by omega
  exact mw_ifR_eq hd ht (fun h => kt (by rw [← iV_0] at h; exact (iV_eq ha h0).mp h)) (fun h => kf (fun q => h (by rw [q]; exact iV_0)))
theorem mw_icmp_eq {a b : Int} {off : Int} {tgt : Nat} (hd : decode cc pc = .ok (.if_icmp .eq off, 3)) (ht : (pc : Int) + off = (tgt : Int)) (ha : -2147483648 ≤ a ∧ a ≤ 2147483647) (hb : -2147483648 ≤ b ∧ b ≤ 2147483647) (kt : a = b → mW X cc nL rt own d G Q tgt lv st μ) (kf : ¬ a = b → mW X cc nL rt own d G Q (pc + 3) lv st μ) : mW X cc nL rt own d G Q pc lv (.int (iV b) :: .int (iV a) :: st) μ := by
  obtain ⟨p, e, R, s, m, args, below, meth, c⟩ := X
  intro hC H locs ls hP hS hl
  exact lv_icmp_eq hC.1 hC.2.1 hd ht (fun h => kt ((iV_eq ha hb).mp h) hC H locs ls hP hS hl) (fun h => kf (fun q => h (by rw [q])) hC H locs ls hP hS hl)
theorem mw_ifR_ne {x : Int32} {off : Int} {tgt : Nat} (hd : decode cc pc = .ok (.ifCond .ne off, 3)) (ht : (pc : Int) + off = (tgt : Int)) (kt : x ≠ 0 → mW X cc nL rt own d G Q tgt lv st μ) (kf : x = 0 → mW X cc nL rt own d G Q (pc + 3) lv st μ) : mW X cc nL rt own d G Q pc lv (.int x :: st) μ := by
  obtain ⟨p, e, R, s, m, args, below, meth, c⟩ := X
  intro hC H locs ls hP hS hl
  exact lv_if_ne hC.1 hC.2.1 hd ht (fun h => kt h hC H locs ls hP hS hl) (fun h => kf h hC H locs ls hP hS hl)
theorem mw_if_ne {a : Int} {off : Int} {tgt : Nat} (hd : decode cc pc = .ok (.ifCond .ne off, 3)) (ht : (pc : Int) + off = (tgt : Int)) (ha : -2147483648 ≤ a ∧ a ≤ 2147483647) (kt : ¬ a = 0 → mW X cc nL rt own d G Q tgt lv st μ) (kf : a = 0 → mW X cc nL rt own d G Q (pc + 3) lv st μ) : mW X cc nL rt own d G Q pc lv (.int (iV a) :: st) μ := by
  have h0 : -2147483648 ≤ (0 : Int) ∧ (0 : Int) ≤ 2147483647 := by omega
  exact mw_ifR_ne hd ht (fun h => kt (fun q => h (by rw [q]; exact iV_0))) (fun h => kf (by rw [← iV_0] at h; exact (iV_eq ha h0).mp h))
theorem mw_icmp_ne {a b : Int} {off : Int} {tgt : Nat} (hd : decode cc pc = .ok (.if_icmp .ne off, 3)) (ht : (pc : Int) + off = (tgt : Int)) (ha : -2147483648 ≤ a ∧ a ≤ 2147483647) (hb : -2147483648 ≤ b ∧ b ≤ 2147483647) (kt : ¬ a = b → mW X cc nL rt own d G Q tgt lv st μ) (kf : a = b → mW X cc nL rt own d G Q (pc + 3) lv st μ) : mW X cc nL rt own d G Q pc lv (.int (iV b) :: .int (iV a) :: st) μ := by
  obtain ⟨p, e, R, s, m, args, below, meth, c⟩ := X
  intro hC H locs ls hP hS hl
  exact lv_icmp_ne hC.1 hC.2.1 hd ht (fun h => kt (fun q => h (by rw [q])) hC H locs ls hP hS hl) (fun h => kf ((iV_eq ha hb).mp h) hC H locs ls hP hS hl)
theorem mw_ifR_lt {x : Int32} {off : Int} {tgt : Nat} (hd : decode cc pc = .ok (.ifCond .lt off, 3)) (ht : (pc : Int) + off = (tgt : Int)) (kt : x < 0 → mW X cc nL rt own d G Q tgt lv st μ) (kf : ¬ x < 0 → mW X cc nL rt own d G Q (pc + 3) lv st μ) : mW X cc nL rt own d G Q pc lv (.int x :: st) μ := by
  obtain ⟨p, e, R, s, m, args, below, meth, c⟩ := X
  intro hC H locs ls hP hS hl
  exact lv_if_lt hC.1 hC.2.1 hd ht (fun h => kt h hC H locs ls hP hS hl) (fun h => kf h hC H locs ls hP hS hl)
theorem mw_if_lt {a : Int} {off : Int} {tgt : Nat} (hd : decode cc pc = .ok (.ifCond .lt off, 3)) (ht : (pc : Int) + off = (tgt : Int)) (ha : -2147483648 ≤ a ∧ a ≤ 2147483647) (kt : a < 0 → mW X cc nL rt own d G Q tgt lv st μ) (kf : 0 ≤ a → mW X cc nL rt own d G Q (pc + 3) lv st μ) : mW X cc nL rt own d G Q pc lv (.int (iV a) :: st) μ := by
  have h0 : -2147483648 ≤ (0 : Int) ∧ (0 : Int) ≤ 2147483647 := by omega
  exact mw_ifR_lt hd ht (fun h => kt (by rw [← iV_0] at h; exact (iV_lt ha h0).mp h)) (fun h => kf (by rw [← iV_0, iV_lt ha h0] at h; omega))
theorem mw_icmp_lt {a b : Int} {off : Int} {tgt : Nat} (hd : decode cc pc = .ok (.if_icmp .lt off, 3)) (ht : (pc : Int) + off = (tgt : Int)) (ha : -2147483648 ≤ a ∧ a ≤ 2147483647) (hb : -2147483648 ≤ b ∧ b ≤ 2147483647) (kt : a < b → mW X cc nL rt own d G Q tgt lv st μ) (kf : b ≤ a → mW X cc nL rt own d G Q (pc + 3) lv st μ) : mW X cc nL rt own d G Q pc lv (.int (iV b) :: .int (iV a) :: st) μ := by
  obtain ⟨p, e, R, s, m, args, below, meth, c⟩ := X
  intro hC H locs ls hP hS hl
  exact lv_icmp_lt hC.1 hC.2.1 hd ht (fun h => kt ((iV_lt ha hb).mp h) hC H locs ls hP hS hl) (fun h => kf (by rw [iV_lt ha hb] at h; omega) hC H locs ls hP hS hl)
theorem mw_ifR_ge {x : Int32} {off : Int} {tgt : Nat} (hd : decode cc pc = .ok (.ifCond .ge off, 3)) (ht : (pc : Int) + off = (tgt : Int)) (kt : 0 ≤ x → mW X cc nL rt own d G Q tgt lv st μ) (kf : ¬ 0 ≤ x → mW X cc nL rt own d G Q (pc + 3) lv st μ) : mW X cc nL rt own d G Q pc lv (.int x :: st) μ := by
  obtain ⟨p, e, R, s, m, args, below, meth, c⟩ := X
  intro hC H locs ls hP hS hl
  exact lv_if_ge hC.1 hC.2.1 hd ht (fun h => kt h hC H locs ls hP hS hl) (fun h => kf h hC H locs ls hP hS hl)
theorem mw_if_ge {a : Int} {off : Int} {tgt : Nat} (hd : decode cc pc = .ok (.ifCond .ge off, 3)) (ht : (pc : Int) + off = (tgt : Int)) (ha : -2147483648 ≤ a ∧ a ≤ 2147483647) (kt : 0 ≤ a → mW X cc nL rt own d G Q tgt lv st μ) (kf : a < 0 → mW X cc nL rt own d G Q (pc + 3) lv st μ) : mW X cc nL rt own d G Q pc lv (.int (iV a) :: st) μ := by
  have h0 : -2147483648 ≤ (0 : Int) ∧ (0 : Int) ≤ 2147483647 := by omega
  exact mw_ifR_ge hd ht (fun h => kt (by rw [← iV_0] at h; exact (iV_le h0 ha).mp h)) (fun h => kf (by rw [← iV_0, iV_le h0 ha] at h; omega))
theorem mw_icmp_ge {a b : Int} {off : Int} {tgt : Nat} (hd : decode cc pc = .ok (.if_icmp .ge off, 3)) (ht : (pc : Int) + off = (tgt : Int)) (ha : -2147483648 ≤ a ∧ a ≤ 2147483647) (hb : -2147483648 ≤ b ∧ b ≤ 2147483647) (kt : b ≤ a → mW X cc nL rt own d G Q tgt lv st μ) (kf : a < b → mW X cc nL rt own d G Q (pc + 3) lv st μ) : mW X cc nL rt own d G Q pc lv (.int (iV b) :: .int (iV a) :: st) μ := by
  obtain ⟨p, e, R, s, m, args, below, meth, c⟩ := X
  intro hC H locs ls hP hS hl
  exact lv_icmp_ge hC.1 hC.2.1 hd ht (fun h => kt ((iV_le hb ha).mp h) hC H locs ls hP hS hl) (fun h => kf (by rw [iV_le hb ha] at h; omega) hC H locs ls hP hS hl)
theorem mw_ifR_gt {x : Int32} {off : Int} {tgt : Nat} (hd : decode cc pc = .ok (.ifCond .gt off, 3)) (ht : (pc : Int) + off = (tgt : Int)) (kt : 0 < x → mW X cc nL rt own d G Q tgt lv st μ) (kf : ¬ 0 < x → mW X cc nL rt own d G Q (pc + 3) lv st μ) : mW X cc nL rt own d G Q pc lv (.int x :: st) μ := by
  obtain ⟨p, e, R, s, m, args, below, meth, c⟩ := X
  intro hC H locs ls hP hS hl
  exact lv_if_gt hC.1 hC.2.1 hd ht (fun h => kt h hC H locs ls hP hS hl) (fun h => kf h hC H locs ls hP hS hl)
theorem mw_if_gt {a : Int} {off : Int} {tgt : Nat} (hd : decode cc pc = .ok (.ifCond .gt off, 3)) (ht : (pc : Int) + off = (tgt : Int)) (ha : -2147483648 ≤ a ∧ a ≤ 2147483647) (kt : 0 < a → mW X cc nL rt own d G Q tgt lv st μ) (kf : a ≤ 0 → mW X cc nL rt own d G Q (pc + 3) lv st μ) : mW X cc nL rt own d G Q pc lv (.int (iV a) :: st) μ := by
  have h0 : -2147483648 ≤ (0 : Int) ∧ (0 : Int) ≤ 2147483647 := by omega
  exact mw_ifR_gt hd ht (fun h => kt (by rw [← iV_0] at h; exact (iV_lt h0 ha).mp h)) (fun h => kf (by rw [← iV_0, iV_lt h0 ha] at h; omega))
theorem mw_icmp_gt {a b : Int} {off : Int} {tgt : Nat} (hd : decode cc pc = .ok (.if_icmp .gt off, 3)) (ht : (pc : Int) + off = (tgt : Int)) (ha : -2147483648 ≤ a ∧ a ≤ 2147483647) (hb : -2147483648 ≤ b ∧ b ≤ 2147483647) (kt : b < a → mW X cc nL rt own d G Q tgt lv st μ) (kf : a ≤ b → mW X cc nL rt own d G Q (pc + 3) lv st μ) : mW X cc nL rt own d G Q pc lv (.int (iV b) :: .int (iV a) :: st) μ := by
  obtain ⟨p, e, R, s, m, args, below, meth, c⟩ := X
  intro hC H locs ls hP hS hl
  exact lv_icmp_gt hC.1 hC.2.1 hd ht (fun h => kt ((iV_lt hb ha).mp h) hC H locs ls hP hS hl) (fun h => kf (by rw [iV_lt hb ha] at h; omega) hC H locs ls hP hS hl)
theorem mw_ifR_le {x : Int32} {off : Int} {tgt : Nat} (hd : decode cc pc = .ok (.ifCond .le off, 3)) (ht : (pc : Int) + off = (tgt : Int)) (kt : x ≤ 0 → mW X cc nL rt own d G Q tgt lv st μ) (kf : ¬ x ≤ 0 → mW X cc nL rt own d G Q (pc + 3) lv st μ) : mW X cc nL rt own d G Q pc lv (.int x :: st) μ := by
  obtain ⟨p, e, R, s, m, args, below, meth, c⟩ := X
  intro hC H locs ls hP hS hl
  exact lv_if_le hC.1 hC.2.1 hd ht (fun h => kt h hC H locs ls hP hS hl) (fun h => kf h hC H locs ls hP hS hl)
theorem mw_if_le {a : Int} {off : Int} {tgt : Nat} (hd : decode cc pc = .ok (.ifCond .le off, 3)) (ht : (pc : Int) + off = (tgt : Int)) (ha : -2147483648 ≤ a ∧ a ≤ 2147483647) (kt : a ≤ 0 → mW X cc nL rt own d G Q tgt lv st μ) (kf : 0 < a → mW X cc nL rt own d G Q (pc + 3) lv st μ) : mW X cc nL rt own d G Q pc lv (.int (iV a) :: st) μ := by
  have h0 : -2147483648 ≤ (0 : Int) ∧ (0 : Int) ≤ 2147483647 := by omega
  exact mw_ifR_le hd ht (fun h => kt (by rw [← iV_0] at h; exact (iV_le ha h0).mp h)) (fun h => kf (by rw [← iV_0, iV_le ha h0] at h; omega))
theorem mw_icmp_le {a b : Int} {off : Int} {tgt : Nat} (hd : decode cc pc = .ok (.if_icmp .le off, 3)) (ht : (pc : Int) + off = (tgt : Int)) (ha : -2147483648 ≤ a ∧ a ≤ 2147483647) (hb : -2147483648 ≤ b ∧ b ≤ 2147483647) (kt : a ≤ b → mW X cc nL rt own d G Q tgt lv st μ) (kf : b < a → mW X cc nL rt own d G Q (pc + 3) lv st μ) : mW X cc nL rt own d G Q pc lv (.int (iV b) :: .int (iV a) :: st) μ := by
  obtain ⟨p, e, R, s, m, args, below, meth, c⟩ := X
  intro hC H locs ls hP hS hl
  exact lv_icmp_le hC.1 hC.2.1 hd ht (fun h => kt ((iV_le ha hb).mp h) hC H locs ls hP hS hl) (fun h => kf (by rw [iV_le ha hb] at h; omega) hC H locs ls hP hS hl)
theorem mw_goto {off : Int} {tgt : Nat} (hd : decode cc pc = .ok (.goto off, 3)) (ht : (pc : Int) + off = (tgt : Int)) (kk : mW X cc nL rt own d G Q tgt lv st μ) : mW X cc nL rt own d G Q pc lv st μ := by
  obtain ⟨p, e, R, s, m, args, below, meth, c⟩ := X
  intro hC H locs ls hP hS hl
  exact lv_goto hC.1 hC.2.1 hd ht (kk hC H locs ls hP hS hl)
theorem mw_tblOut {dflt lo hi : Int} {offs : Array Int} {len : Nat} {a : Int} {tgt : Nat} (hd : decode cc pc = .ok (.tableswitch dflt lo hi offs, len)) (ha : -2147483648 ≤ a ∧ a ≤ 2147483647) (h : a < lo ∨ hi < a) (ht : (pc : Int) + dflt = (tgt : Int)) (kk : mW X cc nL rt own d G Q tgt lv st μ) : mW X cc nL rt own d G Q pc lv (.int (iV a) :: st) μ := by
  obtain ⟨p, e, R, s, m, args, below, meth, c⟩ := X
  intro hC H locs ls hP hS hl
  exact lv_tableOut hC.1 hC.2.1 hd (by rw [iV_toInt ha]; exact h) ht (kk hC H locs ls hP hS hl)
theorem mw_tblIn {dflt lo hi : Int} {offs : Array Int} {len : Nat} {a : Int} {off : Int} {tgt : Nat} (hd : decode cc pc = .ok (.tableswitch dflt lo hi offs, len)) (ha : -2147483648 ≤ a ∧ a ≤ 2147483647) (h1 : lo ≤ a) (h2 : a ≤ hi) (ho : offs[(a - lo).toNat]? = some off) (ht : (pc : Int) + off = (tgt : Int)) (kk : mW X cc nL rt own d G Q tgt lv st μ) : mW X cc nL rt own d G Q pc lv (.int (iV a) :: st) μ := by
  obtain ⟨p, e, R, s, m, args, below, meth, c⟩ := X
  intro hC H locs ls hP hS hl
  exact lv_tableIn hC.1 hC.2.1 hd (by rw [iV_toInt ha]; omega) (by rw [iV_toInt ha]; omega) (by rw [iV_toInt ha]; exact ho) ht (kk hC H locs ls hP hS hl)
theorem mw_lkp {dflt : Int} {ps : Array (Int × Int)} {len : Nat} {a : Int} {off : Int} {tgt : Nat} (hd : decode cc pc = .ok (.lookupswitch dflt ps, len)) (ha : -2147483648 ≤ a ∧ a ≤ 2147483647) (hp : (ps.toList.zip (ps.toList.drop 1)).all (fun (a, next) => a.1 < next.1) = true) (ho : Op.lookupswitch.offset ps.toList dflt a = off) (ht : (pc : Int) + off = (tgt : Int)) (kk : mW X cc nL rt own d G Q tgt lv st μ) : mW X cc nL rt own d G Q pc lv (.int (iV a) :: st) μ := by
  obtain ⟨p, e, R, s, m, args, below, meth, c⟩ := X
  intro hC H locs ls hP hS hl
  exact lv_lookup hC.1 hC.2.1 hd hp (by rw [iV_toInt ha]; exact ho) ht (kk hC H locs ls hP hS hl)
theorem mw_iret {x : Int32} (hd : decode cc pc = .ok (.ireturn, 1)) (hr : rt = some .int) (hq : Q (some (.int x)) μ) : mW X cc nL rt own d G Q pc lv [.int x] μ := by
  obtain ⟨p, e, R, s, m, args, below, meth, c⟩ := X
  intro hC H locs ls hP hS hl
  have hlocks := hC.2.2.2.2.2.1
  exact W.iret (v := x) hC.1 hC.2.1 (hC.2.2.2.1.trans hr) (fun t ht hW => ⟨⟨some (.int x), μ, rfl, hq, by rw [ht]; exact hP⟩, hS.F ht⟩) hS.2.2 hd hlocks
theorem mw_zret {x : Int32} {ty : FieldType} (hd : decode cc pc = .ok (.ireturn, 1)) (hr : rt = some ty) (hn : narrow ty (.int x) = .int x) (hq : Q (some (.int x)) μ) : mW X cc nL rt own d G Q pc lv [.int x] μ := by
  obtain ⟨p, e, R, s, m, args, below, meth, c⟩ := X
  intro hC H locs ls hP hS hl
  have hlocks := hC.2.2.2.2.2.1
  exact W.zret (v := x) hC.1 hC.2.1 (hC.2.2.2.1.trans hr) hn (fun t ht hW => ⟨⟨some (.int x), μ, rfl, hq, by rw [ht]; exact hP⟩, hS.F ht⟩) hS.2.2 hd hlocks
theorem mw_lret {x : Int64} (hd : decode cc pc = .ok (.lreturn, 1)) (hr : rt = some .long) (hq : Q (some (.long x)) μ) : mW X cc nL rt own d G Q pc lv [.long x] μ := by
  obtain ⟨p, e, R, s, m, args, below, meth, c⟩ := X
  intro hC H locs ls hP hS hl
  have hlocks := hC.2.2.2.2.2.1
  exact W.lret (v := x) hC.1 hC.2.1 (hC.2.2.2.1.trans hr) (fun t ht hW => ⟨⟨some (.long x), μ, rfl, hq, by rw [ht]; exact hP⟩, hS.F ht⟩) hS.2.2 hd hlocks
theorem mw_vret (hd : decode cc pc = .ok (.return_, 1)) (hr : rt = none) (hq : Q none μ) : mW X cc nL rt own d G Q pc lv [] μ := by
  obtain ⟨p, e, R, s, m, args, below, meth, c⟩ := X
  intro hC H locs ls hP hS hl
  have hlocks := hC.2.2.2.2.2.1
  exact W.vret hC.1 hC.2.1 (hC.2.2.2.1.trans hr) (fun t ht hW => ⟨⟨none, μ, rfl, hq, by rw [ht]; exact hP⟩, hS.F ht⟩) hS.2.2 hd hlocks
theorem mw_aret {k : Nat} {rn : FieldType} (hd : decode cc pc = .ok (.areturn, 1)) (hr : rt = some rn) (hrt : (∃ n, rn = .object n) ∨ ∃ t, rn = .array t) (hq : Q (some (.ref k)) μ) : mW X cc nL rt own d G Q pc lv [.ref k] μ := by
  obtain ⟨p, e, R, s, m, args, below, meth, c⟩ := X
  intro hC H locs ls hP hS hl
  have hlocks := hC.2.2.2.2.2.1
  exact W.aret (v := .ref (G.1 k)) hC.1 hC.2.1 (hC.2.2.2.1.trans hr) hrt (Or.inr ⟨_, rfl⟩) (fun t ht hW => ⟨⟨some (.ref k), μ, rfl, hq, by rw [ht]; exact hP⟩, hS.F ht⟩) hS.2.2 hd hlocks
end MINI

/-! ===== a row of 68 numbers tells all that section 1 tells: 0 the day, 1 how many attaches, 2 + side how many tones, 4 + 12 side + i a tone, 28 + 5 a + field of an attache ===== -/
def tn (F : Int → Int) (s : Int) : Int → Int := fun i => F (4 + 12 * s + i)
def fInv (F : Int → Int) : Prop := 0 ≤ F 0 ∧ (0 ≤ F 1 ∧ F 1 ≤ 8) ∧ (∀ s : Int, 0 ≤ s → s ≤ 1 → 0 ≤ F (2 + s) ∧ F (2 + s) ≤ 12) ∧ (∀ s i : Int, 0 ≤ s → s ≤ 1 → 0 ≤ i → i < 12 → 0 ≤ F (4 + 12 * s + i) ∧ F (4 + 12 * s + i) < 12) ∧ ∀ a : Int, 0 ≤ a → a < 8 → (0 ≤ F (28 + 5 * a + 0) ∧ F (28 + 5 * a + 0) < 6) ∧ (0 ≤ F (28 + 5 * a + 1) ∧ F (28 + 5 * a + 1) ≤ 1) ∧ (0 ≤ F (28 + 5 * a + 2) ∧ F (28 + 5 * a + 2) < 12) ∧ (0 ≤ F (28 + 5 * a + 3) ∧ F (28 + 5 * a + 3) < 4096) ∧ (0 ≤ F (28 + 5 * a + 4) ∧ F (28 + 5 * a + 4) ≤ 9999)
def many (F : Int → Int) (s : Int) : Nat → Int
  | 0 => 0
  | n + 1 => many F s n + (if F (28 + 5 * (n : Int) + 1) = s then 1 else 0)
theorem many_bd (F : Int → Int) (s : Int) : ∀ n : Nat, 0 ≤ many F s n ∧ many F s n ≤ n
  | 0 => ⟨Int.le_refl 0, Int.le_refl 0⟩
  | n + 1 => by
    have h := many_bd F s n
    rw [many]
    split <;> omega
def whL (F : Int → Int) (s : Int) : Nat → Int → Int → Int
  | 0, _, _ => -1
  | k + 1, a, l => if F (28 + 5 * a + 1) = s then (if l = 0 then a else whL F s k (a + 1) (l - 1)) else whL F s k (a + 1) l
theorem whL_r (F : Int → Int) (s : Int) : ∀ (k : Nat) (a l : Int), whL F s k a l = -1 ∨ (a ≤ whL F s k a l ∧ whL F s k a l < a + k ∧ F (28 + 5 * whL F s k a l + 1) = s)
  | 0, a, l => Or.inl rfl
  | k + 1, a, l => by
    rw [whL]
    split
    · split
      · exact Or.inr ⟨by omega, by omega, by assumption⟩
      · rcases whL_r F s k (a + 1) (l - 1) with h | ⟨h1, h2, h3⟩
        · exact Or.inl h
        · exact Or.inr ⟨by omega, by omega, h3⟩
    · rcases whL_r F s k (a + 1) l with h | ⟨h1, h2, h3⟩
      · exact Or.inl h
      · exact Or.inr ⟨by omega, by omega, h3⟩
def whose (F : Int → Int) : Int := if many F (F 0 % 2) (F 1).toNat = 0 then -1 else whL F (F 0 % 2) (F 1).toNat 0 (F 0 / 2 % many F (F 0 % 2) (F 1).toNat)
theorem whose_r (F : Int → Int) (h : 0 ≤ F 1) : whose F = -1 ∨ (0 ≤ whose F ∧ whose F < F 1 ∧ F (28 + 5 * whose F + 1) = F 0 % 2) := by
  unfold whose
  split
  · exact Or.inl rfl
  · rcases whL_r F (F 0 % 2) (F 1).toNat 0 (F 0 / 2 % many F (F 0 % 2) (F 1).toNat) with h1 | ⟨h1, h2, h3⟩
    · exact Or.inl h1
    · exact Or.inr ⟨h1, by omega, h3⟩
/-- what an attache's answer makes of the row -/
def wrF (F : Int → Int) (a : Int) : Int → Int := fun j =>
  if 4 + 12 * F (28 + 5 * a + 1) ≤ j ∧ j < 4 + 12 * F (28 + 5 * a + 1) + lng (F (28 + 5 * a + 0)) (F (2 + (1 - F (28 + 5 * a + 1)))) then ansI (F (28 + 5 * a + 0)) (F (28 + 5 * a + 2)) (F (28 + 5 * a + 3)) (F (2 + (1 - F (28 + 5 * a + 1)))) (tn F (1 - F (28 + 5 * a + 1))) (j - (4 + 12 * F (28 + 5 * a + 1)))
  else if j = 2 + F (28 + 5 * a + 1) then lng (F (28 + 5 * a + 0)) (F (2 + (1 - F (28 + 5 * a + 1)))) else if j = 28 + 5 * a + 4 then min (F (28 + 5 * a + 4) + 1) 9999 else F j
def dayF (F : Int → Int) : Int → Int := fun j => if j = 0 then F 0 + 1 else if 0 ≤ whose F ∧ 0 < F (2 + (1 - F (28 + 5 * whose F + 1))) then wrF F (whose F) j else F j
theorem wr_tone {F : Int → Int} {a : Int} (s : Int) {i : Int} (hs : s = F (28 + 5 * a + 1)) (hi : 0 ≤ i ∧ i < lng (F (28 + 5 * a + 0)) (F (2 + (1 - s)))) : wrF F a (4 + 12 * s + i) = ansI (F (28 + 5 * a + 0)) (F (28 + 5 * a + 2)) (F (28 + 5 * a + 3)) (F (2 + (1 - s))) (tn F (1 - s)) i := by
  unfold wrF
  rw [← hs, if_pos (by omega), show 4 + 12 * s + i - (4 + 12 * s) = i by omega]
theorem wr_len {F : Int → Int} {a : Int} (s : Int) (hs : s = F (28 + 5 * a + 1)) (h : 0 ≤ s ∧ s ≤ 1) (hn : lng (F (28 + 5 * a + 0)) (F (2 + (1 - s))) ≤ 12) : wrF F a (2 + s) = lng (F (28 + 5 * a + 0)) (F (2 + (1 - s))) := by
  unfold wrF
  rw [← hs, if_neg (by omega), if_pos rfl]
theorem wr_wrote {F : Int → Int} {a : Int} (s : Int) (hs : s = F (28 + 5 * a + 1)) (h : 0 ≤ s ∧ s ≤ 1) (ha : 0 ≤ a) (hn : lng (F (28 + 5 * a + 0)) (F (2 + (1 - s))) ≤ 12) : wrF F a (28 + 5 * a + 4) = min (F (28 + 5 * a + 4) + 1) 9999 := by
  unfold wrF
  rw [← hs, if_neg (by omega), if_neg (by omega), if_pos rfl]
theorem wr_o {F : Int → Int} {a j : Int} (s : Int) (hs : s = F (28 + 5 * a + 1)) (h1 : ¬ (4 + 12 * s ≤ j ∧ j < 4 + 12 * s + lng (F (28 + 5 * a + 0)) (F (2 + (1 - s))))) (h2 : j ≠ 2 + s) (h3 : j ≠ 28 + 5 * a + 4) : wrF F a j = F j := by
  unfold wrF
  rw [← hs, if_neg h1, if_neg h2, if_neg h3]
theorem day_0 (F : Int → Int) : dayF F 0 = F 0 + 1 := by simp [dayF]
theorem day_w {F : Int → Int} {j : Int} (hj : j ≠ 0) (h : 0 ≤ whose F ∧ 0 < F (2 + (1 - F (28 + 5 * whose F + 1)))) : dayF F j = wrF F (whose F) j := by
  unfold dayF
  rw [if_neg hj, if_pos h]
theorem day_n {F : Int → Int} {j : Int} (hj : j ≠ 0) (h : ¬ (0 ≤ whose F ∧ 0 < F (2 + (1 - F (28 + 5 * whose F + 1))))) : dayF F j = F j := by
  unfold dayF
  rw [if_neg hj, if_neg h]
theorem wr_inv {F : Int → Int} {a : Int} (h : fInv F) (ha : 0 ≤ a ∧ a < 8) : ∀ j : Int, 1 ≤ j → j < 68 → (wrF F a j = F j ∨ (4 ≤ j ∧ j < 28 ∧ 0 ≤ wrF F a j ∧ wrF F a j < 12) ∨ (2 ≤ j ∧ j ≤ 3 ∧ 0 ≤ wrF F a j ∧ wrF F a j ≤ 12) ∨ (j = 28 + 5 * a + 4 ∧ 0 ≤ wrF F a j ∧ wrF F a j ≤ 9999)) := by
  intro j hj1 hj2
  obtain ⟨g0, g1, g2, g3, g4⟩ := h
  obtain ⟨k0, k1, k2, k3, k4⟩ := g4 a ha.1 ha.2
  have hn := g2 (1 - F (28 + 5 * a + 1)) (by omega) (by omega)
  have hl := lng_bd (kind := F (28 + 5 * a + 0)) hn.1
  have hs : F (28 + 5 * a + 1) = 0 ∨ F (28 + 5 * a + 1) = 1 := by omega
  unfold wrF
  split
  · have hb := ans_bd (F (28 + 5 * a + 0)) (F (28 + 5 * a + 2)) (F (28 + 5 * a + 3)) (F (2 + (1 - F (28 + 5 * a + 1)))) (tn F (1 - F (28 + 5 * a + 1))) (j - (4 + 12 * F (28 + 5 * a + 1)))
    exact Or.inr (Or.inl ⟨by omega, by omega, hb.1, hb.2⟩)
  · split
    · exact Or.inr (Or.inr (Or.inl ⟨by omega, by omega, by omega, by omega⟩))
    · split
      · exact Or.inr (Or.inr (Or.inr ⟨by assumption, by omega, by omega⟩))
      · exact Or.inl rfl
theorem day_inv {F : Int → Int} (h : fInv F) : fInv (dayF F) := by
  obtain ⟨g0, g1, g2, g3, g4⟩ := id h
  by_cases hw : 0 ≤ whose F ∧ 0 < F (2 + (1 - F (28 + 5 * whose F + 1)))
  · have hr : whose F < 8 := by
      rcases whose_r F g1.1 with q | q <;> omega
    have hv := wr_inv h ⟨hw.1, hr⟩
    refine ⟨by rw [day_0]; omega, ?_, fun s h1 h2 => ?_, fun s i h1 h2 h3 h4 => ?_, fun a h1 h2 => ?_⟩
    · rw [day_w (by omega) hw]
      rcases hv 1 (by omega) (by omega) with q | q | q | q <;> omega
    · rw [day_w (by omega) hw]
      have := g2 s h1 h2
      rcases hv (2 + s) (by omega) (by omega) with q | q | q | q <;> omega
    · rw [day_w (by omega) hw]
      have := g3 s i h1 h2 h3 h4
      rcases hv (4 + 12 * s + i) (by omega) (by omega) with q | q | q | q <;> omega
    · obtain ⟨k0, k1, k2, k3, k4⟩ := g4 a h1 h2
      rw [day_w (by omega) hw, day_w (by omega) hw, day_w (by omega) hw, day_w (by omega) hw, day_w (by omega) hw]
      refine ⟨?_, ?_, ?_, ?_, ?_⟩
      · rcases hv (28 + 5 * a + 0) (by omega) (by omega) with q | q | q | q <;> omega
      · rcases hv (28 + 5 * a + 1) (by omega) (by omega) with q | q | q | q <;> omega
      · rcases hv (28 + 5 * a + 2) (by omega) (by omega) with q | q | q | q <;> omega
      · rcases hv (28 + 5 * a + 3) (by omega) (by omega) with q | q | q | q <;> omega
      · rcases hv (28 + 5 * a + 4) (by omega) (by omega) with q | q | q | q <;> omega
  · refine ⟨by rw [day_0]; omega, ?_, fun s h1 h2 => ?_, fun s i h1 h2 h3 h4 => ?_, fun a h1 h2 => ?_⟩
    · rw [day_n (by omega) hw]; exact g1
    · rw [day_n (by omega) hw]; exact g2 s h1 h2
    · rw [day_n (by omega) hw]; exact g3 s i h1 h2 h3 h4
    · rw [day_n (by omega) hw, day_n (by omega) hw, day_n (by omega) hw, day_n (by omega) hw, day_n (by omega) hw]; exact g4 a h1 h2
def daysF : Nat → (Int → Int) → Int → Int
  | 0, F => F
  | n + 1, F => daysF n (dayF F)
theorem days_succ : ∀ (n : Nat) (F : Int → Int), daysF (n + 1) F = dayF (daysF n F)
  | 0, _ => rfl
  | n + 1, F => days_succ n (dayF F)
theorem days_inv {F : Int → Int} (h : fInv F) : ∀ n : Nat, fInv (daysF n F)
  | 0 => h
  | n + 1 => by rw [days_succ]; exact day_inv (days_inv h n)
theorem days_day (F : Int → Int) : ∀ n : Nat, daysF n F 0 = F 0 + n
  | 0 => (Int.add_zero _).symm
  | n + 1 => by rw [days_succ, day_0, days_day F n]; omega
/-! a fugue of the class in the memory: its cell b, its tunes' b + 1 and b + 3, its attaches' from b + 6 on -/
def tc (b : Nat) (s : Int) : Nat := if s = 0 then b + 1 else b + 3
def FUG (μ : mMem) (b : Nat) (F : Int → Int) : Prop := μ.1 b 3 = F 1 ∧ μ.1 b 4 = F 0 ∧ (∀ s : Int, 0 ≤ s → s ≤ 1 → μ.1 (tc b s) 1 = F (2 + s) ∧ ∀ i : Int, 0 ≤ i → i < F (2 + s) → μ.1 (tc b s + 1) i = F (4 + 12 * s + i)) ∧ ∀ a : Int, 0 ≤ a → a < F 1 → ∀ f : Int, 0 ≤ f → f < 5 → μ.1 (b + 5 + 1 + a.toNat) f = F (28 + 5 * a + f)
def BK (b : Nat) : Prop := b = 1 ∨ b = 15 ∨ b = 29
theorem bk_at {b : Nat} (h : BK b) : mCls b = 1 ∧ mCls (b + 1) = 5 ∧ mCls (b + 1 + 1) = 8 ∧ mLen (b + 1 + 1) = 12 ∧ mCls (b + 3) = 5 ∧ mCls (b + 3 + 1) = 8 ∧ mLen (b + 3 + 1) = 12 ∧ mCls (b + 5) = 10 ∧ mLen (b + 5) = 8 := by
  rcases h with rfl | rfl | rfl <;> decide
theorem bk_a {b : Nat} (h : BK b) {a : Int} (ha : 0 ≤ a ∧ a < 8) : mCls (b + 5 + 1 + a.toNat) = 0 := by
  have key : ∀ n : Nat, n < 8 → mCls (1 + 5 + 1 + n) = 0 ∧ mCls (15 + 5 + 1 + n) = 0 ∧ mCls (29 + 5 + 1 + n) = 0 := by decide
  have := key a.toNat (by omega)
  rcases h with rfl | rfl | rfl
  · exact this.1
  · exact this.2.1
  · exact this.2.2
theorem bk_t {b : Nat} (h : BK b) (s : Int) : mCls (tc b s) = 5 ∧ mCls (tc b s + 1) = 8 ∧ mLen (tc b s + 1) = 12 := by
  have := bk_at h
  unfold tc
  split
  · exact ⟨this.2.1, this.2.2.1, this.2.2.2.1⟩
  · exact ⟨this.2.2.2.2.1, this.2.2.2.2.2.1, this.2.2.2.2.2.2.1⟩
theorem tc_c {s : Int} (hs : 0 ≤ s ∧ s ≤ 1) (b : Nat) : (s = 0 ∧ tc b s = b + 1) ∨ (s = 1 ∧ tc b s = b + 3) := by
  unfold tc
  by_cases h : s = 0
  · exact Or.inl ⟨h, by rw [if_pos h]⟩
  · exact Or.inr ⟨by omega, by rw [if_neg h]⟩
/-- nothing but the block of a fugue is changed -/
def FR (b : Nat) (μ m : mMem) : Prop := (∀ c : Nat, c < b ∨ b + 14 ≤ c → m.1 c = μ.1 c) ∧ m.2 = μ.2
theorem FR.rf {b : Nat} {μ : mMem} : FR b μ μ := ⟨fun _ _ => rfl, rfl⟩
theorem FR.tr {b : Nat} {μ m m2 : mMem} (h : FR b μ m) (h2 : FR b m m2) : FR b μ m2 := ⟨fun c hc => (h2.1 c hc).trans (h.1 c hc), h2.2.trans h.2⟩
theorem FUG.keep {μ m : mMem} {b : Nat} {F : Int → Int} (h : FUG μ b F) (hb : F 1 ≤ 8) (hk : ∀ c : Nat, b ≤ c → c < b + 14 → m.1 c = μ.1 c) : FUG m b F := by
  obtain ⟨h1, h2, h3, h4⟩ := h
  refine ⟨by rw [hk b (by omega) (by omega)]; exact h1, by rw [hk b (by omega) (by omega)]; exact h2, fun s q1 q2 => ?_, fun a q1 q2 f q3 q4 => ?_⟩
  · have ht := tc_c ⟨q1, q2⟩ b
    rw [hk (tc b s) (by omega) (by omega), hk (tc b s + 1) (by omega) (by omega)]
    exact h3 s q1 q2
  · rw [hk _ (by omega) (by omega)]
    exact h4 a q1 q2 f q3 q4
theorem FUG.other {μ m : mMem} {b b2 : Nat} {F : Int → Int} (h : FUG μ b2 F) (hb : F 1 ≤ 8) (h1 : BK b) (h2 : BK b2) (hne : b2 ≠ b) (hf : FR b μ m) : FUG m b2 F := by
  refine h.keep hb (fun c q1 q2 => hf.1 c ?_)
  unfold BK at h1 h2
  omega
/-- what a tune's cells are, by the row -/
theorem FUG.tn {μ : mMem} {b : Nat} {F : Int → Int} (h : FUG μ b F) (hi : fInv F) {s : Int} (hs : 0 ≤ s ∧ s ≤ 1) : μ.1 (tc b s) 1 = F (2 + s) ∧ (0 ≤ μ.1 (tc b s) 1 ∧ μ.1 (tc b s) 1 ≤ 12) ∧ (∀ i : Int, 0 ≤ i → i < μ.1 (tc b s) 1 → 0 ≤ μ.1 (tc b s + 1) i ∧ μ.1 (tc b s + 1) i < 12) ∧ ∀ i : Int, 0 ≤ i → i < F (2 + s) → μ.1 (tc b s + 1) i = tn F s i := by
  obtain ⟨e1, e2⟩ := h.2.2.1 s hs.1 hs.2
  have h2 := hi.2.2.1 s hs.1 hs.2
  refine ⟨e1, by rw [e1]; exact h2, fun i q1 q2 => ?_, e2⟩
  rw [e1] at q2
  rw [e2 i q1 q2]
  exact hi.2.2.2.1 s i hs.1 hs.2 q1 (by omega)
theorem FUG.at {μ : mMem} {b : Nat} {F : Int → Int} (h : FUG μ b F) (hi : fInv F) {a : Int} (ha : 0 ≤ a ∧ a < F 1) : μ.1 (b + 5 + 1 + a.toNat) 0 = F (28 + 5 * a + 0) ∧ μ.1 (b + 5 + 1 + a.toNat) 1 = F (28 + 5 * a + 1) ∧ μ.1 (b + 5 + 1 + a.toNat) 2 = F (28 + 5 * a + 2) ∧ μ.1 (b + 5 + 1 + a.toNat) 3 = F (28 + 5 * a + 3) ∧ μ.1 (b + 5 + 1 + a.toNat) 4 = F (28 + 5 * a + 4) ∧ (0 ≤ F (28 + 5 * a + 0) ∧ F (28 + 5 * a + 0) < 6) ∧ (0 ≤ F (28 + 5 * a + 1) ∧ F (28 + 5 * a + 1) ≤ 1) ∧ (0 ≤ F (28 + 5 * a + 2) ∧ F (28 + 5 * a + 2) < 12) ∧ (0 ≤ F (28 + 5 * a + 3) ∧ F (28 + 5 * a + 3) < 4096) ∧ (0 ≤ F (28 + 5 * a + 4) ∧ F (28 + 5 * a + 4) ≤ 9999) := by
  have h4 := h.2.2.2 a ha.1 ha.2
  exact ⟨h4 0 (by omega) (by omega), h4 1 (by omega) (by omega), h4 2 (by omega) (by omega), h4 3 (by omega) (by omega), h4 4 (by omega) (by omega), hi.2.2.2.2 a ha.1 (by have := hi.2.1; omega)⟩

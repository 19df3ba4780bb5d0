theorem v_tab : ∀ v : Nat, v < 16 → (iV (v : Int)).toInt64.toBitVec = BitVec.ofNat 64 v := by decide +kernel
theorem or_pk {X v : Nat} {k : Int} (hk : 0 ≤ k ∧ k < 12) (hX : X < 2 ^ (4 * k.toNat)) (hv : v < 16) : lN X ||| ((iV (v : Int)).toInt64 <<< ((iV (4 * k)).toInt64 &&& 63)) = lN (X + v * 2 ^ (4 * k.toNat)) := by
  obtain ⟨-, h2⟩ := sh_tab k.toNat (by omega)
  rw [show ((k.toNat : Nat) : Int) = k by omega] at h2
  have hsm : ((BitVec.ofNat 64 (4 * k.toNat)).smod 64) = BitVec.ofNat 64 (4 * k.toNat) := by
    have key : ∀ n : Nat, n < 12 → (BitVec.ofNat 64 (4 * n)).smod 64 = BitVec.ofNat 64 (4 * n) := by decide +kernel
    exact key k.toNat (by omega)
  have hP : 2 ^ (4 * k.toNat) ≤ 2 ^ 44 := Nat.pow_le_pow_right (by decide) (by omega)
  have hm : v * 2 ^ (4 * k.toNat) ≤ 15 * 2 ^ (4 * k.toNat) := Nat.mul_le_mul_right _ (by omega)
  have e44 : (2 : Nat) ^ 44 = 17592186044416 := by decide
  have e64 : (2 : Nat) ^ 64 = 18446744073709551616 := by decide
  apply Int64.toBitVec.inj
  rw [Int64.toBitVec_or, Int64.toBitVec_shiftLeft, h2, hsm, v_tab v hv]
  apply BitVec.eq_of_toNat_eq
  show (BitVec.ofNat 64 X ||| BitVec.ofNat 64 v <<< BitVec.ofNat 64 (4 * k.toNat)).toNat = (BitVec.ofNat 64 (X + v * 2 ^ (4 * k.toNat))).toNat
  rw [BitVec.toNat_or, BitVec.shiftLeft_eq', BitVec.toNat_shiftLeft, BitVec.toNat_ofNat, BitVec.toNat_ofNat, BitVec.toNat_ofNat, BitVec.toNat_ofNat, Nat.mod_eq_of_lt (show X < 2 ^ 64 by omega), Nat.mod_eq_of_lt (show v < 2 ^ 64 by omega), Nat.mod_eq_of_lt (show 4 * k.toNat < 2 ^ 64 by omega), Nat.mod_eq_of_lt (show X + v * 2 ^ (4 * k.toNat) < 2 ^ 64 by omega), Nat.shiftLeft_eq, Nat.mod_eq_of_lt (show v * 2 ^ (4 * k.toNat) < 2 ^ 64 by omega), Nat.or_comm, ← Nat.shiftLeft_eq, ← Nat.shiftLeft_add_eq_or_of_lt hX, Nat.add_comm]
def pkT (t : Int → Int) (L e : Int) : Nat → Nat
  | 0 => 0
  | k + 1 => pkT t L e k + (tV t L (eAt t L k e)).toNat * 2 ^ (4 * k)
theorem pkT_lt {t : Int → Int} {L e : Int} : ∀ k : Nat, (∀ j : Nat, j < k → tV t L (eAt t L j e) ≤ 11) → pkT t L e k < 2 ^ (4 * k)
  | 0, _ => by rw [pkT]; decide
  | k + 1, h => by
    have h1 := pkT_lt k (fun j q => h j (by omega))
    have h2 := h k (by omega)
    have hm : (tV t L (eAt t L k e)).toNat * 2 ^ (4 * k) ≤ 11 * 2 ^ (4 * k) := Nat.mul_le_mul_right _ (by omega)
    rw [pkT, Nat.mul_add, Nat.pow_add]
    omega
theorem pkT_dig {t : Int → Int} {L e : Int} (j : Nat) : ∀ k : Nat, (∀ i : Nat, i < k → tV t L (eAt t L i e) ≤ 11) → j < k → pkT t L e k / 2 ^ (4 * j) % 16 = (tV t L (eAt t L j e)).toNat
  | 0, _, q => by omega
  | k + 1, h, q => by
    have hp : 0 < 2 ^ (4 * j) := Nat.pos_of_ne_zero (by simp)
    rw [pkT]
    by_cases hj : j = k
    · subst hj
      have h1 := pkT_lt j (fun i q => h i (by omega))
      have h2 := h j (by omega)
      rw [Nat.mul_comm, Nat.add_mul_div_left _ _ hp, Nat.div_eq_of_lt h1, Nat.zero_add, Nat.mod_eq_of_lt (by omega)]
    · have ih := pkT_dig j k (fun i q => h i (by omega)) (by omega)
      obtain ⟨d, hd⟩ : ∃ d, k = j + 1 + d := ⟨k - j - 1, by omega⟩
      have e1 : (tV t L (eAt t L k e)).toNat * 2 ^ (4 * k) = 2 ^ (4 * j) * (16 * (2 ^ (4 * d) * (tV t L (eAt t L k e)).toNat)) := by
        rw [show 4 * k = 4 * j + 4 + 4 * d by omega, Nat.pow_add, Nat.pow_add, show (2 : Nat) ^ 4 = 16 by decide]
        rw [Nat.mul_comm, Nat.mul_assoc, Nat.mul_assoc]
      rw [e1, Nat.add_mul_div_left _ _ hp, Nat.add_mul_mod_self_left, ih]
theorem nib_pk {t : Int → Int} {L e : Int} {k : Nat} (hk : k ≤ 12) (h : ∀ i : Nat, i < k → tV t L (eAt t L i e) ≤ 11) {j : Int} (hj : 0 ≤ j ∧ j < k) : nib (lN (pkT t L e k)) j = tuT t L e j := by
  have h1 := pkT_lt k h
  have hP : 2 ^ (4 * k) ≤ 2 ^ 48 := Nat.pow_le_pow_right (by decide) (by omega)
  have e48 : (2 : Nat) ^ 48 = 281474976710656 := by decide
  have e64 : (2 : Nat) ^ 64 = 18446744073709551616 := by decide
  have h2 := h j.toNat (by omega)
  have h3 := tV_0 t L (eAt t L j.toNat e)
  unfold nib tuT
  rw [show (lN (pkT t L e k)).toBitVec.toNat = pkT t L e k from (by show (BitVec.ofNat 64 (pkT t L e k)).toNat = _; rw [BitVec.toNat_ofNat]; exact Nat.mod_eq_of_lt (by omega)), pkT_dig j.toNat k h (by omega), Nat.mod_eq_of_lt (by omega)]
  omega
theorem setT_eq {F : Int → Int} {s n : Int} {a b : Int → Int} (h : ∀ j : Int, 0 ≤ j → j < n → a j = b j) : setT F s n a = setT F s n b := by
  funext j
  unfold setT
  by_cases e : 4 + 12 * s ≤ j ∧ j < 4 + 12 * s + n
  · rw [if_pos e, if_pos e]; exact h _ (by omega) (by omega)
  · rw [if_neg e, if_neg e]
theorem tone_c {v : Int} (h : 0 ≤ v ∧ v ≤ 10000) : (0 ≤ (iV v).toInt64 ∧ (iV v).toInt64 < 12) ↔ v < 12 := by
  rw [Int64.le_iff_toInt_le, Int64.lt_iff_toInt_lt, i64_of32 (by omega), show (0 : Int64).toInt = 0 from rfl, show (12 : Int64).toInt = 12 from rfl]
  omega

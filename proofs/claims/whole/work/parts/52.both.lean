/-! ===== the two beside each other ===== -/
theorem FUG.lt {μ m : mMem} {b : Nat} {F : Int → Int} (h : FUG μ b F) (hI : fInv F) (hb : b + 14 ≤ 56) (hk : ∀ c : Nat, c < 56 → m.1 c = μ.1 c) : FUG m b F := h.keep hI.2.1.2 (fun c q1 q2 => hk c (by omega))
theorem XR.mf {μ m : mMem} {st : aS} (h : XR μ st) (hI : SI st) (hf : MF μ m) : XR m st := by
  obtain ⟨h1, h2, h3, h4, h5, h6, h7⟩ := h
  have e : ∀ c : Nat, c < 56 → m.1 c = μ.1 c := fun c q => (hf c q).1
  refine ⟨h1.lt hI.1 (by omega) e, h2.lt hI.2.2.1 (by omega) e, ?_, ?_, fun i q1 q2 => ?_, fun j q1 q2 => ?_, fun s q1 q2 => ?_⟩
  · rw [e 0 (by omega)]; exact h3
  · rw [e 43 (by omega)]; exact h4
  · rw [e _ (by omega)]; exact h5 i q1 q2
  · rw [e _ (by omega)]; exact h6 j q1 q2
  · rw [e _ (by omega), (hf _ (by omega)).2]; exact h7 s q1 q2
theorem MR.xf {μ m : mMem} {st : aS} (h : MR μ st) (hf : XF μ m) : MR m st := by
  obtain ⟨h1, h2, h3, h4, h5, h6, h7, h8⟩ := h
  have e : ∀ c : Nat, 56 ≤ c → m.1 c = μ.1 c := fun c q => (hf c q).1
  refine ⟨fun j q1 q2 => ?_, fun j q1 q2 => ?_, ?_, ?_, fun i q1 q2 => ?_, fun j q1 q2 => ?_, ?_, fun s q1 q2 => ?_⟩
  · rw [e _ (by omega)]; exact h1 j q1 q2
  · rw [e _ (by omega)]; exact h2 j q1 q2
  · rw [e _ (by omega)]; exact h3
  · rw [e _ (by omega)]; exact h4
  · rw [e _ (by omega)]; exact h5 i q1 q2
  · rw [e _ (by omega)]; exact h6 j q1 q2
  · rw [e _ (by omega)]; exact h7
  · rw [e _ (by omega), e _ (by omega), (hf 70 (by omega)).2]; exact h8 s q1 q2
/-- the state at the start: all is 0 -/
def st0 : aS := (fun _ _ => 0, fun _ => 0)
theorem si_0 : SI st0 := by
  refine ⟨?_, by show (0 : Int) ≤ 9999; decide, ?_, by show (0 : Int) ≤ 9999; decide, Or.inl rfl, ⟨Int.le_refl 0, by show (0 : Int) ≤ 120; decide⟩, fun i _ _ => ⟨Int.le_refl 0, by show (0 : Int) < 256; decide⟩, fun s _ _ => ⟨Or.inl rfl, ⟨Int.le_refl 0, by show (0 : Int) ≤ 40; decide⟩, fun _ => rfl⟩⟩
  all_goals
    refine ⟨Int.le_refl 0, ⟨Int.le_refl 0, by show (0 : Int) ≤ 8; decide⟩, fun s _ _ => ⟨Int.le_refl 0, by show (0 : Int) ≤ 12; decide⟩, fun s i _ _ _ _ => ⟨Int.le_refl 0, by show (0 : Int) < 12; decide⟩, fun a _ _ => ?_⟩
    refine ⟨⟨Int.le_refl 0, by show (0 : Int) < 6; decide⟩, ⟨Int.le_refl 0, by show (0 : Int) ≤ 1; decide⟩, ⟨Int.le_refl 0, by show (0 : Int) < 12; decide⟩, ⟨Int.le_refl 0, by show (0 : Int) < 4096; decide⟩, ⟨Int.le_refl 0, by show (0 : Int) ≤ 9999; decide⟩⟩
def μ0 : mMem := (fun _ _ => 0, fun _ _ => 0)
theorem fug_0 (b : Nat) : FUG μ0 b (st0.1 0) := ⟨rfl, rfl, fun s _ _ => ⟨rfl, fun i _ _ => rfl⟩, fun a _ q => by exact absurd q (by show ¬ a < 0; omega)⟩
theorem xr_0 : XR μ0 st0 := ⟨fug_0 1, fug_0 15, rfl, rfl, fun i _ _ => rfl, fun j _ _ => rfl, fun s _ _ => ⟨rfl, rfl, fun i _ _ => rfl⟩⟩
theorem mr_0 : MR μ0 st0 := ⟨fun j _ _ => rfl, fun j _ _ => rfl, rfl, rfl, fun i _ _ => rfl, fun j _ _ => rfl, rfl, fun s _ _ => ⟨rfl, rfl, fun i _ _ => rfl⟩⟩
def BOTH (μ : mMem) : Prop := ∃ st : aS, XR μ st ∧ MR μ st ∧ SI st
theorem both_0 : BOTH μ0 := ⟨st0, xr_0, mr_0, si_0⟩

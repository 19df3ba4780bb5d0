theorem tE_ok {t : Int → Int} {L e : Int} (h : 0 ≤ e ∧ e ≤ L) : 0 ≤ tE t L e ∧ tE t L e ≤ L := by
  have h1 := tB_bd t h
  have h2 := tE_bd t h
  omega
theorem tE_le {t : Int → Int} {L e : Int} (h : 0 ≤ e ∧ e ≤ L) : e ≤ tE t L e := by
  have h1 := tB_bd t h
  have h2 := tE_bd t h
  omega
def qP (μ : mMem) (t : Int → Int) (L : Int) (r : pR3) : Option Value → mMem → Prop := qI (fun z m => z = r.1 ∧ TK m t L r.2.1 ∧ TF μ m ∧ (¬ r.1 = 0 → FUG m 29 r.2.2))
def pOK (L e : Int) (r : pR3) : Prop := (r.1 = 0 ∨ r.1 = 1) ∧ (e ≤ r.2.1 ∧ r.2.1 ≤ L) ∧ (¬ r.1 = 0 → fInv r.2.2)
theorem shl_bd {v : Int} (h : 0 ≤ v ∧ v < 12) : 0 ≤ bShl 1 v ∧ bShl 1 v < 4096 := by
  have h1 := shl_tab v.toNat (by omega)
  rw [show ((v.toNat : Nat) : Int) = v by omega] at h1
  rw [h1.1]
  exact ⟨Int.natCast_nonneg _, Int.ofNat_lt.mpr h1.2⟩
theorem pTune_ok {t : Int → Int} {L : Int} {F : Int → Int} {e : Int} (hI : fInv F) (he : 0 ≤ e ∧ e ≤ L) : pOK L e (pTune t L F e) := by
  have e1 := tE_ok (t := t) he
  have e2 := tE_ok (t := t) e1
  have l1 := tE_le (t := t) he
  have l2 := tE_le (t := t) e1
  have l3 := eAt_bd t (tuN t L 12 (tE t L (tE t L e))) e2
  have hn := tuN_r t L 12 (tE t L (tE t L e))
  unfold pTune
  split
  · exact ⟨Or.inl rfl, ⟨l1, e1.2⟩, fun q => absurd rfl q⟩
  · rename_i h
    have d := nm_1 h
    have v0 := tV_0 t L (tE t L e)
    split
    · refine ⟨Or.inr rfl, ⟨by show e ≤ eAt t L _ _; omega, l3.2⟩, fun _ => setT_inv hI (by omega) (by omega) (fun i q1 q2 => ?_)⟩
      have := hn.2 i.toNat (by omega)
      have := tV_0 t L (eAt t L i.toNat (tE t L (tE t L e)))
      unfold tuT
      omega
    · exact ⟨Or.inl rfl, ⟨by show e ≤ eAt t L _ _; omega, l3.2⟩, fun q => absurd rfl q⟩
theorem pBlot_ok {t : Int → Int} {L : Int} {F : Int → Int} {k s y e : Int} (hI : fInv F) (h8 : F 1 < 8) (hk : 0 ≤ k ∧ k < 6) (hs : 0 ≤ s ∧ s ≤ 1) (hy : 0 ≤ y ∧ y < 12) (he : 0 ≤ e ∧ e ≤ L) : pOK L e (pBlot t L F k s y e) := by
  have e1 := tE_ok (t := t) he
  have e2 := tE_ok (t := t) e1
  have l1 := tE_le (t := t) he
  have l2 := tE_le (t := t) e1
  unfold pBlot
  split
  · exact ⟨Or.inr rfl, ⟨Int.le_refl _, he.2⟩, fun _ => eng_inv hI h8 hk hs hy (by omega)⟩
  · split
    · exact ⟨Or.inl rfl, ⟨l1, e1.2⟩, fun q => absurd rfl q⟩
    · rename_i h
      have d := nm_1 h
      have v0 := tV_0 t L (tE t L e)
      exact ⟨Or.inr rfl, ⟨by show e ≤ tE t L (tE t L e); omega, e2.2⟩, fun _ => eng_inv hI h8 hk hs hy (shl_bd (by omega))⟩
theorem pOK.le {L e e0 : Int} {r : pR3} (h : pOK L e r) (hl : e0 ≤ e) : pOK L e0 r := ⟨h.1, ⟨by have := h.2.1.1; omega, h.2.1.2⟩, h.2.2⟩
theorem pKey_ok {t : Int → Int} {L : Int} {F : Int → Int} {k s e : Int} (hI : fInv F) (h8 : F 1 < 8) (hk : 0 ≤ k ∧ k < 6) (hs : 0 ≤ s ∧ s ≤ 1) (he : 0 ≤ e ∧ e ≤ L) : pOK L e (pKey t L F k s e) := by
  have e1 := tE_ok (t := t) he
  have e2 := tE_ok (t := t) e1
  have l1 := tE_le (t := t) he
  have l2 := tE_le (t := t) e1
  unfold pKey
  split
  · exact pBlot_ok hI h8 hk hs (by omega) he
  · split
    · exact ⟨Or.inl rfl, ⟨l1, e1.2⟩, fun q => absurd rfl q⟩
    · rename_i h
      have d := nm_1 h
      have v0 := tV_0 t L (tE t L e)
      exact (pBlot_ok hI h8 hk hs (by omega) e2).le (by omega)
theorem pAtt_ok {t : Int → Int} {L : Int} {F : Int → Int} {k e : Int} (hI : fInv F) (h8 : F 1 < 8) (hk : 0 ≤ k ∧ k < 6) (he : 0 ≤ e ∧ e ≤ L) : pOK L e (pAtt t L F k e) := by
  have e1 := tE_ok (t := t) he
  have e2 := tE_ok (t := t) e1
  have e3 := tE_ok (t := t) e2
  have l1 := tE_le (t := t) he
  have l2 := tE_le (t := t) e1
  have l3 := tE_le (t := t) e2
  unfold pAtt
  split
  · exact ⟨Or.inl rfl, ⟨l1, e1.2⟩, fun q => absurd rfl q⟩
  · split
    · exact ⟨Or.inl rfl, ⟨by show e ≤ tE t L (tE t L e); omega, e2.2⟩, fun q => absurd rfl q⟩
    · rename_i h
      have d := nm_1 h
      have v0 := tV_0 t L (tE t L (tE t L e))
      exact (pKey_ok hI h8 hk (by omega) e3).le (by omega)
theorem pItem_ok {t : Int → Int} {L : Int} {F : Int → Int} {e : Int} (hI : fInv F) (he : 0 ≤ e ∧ e ≤ L) : pOK L e (pItem t L F e) := by
  unfold pItem
  split
  · split
    · exact ⟨Or.inl rfl, ⟨Int.le_refl _, he.2⟩, fun q => absurd rfl q⟩
    · rename_i h
      have hk := kdL_r t L e 6 0
      have hn := hI.2.1
      exact pAtt_ok hI (by omega) (by omega) he
  · exact pTune_ok hI he
theorem XR.tf {μ m : mMem} {st : aS} (h : XR μ st) (hI : SI st) (hf : TF μ m) : XR m st := by
  obtain ⟨h1, h2, h3, h4, h5, h6, h7⟩ := h
  refine ⟨h1.keep hI.1.2.1.2 (fun c q1 q2 => hf.1 c (by omega)), h2.keep hI.2.2.1.2.1.2 (fun c q1 q2 => hf.1 c (by omega)), ?_, ?_, fun i q1 q2 => ?_, fun j q1 q2 => ?_, fun s q1 q2 => ?_⟩
  · rw [hf.1 0 (by omega)]; exact h3
  · rw [hf.1 43 (by omega)]; exact h4
  · rw [hf.1 _ (by omega)]; exact h5 i q1 q2
  · rw [hf.1 _ (by omega)]; exact h6 j q1 q2
  · rw [hf.1 _ (by omega), hf.2]; exact h7 s q1 q2
theorem TF.xf {μ m : mMem} (h : TF μ m) : XF μ m := fun c hc => ⟨h.1 c (by omega), by rw [h.2]⟩
set_option maxHeartbeats 4000000 in
set_option maxRecDepth 100000 in
theorem c_C_tellTune {G : mG} {μ : mMem} {t : Int → Int} {L e : Int} (hT : TP μ t L) (hK : TK μ t L e) (hE : 0 ≤ e ∧ e ≤ L) {F : Int → Int} (hF : FUG μ 29 F) (hI : fInv F) : mM G yX2_tellTune cX2_tellTune 4 (some .boolean) 3 [.ref 45, .ref 29] μ (qP μ t L (pTune t L F e)) := by
  have E1 := tE_ok (t := t) hE
  have E2 := tE_ok (t := t) E1
  have E3 := tE_ok (t := t) E2
  have E4 := tE_ok (t := t) E3
  have E5 := tE_ok (t := t) E4
  have E6 := tE_ok (t := t) E5
  have E7 := tE_ok (t := t) E6
  have hL := hT.2.1
  have hr12 := tuN_r t L 12 (tE t L (tE t L e))
  refine mM.of (lv := [some (.ref 45), some (.ref 29), none, none]) 2 (by decide +kernel) (Nat.le_of_ble_eq_true rfl) rfl ?_
  intro X
  have lp : ∀ (n_ : Nat) (s i : Int) (m : mMem), (¬ nmI t L (tE t L e) 1 = 0) → (s = tV t L (tE t L e)) → (0 ≤ i) → (i ≤ 12) → (13 ≤ i + n_) → (∀ c : Nat, c ≠ tc 29 s → c ≠ tc 29 s + 1 → c ≠ 45 → m.1 c = μ.1 c) → (m.2 = μ.2) → (m.1 (tc 29 s) 1 = i) → (∀ j : Int, 0 ≤ j → j < i → m.1 (tc 29 s + 1) j = tuT t L (tE t L (tE t L e)) j) → (i.toNat + tuN t L (12 - i).toNat (eAt t L i.toNat (tE t L (tE t L e))) = tuN t L 12 (tE t L (tE t L e))) → (TK m t L (eAt t L i.toNat (tE t L (tE t L e)))) → mW X cX2_tellTune 4 (some .boolean) yX2_tellTune.cls 3 G (qP μ t L (pTune t L F e)) 33 [some (.ref 45), some (.ref 29), some (.ref (tc 29 s)), some (.int (iV i))] [] m := by
    intro n_
    induction n_ with
    | zero =>
      intro s i m hnm hsv h1 h2 h3 h4 h5 h6 h7 h8 h9
      omega
    | succ n_ ih =>
      intro s i m hnm hsv h1 h2 h3 h4 h5 h6 h7 h8 h9
      have th := bk_t bk29 s
      have d0 := nm_1 hnm
      have v00 := tV_0 t L (tE t L e)
      have htd := tc_c (s := s) (by omega) 29
      have hEi := eAt_bd t i.toNat E2
      have htf : TF μ m := ⟨fun c q => h4 c (by omega) (by omega) (by omega), h5⟩
      have hT2 := hT.tf htf
      refine mw_iload_n dX2_tellTune_33 rfl ?_
      refine mw_bipush dX2_tellTune_34 (by decide +kernel) ?_
      refine mw_icmp_ge (tgt := 66) dX2_tellTune_36 (by decide) (by omega) (by omega) (fun c_36 => ?_) (fun c_36 => ?_)
      · rw [show (12 - i).toNat = 0 by omega, tuN] at h8
        refine mw_aload_n dX2_tellTune_66 rfl ?_
        refine mw_getI 1 dX2_tellTune_67 gs_X2_75 th.1 rfl rfl ?_
        rw [h6]
        refine mw_if_le (tgt := 85) dX2_tellTune_70 (by decide) (by omega) (fun c_70 => ?_) (fun c_70 => ?_)
        · refine mw_iconst dX2_tellTune_85 ?_
          refine mw_zret dX2_tellTune_86 rfl (by decide +kernel) ?_
          first
          | (exfalso; omega)
          | (have hin : i.toNat = tuN t L 12 (tE t L (tE t L e)) := by omega
             have hc2 : cK t L (eAt t L i.toNat (tE t L (tE t L e))) = 2 ↔ tS t L (eAt t L i.toNat (tE t L (tE t L e))) = 2 := cK_2
             refine ⟨_, rfl, ?_⟩
             unfold pTune
             rw [if_neg hnm, if_neg (by rw [← hin]; omega), ← hin]
             exact ⟨rfl, h9, htf, fun q => absurd rfl q⟩)
          | (have hin : i.toNat = tuN t L 12 (tE t L (tE t L e)) := by omega
             have hc2 : cK t L (eAt t L i.toNat (tE t L (tE t L e))) = 2 ↔ tS t L (eAt t L i.toNat (tE t L (tE t L e))) = 2 := cK_2
             refine ⟨_, rfl, ?_⟩
             unfold pTune
             rw [if_neg hnm, if_pos (by rw [← hin]; omega), ← hin]
             have g := setT_fug (m := (fun c => if c = 45 then μ.1 45 else m.1 c, m.2)) (s := s) (n := i) (t := tuT t L (tE t L (tE t L e))) hF hI (by omega) (by omega) (fun c q1 q2 => by
               by_cases q3 : c = 45
               · rw [q3]; show (if (45 : Nat) = 45 then μ.1 45 else m.1 45) = μ.1 45; rfl
               · exact (if_neg q3).trans (h4 c q1 q2 q3)) h5 ((congrFun (if_neg (by omega)) 1).trans h6) (fun j q1 q2 => (congrFun (if_neg (by omega)) j).trans (h7 j q1 q2))
             refine ⟨rfl, h9, htf, fun _ => ?_⟩
             show FUG m 29 (setT F (tV t L (tE t L e)) (i.toNat : Nat) (tuT t L (tE t L (tE t L e))))
             rw [← hsv, show ((i.toNat : Nat) : Int) = i by omega]
             exact g.1.keep (by rw [setT_o (by omega) (by omega)]; exact hI.2.1.2) (fun c q1 q2 => (if_neg (by omega)).symm))
        · refine mw_aload_n dX2_tellTune_73 rfl ?_
          refine mw_getI 1 dX2_tellTune_74 gs_X2_15 (by first | rfl | assumption) rfl rfl ?_
          rw [h9.1]
          refine mw_iconst dX2_tellTune_77 ?_
          refine mw_icmp_eq (tgt := 85) dX2_tellTune_78 (by decide) (by have := cK_bd t L (eAt t L i.toNat (tE t L (tE t L e))); omega) (by omega) (fun c_78 => ?_) (fun c_78 => ?_)
          · refine mw_iconst dX2_tellTune_85 ?_
            refine mw_zret dX2_tellTune_86 rfl (by decide +kernel) ?_
            first
            | (exfalso; omega)
            | (have hin : i.toNat = tuN t L 12 (tE t L (tE t L e)) := by omega
               have hc2 : cK t L (eAt t L i.toNat (tE t L (tE t L e))) = 2 ↔ tS t L (eAt t L i.toNat (tE t L (tE t L e))) = 2 := cK_2
               refine ⟨_, rfl, ?_⟩
               unfold pTune
               rw [if_neg hnm, if_neg (by rw [← hin]; omega), ← hin]
               exact ⟨rfl, h9, htf, fun q => absurd rfl q⟩)
            | (have hin : i.toNat = tuN t L 12 (tE t L (tE t L e)) := by omega
               have hc2 : cK t L (eAt t L i.toNat (tE t L (tE t L e))) = 2 ↔ tS t L (eAt t L i.toNat (tE t L (tE t L e))) = 2 := cK_2
               refine ⟨_, rfl, ?_⟩
               unfold pTune
               rw [if_neg hnm, if_pos (by rw [← hin]; omega), ← hin]
               have g := setT_fug (m := (fun c => if c = 45 then μ.1 45 else m.1 c, m.2)) (s := s) (n := i) (t := tuT t L (tE t L (tE t L e))) hF hI (by omega) (by omega) (fun c q1 q2 => by
                 by_cases q3 : c = 45
                 · rw [q3]; show (if (45 : Nat) = 45 then μ.1 45 else m.1 45) = μ.1 45; rfl
                 · exact (if_neg q3).trans (h4 c q1 q2 q3)) h5 ((congrFun (if_neg (by omega)) 1).trans h6) (fun j q1 q2 => (congrFun (if_neg (by omega)) j).trans (h7 j q1 q2))
               refine ⟨rfl, h9, htf, fun _ => ?_⟩
               show FUG m 29 (setT F (tV t L (tE t L e)) (i.toNat : Nat) (tuT t L (tE t L (tE t L e))))
               rw [← hsv, show ((i.toNat : Nat) : Int) = i by omega]
               exact g.1.keep (by rw [setT_o (by omega) (by omega)]; exact hI.2.1.2) (fun c q1 q2 => (if_neg (by omega)).symm))
          · refine mw_iconst dX2_tellTune_81 ?_
            refine mw_goto (tgt := 86) dX2_tellTune_82 (by decide) ?_
            refine mw_zret dX2_tellTune_86 rfl (by decide +kernel) ?_
            first
            | (exfalso; omega)
            | (have hin : i.toNat = tuN t L 12 (tE t L (tE t L e)) := by omega
               have hc2 : cK t L (eAt t L i.toNat (tE t L (tE t L e))) = 2 ↔ tS t L (eAt t L i.toNat (tE t L (tE t L e))) = 2 := cK_2
               refine ⟨_, rfl, ?_⟩
               unfold pTune
               rw [if_neg hnm, if_neg (by rw [← hin]; omega), ← hin]
               exact ⟨rfl, h9, htf, fun q => absurd rfl q⟩)
            | (have hin : i.toNat = tuN t L 12 (tE t L (tE t L e)) := by omega
               have hc2 : cK t L (eAt t L i.toNat (tE t L (tE t L e))) = 2 ↔ tS t L (eAt t L i.toNat (tE t L (tE t L e))) = 2 := cK_2
               refine ⟨_, rfl, ?_⟩
               unfold pTune
               rw [if_neg hnm, if_pos (by rw [← hin]; omega), ← hin]
               have g := setT_fug (m := (fun c => if c = 45 then μ.1 45 else m.1 c, m.2)) (s := s) (n := i) (t := tuT t L (tE t L (tE t L e))) hF hI (by omega) (by omega) (fun c q1 q2 => by
                 by_cases q3 : c = 45
                 · rw [q3]; show (if (45 : Nat) = 45 then μ.1 45 else m.1 45) = μ.1 45; rfl
                 · exact (if_neg q3).trans (h4 c q1 q2 q3)) h5 ((congrFun (if_neg (by omega)) 1).trans h6) (fun j q1 q2 => (congrFun (if_neg (by omega)) j).trans (h7 j q1 q2))
               refine ⟨rfl, h9, htf, fun _ => ?_⟩
               show FUG m 29 (setT F (tV t L (tE t L e)) (i.toNat : Nat) (tuT t L (tE t L (tE t L e))))
               rw [← hsv, show ((i.toNat : Nat) : Int) = i by omega]
               exact g.1.keep (by rw [setT_o (by omega) (by omega)]; exact hI.2.1.2) (fun c q1 q2 => (if_neg (by omega)).symm))
      · rw [show (12 - i).toNat = (12 - (i + 1)).toNat + 1 by omega, tuN] at h8
        refine mw_aload_n dX2_tellTune_39 rfl ?_
        refine mw_bipush dX2_tellTune_40 (by decide +kernel) ?_
        refine mw_Vpi (ci := 2) dX2_tellTune_42 ml_X2_58 ok_X2_isNumberTo (by decide) (by first | rfl | assumption) (by decide) rfl rfl rfl (Nat.le_of_ble_eq_true rfl) (c_C_isNumberTo hT2 h9 (by omega) (by omega)) ?_
        refine mw_if_eq (tgt := 66) dX2_tellTune_45 (by decide) (by have := nm_c t L (eAt t L i.toNat (tE t L (tE t L e))) 11; omega) (fun c_45 => ?_) (fun c_45 => ?_)
        · rw [if_neg (nm_0 c_45)] at h8
          refine mw_aload_n dX2_tellTune_66 rfl ?_
          refine mw_getI 1 dX2_tellTune_67 gs_X2_75 th.1 rfl rfl ?_
          rw [h6]
          refine mw_if_le (tgt := 85) dX2_tellTune_70 (by decide) (by omega) (fun c_70 => ?_) (fun c_70 => ?_)
          · refine mw_iconst dX2_tellTune_85 ?_
            refine mw_zret dX2_tellTune_86 rfl (by decide +kernel) ?_
            first
            | (exfalso; omega)
            | (have hin : i.toNat = tuN t L 12 (tE t L (tE t L e)) := by omega
               have hc2 : cK t L (eAt t L i.toNat (tE t L (tE t L e))) = 2 ↔ tS t L (eAt t L i.toNat (tE t L (tE t L e))) = 2 := cK_2
               refine ⟨_, rfl, ?_⟩
               unfold pTune
               rw [if_neg hnm, if_neg (by rw [← hin]; omega), ← hin]
               exact ⟨rfl, h9, htf, fun q => absurd rfl q⟩)
            | (have hin : i.toNat = tuN t L 12 (tE t L (tE t L e)) := by omega
               have hc2 : cK t L (eAt t L i.toNat (tE t L (tE t L e))) = 2 ↔ tS t L (eAt t L i.toNat (tE t L (tE t L e))) = 2 := cK_2
               refine ⟨_, rfl, ?_⟩
               unfold pTune
               rw [if_neg hnm, if_pos (by rw [← hin]; omega), ← hin]
               have g := setT_fug (m := (fun c => if c = 45 then μ.1 45 else m.1 c, m.2)) (s := s) (n := i) (t := tuT t L (tE t L (tE t L e))) hF hI (by omega) (by omega) (fun c q1 q2 => by
                 by_cases q3 : c = 45
                 · rw [q3]; show (if (45 : Nat) = 45 then μ.1 45 else m.1 45) = μ.1 45; rfl
                 · exact (if_neg q3).trans (h4 c q1 q2 q3)) h5 ((congrFun (if_neg (by omega)) 1).trans h6) (fun j q1 q2 => (congrFun (if_neg (by omega)) j).trans (h7 j q1 q2))
               refine ⟨rfl, h9, htf, fun _ => ?_⟩
               show FUG m 29 (setT F (tV t L (tE t L e)) (i.toNat : Nat) (tuT t L (tE t L (tE t L e))))
               rw [← hsv, show ((i.toNat : Nat) : Int) = i by omega]
               exact g.1.keep (by rw [setT_o (by omega) (by omega)]; exact hI.2.1.2) (fun c q1 q2 => (if_neg (by omega)).symm))
          · refine mw_aload_n dX2_tellTune_73 rfl ?_
            refine mw_getI 1 dX2_tellTune_74 gs_X2_15 (by first | rfl | assumption) rfl rfl ?_
            rw [h9.1]
            refine mw_iconst dX2_tellTune_77 ?_
            refine mw_icmp_eq (tgt := 85) dX2_tellTune_78 (by decide) (by have := cK_bd t L (eAt t L i.toNat (tE t L (tE t L e))); omega) (by omega) (fun c_78 => ?_) (fun c_78 => ?_)
            · refine mw_iconst dX2_tellTune_85 ?_
              refine mw_zret dX2_tellTune_86 rfl (by decide +kernel) ?_
              first
              | (exfalso; omega)
              | (have hin : i.toNat = tuN t L 12 (tE t L (tE t L e)) := by omega
                 have hc2 : cK t L (eAt t L i.toNat (tE t L (tE t L e))) = 2 ↔ tS t L (eAt t L i.toNat (tE t L (tE t L e))) = 2 := cK_2
                 refine ⟨_, rfl, ?_⟩
                 unfold pTune
                 rw [if_neg hnm, if_neg (by rw [← hin]; omega), ← hin]
                 exact ⟨rfl, h9, htf, fun q => absurd rfl q⟩)
              | (have hin : i.toNat = tuN t L 12 (tE t L (tE t L e)) := by omega
                 have hc2 : cK t L (eAt t L i.toNat (tE t L (tE t L e))) = 2 ↔ tS t L (eAt t L i.toNat (tE t L (tE t L e))) = 2 := cK_2
                 refine ⟨_, rfl, ?_⟩
                 unfold pTune
                 rw [if_neg hnm, if_pos (by rw [← hin]; omega), ← hin]
                 have g := setT_fug (m := (fun c => if c = 45 then μ.1 45 else m.1 c, m.2)) (s := s) (n := i) (t := tuT t L (tE t L (tE t L e))) hF hI (by omega) (by omega) (fun c q1 q2 => by
                   by_cases q3 : c = 45
                   · rw [q3]; show (if (45 : Nat) = 45 then μ.1 45 else m.1 45) = μ.1 45; rfl
                   · exact (if_neg q3).trans (h4 c q1 q2 q3)) h5 ((congrFun (if_neg (by omega)) 1).trans h6) (fun j q1 q2 => (congrFun (if_neg (by omega)) j).trans (h7 j q1 q2))
                 refine ⟨rfl, h9, htf, fun _ => ?_⟩
                 show FUG m 29 (setT F (tV t L (tE t L e)) (i.toNat : Nat) (tuT t L (tE t L (tE t L e))))
                 rw [← hsv, show ((i.toNat : Nat) : Int) = i by omega]
                 exact g.1.keep (by rw [setT_o (by omega) (by omega)]; exact hI.2.1.2) (fun c q1 q2 => (if_neg (by omega)).symm))
            · refine mw_iconst dX2_tellTune_81 ?_
              refine mw_goto (tgt := 86) dX2_tellTune_82 (by decide) ?_
              refine mw_zret dX2_tellTune_86 rfl (by decide +kernel) ?_
              first
              | (exfalso; omega)
              | (have hin : i.toNat = tuN t L 12 (tE t L (tE t L e)) := by omega
                 have hc2 : cK t L (eAt t L i.toNat (tE t L (tE t L e))) = 2 ↔ tS t L (eAt t L i.toNat (tE t L (tE t L e))) = 2 := cK_2
                 refine ⟨_, rfl, ?_⟩
                 unfold pTune
                 rw [if_neg hnm, if_neg (by rw [← hin]; omega), ← hin]
                 exact ⟨rfl, h9, htf, fun q => absurd rfl q⟩)
              | (have hin : i.toNat = tuN t L 12 (tE t L (tE t L e)) := by omega
                 have hc2 : cK t L (eAt t L i.toNat (tE t L (tE t L e))) = 2 ↔ tS t L (eAt t L i.toNat (tE t L (tE t L e))) = 2 := cK_2
                 refine ⟨_, rfl, ?_⟩
                 unfold pTune
                 rw [if_neg hnm, if_pos (by rw [← hin]; omega), ← hin]
                 have g := setT_fug (m := (fun c => if c = 45 then μ.1 45 else m.1 c, m.2)) (s := s) (n := i) (t := tuT t L (tE t L (tE t L e))) hF hI (by omega) (by omega) (fun c q1 q2 => by
                   by_cases q3 : c = 45
                   · rw [q3]; show (if (45 : Nat) = 45 then μ.1 45 else m.1 45) = μ.1 45; rfl
                   · exact (if_neg q3).trans (h4 c q1 q2 q3)) h5 ((congrFun (if_neg (by omega)) 1).trans h6) (fun j q1 q2 => (congrFun (if_neg (by omega)) j).trans (h7 j q1 q2))
                 refine ⟨rfl, h9, htf, fun _ => ?_⟩
                 show FUG m 29 (setT F (tV t L (tE t L e)) (i.toNat : Nat) (tuT t L (tE t L (tE t L e))))
                 rw [← hsv, show ((i.toNat : Nat) : Int) = i by omega]
                 exact g.1.keep (by rw [setT_o (by omega) (by omega)]; exact hI.2.1.2) (fun c q1 q2 => (if_neg (by omega)).symm))
        · have d := nm_1 c_45
          rw [if_pos d] at h8
          have v0 := tV_0 t L (eAt t L i.toNat (tE t L (tE t L e)))
          refine mw_aload_n dX2_tellTune_48 rfl ?_
          refine mw_aload_n dX2_tellTune_49 rfl ?_
          refine mw_getI 4 dX2_tellTune_50 gs_X2_25 (by first | rfl | assumption) rfl rfl ?_
          rw [h9.2.2.2 d.1, show min (tV t L (eAt t L i.toNat (tE t L (tE t L e)))) 1000 = tV t L (eAt t L i.toNat (tE t L (tE t L e))) by omega]
          refine mw_Vpv (ci := 5) dX2_tellTune_53 ml_X2_71 ok_X5_append (by decide) th.1 (by decide) rfl rfl rfl (Nat.le_of_ble_eq_true rfl) (c_T_append th.1 th.2.1 th.2.2 (by rw [h6]; omega)) ?_
          refine mw_aload_n dX2_tellTune_56 rfl ?_
          refine mw_Vv (ci := 2) dX2_tellTune_57 ml_X2_28 ok_X2_advance (by decide) (by first | rfl | assumption) (by decide) rfl rfl rfl (Nat.le_of_ble_eq_true rfl) (c_C_advance (e := tE t L (eAt t L i.toNat (tE t L (tE t L e)))) (hT2.tf ⟨fun c q => by funext j; rw [u1_o (by omega), u1_o (by omega)], rfl⟩) (by rw [u1_o (by omega), u1_o (by omega)]; exact h9.2.2.1) (tE_ok (by omega))) (fun m_57 h_57 => ?_)
          refine mw_ii3 dX2_tellTune_60 (by decide) rfl ?_
          refine mw_goto (tgt := 33) dX2_tellTune_63 (by decide) ?_
          refine ih _ _ _ hnm hsv (by omega) (by omega) (by omega) (fun c q1 q2 q3 => ?_) (h_57.1.2.trans h5) (by rw [h_57.1.1 _ (by omega), u1_s, h6]) (fun j q1 q2 => ?_) (by rw [show (i + 1).toNat = i.toNat + 1 by omega, eAt_s]; omega) (by rw [show (i + 1).toNat = i.toNat + 1 by omega, eAt_s]; exact h_57.2)
          · rw [h_57.1.1 c q3, ← h4 c q1 q2 q3]
            funext j
            rw [u1_o (by omega), u1_o (by omega)]
          · rw [h_57.1.1 _ (by omega), u1_o (by omega)]
            by_cases e : j = i
            · rw [e, h6, u1_s]
              rfl
            · rw [u1_o (by omega)]
              exact h7 j q1 (by omega)
  refine mw_aload_n dX2_tellTune_0 rfl ?_
  refine mw_Vv (ci := 2) dX2_tellTune_1 ml_X2_28 ok_X2_advance (by decide) (by first | rfl | assumption) (by decide) rfl rfl rfl (Nat.le_of_ble_eq_true rfl) (c_C_advance hT hK.2.2.1 E1) (fun m_1 h_1 => ?_)
  have hT1 := hT.sc h_1.1
  refine mw_aload_n dX2_tellTune_4 rfl ?_
  refine mw_iconst dX2_tellTune_5 ?_
  refine mw_Vpi (ci := 2) dX2_tellTune_6 ml_X2_58 ok_X2_isNumberTo (by decide) (by first | rfl | assumption) (by decide) rfl rfl rfl (Nat.le_of_ble_eq_true rfl) (c_C_isNumberTo hT1 h_1.2 E1 (by omega)) ?_
  refine mw_if_ne (tgt := 14) dX2_tellTune_9 (by decide) (by have := nm_c t L (tE t L e) 1; omega) (fun c_9 => ?_) (fun c_9 => ?_)
  · have d := nm_1 c_9
    have v0 := tV_0 t L (tE t L e)
    have th := bk_t bk29 (tV t L (tE t L e))
    have htd := tc_c (s := tV t L (tE t L e)) (by omega) 29
    refine mw_aload_n dX2_tellTune_14 rfl ?_
    refine mw_aload_n dX2_tellTune_15 rfl ?_
    refine mw_getI 4 dX2_tellTune_16 gs_X2_25 (by first | rfl | assumption) rfl rfl ?_
    rw [h_1.2.2.2.2 d.1, show min (tV t L (tE t L e)) 1000 = tV t L (tE t L e) by omega]
    refine mw_Vpr (ci := 1) dX2_tellTune_19 ml_X2_62 ok_X1_tuneOf (by decide) (by first | rfl | assumption) (by decide) rfl rfl rfl (Nat.le_of_ble_eq_true rfl) (c_F_tuneOf bk29 (by omega)) ?_
    refine mw_as2 dX2_tellTune_22 (by decide) rfl ?_
    refine mw_aload_n dX2_tellTune_23 rfl ?_
    refine mw_Vpv (ci := 5) dX2_tellTune_24 ml_X2_66 ok_X5_clear (by decide) th.1 (by decide) rfl rfl rfl (Nat.le_of_ble_eq_true rfl) (c_T_clear th.1) ?_
    refine mw_aload_n dX2_tellTune_27 rfl ?_
    refine mw_Vv (ci := 2) dX2_tellTune_28 ml_X2_28 ok_X2_advance (by decide) (by first | rfl | assumption) (by decide) rfl rfl rfl (Nat.le_of_ble_eq_true rfl) (c_C_advance (e := tE t L (tE t L e)) (hT1.tf ⟨fun c q => by funext j; rw [u1_o (by omega)], rfl⟩) (by rw [u1_o (by omega)]; exact h_1.2.2.2.1) E2) (fun m_28 h_28 => ?_)
    refine mw_iconst dX2_tellTune_31 ?_
    refine mw_is3 dX2_tellTune_32 (by decide) rfl ?_
    refine lp 13 _ _ _ c_9 rfl (by omega) (by omega) (by omega) (fun c q1 q2 q3 => ?_) (h_28.1.2.trans h_1.1.2) (by rw [h_28.1.1 _ (by omega), u1_s]) (fun j q1 q2 => by omega) (by show 0 + tuN t L 12 _ = _; rw [Nat.zero_add]; rfl) h_28.2
    rw [h_28.1.1 c q3, ← h_1.1.1 c q3]
    funext j
    rw [u1_o (by omega)]
  · refine mw_iconst dX2_tellTune_12 ?_
    refine mw_zret dX2_tellTune_13 rfl (by decide +kernel) ?_
    refine ⟨_, rfl, ?_⟩
    unfold pTune
    rw [if_pos c_9]
    exact ⟨rfl, h_1.2, h_1.1.tf, fun q => absurd rfl q⟩

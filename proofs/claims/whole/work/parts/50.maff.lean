def pAft (t : Int → Int) (L n x : Int) (F1 F : Int → Int) : Int × (Int → Int) := if tS t L x = 0 then (n, F1) else if cK t L x = 3 then pAff t L (120 - n).toNat (n + 1) (tE t L x) F1 else (-1 - tB t L x, F)
theorem pAff_y {t : Int → Int} {L i e : Int} {F : Int → Int} {k : Nat} (h : (pItem t L F e).1 = 1) (hk : (120 - i).toNat = k) : pAff t L (k + 1) i e F = pAft t L i (pItem t L F e).2.1 (pItem t L F e).2.2 F := by
  unfold pAft
  rw [pAff, if_neg (by omega), hk]
theorem pAff_n {t : Int → Int} {L i e : Int} {F : Int → Int} {k : Nat} (h : (pItem t L F e).1 = 0) : pAff t L (k + 1) i e F = (-1 - tB t L (pItem t L F e).2.1, F) := by rw [pAff, if_pos h]
def iF (m : mMem) (F : Int → Int) : Nat → Int → Int
  | 0 => F
  | n + 1 => itF (iF m F n) (m.1 64 (n : Int)) (m.1 65 (n : Int)) (m.1 66 (n : Int)) (m.2 67 (n : Int))
theorem iF_eq {μ m : mMem} {F : Int → Int} {n : Int} (h : IT μ m n) : ∀ k : Nat, (k : Int) ≤ n → iF m F k = iF μ F k
  | 0, _ => rfl
  | k + 1, q => by
    have g := h k (by omega) (by omega)
    rw [iF, iF, iF_eq h k (by omega), g.1, g.2.1, g.2.2.1, g.2.2.2]
def VV (m : mMem) (F : Int → Int) (n : Int) : Prop := ∀ j : Nat, (j : Int) < n → itV (iF m F j) (m.1 64 (j : Int)) (m.1 65 (j : Int)) (m.1 66 (j : Int)) ∧ fInv (iF m F j)
theorem VV.keep {μ m : mMem} {F : Int → Int} {n : Int} (h : VV μ F n) (hi : IT μ m n) : VV m F n := fun j q => by
  have g := hi j (by omega) q
  rw [iF_eq hi j (by omega), g.1, g.2.1, g.2.2.1]
  exact h j q
theorem tE_gt {t : Int → Int} {L e : Int} (he : 0 ≤ e ∧ e ≤ L) (h : tS t L e = 1) : e < tE t L e := by
  have hb := tB_bd t he
  have hc := tS_c t L e
  have h1 := spn_bd 97 122 t L (L - (tB t L e + 1)).toNat (tB t L e + 1)
  unfold tE
  rw [if_neg (by omega), if_pos h, show (L - tB t L e).toNat = (L - (tB t L e + 1)).toNat + 1 by omega, spn, if_pos (by omega)]
  omega
theorem cK_3 {t : Int → Int} {L e : Int} (h : cK t L e = 3) : tS t L e = 3 ∧ t (tB t L e) = 59 := by
  unfold cK at h
  by_cases q : tS t L e = 3
  · rw [if_pos q] at h
    by_cases q2 : t (tB t L e) = 59
    · exact ⟨q, q2⟩
    · rw [if_neg q2] at h
      omega
  · rw [if_neg q] at h
    exact absurd h q
theorem pItem_gt {t : Int → Int} {L : Int} {F : Int → Int} {e : Int} (hI : fInv F) (he : 0 ≤ e ∧ e ≤ L) (h : (pItem t L F e).1 = 1) : e < (pItem t L F e).2.1 := by
  have e1 := tE_ok (t := t) he
  have e2 := tE_ok (t := t) e1
  have e3 := tE_ok (t := t) e2
  have l2 := tE_le (t := t) e1
  have l3 := tE_le (t := t) e2
  have hn := hI.2.1
  unfold pItem at h ⊢
  by_cases c : wdI t L e 9 = 0
  · rw [if_pos c] at h ⊢
    by_cases c2 : kdL t L e 6 0 = -1 ∨ F 1 = 8
    · rw [if_pos c2] at h
      exact absurd h (by show ¬ (0 : Int) = 1; decide)
    · rw [if_neg c2] at h ⊢
      have hk := kdL_r t L e 6 0
      have hg := tE_gt (t := t) he (wd_S (t := t) (L := L) (e := e) (i := (kdL t L e 6 0).toNat) (by omega))
      unfold pAtt at h ⊢
      by_cases d1 : wdI t L (tE t L e) 6 = 0
      · rw [if_pos d1]; exact hg
      · rw [if_neg d1]
        by_cases d2 : nmI t L (tE t L (tE t L e)) 1 = 0
        · rw [if_pos d2]; show e < tE t L (tE t L e); omega
        · rw [if_neg d2]
          have dd := nm_1 d2
          have v0 := tV_0 t L (tE t L (tE t L e))
          have := (pKey_ok (t := t) (k := kdL t L e 6 0) (s := tV t L (tE t L (tE t L e))) hI (by omega) (by omega) (by omega) e3).2.1.1
          omega
  · rw [if_neg c] at h ⊢
    have hg := tE_gt he (wd_S c)
    have l4 := eAt_bd t (tuN t L 12 (tE t L (tE t L e))) e2
    unfold pTune at h ⊢
    by_cases d1 : nmI t L (tE t L e) 1 = 0
    · rw [if_pos d1]; exact hg
    · rw [if_neg d1]
      split
      · show e < eAt t L _ _; omega
      · show e < eAt t L _ _; omega
theorem rd_next {M m : mMem} {t : Int → Int} {L e n : Int} {F0 : Int → Int} {R : Int × (Int → Int)} (he : 0 ≤ e ∧ e ≤ L) (hn : 0 ≤ n) (hne : n ≤ e) (hL : L ≤ 120) (hI : fInv (iF M F0 n.toNat)) (hV : VV M F0 n) (hk : n < 120) (hR : pAff t L (120 - n).toNat (n + 1) e (iF M F0 n.toNat) = R) (hit : IT M m n) {x v : Int} (hx : (v = 0 ∧ (pItem t L (iF M F0 n.toNat) e).1 = 1 ∧ x = (pItem t L (iF M F0 n.toNat) e).2.1 ∧ m.1 56 18 = n + 1 ∧ m.1 56 19 = (pItem t L (iF M F0 n.toNat) e).2.2 1 ∧ (pItem t L (iF M F0 n.toNat) e).2.2 = itF (iF M F0 n.toNat) (m.1 64 n) (m.1 65 n) (m.1 66 n) (m.2 67 n) ∧ itV (iF M F0 n.toNat) (m.1 64 n) (m.1 65 n) (m.1 66 n)) ∨ (v = 1 ∧ (pItem t L (iF M F0 n.toNat) e).1 = 0 ∧ x = (pItem t L (iF M F0 n.toNat) e).2.1)) :
    (0 ≤ x ∧ x ≤ L) ∧ ((v = 1 ∧ R.1 = -1 - tB t L x) ∨ (v = 0 ∧ e < x ∧ m.1 56 18 = n + 1 ∧ m.1 56 19 = iF m F0 (n + 1).toNat 1 ∧ fInv (iF m F0 (n + 1).toNat) ∧ VV m F0 (n + 1) ∧ ∃ G : Int → Int, pAft t L (n + 1) x (iF m F0 (n + 1).toNat) G = R)) := by
  have hp := pItem_ok (t := t) hI he
  have h21 := hp.2.1
  rw [show (120 - n).toNat = (120 - (n + 1)).toNat + 1 by omega] at hR
  rcases hx with ⟨g1, g2, g3, g4, g5, g6, g7⟩ | ⟨g1, g2, g3⟩
  · have e1 : iF m F0 (n + 1).toNat = (pItem t L (iF M F0 n.toNat) e).2.2 := by
      rw [show (n + 1).toNat = n.toNat + 1 by omega, iF, show ((n.toNat : Nat) : Int) = n by omega, iF_eq hit n.toNat (by omega), g6]
    rw [pAff_y g2 rfl] at hR
    refine ⟨by omega, Or.inr ⟨g1, by rw [g3]; exact pItem_gt hI he g2, g4, by rw [e1]; exact g5, by rw [e1]; exact hp.2.2 (by omega), fun j q => ?_, _, by rw [e1, g3]; exact hR⟩⟩
    by_cases ej : (j : Int) < n
    · exact (hV.keep hit) j ej
    · have ej2 : j = n.toNat := by omega
      subst ej2
      rw [show ((n.toNat : Nat) : Int) = n by omega, iF_eq hit n.toNat (by omega)]
      exact ⟨g7, hI⟩
  · rw [pAff_n g2] at hR
    exact ⟨by omega, Or.inl ⟨g1, by rw [← hR, g3]⟩⟩
set_option maxHeartbeats 4000000 in
set_option maxRecDepth 100000 in
theorem c_M_affair {G : mG} {μ : mMem} {st : aS} (hX : MR μ st) (hI : SI st) : mM G yX7_affair cX7_affair 3 (some .int) 9 [.ref 56] μ (qM μ (sp_affair st)) := by
  obtain ⟨hR, hK, hkp, htl, htb, hfd, hfs, hsh⟩ := id hX
  have hFI := hI.1
  have hn := hFI.2.1
  have h0 := hFI.1
  have h99 := hI.2.1
  have hL := hI.2.2.2.2.2.1
  have hP : RP μ (st.1 3) (st.1 2 1) := ⟨htl, hL, htb, fun i q1 q2 => hI.2.2.2.2.2.2.1 i q1 (by omega)⟩
  have hpb := pAff_bd (t := st.1 3) hL hFI
  refine mM.of (lv := [some (.ref 56), none, none]) 2 (by decide +kernel) (Nat.le_of_ble_eq_true rfl) rfl ?_
  intro X
  have lb : ∀ (n_ : Nat) (k n : Int) (M m : mMem), (0 ≤ k ∧ k ≤ n) → (n ≤ 120) → (121 ≤ k + n_) → ((pAff (st.1 3) (st.1 2 1) 120 1 0 (st.1 0)) = (n, iF M (st.1 0) n.toNat)) → (AF μ M ∧ M.1 56 18 = n ∧ VV M (st.1 0) n) → ((∀ c : Nat, c ≠ 57 → c ≠ 61 → c ≠ 56 → m.1 c = M.1 c) ∧ m.2 = M.2 ∧ ∀ j : Int, j ≠ 7 → m.1 56 j = M.1 56 j) → (m.1 56 7 = 0) → (ROW m 57 (iF M (st.1 0) k.toNat)) → mW X cX7_affair 3 (some .int) yX7_affair.cls 9 G (qM μ (sp_affair st)) 113 [some (.ref 56), some (.int (iV k)), some (.int (iV k))] [] m := by
    intro n_
    induction n_ with
    | zero =>
      intro k n M m h1 hnn h3 hPA h4 h5 h6 h7
      omega
    | succ n_ ih =>
      intro k n M m h1 hnn h3 hPA h4 h5 h6 h7
      refine mw_iload_n dX7_affair_113 rfl ?_
      refine mw_aload_n dX7_affair_114 rfl ?_
      refine mw_getI 18 dX7_affair_115 gs_X7_249 (by first | rfl | assumption) rfl rfl ?_
      rw [h5.2.2 18 (by omega), h4.2.1]
      refine mw_icmp_ge (tgt := 143) dX7_affair_118 (by decide) (by omega) (by omega) (fun c_118 => ?_) (fun c_118 => ?_)
      · refine mw_iload_n dX7_affair_143 rfl ?_
        refine mw_iret dX7_affair_144 rfl ?_
        refine ⟨_, rfl, ?_⟩
        unfold sp_affair
        rw [hPA, if_neg (by show ¬ n < 0; omega)]
        have a1 := h4.1
        have hc : ∀ c : Nat, c ≠ 57 → c ≠ 61 → c ≠ 56 → c ≠ 64 → c ≠ 65 → c ≠ 66 → m.1 c = μ.1 c := fun c q1 q2 q3 q4 q5 q6 => (h5.1 c q1 q2 q3).trans (a1.1 c q3 q4 q5 q6)
        refine ⟨by show k = n; omega, ?_, fun c q => ⟨hc c (by omega) (by omega) (by omega) (by omega) (by omega) (by omega), by rw [h5.2.1]; exact a1.2.1 c (by omega)⟩⟩
        refine hX.gen ?_ (fun j q1 q2 => ?_) ?_ h6 (fun i q1 q2 => ?_) rfl rfl rfl rfl (fun c q => hc c (by omega) (by omega) (by omega) (by omega) (by omega) (by omega)) (by rw [h5.2.1]; exact a1.2.1 70 (by omega))
        · show ROW m 57 (iF M (st.1 0) n.toNat)
          rw [show n = k by omega]
          exact h7
        · rw [hc 58 (by omega) (by omega) (by omega) (by omega) (by omega) (by omega)]; exact hK j q1 q2
        · rw [h5.2.2 3 (by omega), a1.2.2 3 (by omega)]; exact hkp
        · exact absurd q2 (by show ¬ i < 0; omega)
      · have hV := (h4.2.2 k.toNat (by omega)).1
        rw [show ((k.toNat : Nat) : Int) = k by omega, ← h5.1 64 (by omega) (by omega) (by omega), ← h5.1 65 (by omega) (by omega) (by omega), ← h5.1 66 (by omega) (by omega) (by omega)] at hV
        refine mw_iload_n dX7_affair_121 rfl ?_
        refine mw_aload_n dX7_affair_122 rfl ?_
        refine mw_iload_n dX7_affair_123 rfl ?_
        refine mw_Vi (ci := 7) dX7_affair_124 ml_X7_291 ok_X7_isToldSo (by decide) (by first | rfl | assumption) (by decide) rfl rfl rfl (Nat.le_of_ble_eq_true rfl) (c_M_isToldSo h7 (h4.2.2 k.toNat (by omega)).2 (by omega) hV) (fun z_124 m_124 h_124 => ?_)
        obtain ⟨g1, g2, g3⟩ := h_124
        refine mw_if_ge (tgt := 134) dX7_affair_127 (by decide) (by omega) (fun c_127 => ?_) (fun c_127 => ?_)
        · refine mw_iconst dX7_affair_134 ?_
          refine mw_iadd dX7_affair_135 ?_
          refine mw_is1 dX7_affair_136 (by decide) rfl ?_
          refine mw_ii2 dX7_affair_137 (by decide) rfl ?_
          refine mw_goto (tgt := 113) dX7_affair_140 (by decide) ?_
          refine ih _ _ _ _ (by omega) hnn (by omega) hPA h4 ⟨fun c q1 q2 q3 => (g3.1 c q1 q2).trans (h5.1 c q1 q2 q3), g3.2.trans h5.2.1, fun j q => by rw [g3.1 56 (by omega) (by omega)]; exact h5.2.2 j q⟩ (by rw [g3.1 56 (by omega) (by omega)]; exact h6) ?_
          rw [show (k + 1).toNat = k.toNat + 1 by omega, iF, show ((k.toNat : Nat) : Int) = k by omega, ← h5.1 64 (by omega) (by omega) (by omega), ← h5.1 65 (by omega) (by omega) (by omega), ← h5.1 66 (by omega) (by omega) (by omega), ← h5.2.1]
          exact g2
        · omega
  have la : ∀ (n_ : Nat) (n x v : Int) (m : mMem), (1 ≤ n ∧ n ≤ 121) → (122 ≤ n + n_) → (AF μ m) → (RK m (st.1 3) (st.1 2 1) x v) → (0 ≤ x ∧ x ≤ st.1 2 1) → ((v = 1 ∧ (pAff (st.1 3) (st.1 2 1) 120 1 0 (st.1 0)).1 = -1 - tB (st.1 3) (st.1 2 1) x) ∨ (v = 0 ∧ n ≤ x ∧ m.1 56 18 = n ∧ m.1 56 19 = iF m (st.1 0) n.toNat 1 ∧ fInv (iF m (st.1 0) n.toNat) ∧ VV m (st.1 0) n ∧ ∃ G : Int → Int, pAft (st.1 3) (st.1 2 1) n x (iF m (st.1 0) n.toNat) G = pAff (st.1 3) (st.1 2 1) 120 1 0 (st.1 0))) → mW X cX7_affair 3 (some .int) yX7_affair.cls 9 G (qM μ (sp_affair st)) 33 [some (.ref 56), none, none] [] m := by
    intro n_
    induction n_ with
    | zero =>
      intro n x v m h1 h3 h4 h5 hx h6
      omega
    | succ n_ ih =>
      intro n x v m h1 h3 h4 h5 hx h6
      have hP2 := hP.af h4
      have hts := tS_c (st.1 3) (st.1 2 1) x
      refine mw_aload_n dX7_affair_33 rfl ?_
      refine mw_getI 12 dX7_affair_34 gs_X7_238 (by first | rfl | assumption) rfl rfl ?_
      rw [h5.2.2.2.2]
      refine mw_if_ne (tgt := 74) dX7_affair_37 (by decide) (by rcases h6 with h | h <;> omega) (fun c_37 => ?_) (fun c_37 => ?_)
      · refine mw_aload_n dX7_affair_74 rfl ?_
        refine mw_aload_n dX7_affair_75 rfl ?_
        refine mw_getI 10 dX7_affair_76 gs_X7_229 (by first | rfl | assumption) rfl rfl ?_
        rw [h5.2.2.1]
        refine mw_if_ne (tgt := 86) dX7_affair_79 (by decide) (by omega) (fun c_79 => ?_) (fun c_79 => ?_)
        · refine mw_iconst dX7_affair_86 ?_
          refine mw_Vv (ci := 7) dX7_affair_87 ml_X7_245 ok_X7_must (by decide) (by first | rfl | assumption) (by decide) rfl rfl rfl (Nat.le_of_ble_eq_true rfl) (c_M_must hP2 h5 hx (by rcases h6 with h | h <;> omega) (by omega)) (fun m_87 h_87 => ?_)
          obtain ⟨r1, x1, v1, k1, q1⟩ := h_87
          refine mw_aload_n dX7_affair_90 rfl ?_
          refine mw_iconst dX7_affair_91 ?_
          refine mw_putI 7 dX7_affair_92 ps_X7_213 (by first | rfl | assumption) rfl rfl ?_
          refine mw_aload_n dX7_affair_95 rfl ?_
          refine mw_getI 12 dX7_affair_96 gs_X7_238 (by first | rfl | assumption) rfl rfl ?_
          rw [u1_o (by omega), k1.2.2.2.2]
          refine mw_if_eq (tgt := 109) dX7_affair_99 (by decide) (by rcases q1 with h | h <;> omega) (fun c_99 => ?_) (fun c_99 => ?_)
          · refine mw_iconst dX7_affair_109 ?_
            refine mw_is1 dX7_affair_110 (by decide) rfl ?_
            refine mw_iconst dX7_affair_111 ?_
            refine mw_is2 dX7_affair_112 (by decide) rfl ?_
            rcases q1 with q | q
            · obtain ⟨g1, g2, g3, g4, g5, g6, Gr, g7⟩ : (v = 0 ∧ n ≤ x ∧ m.1 56 18 = n ∧ m.1 56 19 = iF m (st.1 0) n.toNat 1 ∧ fInv (iF m (st.1 0) n.toNat) ∧ VV m (st.1 0) n ∧ ∃ G : Int → Int, pAft (st.1 3) (st.1 2 1) n x (iF m (st.1 0) n.toNat) G = pAff (st.1 3) (st.1 2 1) 120 1 0 (st.1 0)) := by
                rcases h6 with h | h
                · omega
                · exact h
              have ht0 : tS (st.1 3) (st.1 2 1) x = 0 := by first | exact c_79 | (exfalso; omega)
              unfold pAft at g7
              rw [if_pos ht0] at g7
              have it1 := r1.it n
              refine lb 121 0 n m_87 _ (by omega) (by omega) (by omega) (by rw [← g7, iF_eq it1 n.toNat (by omega)]) ⟨h4.tr r1.af, by rw [r1.2.2 18 (by omega)]; exact g3, g6.keep it1⟩ ⟨fun c p1 p2 p3 => u56 p3, rfl, fun j p => u1_o (by omega)⟩ (u1_s _ _ _ _) (fun j p1 p2 => ?_)
              rw [u56 (by omega), r1.1 _ (by omega), h4.1 _ (by omega) (by omega) (by omega) (by omega)]
              exact hR j p1 p2
            · omega
          · refine mw_iconst dX7_affair_102 ?_
            refine mw_aload_n dX7_affair_103 rfl ?_
            refine mw_getI 8 dX7_affair_104 gs_X7_220 (by first | rfl | assumption) rfl rfl ?_
            rw [u1_o (by omega), k1.1]
            refine mw_isub dX7_affair_107 ?_
            refine mw_iret dX7_affair_108 rfl ?_
            rcases q1 with q | q
            · omega
            · obtain ⟨qn, ex, ev⟩ := q
              have hr : (pAff (st.1 3) (st.1 2 1) 120 1 0 (st.1 0)).1 = -1 - tB (st.1 3) (st.1 2 1) x := by
                rcases h6 with h | h
                · exact h.2
                · obtain ⟨g1, g2, g3, g4, g5, g6, Gr, g7⟩ := h
                  have hz : ¬ tS (st.1 3) (st.1 2 1) x = 0 := by first | exact c_79 | (exfalso; omega)
                  have h3 : ¬ cK (st.1 3) (st.1 2 1) x = 3 := fun p => by
                    have p2 := cK_3 p
                    first
                    | (exfalso; omega)
                    | exact c_59 p2.2
                    | exact c_45 p2.1
                  unfold pAft at g7
                  rw [if_neg hz, if_neg h3] at g7
                  rw [← g7]
              have hbx := tB_bd (st.1 3) hx
              refine ⟨_, rfl, ?_⟩
              unfold sp_affair
              rw [if_pos (by omega)]
              exact ⟨by rw [ex, hr], hX.tape (fun c p => (u56 (by omega)).trans ((r1.1 c (by omega)).trans (h4.1 c (by omega) (by omega) (by omega) (by omega)))) (by show m_87.2 70 = _; rw [r1.2.1]; exact h4.2.1 70 (by omega)) (by rw [u1_o (by omega), r1.2.2 3 (by omega), h4.2.2 3 (by omega)]) (u1_s _ _ _ _) (fun i p1 p2 => by omega), fun c hc => ⟨(u56 (by omega)).trans ((r1.1 c (by omega)).trans (h4.1 c (by omega) (by omega) (by omega) (by omega))), by show m_87.2 c = _; rw [r1.2.1]; exact h4.2.1 c (by omega)⟩⟩
        · refine mw_iconst dX7_affair_82 ?_
          refine mw_goto (tgt := 87) dX7_affair_83 (by decide) ?_
          refine mw_Vv (ci := 7) dX7_affair_87 ml_X7_245 ok_X7_must (by decide) (by first | rfl | assumption) (by decide) rfl rfl rfl (Nat.le_of_ble_eq_true rfl) (c_M_must hP2 h5 hx (by rcases h6 with h | h <;> omega) (by omega)) (fun m_87 h_87 => ?_)
          obtain ⟨r1, x1, v1, k1, q1⟩ := h_87
          refine mw_aload_n dX7_affair_90 rfl ?_
          refine mw_iconst dX7_affair_91 ?_
          refine mw_putI 7 dX7_affair_92 ps_X7_213 (by first | rfl | assumption) rfl rfl ?_
          refine mw_aload_n dX7_affair_95 rfl ?_
          refine mw_getI 12 dX7_affair_96 gs_X7_238 (by first | rfl | assumption) rfl rfl ?_
          rw [u1_o (by omega), k1.2.2.2.2]
          refine mw_if_eq (tgt := 109) dX7_affair_99 (by decide) (by rcases q1 with h | h <;> omega) (fun c_99 => ?_) (fun c_99 => ?_)
          · refine mw_iconst dX7_affair_109 ?_
            refine mw_is1 dX7_affair_110 (by decide) rfl ?_
            refine mw_iconst dX7_affair_111 ?_
            refine mw_is2 dX7_affair_112 (by decide) rfl ?_
            rcases q1 with q | q
            · obtain ⟨g1, g2, g3, g4, g5, g6, Gr, g7⟩ : (v = 0 ∧ n ≤ x ∧ m.1 56 18 = n ∧ m.1 56 19 = iF m (st.1 0) n.toNat 1 ∧ fInv (iF m (st.1 0) n.toNat) ∧ VV m (st.1 0) n ∧ ∃ G : Int → Int, pAft (st.1 3) (st.1 2 1) n x (iF m (st.1 0) n.toNat) G = pAff (st.1 3) (st.1 2 1) 120 1 0 (st.1 0)) := by
                rcases h6 with h | h
                · omega
                · exact h
              have ht0 : tS (st.1 3) (st.1 2 1) x = 0 := by first | exact c_79 | (exfalso; omega)
              unfold pAft at g7
              rw [if_pos ht0] at g7
              have it1 := r1.it n
              refine lb 121 0 n m_87 _ (by omega) (by omega) (by omega) (by rw [← g7, iF_eq it1 n.toNat (by omega)]) ⟨h4.tr r1.af, by rw [r1.2.2 18 (by omega)]; exact g3, g6.keep it1⟩ ⟨fun c p1 p2 p3 => u56 p3, rfl, fun j p => u1_o (by omega)⟩ (u1_s _ _ _ _) (fun j p1 p2 => ?_)
              rw [u56 (by omega), r1.1 _ (by omega), h4.1 _ (by omega) (by omega) (by omega) (by omega)]
              exact hR j p1 p2
            · omega
          · refine mw_iconst dX7_affair_102 ?_
            refine mw_aload_n dX7_affair_103 rfl ?_
            refine mw_getI 8 dX7_affair_104 gs_X7_220 (by first | rfl | assumption) rfl rfl ?_
            rw [u1_o (by omega), k1.1]
            refine mw_isub dX7_affair_107 ?_
            refine mw_iret dX7_affair_108 rfl ?_
            rcases q1 with q | q
            · omega
            · obtain ⟨qn, ex, ev⟩ := q
              have hr : (pAff (st.1 3) (st.1 2 1) 120 1 0 (st.1 0)).1 = -1 - tB (st.1 3) (st.1 2 1) x := by
                rcases h6 with h | h
                · exact h.2
                · obtain ⟨g1, g2, g3, g4, g5, g6, Gr, g7⟩ := h
                  have hz : ¬ tS (st.1 3) (st.1 2 1) x = 0 := by first | exact c_79 | (exfalso; omega)
                  have h3 : ¬ cK (st.1 3) (st.1 2 1) x = 3 := fun p => by
                    have p2 := cK_3 p
                    first
                    | (exfalso; omega)
                    | exact c_59 p2.2
                    | exact c_45 p2.1
                  unfold pAft at g7
                  rw [if_neg hz, if_neg h3] at g7
                  rw [← g7]
              have hbx := tB_bd (st.1 3) hx
              refine ⟨_, rfl, ?_⟩
              unfold sp_affair
              rw [if_pos (by omega)]
              exact ⟨by rw [ex, hr], hX.tape (fun c p => (u56 (by omega)).trans ((r1.1 c (by omega)).trans (h4.1 c (by omega) (by omega) (by omega) (by omega)))) (by show m_87.2 70 = _; rw [r1.2.1]; exact h4.2.1 70 (by omega)) (by rw [u1_o (by omega), r1.2.2 3 (by omega), h4.2.2 3 (by omega)]) (u1_s _ _ _ _) (fun i p1 p2 => by omega), fun c hc => ⟨(u56 (by omega)).trans ((r1.1 c (by omega)).trans (h4.1 c (by omega) (by omega) (by omega) (by omega))), by show m_87.2 c = _; rw [r1.2.1]; exact h4.2.1 c (by omega)⟩⟩
      · obtain ⟨g1, g2, g3, g4, g5, g6, Gr, g7⟩ := (show (v = 0 ∧ n ≤ x ∧ m.1 56 18 = n ∧ m.1 56 19 = iF m (st.1 0) n.toNat 1 ∧ fInv (iF m (st.1 0) n.toNat) ∧ VV m (st.1 0) n ∧ ∃ G : Int → Int, pAft (st.1 3) (st.1 2 1) n x (iF m (st.1 0) n.toNat) G = pAff (st.1 3) (st.1 2 1) 120 1 0 (st.1 0)) from (by
            rcases h6 with h | h
            · omega
            · exact h))
        refine mw_aload_n dX7_affair_40 rfl ?_
        refine mw_getI 10 dX7_affair_41 gs_X7_229 (by first | rfl | assumption) rfl rfl ?_
        rw [h5.2.2.1]
        refine mw_iconst dX7_affair_44 ?_
        refine mw_icmp_ne (tgt := 74) dX7_affair_45 (by decide) (by omega) (by omega) (fun c_45 => ?_) (fun c_45 => ?_)
        · refine mw_aload_n dX7_affair_74 rfl ?_
          refine mw_aload_n dX7_affair_75 rfl ?_
          refine mw_getI 10 dX7_affair_76 gs_X7_229 (by first | rfl | assumption) rfl rfl ?_
          rw [h5.2.2.1]
          refine mw_if_ne (tgt := 86) dX7_affair_79 (by decide) (by omega) (fun c_79 => ?_) (fun c_79 => ?_)
          · refine mw_iconst dX7_affair_86 ?_
            refine mw_Vv (ci := 7) dX7_affair_87 ml_X7_245 ok_X7_must (by decide) (by first | rfl | assumption) (by decide) rfl rfl rfl (Nat.le_of_ble_eq_true rfl) (c_M_must hP2 h5 hx (by rcases h6 with h | h <;> omega) (by omega)) (fun m_87 h_87 => ?_)
            obtain ⟨r1, x1, v1, k1, q1⟩ := h_87
            refine mw_aload_n dX7_affair_90 rfl ?_
            refine mw_iconst dX7_affair_91 ?_
            refine mw_putI 7 dX7_affair_92 ps_X7_213 (by first | rfl | assumption) rfl rfl ?_
            refine mw_aload_n dX7_affair_95 rfl ?_
            refine mw_getI 12 dX7_affair_96 gs_X7_238 (by first | rfl | assumption) rfl rfl ?_
            rw [u1_o (by omega), k1.2.2.2.2]
            refine mw_if_eq (tgt := 109) dX7_affair_99 (by decide) (by rcases q1 with h | h <;> omega) (fun c_99 => ?_) (fun c_99 => ?_)
            · refine mw_iconst dX7_affair_109 ?_
              refine mw_is1 dX7_affair_110 (by decide) rfl ?_
              refine mw_iconst dX7_affair_111 ?_
              refine mw_is2 dX7_affair_112 (by decide) rfl ?_
              rcases q1 with q | q
              · obtain ⟨g1, g2, g3, g4, g5, g6, Gr, g7⟩ : (v = 0 ∧ n ≤ x ∧ m.1 56 18 = n ∧ m.1 56 19 = iF m (st.1 0) n.toNat 1 ∧ fInv (iF m (st.1 0) n.toNat) ∧ VV m (st.1 0) n ∧ ∃ G : Int → Int, pAft (st.1 3) (st.1 2 1) n x (iF m (st.1 0) n.toNat) G = pAff (st.1 3) (st.1 2 1) 120 1 0 (st.1 0)) := by
                  rcases h6 with h | h
                  · omega
                  · exact h
                have ht0 : tS (st.1 3) (st.1 2 1) x = 0 := by first | exact c_79 | (exfalso; omega)
                unfold pAft at g7
                rw [if_pos ht0] at g7
                have it1 := r1.it n
                refine lb 121 0 n m_87 _ (by omega) (by omega) (by omega) (by rw [← g7, iF_eq it1 n.toNat (by omega)]) ⟨h4.tr r1.af, by rw [r1.2.2 18 (by omega)]; exact g3, g6.keep it1⟩ ⟨fun c p1 p2 p3 => u56 p3, rfl, fun j p => u1_o (by omega)⟩ (u1_s _ _ _ _) (fun j p1 p2 => ?_)
                rw [u56 (by omega), r1.1 _ (by omega), h4.1 _ (by omega) (by omega) (by omega) (by omega)]
                exact hR j p1 p2
              · omega
            · refine mw_iconst dX7_affair_102 ?_
              refine mw_aload_n dX7_affair_103 rfl ?_
              refine mw_getI 8 dX7_affair_104 gs_X7_220 (by first | rfl | assumption) rfl rfl ?_
              rw [u1_o (by omega), k1.1]
              refine mw_isub dX7_affair_107 ?_
              refine mw_iret dX7_affair_108 rfl ?_
              rcases q1 with q | q
              · omega
              · obtain ⟨qn, ex, ev⟩ := q
                have hr : (pAff (st.1 3) (st.1 2 1) 120 1 0 (st.1 0)).1 = -1 - tB (st.1 3) (st.1 2 1) x := by
                  rcases h6 with h | h
                  · exact h.2
                  · obtain ⟨g1, g2, g3, g4, g5, g6, Gr, g7⟩ := h
                    have hz : ¬ tS (st.1 3) (st.1 2 1) x = 0 := by first | exact c_79 | (exfalso; omega)
                    have h3 : ¬ cK (st.1 3) (st.1 2 1) x = 3 := fun p => by
                      have p2 := cK_3 p
                      first
                      | (exfalso; omega)
                      | exact c_59 p2.2
                      | exact c_45 p2.1
                    unfold pAft at g7
                    rw [if_neg hz, if_neg h3] at g7
                    rw [← g7]
                have hbx := tB_bd (st.1 3) hx
                refine ⟨_, rfl, ?_⟩
                unfold sp_affair
                rw [if_pos (by omega)]
                exact ⟨by rw [ex, hr], hX.tape (fun c p => (u56 (by omega)).trans ((r1.1 c (by omega)).trans (h4.1 c (by omega) (by omega) (by omega) (by omega)))) (by show m_87.2 70 = _; rw [r1.2.1]; exact h4.2.1 70 (by omega)) (by rw [u1_o (by omega), r1.2.2 3 (by omega), h4.2.2 3 (by omega)]) (u1_s _ _ _ _) (fun i p1 p2 => by omega), fun c hc => ⟨(u56 (by omega)).trans ((r1.1 c (by omega)).trans (h4.1 c (by omega) (by omega) (by omega) (by omega))), by show m_87.2 c = _; rw [r1.2.1]; exact h4.2.1 c (by omega)⟩⟩
          · refine mw_iconst dX7_affair_82 ?_
            refine mw_goto (tgt := 87) dX7_affair_83 (by decide) ?_
            refine mw_Vv (ci := 7) dX7_affair_87 ml_X7_245 ok_X7_must (by decide) (by first | rfl | assumption) (by decide) rfl rfl rfl (Nat.le_of_ble_eq_true rfl) (c_M_must hP2 h5 hx (by rcases h6 with h | h <;> omega) (by omega)) (fun m_87 h_87 => ?_)
            obtain ⟨r1, x1, v1, k1, q1⟩ := h_87
            refine mw_aload_n dX7_affair_90 rfl ?_
            refine mw_iconst dX7_affair_91 ?_
            refine mw_putI 7 dX7_affair_92 ps_X7_213 (by first | rfl | assumption) rfl rfl ?_
            refine mw_aload_n dX7_affair_95 rfl ?_
            refine mw_getI 12 dX7_affair_96 gs_X7_238 (by first | rfl | assumption) rfl rfl ?_
            rw [u1_o (by omega), k1.2.2.2.2]
            refine mw_if_eq (tgt := 109) dX7_affair_99 (by decide) (by rcases q1 with h | h <;> omega) (fun c_99 => ?_) (fun c_99 => ?_)
            · refine mw_iconst dX7_affair_109 ?_
              refine mw_is1 dX7_affair_110 (by decide) rfl ?_
              refine mw_iconst dX7_affair_111 ?_
              refine mw_is2 dX7_affair_112 (by decide) rfl ?_
              rcases q1 with q | q
              · obtain ⟨g1, g2, g3, g4, g5, g6, Gr, g7⟩ : (v = 0 ∧ n ≤ x ∧ m.1 56 18 = n ∧ m.1 56 19 = iF m (st.1 0) n.toNat 1 ∧ fInv (iF m (st.1 0) n.toNat) ∧ VV m (st.1 0) n ∧ ∃ G : Int → Int, pAft (st.1 3) (st.1 2 1) n x (iF m (st.1 0) n.toNat) G = pAff (st.1 3) (st.1 2 1) 120 1 0 (st.1 0)) := by
                  rcases h6 with h | h
                  · omega
                  · exact h
                have ht0 : tS (st.1 3) (st.1 2 1) x = 0 := by first | exact c_79 | (exfalso; omega)
                unfold pAft at g7
                rw [if_pos ht0] at g7
                have it1 := r1.it n
                refine lb 121 0 n m_87 _ (by omega) (by omega) (by omega) (by rw [← g7, iF_eq it1 n.toNat (by omega)]) ⟨h4.tr r1.af, by rw [r1.2.2 18 (by omega)]; exact g3, g6.keep it1⟩ ⟨fun c p1 p2 p3 => u56 p3, rfl, fun j p => u1_o (by omega)⟩ (u1_s _ _ _ _) (fun j p1 p2 => ?_)
                rw [u56 (by omega), r1.1 _ (by omega), h4.1 _ (by omega) (by omega) (by omega) (by omega)]
                exact hR j p1 p2
              · omega
            · refine mw_iconst dX7_affair_102 ?_
              refine mw_aload_n dX7_affair_103 rfl ?_
              refine mw_getI 8 dX7_affair_104 gs_X7_220 (by first | rfl | assumption) rfl rfl ?_
              rw [u1_o (by omega), k1.1]
              refine mw_isub dX7_affair_107 ?_
              refine mw_iret dX7_affair_108 rfl ?_
              rcases q1 with q | q
              · omega
              · obtain ⟨qn, ex, ev⟩ := q
                have hr : (pAff (st.1 3) (st.1 2 1) 120 1 0 (st.1 0)).1 = -1 - tB (st.1 3) (st.1 2 1) x := by
                  rcases h6 with h | h
                  · exact h.2
                  · obtain ⟨g1, g2, g3, g4, g5, g6, Gr, g7⟩ := h
                    have hz : ¬ tS (st.1 3) (st.1 2 1) x = 0 := by first | exact c_79 | (exfalso; omega)
                    have h3 : ¬ cK (st.1 3) (st.1 2 1) x = 3 := fun p => by
                      have p2 := cK_3 p
                      first
                      | (exfalso; omega)
                      | exact c_59 p2.2
                      | exact c_45 p2.1
                    unfold pAft at g7
                    rw [if_neg hz, if_neg h3] at g7
                    rw [← g7]
                have hbx := tB_bd (st.1 3) hx
                refine ⟨_, rfl, ?_⟩
                unfold sp_affair
                rw [if_pos (by omega)]
                exact ⟨by rw [ex, hr], hX.tape (fun c p => (u56 (by omega)).trans ((r1.1 c (by omega)).trans (h4.1 c (by omega) (by omega) (by omega) (by omega)))) (by show m_87.2 70 = _; rw [r1.2.1]; exact h4.2.1 70 (by omega)) (by rw [u1_o (by omega), r1.2.2 3 (by omega), h4.2.2 3 (by omega)]) (u1_s _ _ _ _) (fun i p1 p2 => by omega), fun c hc => ⟨(u56 (by omega)).trans ((r1.1 c (by omega)).trans (h4.1 c (by omega) (by omega) (by omega) (by omega))), by show m_87.2 c = _; rw [r1.2.1]; exact h4.2.1 c (by omega)⟩⟩
        · refine mw_aload_n dX7_affair_48 rfl ?_
          refine mw_gr_7_6 dX7_affair_49 gs_X7_25 (by first | rfl | assumption) ?_
          refine mw_aload_n dX7_affair_52 rfl ?_
          refine mw_getI 8 dX7_affair_53 gs_X7_220 (by first | rfl | assumption) rfl rfl ?_
          rw [h5.1]
          refine mw_iald 120 dX7_affair_56 (by first | rfl | assumption) (by first | rfl | assumption) (by have := tB_bd (st.1 3) hx; omega) ?_
          rw [hP2.2.2.1 _ (by have := tB_bd (st.1 3) hx; omega) (by omega)]
          refine mw_bipush dX7_affair_57 (by decide +kernel) ?_
          refine mw_icmp_ne (tgt := 74) dX7_affair_59 (by decide) (by have := hP2.2.2.2 (tB (st.1 3) (st.1 2 1) x) (by have := tB_bd (st.1 3) hx; omega) (by omega); omega) (by omega) (fun c_59 => ?_) (fun c_59 => ?_)
          · refine mw_aload_n dX7_affair_74 rfl ?_
            refine mw_aload_n dX7_affair_75 rfl ?_
            refine mw_getI 10 dX7_affair_76 gs_X7_229 (by first | rfl | assumption) rfl rfl ?_
            rw [h5.2.2.1]
            refine mw_if_ne (tgt := 86) dX7_affair_79 (by decide) (by omega) (fun c_79 => ?_) (fun c_79 => ?_)
            · refine mw_iconst dX7_affair_86 ?_
              refine mw_Vv (ci := 7) dX7_affair_87 ml_X7_245 ok_X7_must (by decide) (by first | rfl | assumption) (by decide) rfl rfl rfl (Nat.le_of_ble_eq_true rfl) (c_M_must hP2 h5 hx (by rcases h6 with h | h <;> omega) (by omega)) (fun m_87 h_87 => ?_)
              obtain ⟨r1, x1, v1, k1, q1⟩ := h_87
              refine mw_aload_n dX7_affair_90 rfl ?_
              refine mw_iconst dX7_affair_91 ?_
              refine mw_putI 7 dX7_affair_92 ps_X7_213 (by first | rfl | assumption) rfl rfl ?_
              refine mw_aload_n dX7_affair_95 rfl ?_
              refine mw_getI 12 dX7_affair_96 gs_X7_238 (by first | rfl | assumption) rfl rfl ?_
              rw [u1_o (by omega), k1.2.2.2.2]
              refine mw_if_eq (tgt := 109) dX7_affair_99 (by decide) (by rcases q1 with h | h <;> omega) (fun c_99 => ?_) (fun c_99 => ?_)
              · refine mw_iconst dX7_affair_109 ?_
                refine mw_is1 dX7_affair_110 (by decide) rfl ?_
                refine mw_iconst dX7_affair_111 ?_
                refine mw_is2 dX7_affair_112 (by decide) rfl ?_
                rcases q1 with q | q
                · obtain ⟨g1, g2, g3, g4, g5, g6, Gr, g7⟩ : (v = 0 ∧ n ≤ x ∧ m.1 56 18 = n ∧ m.1 56 19 = iF m (st.1 0) n.toNat 1 ∧ fInv (iF m (st.1 0) n.toNat) ∧ VV m (st.1 0) n ∧ ∃ G : Int → Int, pAft (st.1 3) (st.1 2 1) n x (iF m (st.1 0) n.toNat) G = pAff (st.1 3) (st.1 2 1) 120 1 0 (st.1 0)) := by
                    rcases h6 with h | h
                    · omega
                    · exact h
                  have ht0 : tS (st.1 3) (st.1 2 1) x = 0 := by first | exact c_79 | (exfalso; omega)
                  unfold pAft at g7
                  rw [if_pos ht0] at g7
                  have it1 := r1.it n
                  refine lb 121 0 n m_87 _ (by omega) (by omega) (by omega) (by rw [← g7, iF_eq it1 n.toNat (by omega)]) ⟨h4.tr r1.af, by rw [r1.2.2 18 (by omega)]; exact g3, g6.keep it1⟩ ⟨fun c p1 p2 p3 => u56 p3, rfl, fun j p => u1_o (by omega)⟩ (u1_s _ _ _ _) (fun j p1 p2 => ?_)
                  rw [u56 (by omega), r1.1 _ (by omega), h4.1 _ (by omega) (by omega) (by omega) (by omega)]
                  exact hR j p1 p2
                · omega
              · refine mw_iconst dX7_affair_102 ?_
                refine mw_aload_n dX7_affair_103 rfl ?_
                refine mw_getI 8 dX7_affair_104 gs_X7_220 (by first | rfl | assumption) rfl rfl ?_
                rw [u1_o (by omega), k1.1]
                refine mw_isub dX7_affair_107 ?_
                refine mw_iret dX7_affair_108 rfl ?_
                rcases q1 with q | q
                · omega
                · obtain ⟨qn, ex, ev⟩ := q
                  have hr : (pAff (st.1 3) (st.1 2 1) 120 1 0 (st.1 0)).1 = -1 - tB (st.1 3) (st.1 2 1) x := by
                    rcases h6 with h | h
                    · exact h.2
                    · obtain ⟨g1, g2, g3, g4, g5, g6, Gr, g7⟩ := h
                      have hz : ¬ tS (st.1 3) (st.1 2 1) x = 0 := by first | exact c_79 | (exfalso; omega)
                      have h3 : ¬ cK (st.1 3) (st.1 2 1) x = 3 := fun p => by
                        have p2 := cK_3 p
                        first
                        | (exfalso; omega)
                        | exact c_59 p2.2
                        | exact c_45 p2.1
                      unfold pAft at g7
                      rw [if_neg hz, if_neg h3] at g7
                      rw [← g7]
                  have hbx := tB_bd (st.1 3) hx
                  refine ⟨_, rfl, ?_⟩
                  unfold sp_affair
                  rw [if_pos (by omega)]
                  exact ⟨by rw [ex, hr], hX.tape (fun c p => (u56 (by omega)).trans ((r1.1 c (by omega)).trans (h4.1 c (by omega) (by omega) (by omega) (by omega)))) (by show m_87.2 70 = _; rw [r1.2.1]; exact h4.2.1 70 (by omega)) (by rw [u1_o (by omega), r1.2.2 3 (by omega), h4.2.2 3 (by omega)]) (u1_s _ _ _ _) (fun i p1 p2 => by omega), fun c hc => ⟨(u56 (by omega)).trans ((r1.1 c (by omega)).trans (h4.1 c (by omega) (by omega) (by omega) (by omega))), by show m_87.2 c = _; rw [r1.2.1]; exact h4.2.1 c (by omega)⟩⟩
            · refine mw_iconst dX7_affair_82 ?_
              refine mw_goto (tgt := 87) dX7_affair_83 (by decide) ?_
              refine mw_Vv (ci := 7) dX7_affair_87 ml_X7_245 ok_X7_must (by decide) (by first | rfl | assumption) (by decide) rfl rfl rfl (Nat.le_of_ble_eq_true rfl) (c_M_must hP2 h5 hx (by rcases h6 with h | h <;> omega) (by omega)) (fun m_87 h_87 => ?_)
              obtain ⟨r1, x1, v1, k1, q1⟩ := h_87
              refine mw_aload_n dX7_affair_90 rfl ?_
              refine mw_iconst dX7_affair_91 ?_
              refine mw_putI 7 dX7_affair_92 ps_X7_213 (by first | rfl | assumption) rfl rfl ?_
              refine mw_aload_n dX7_affair_95 rfl ?_
              refine mw_getI 12 dX7_affair_96 gs_X7_238 (by first | rfl | assumption) rfl rfl ?_
              rw [u1_o (by omega), k1.2.2.2.2]
              refine mw_if_eq (tgt := 109) dX7_affair_99 (by decide) (by rcases q1 with h | h <;> omega) (fun c_99 => ?_) (fun c_99 => ?_)
              · refine mw_iconst dX7_affair_109 ?_
                refine mw_is1 dX7_affair_110 (by decide) rfl ?_
                refine mw_iconst dX7_affair_111 ?_
                refine mw_is2 dX7_affair_112 (by decide) rfl ?_
                rcases q1 with q | q
                · obtain ⟨g1, g2, g3, g4, g5, g6, Gr, g7⟩ : (v = 0 ∧ n ≤ x ∧ m.1 56 18 = n ∧ m.1 56 19 = iF m (st.1 0) n.toNat 1 ∧ fInv (iF m (st.1 0) n.toNat) ∧ VV m (st.1 0) n ∧ ∃ G : Int → Int, pAft (st.1 3) (st.1 2 1) n x (iF m (st.1 0) n.toNat) G = pAff (st.1 3) (st.1 2 1) 120 1 0 (st.1 0)) := by
                    rcases h6 with h | h
                    · omega
                    · exact h
                  have ht0 : tS (st.1 3) (st.1 2 1) x = 0 := by first | exact c_79 | (exfalso; omega)
                  unfold pAft at g7
                  rw [if_pos ht0] at g7
                  have it1 := r1.it n
                  refine lb 121 0 n m_87 _ (by omega) (by omega) (by omega) (by rw [← g7, iF_eq it1 n.toNat (by omega)]) ⟨h4.tr r1.af, by rw [r1.2.2 18 (by omega)]; exact g3, g6.keep it1⟩ ⟨fun c p1 p2 p3 => u56 p3, rfl, fun j p => u1_o (by omega)⟩ (u1_s _ _ _ _) (fun j p1 p2 => ?_)
                  rw [u56 (by omega), r1.1 _ (by omega), h4.1 _ (by omega) (by omega) (by omega) (by omega)]
                  exact hR j p1 p2
                · omega
              · refine mw_iconst dX7_affair_102 ?_
                refine mw_aload_n dX7_affair_103 rfl ?_
                refine mw_getI 8 dX7_affair_104 gs_X7_220 (by first | rfl | assumption) rfl rfl ?_
                rw [u1_o (by omega), k1.1]
                refine mw_isub dX7_affair_107 ?_
                refine mw_iret dX7_affair_108 rfl ?_
                rcases q1 with q | q
                · omega
                · obtain ⟨qn, ex, ev⟩ := q
                  have hr : (pAff (st.1 3) (st.1 2 1) 120 1 0 (st.1 0)).1 = -1 - tB (st.1 3) (st.1 2 1) x := by
                    rcases h6 with h | h
                    · exact h.2
                    · obtain ⟨g1, g2, g3, g4, g5, g6, Gr, g7⟩ := h
                      have hz : ¬ tS (st.1 3) (st.1 2 1) x = 0 := by first | exact c_79 | (exfalso; omega)
                      have h3 : ¬ cK (st.1 3) (st.1 2 1) x = 3 := fun p => by
                        have p2 := cK_3 p
                        first
                        | (exfalso; omega)
                        | exact c_59 p2.2
                        | exact c_45 p2.1
                      unfold pAft at g7
                      rw [if_neg hz, if_neg h3] at g7
                      rw [← g7]
                  have hbx := tB_bd (st.1 3) hx
                  refine ⟨_, rfl, ?_⟩
                  unfold sp_affair
                  rw [if_pos (by omega)]
                  exact ⟨by rw [ex, hr], hX.tape (fun c p => (u56 (by omega)).trans ((r1.1 c (by omega)).trans (h4.1 c (by omega) (by omega) (by omega) (by omega)))) (by show m_87.2 70 = _; rw [r1.2.1]; exact h4.2.1 70 (by omega)) (by rw [u1_o (by omega), r1.2.2 3 (by omega), h4.2.2 3 (by omega)]) (u1_s _ _ _ _) (fun i p1 p2 => by omega), fun c hc => ⟨(u56 (by omega)).trans ((r1.1 c (by omega)).trans (h4.1 c (by omega) (by omega) (by omega) (by omega))), by show m_87.2 c = _; rw [r1.2.1]; exact h4.2.1 c (by omega)⟩⟩
          · refine mw_aload_n dX7_affair_62 rfl ?_
            refine mw_iconst dX7_affair_63 ?_
            refine mw_Vv (ci := 7) dX7_affair_64 ml_X7_245 ok_X7_must (by decide) (by first | rfl | assumption) (by decide) rfl rfl rfl (Nat.le_of_ble_eq_true rfl) (c_M_must hP2 h5 hx (by omega) (by omega)) (fun m_64 h_64 => ?_)
            obtain ⟨r1, x1, v1, k1, q1⟩ := h_64
            subst g1
            obtain ⟨rfl, rfl⟩ := mP_y q1 (by decide)
            have it1 := r1.it n
            have eF := iF_eq (F := st.1 0) it1 n.toNat (by omega)
            have V1 := g6.keep it1
            have lx := tE_le (t := st.1 3) hx
            refine mw_aload_n dX7_affair_67 rfl ?_
            refine mw_Vv (ci := 7) dX7_affair_68 ml_X7_288 ok_X7_readItem (by decide) (by first | rfl | assumption) (by decide) rfl rfl rfl (Nat.le_of_ble_eq_true rfl) (c_M_readItem (F := iF m_64 (st.1 0) n.toNat) (n := n) (hP2.rf r1) k1 (tE_ok hx) (by rw [eF]; exact g5) (by rw [r1.2.2 19 (by omega), eF]; exact g4) (by rw [r1.2.2 18 (by omega)]; exact g3) (by omega)) (fun m_68 h_68 => ?_)
            obtain ⟨af, it, x2, v2, k2, q2⟩ := h_68
            refine mw_goto (tgt := 33) dX7_affair_71 (by decide) ?_
            have hts : tS (st.1 3) (st.1 2 1) x = 3 := c_45
            have hck : cK (st.1 3) (st.1 2 1) x = 3 := by unfold cK; rw [if_pos hts, if_pos c_59]
            unfold pAft at g7
            rw [if_neg (by omega), if_pos hck, ← eF] at g7
            have nx := rd_next (tE_ok (t := st.1 3) hx) (by omega) (by omega) hL.2 (by rw [eF]; exact g5) V1 (by have := tB_bd (st.1 3) hx; omega) g7 it q2
            exact ih (n + 1) _ _ _ (by omega) (by omega) (h4.tr (r1.af.tr af)) k2 nx.1 (nx.2.imp (fun h => h) (fun h => ⟨h.1, by omega, h.2.2⟩))
  refine mw_aload_n dX7_affair_0 rfl ?_
  refine mw_iconst dX7_affair_1 ?_
  refine mw_putI 9 dX7_affair_2 ps_X7_217 (by first | rfl | assumption) rfl rfl ?_
  refine mw_aload_n dX7_affair_5 rfl ?_
  refine mw_iconst dX7_affair_6 ?_
  refine mw_putZ 12 dX7_affair_7 ps_X7_238 (by first | rfl | assumption) rfl rfl (by omega) ?_
  refine mw_aload_n dX7_affair_10 rfl ?_
  refine mw_iconst dX7_affair_11 ?_
  refine mw_putI 18 dX7_affair_12 ps_X7_249 (by first | rfl | assumption) rfl rfl ?_
  refine mw_aload_n dX7_affair_15 rfl ?_
  refine mw_aload_n dX7_affair_16 rfl ?_
  refine mw_gr_7_0 dX7_affair_17 gs_X7_9 (by first | rfl | assumption) ?_
  refine mw_iconst dX7_affair_20 ?_
  refine mw_iald 68 dX7_affair_21 (by first | rfl | assumption) (by first | rfl | assumption) (by omega) ?_
  rw [u1_o (by omega), u1_o (by omega), u1_o (by omega), hR 1 (by omega) (by omega)]
  refine mw_putI 19 dX7_affair_22 ps_X7_259 (by first | rfl | assumption) rfl rfl ?_
  have a0 : AF μ (u1 (u1 (u1 (u1 μ 56 9 0) 56 12 0) 56 18 0) 56 19 (st.1 0 1)) := ⟨fun c q _ _ _ => by rw [u56 q, u56 q, u56 q, u56 q], fun c _ => rfl, fun j q => by rw [u1_o (by omega), u1_o (by omega), u1_o (by omega), u1_o (by omega)]⟩
  have P0 := hP.af a0
  refine mw_aload_n dX7_affair_25 rfl ?_
  refine mw_Vv (ci := 7) dX7_affair_26 ml_X7_242 ok_X7_next (by decide) (by first | rfl | assumption) (by decide) rfl rfl rfl (Nat.le_of_ble_eq_true rfl) (c_M_next (t := st.1 3) (L := st.1 2 1) (e := 0) P0 (by rw [u1_o (by omega), u1_o (by omega), u1_o (by omega), u1_s]) (by omega)) (fun m_26 h_26 => ?_)
  obtain ⟨r0, k0⟩ := h_26
  rw [u1_o (by omega), u1_o (by omega), u1_s] at k0
  refine mw_aload_n dX7_affair_29 rfl ?_
  refine mw_Vv (ci := 7) dX7_affair_30 ml_X7_288 ok_X7_readItem (by decide) (by first | rfl | assumption) (by decide) rfl rfl rfl (Nat.le_of_ble_eq_true rfl) (c_M_readItem (F := iF m_26 (st.1 0) (0 : Int).toNat) (n := 0) (P0.rf r0) k0 (by omega) hFI (by rw [r0.2.2 19 (by omega), u1_s]; rfl) (by rw [r0.2.2 18 (by omega), u1_o (by omega), u1_s]) (by omega)) (fun m_30 h_30 => ?_)
  obtain ⟨af, it, x2, v2, k2, q2⟩ := h_30
  have nx := rd_next (M := m_26) (F0 := st.1 0) (n := 0) (R := pAff (st.1 3) (st.1 2 1) 120 1 0 (st.1 0)) (e := 0) (L := st.1 2 1) (by omega) (by omega) (by omega) hL.2 hFI (fun j q => by omega) (by omega) rfl it q2
  exact la 121 1 _ _ _ (by omega) (by omega) (a0.tr (r0.af.tr af)) k2 nx.1 (nx.2.imp (fun h => h) (fun h => ⟨h.1, by omega, h.2.2⟩))

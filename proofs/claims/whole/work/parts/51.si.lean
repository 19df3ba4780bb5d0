/-! ===== every call keeps the state's bounds ===== -/
theorem si_row {st : aS} (h : SI st) {F : Int → Int} (hF : fInv F) (h0 : F 0 ≤ 9999) : SI (sU st 0 F) := by
  unfold SI
  rw [sU_s, sU_o (by omega), sU_o (by omega), sU_o (by omega), sU_o (by omega), sU_o (by omega)]
  exact ⟨hF, h0, h.2.2⟩
theorem si_bst {st : aS} (h : SI st) (z : Int) : SI (bstR st z).2 := by
  unfold bstR
  split
  · exact fd_si h _
  · exact h
theorem si_tone {st : aS} (h : SI st) (s i : Int) : SI (sp_tone st s i).2 := by
  unfold sp_tone
  repeat' split
  all_goals first
    | exact fd_si h _
    | exact si_bst h _
    | exact h
theorem si_side {st : aS} (h : SI st) (s v : Int) : SI (sp_side st s v).2 := by
  unfold sp_side
  repeat' split
  all_goals first
    | exact fd_si h _
    | exact si_bst h _
    | exact h
theorem si_of {st : aS} (h : SI st) (a v : Int) : SI (sp_of st a v).2 := by
  unfold sp_of
  repeat' split
  all_goals first
    | exact fd_si h _
    | exact si_bst h _
    | exact h
theorem si_answer {st : aS} (h : SI st) (a i : Int) : SI (sp_answer st a i).2 := by
  unfold sp_answer
  repeat' split
  all_goals first
    | exact fd_si h _
    | exact si_bst h _
    | exact h
theorem si_as {st : aS} (h : SI st) (a k : Int) : SI (sp_as st a k).2 := by
  unfold sp_as
  repeat' split
  all_goals first
    | exact fd_si h _
    | exact si_bst h _
    | exact h
theorem si_now {st : aS} (h : SI st) (v : Int) : SI (sp_now st v).2 := by
  unfold sp_now
  repeat' split
  all_goals first
    | exact fd_si h _
    | exact si_bst h _
    | exact h
theorem si_on {st : aS} (h : SI st) (s i n : Int) : SI (sp_on st s i n).2 := by
  unfold sp_on
  repeat' split
  all_goals first
    | exact fd_si h _
    | exact si_bst h _
    | exact h
theorem si_tension {st : aS} (h : SI st) (s n : Int) : SI (sp_tension st s n).2 := by
  unfold sp_tension
  repeat' split
  all_goals first
    | exact fd_si h _
    | exact si_bst h _
    | exact h
theorem si_home {st : aS} (h : SI st) (s : Int) : SI (sp_home st s).2 := by
  unfold sp_home
  repeat' split
  all_goals first
    | exact fd_si h _
    | exact si_bst h _
    | exact h
theorem si_alike {st : aS} (h : SI st)  : SI (sp_alike st).2 := by
  unfold sp_alike
  repeat' split
  all_goals first
    | exact fd_si h _
    | exact si_bst h _
    | exact h
theorem si_again {st : aS} (h : SI st) (s : Int) : SI (sp_again st s).2 := by
  unfold sp_again
  repeat' split
  all_goals first
    | exact fd_si h _
    | exact si_bst h _
    | exact h
theorem si_key {st : aS} (h : SI st) (a : Int) : SI (sp_key st a).2 := by
  unfold sp_key
  repeat' split
  all_goals first
    | exact fd_si h _
    | exact si_bst h _
    | exact h
theorem si_kind {st : aS} (h : SI st) (a : Int) : SI (sp_kind st a).2 := by
  unfold sp_kind
  repeat' split
  all_goals first
    | exact fd_si h _
    | exact si_bst h _
    | exact h
theorem si_blot {st : aS} (h : SI st) (a s : Int) : SI (sp_blot st a s).2 := by
  unfold sp_blot
  repeat' split
  all_goals first
    | exact fd_si h _
    | exact si_bst h _
    | exact h
theorem si_calm {st : aS} (h : SI st) (a s n : Int) : SI (sp_calm st a s n).2 := by
  unfold sp_calm
  repeat' split
  all_goals first
    | exact fd_si h _
    | exact si_bst h _
    | exact h
theorem si_keys {st : aS} (h : SI st) (a n : Int) : SI (sp_keys st a n).2 := by
  unfold sp_keys
  repeat' split
  all_goals first
    | exact fd_si h _
    | exact si_bst h _
    | exact h
theorem si_swap {st : aS} (h : SI st)  : SI (sp_swap st).2 := by
  unfold sp_swap
  repeat' split
  all_goals first
    | exact fd_si h _
    | exact si_bst h _
    | exact h
theorem si_count {st : aS} (h : SI st) (v : Int) : SI (sp_count st v).2 := by
  unfold sp_count
  repeat' split
  all_goals first
    | exact fd_si h _
    | exact si_bst h _
    | exact h
theorem si_status {st : aS} (h : SI st) (v : Int) : SI (sp_status st v).2 := by
  unfold sp_status
  repeat' split
  all_goals first
    | exact fd_si h _
    | exact si_bst h _
    | exact h
theorem si_read {st : aS} (h : SI st) (s a : Int) : SI (sp_read st s a).2 := by
  unfold sp_read
  repeat' split
  all_goals first
    | exact fd_si h _
    | exact si_bst h _
    | exact h
theorem si_tune {st : aS} (h : SI st) (s n : Int) (x : Int64) : SI (sp_tune st s n x).2 := by
  unfold sp_tune
  split
  · rename_i q
    exact si_row h (setT_inv h.1 q.1 q.2 (fun i _ _ => nib_bd x i)) (by rw [setT_o (by omega) (by omega)]; exact h.2.1)
  · exact fd_si h _
theorem si_attache {st : aS} (h : SI st) (k s : Int) : SI (sp_attache st k s).2 := by
  have hn := h.1.2.1
  unfold sp_attache
  split
  · rename_i q
    split
    · exact fd_si h _
    · exact si_row h (eng_inv h.1 (by omega) (by omega) q.2 (by omega) (by omega)) (by rw [eng_o (by omega) (by omega)]; exact h.2.1)
  · exact fd_si h _
theorem si_set {st : aS} (h : SI st) (a v x : Int) : SI (sp_set st a v x).2 := by
  have hn := h.1.2.1
  unfold sp_set
  split
  · rename_i q
    have hc := mostS_c q.2
    have hb := mostS_bd v
    have hq := q.2
    unfold mostS at hq
    refine si_row h (upF_inv h.1 (by omega) (by omega) (by omega) (by omega) (fun e => ?_) (fun e => ?_) (fun e => ?_)) (by rw [upF_o (by omega)]; exact h.2.1)
    · rw [if_pos e] at hq; omega
    · rw [if_neg (by omega), if_pos e] at hq; omega
    · rw [if_neg (by omega), if_neg (by omega), if_pos e] at hq; omega
  · exact fd_si h _
theorem si_turn {st : aS} (h : SI st) (a k : Int) : SI (sp_turn st a k).2 := by
  have hn := h.1.2.1
  unfold sp_turn
  split
  · rename_i q
    exact si_row h (upF_inv h.1 (by omega) (by omega) (by omega) (by omega) (by omega) (by omega) (by omega)) (by rw [upF_o (by omega)]; exact h.2.1)
  · exact fd_si h _
theorem si_days {st : aS} (h : SI st) (n : Int) : SI (sp_days st n).2 := by
  unfold sp_days
  split
  · split
    · exact fd_si h _
    · exact si_row h (days_inv h.1 _) (by rw [days_day]; omega)
  · exact fd_si h _
theorem si_image {st : aS} (h : SI st) : SI (sp_image st).2 := ⟨h.1, h.2.1, h.1, h.2.1, Or.inr rfl, h.2.2.2.2.2.1, h.2.2.2.2.2.2.1, h.2.2.2.2.2.2.2⟩
theorem si_undo {st : aS} (h : SI st) : SI (sp_undo st).2 := by
  unfold sp_undo
  split
  · exact fd_si h _
  · exact si_row h h.2.2.1 h.2.2.2.1
theorem si_tear {st : aS} (h : SI st) : SI (sp_tear st).2 := ⟨h.1, h.2.1, h.2.2.1, h.2.2.2.1, Or.inl rfl, h.2.2.2.2.2.1, h.2.2.2.2.2.2.1, h.2.2.2.2.2.2.2⟩
theorem si_wipe {st : aS} (h : SI st) : SI (sp_wipe st).2 := clr_si h
theorem si_feed {st : aS} (h : SI st) (x n : Int) : SI (sp_feed st x n).2 := by
  have hL := h.2.2.2.2.2.1
  unfold sp_feed
  split
  · split
    · exact fd_si h _
    · refine ⟨h.1, h.2.1, h.2.2.1, h.2.2.2.1, h.2.2.2.2.1, ⟨by show (0 : Int) ≤ st.1 2 1 + n; omega, by show st.1 2 1 + n ≤ 120; omega⟩, fun i q1 q2 => ?_, h.2.2.2.2.2.2.2⟩
      show 0 ≤ feT (st.1 3) (st.1 2 1) x n i ∧ feT (st.1 3) (st.1 2 1) x n i < 256
      unfold feT
      split
      · exact byt_bd _ _
      · exact h.2.2.2.2.2.2.1 i q1 q2
  · exact fd_si h _
theorem si_num {st : aS} (h : SI st) (N : Int → Int64) : SI (st.1, N) := h
theorem si_write {st : aS} (h : SI st) (s i : Int) (x : Int64) : SI (sp_write st s i x).2 := by
  unfold sp_write
  repeat' split
  all_goals first
    | exact fd_si h _
    | exact h
theorem si_copy {st : aS} (h : SI st) (s a t b n : Int) : SI (sp_copy st s a t b n).2 := by
  unfold sp_copy
  repeat' split
  all_goals first
    | exact fd_si h _
    | exact h
theorem si_book {st : aS} (h : SI st) (s d : Int) : SI (sp_book st s d).2 := by
  unfold sp_book
  repeat' split
  all_goals first
    | exact fd_si h _
    | exact h
theorem si_sheet {st : aS} (h : SI st) (s b n : Int) : SI (sp_sheet st s b n).2 := by
  unfold sp_sheet
  split
  · rename_i q
    split
    · exact fd_si h _
    · split
      · exact fd_si h _
      · refine ⟨h.1, h.2.1, h.2.2.1, h.2.2.2.1, h.2.2.2.2.1, h.2.2.2.2.2.1, h.2.2.2.2.2.2.1, fun s' q1 q2 => ?_⟩
        have g := h.2.2.2.2.2.2.2 s' q1 q2
        show (upF (st.1 5) s b s' = 0 ∨ upF (st.1 5) s b s' = 8 ∨ upF (st.1 5) s b s' = 16 ∨ upF (st.1 5) s b s' = 64) ∧ (0 ≤ upF (st.1 6) s (if b = 0 then 0 else n) s' ∧ upF (st.1 6) s (if b = 0 then 0 else n) s' ≤ 40) ∧ (upF (st.1 5) s b s' = 0 → upF (st.1 6) s (if b = 0 then 0 else n) s' = 0)
        by_cases e : s' = s
        · rw [e, upF_s, upF_s]
          refine ⟨q.2, ?_, fun hb => by rw [if_pos hb]⟩
          split <;> omega
        · rw [upF_o e, upF_o e]
          exact g
  · exact fd_si h _
theorem si_lays {st : aS} (h : SI st) (s d : Int) : SI (sp_lays st s d).2 := by
  have hly := lyN_r (numT st s) (st.1 6 s) 12 0
  unfold sp_lays
  split
  · rename_i q
    have f2 := flt2_0 q
    exact si_row h (setT_inv h.1 f2.2 (by omega) (fun i q1 q2 => by have := hly.2.2 i q1 q2; exact lo12 this.1 this.2)) (by rw [setT_o (by omega) (by omega)]; exact h.2.1)
  · exact fd_si h _
theorem engF_0 {F : Int → Int} {k s y b : Int} (h : 0 ≤ F 1) : engF F k s y b 0 = F 0 := eng_o (by omega) (by omega)
theorem pBlot_0 {t : Int → Int} {L : Int} {F : Int → Int} {k s y e : Int} (h : 0 ≤ F 1) : (pBlot t L F k s y e).2.2 0 = F 0 := by
  unfold pBlot
  repeat' split
  all_goals first
    | rfl
    | exact engF_0 h
theorem pItem_0 {t : Int → Int} {L : Int} {F : Int → Int} {e : Int} (h : 0 ≤ F 1) : (pItem t L F e).2.2 0 = F 0 := by
  unfold pItem pAtt pKey pTune
  repeat' split
  all_goals first
    | rfl
    | exact pBlot_0 h
    | (have v0 := tV_0 t L (tE t L e)
       exact setT_o (by omega) (by omega))
theorem pAff_si (t : Int → Int) (L : Int) : ∀ (n : Nat) (i e : Int) (F : Int → Int), fInv F → (0 ≤ e ∧ e ≤ L) → F 0 ≤ 9999 → fInv (pAff t L n i e F).2 ∧ (pAff t L n i e F).2 0 ≤ 9999
  | 0, i, e, F, hI, _, h0 => ⟨hI, h0⟩
  | n + 1, i, e, F, hI, he, h0 => by
    have hp := pItem_ok (t := t) hI he
    have h1 := pItem_0 (t := t) (L := L) (F := F) (e := e) hI.2.1.1
    have h21 := hp.2.1
    rw [pAff]
    by_cases c : (pItem t L F e).1 = 0
    · rw [if_pos c]; exact ⟨hI, h0⟩
    · rw [if_neg c]
      have hI2 := hp.2.2 c
      split
      · exact ⟨hI2, by show (pItem t L F e).2.2 0 ≤ 9999; omega⟩
      · split
        · exact pAff_si t L n _ _ _ hI2 (tE_ok (by omega)) (by omega)
        · exact ⟨hI, h0⟩
theorem si_affair {st : aS} (h : SI st) : SI (sp_affair st).2 := by
  have g := pAff_si (st.1 3) (st.1 2 1) 120 1 0 (st.1 0) h.1 (by have := h.2.2.2.2.2.1; omega) h.2.1
  unfold sp_affair
  split
  · exact clr_si h
  · exact clr_si (si_row h g.1 g.2)

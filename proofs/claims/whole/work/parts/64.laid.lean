/-! ===== the two objects as they are born, in the small machine's memory ===== -/
theorem va_at_refs {D : va_G} {cl : List vw_C} {q N : Nat} {cA : ClassId} {f f' : Nat → Option Nat} {H : Heap} (h : va_at D cl (q, .inl (cA, N, .inr (.inr (.inr (.inr f))))) H) (hf : ∀ j : Nat, j < N → f j = f' j) : va_at D cl (q, .inl (cA, N, .inr (.inr (.inr (.inr f'))))) H := by
  have h1 : H[q]? = some (vp_cell cA (N, .inr (.inr (.inr (.inr f))))) := h
  show H[q]? = some (vp_cell cA (N, .inr (.inr (.inr (.inr f')))))
  rw [h1, vp_cell_q, vp_cell_q]
  unfold arrV
  congr 2
  apply Array.ext
  · simp
  · intro i h1 h2
    simp only [Array.getElem_ofFn]
    rw [hf i (by simpa using h1)]
theorem va_D.adr {A : Nat → Prop} {ws ws' : va_W} (hD : va_D A ws) (h : ws'.map Prod.fst = ws.map Prod.fst) : va_D A ws' := by
  have key : ∀ (k : Nat) (q : Nat × va_E), ws'[k]? = some q → ∃ q2 : Nat × va_E, ws[k]? = some q2 ∧ q2.1 = q.1 := by
    intro k q hk
    have h1 : (ws'.map Prod.fst)[k]? = some q.1 := by rw [List.getElem?_map, hk]; rfl
    rw [h, List.getElem?_map] at h1
    cases h2 : ws[k]? with
    | none => rw [h2] at h1; cases h1
    | some q2 => rw [h2] at h1; exact ⟨q2, rfl, Option.some.inj h1⟩
  refine ⟨fun i j p q hi hj e => ?_, fun k q hk => ?_⟩
  · obtain ⟨p2, h1, e1⟩ := key i p hi
    obtain ⟨q2, h2, e2⟩ := key j q hj
    exact hD.1 i j p2 q2 h1 h2 (by rw [e1, e2, e])
  · obtain ⟨q2, h2, e2⟩ := key k q hk
    rw [← e2]
    exact hD.2 k q2 h2
def adL (q0 : Nat) (a : Nat → Nat → Nat) (q1 : Nat) (a2 : Nat → Nat) : List Nat := [q0, a 0 1, a 1 1, a 1 2, a 1 3, a 1 4, a 1 5, a 1 6, a 1 7, a 1 8, a 1 9, a 1 10, a 1 11, a 1 12, a 1 13, a 0 2, a 2 1, a 2 2, a 2 3, a 2 4, a 2 5, a 2 6, a 2 7, a 2 8, a 2 9, a 2 10, a 2 11, a 2 12, a 2 13, a 0 3, a 3 1, a 3 2, a 3 3, a 3 4, a 3 5, a 3 6, a 3 7, a 3 8, a 3 9, a 3 10, a 3 11, a 3 12, a 3 13, a 0 4, a 0 5, a 0 6, a 0 7, a 0 8, a 0 9, a 0 10, a 0 11, a 0 12, a 0 13, a 0 14, a 0 15, a 0 16, q1, a2 1, a2 2, a2 3, a2 4, a2 5, a2 6, a2 7, a2 8, a2 9, a2 10, a2 11, a2 12, a2 13, a2 14, a2 15]
def lG (G : mG) (q0 : Nat) (a : Nat → Nat → Nat) (q1 : Nat) (a2 : Nat → Nat) : mG := (fun k => if k < 72 then (adL q0 a q1 a2).getD k 0 else G.1 k, G.2)
theorem lG_o (G : mG) (q0 : Nat) (a : Nat → Nat → Nat) (q1 : Nat) (a2 : Nat → Nat) {k : Nat} (h : 72 ≤ k) : (lG G q0 a q1 a2).1 k = G.1 k := if_neg (by omega)
abbrev bornW (G : mG) (q0 : Nat) (a : Nat → Nat → Nat) (q1 : Nat) (a2 : Nat → Nat) : va_W := (([] : va_W) ++ shX G q0 a) ++ shM G q1 a2
set_option maxHeartbeats 4000000 in
set_option maxRecDepth 100000 in
theorem born_map (G : mG) (q0 : Nat) (a : Nat → Nat → Nat) (q1 : Nat) (a2 : Nat → Nat) : (mWs (lG G q0 a q1 a2) μ0).map Prod.fst = (bornW G q0 a q1 a2).map Prod.fst := rfl
set_option maxHeartbeats 4000000 in
set_option maxRecDepth 100000 in
theorem born_0 {G : mG} {q0 : Nat} {a : Nat → Nat → Nat} {q1 : Nat} {a2 : Nat → Nat} {H : Heap} (hP : va_P G.2.1 vwCl (bornW G q0 a q1 a2) H) : va_at G.2.1 vwCl ((lG G q0 a q1 a2).1 0, mE (lG G q0 a q1 a2) μ0 0) H := by
  rw [mE_obj (ci := 6) rfl (by decide)]
  exact hP 0 _ rfl
set_option maxHeartbeats 4000000 in
set_option maxRecDepth 100000 in
theorem born_1 {G : mG} {q0 : Nat} {a : Nat → Nat → Nat} {q1 : Nat} {a2 : Nat → Nat} {H : Heap} (hP : va_P G.2.1 vwCl (bornW G q0 a q1 a2) H) : va_at G.2.1 vwCl ((lG G q0 a q1 a2).1 1, mE (lG G q0 a q1 a2) μ0 1) H := by
  rw [mE_obj (ci := 1) rfl (by decide)]
  exact hP 1 _ rfl
set_option maxHeartbeats 4000000 in
set_option maxRecDepth 100000 in
theorem born_2 {G : mG} {q0 : Nat} {a : Nat → Nat → Nat} {q1 : Nat} {a2 : Nat → Nat} {H : Heap} (hP : va_P G.2.1 vwCl (bornW G q0 a q1 a2) H) : va_at G.2.1 vwCl ((lG G q0 a q1 a2).1 2, mE (lG G q0 a q1 a2) μ0 2) H := by
  rw [mE_obj (ci := 5) rfl (by decide)]
  exact hP 2 _ rfl
set_option maxHeartbeats 4000000 in
set_option maxRecDepth 100000 in
theorem born_3 {G : mG} {q0 : Nat} {a : Nat → Nat → Nat} {q1 : Nat} {a2 : Nat → Nat} {H : Heap} (hP : va_P G.2.1 vwCl (bornW G q0 a q1 a2) H) : va_at G.2.1 vwCl ((lG G q0 a q1 a2).1 3, mE (lG G q0 a q1 a2) μ0 3) H := by
  rw [mE_int rfl]
  exact hP 3 _ rfl
set_option maxHeartbeats 4000000 in
set_option maxRecDepth 100000 in
theorem born_4 {G : mG} {q0 : Nat} {a : Nat → Nat → Nat} {q1 : Nat} {a2 : Nat → Nat} {H : Heap} (hP : va_P G.2.1 vwCl (bornW G q0 a q1 a2) H) : va_at G.2.1 vwCl ((lG G q0 a q1 a2).1 4, mE (lG G q0 a q1 a2) μ0 4) H := by
  rw [mE_obj (ci := 5) rfl (by decide)]
  exact hP 4 _ rfl
set_option maxHeartbeats 4000000 in
set_option maxRecDepth 100000 in
theorem born_5 {G : mG} {q0 : Nat} {a : Nat → Nat → Nat} {q1 : Nat} {a2 : Nat → Nat} {H : Heap} (hP : va_P G.2.1 vwCl (bornW G q0 a q1 a2) H) : va_at G.2.1 vwCl ((lG G q0 a q1 a2).1 5, mE (lG G q0 a q1 a2) μ0 5) H := by
  rw [mE_int rfl]
  exact hP 5 _ rfl
set_option maxHeartbeats 4000000 in
set_option maxRecDepth 100000 in
theorem born_6 {G : mG} {q0 : Nat} {a : Nat → Nat → Nat} {q1 : Nat} {a2 : Nat → Nat} {H : Heap} (hP : va_P G.2.1 vwCl (bornW G q0 a q1 a2) H) : va_at G.2.1 vwCl ((lG G q0 a q1 a2).1 6, mE (lG G q0 a q1 a2) μ0 6) H := by
  rw [mE_ref (ci := 10) rfl (by decide)]
  exact va_at_refs (hP 6 _ rfl) (fun j hj => by
    have hj : j < 8 := hj
    rcases (show j = 0 ∨ j = 1 ∨ j = 2 ∨ j = 3 ∨ j = 4 ∨ j = 5 ∨ j = 6 ∨ j = 7 by omega) with rfl | rfl | rfl | rfl | rfl | rfl | rfl | rfl <;> rfl)
set_option maxHeartbeats 4000000 in
set_option maxRecDepth 100000 in
theorem born_7 {G : mG} {q0 : Nat} {a : Nat → Nat → Nat} {q1 : Nat} {a2 : Nat → Nat} {H : Heap} (hP : va_P G.2.1 vwCl (bornW G q0 a q1 a2) H) : va_at G.2.1 vwCl ((lG G q0 a q1 a2).1 7, mE (lG G q0 a q1 a2) μ0 7) H := by
  rw [mE_obj (ci := 0) rfl (by decide)]
  exact hP 7 _ rfl
set_option maxHeartbeats 4000000 in
set_option maxRecDepth 100000 in
theorem born_8 {G : mG} {q0 : Nat} {a : Nat → Nat → Nat} {q1 : Nat} {a2 : Nat → Nat} {H : Heap} (hP : va_P G.2.1 vwCl (bornW G q0 a q1 a2) H) : va_at G.2.1 vwCl ((lG G q0 a q1 a2).1 8, mE (lG G q0 a q1 a2) μ0 8) H := by
  rw [mE_obj (ci := 0) rfl (by decide)]
  exact hP 8 _ rfl
set_option maxHeartbeats 4000000 in
set_option maxRecDepth 100000 in
theorem born_9 {G : mG} {q0 : Nat} {a : Nat → Nat → Nat} {q1 : Nat} {a2 : Nat → Nat} {H : Heap} (hP : va_P G.2.1 vwCl (bornW G q0 a q1 a2) H) : va_at G.2.1 vwCl ((lG G q0 a q1 a2).1 9, mE (lG G q0 a q1 a2) μ0 9) H := by
  rw [mE_obj (ci := 0) rfl (by decide)]
  exact hP 9 _ rfl
set_option maxHeartbeats 4000000 in
set_option maxRecDepth 100000 in
theorem born_10 {G : mG} {q0 : Nat} {a : Nat → Nat → Nat} {q1 : Nat} {a2 : Nat → Nat} {H : Heap} (hP : va_P G.2.1 vwCl (bornW G q0 a q1 a2) H) : va_at G.2.1 vwCl ((lG G q0 a q1 a2).1 10, mE (lG G q0 a q1 a2) μ0 10) H := by
  rw [mE_obj (ci := 0) rfl (by decide)]
  exact hP 10 _ rfl
set_option maxHeartbeats 4000000 in
set_option maxRecDepth 100000 in
theorem born_11 {G : mG} {q0 : Nat} {a : Nat → Nat → Nat} {q1 : Nat} {a2 : Nat → Nat} {H : Heap} (hP : va_P G.2.1 vwCl (bornW G q0 a q1 a2) H) : va_at G.2.1 vwCl ((lG G q0 a q1 a2).1 11, mE (lG G q0 a q1 a2) μ0 11) H := by
  rw [mE_obj (ci := 0) rfl (by decide)]
  exact hP 11 _ rfl
set_option maxHeartbeats 4000000 in
set_option maxRecDepth 100000 in
theorem born_12 {G : mG} {q0 : Nat} {a : Nat → Nat → Nat} {q1 : Nat} {a2 : Nat → Nat} {H : Heap} (hP : va_P G.2.1 vwCl (bornW G q0 a q1 a2) H) : va_at G.2.1 vwCl ((lG G q0 a q1 a2).1 12, mE (lG G q0 a q1 a2) μ0 12) H := by
  rw [mE_obj (ci := 0) rfl (by decide)]
  exact hP 12 _ rfl
set_option maxHeartbeats 4000000 in
set_option maxRecDepth 100000 in
theorem born_13 {G : mG} {q0 : Nat} {a : Nat → Nat → Nat} {q1 : Nat} {a2 : Nat → Nat} {H : Heap} (hP : va_P G.2.1 vwCl (bornW G q0 a q1 a2) H) : va_at G.2.1 vwCl ((lG G q0 a q1 a2).1 13, mE (lG G q0 a q1 a2) μ0 13) H := by
  rw [mE_obj (ci := 0) rfl (by decide)]
  exact hP 13 _ rfl
set_option maxHeartbeats 4000000 in
set_option maxRecDepth 100000 in
theorem born_14 {G : mG} {q0 : Nat} {a : Nat → Nat → Nat} {q1 : Nat} {a2 : Nat → Nat} {H : Heap} (hP : va_P G.2.1 vwCl (bornW G q0 a q1 a2) H) : va_at G.2.1 vwCl ((lG G q0 a q1 a2).1 14, mE (lG G q0 a q1 a2) μ0 14) H := by
  rw [mE_obj (ci := 0) rfl (by decide)]
  exact hP 14 _ rfl
set_option maxHeartbeats 4000000 in
set_option maxRecDepth 100000 in
theorem born_15 {G : mG} {q0 : Nat} {a : Nat → Nat → Nat} {q1 : Nat} {a2 : Nat → Nat} {H : Heap} (hP : va_P G.2.1 vwCl (bornW G q0 a q1 a2) H) : va_at G.2.1 vwCl ((lG G q0 a q1 a2).1 15, mE (lG G q0 a q1 a2) μ0 15) H := by
  rw [mE_obj (ci := 1) rfl (by decide)]
  exact hP 15 _ rfl
set_option maxHeartbeats 4000000 in
set_option maxRecDepth 100000 in
theorem born_16 {G : mG} {q0 : Nat} {a : Nat → Nat → Nat} {q1 : Nat} {a2 : Nat → Nat} {H : Heap} (hP : va_P G.2.1 vwCl (bornW G q0 a q1 a2) H) : va_at G.2.1 vwCl ((lG G q0 a q1 a2).1 16, mE (lG G q0 a q1 a2) μ0 16) H := by
  rw [mE_obj (ci := 5) rfl (by decide)]
  exact hP 16 _ rfl
set_option maxHeartbeats 4000000 in
set_option maxRecDepth 100000 in
theorem born_17 {G : mG} {q0 : Nat} {a : Nat → Nat → Nat} {q1 : Nat} {a2 : Nat → Nat} {H : Heap} (hP : va_P G.2.1 vwCl (bornW G q0 a q1 a2) H) : va_at G.2.1 vwCl ((lG G q0 a q1 a2).1 17, mE (lG G q0 a q1 a2) μ0 17) H := by
  rw [mE_int rfl]
  exact hP 17 _ rfl
set_option maxHeartbeats 4000000 in
set_option maxRecDepth 100000 in
theorem born_18 {G : mG} {q0 : Nat} {a : Nat → Nat → Nat} {q1 : Nat} {a2 : Nat → Nat} {H : Heap} (hP : va_P G.2.1 vwCl (bornW G q0 a q1 a2) H) : va_at G.2.1 vwCl ((lG G q0 a q1 a2).1 18, mE (lG G q0 a q1 a2) μ0 18) H := by
  rw [mE_obj (ci := 5) rfl (by decide)]
  exact hP 18 _ rfl
set_option maxHeartbeats 4000000 in
set_option maxRecDepth 100000 in
theorem born_19 {G : mG} {q0 : Nat} {a : Nat → Nat → Nat} {q1 : Nat} {a2 : Nat → Nat} {H : Heap} (hP : va_P G.2.1 vwCl (bornW G q0 a q1 a2) H) : va_at G.2.1 vwCl ((lG G q0 a q1 a2).1 19, mE (lG G q0 a q1 a2) μ0 19) H := by
  rw [mE_int rfl]
  exact hP 19 _ rfl
set_option maxHeartbeats 4000000 in
set_option maxRecDepth 100000 in
theorem born_20 {G : mG} {q0 : Nat} {a : Nat → Nat → Nat} {q1 : Nat} {a2 : Nat → Nat} {H : Heap} (hP : va_P G.2.1 vwCl (bornW G q0 a q1 a2) H) : va_at G.2.1 vwCl ((lG G q0 a q1 a2).1 20, mE (lG G q0 a q1 a2) μ0 20) H := by
  rw [mE_ref (ci := 10) rfl (by decide)]
  exact va_at_refs (hP 20 _ rfl) (fun j hj => by
    have hj : j < 8 := hj
    rcases (show j = 0 ∨ j = 1 ∨ j = 2 ∨ j = 3 ∨ j = 4 ∨ j = 5 ∨ j = 6 ∨ j = 7 by omega) with rfl | rfl | rfl | rfl | rfl | rfl | rfl | rfl <;> rfl)
set_option maxHeartbeats 4000000 in
set_option maxRecDepth 100000 in
theorem born_21 {G : mG} {q0 : Nat} {a : Nat → Nat → Nat} {q1 : Nat} {a2 : Nat → Nat} {H : Heap} (hP : va_P G.2.1 vwCl (bornW G q0 a q1 a2) H) : va_at G.2.1 vwCl ((lG G q0 a q1 a2).1 21, mE (lG G q0 a q1 a2) μ0 21) H := by
  rw [mE_obj (ci := 0) rfl (by decide)]
  exact hP 21 _ rfl
set_option maxHeartbeats 4000000 in
set_option maxRecDepth 100000 in
theorem born_22 {G : mG} {q0 : Nat} {a : Nat → Nat → Nat} {q1 : Nat} {a2 : Nat → Nat} {H : Heap} (hP : va_P G.2.1 vwCl (bornW G q0 a q1 a2) H) : va_at G.2.1 vwCl ((lG G q0 a q1 a2).1 22, mE (lG G q0 a q1 a2) μ0 22) H := by
  rw [mE_obj (ci := 0) rfl (by decide)]
  exact hP 22 _ rfl
set_option maxHeartbeats 4000000 in
set_option maxRecDepth 100000 in
theorem born_23 {G : mG} {q0 : Nat} {a : Nat → Nat → Nat} {q1 : Nat} {a2 : Nat → Nat} {H : Heap} (hP : va_P G.2.1 vwCl (bornW G q0 a q1 a2) H) : va_at G.2.1 vwCl ((lG G q0 a q1 a2).1 23, mE (lG G q0 a q1 a2) μ0 23) H := by
  rw [mE_obj (ci := 0) rfl (by decide)]
  exact hP 23 _ rfl
set_option maxHeartbeats 4000000 in
set_option maxRecDepth 100000 in
theorem born_24 {G : mG} {q0 : Nat} {a : Nat → Nat → Nat} {q1 : Nat} {a2 : Nat → Nat} {H : Heap} (hP : va_P G.2.1 vwCl (bornW G q0 a q1 a2) H) : va_at G.2.1 vwCl ((lG G q0 a q1 a2).1 24, mE (lG G q0 a q1 a2) μ0 24) H := by
  rw [mE_obj (ci := 0) rfl (by decide)]
  exact hP 24 _ rfl
set_option maxHeartbeats 4000000 in
set_option maxRecDepth 100000 in
theorem born_25 {G : mG} {q0 : Nat} {a : Nat → Nat → Nat} {q1 : Nat} {a2 : Nat → Nat} {H : Heap} (hP : va_P G.2.1 vwCl (bornW G q0 a q1 a2) H) : va_at G.2.1 vwCl ((lG G q0 a q1 a2).1 25, mE (lG G q0 a q1 a2) μ0 25) H := by
  rw [mE_obj (ci := 0) rfl (by decide)]
  exact hP 25 _ rfl
set_option maxHeartbeats 4000000 in
set_option maxRecDepth 100000 in
theorem born_26 {G : mG} {q0 : Nat} {a : Nat → Nat → Nat} {q1 : Nat} {a2 : Nat → Nat} {H : Heap} (hP : va_P G.2.1 vwCl (bornW G q0 a q1 a2) H) : va_at G.2.1 vwCl ((lG G q0 a q1 a2).1 26, mE (lG G q0 a q1 a2) μ0 26) H := by
  rw [mE_obj (ci := 0) rfl (by decide)]
  exact hP 26 _ rfl
set_option maxHeartbeats 4000000 in
set_option maxRecDepth 100000 in
theorem born_27 {G : mG} {q0 : Nat} {a : Nat → Nat → Nat} {q1 : Nat} {a2 : Nat → Nat} {H : Heap} (hP : va_P G.2.1 vwCl (bornW G q0 a q1 a2) H) : va_at G.2.1 vwCl ((lG G q0 a q1 a2).1 27, mE (lG G q0 a q1 a2) μ0 27) H := by
  rw [mE_obj (ci := 0) rfl (by decide)]
  exact hP 27 _ rfl
set_option maxHeartbeats 4000000 in
set_option maxRecDepth 100000 in
theorem born_28 {G : mG} {q0 : Nat} {a : Nat → Nat → Nat} {q1 : Nat} {a2 : Nat → Nat} {H : Heap} (hP : va_P G.2.1 vwCl (bornW G q0 a q1 a2) H) : va_at G.2.1 vwCl ((lG G q0 a q1 a2).1 28, mE (lG G q0 a q1 a2) μ0 28) H := by
  rw [mE_obj (ci := 0) rfl (by decide)]
  exact hP 28 _ rfl
set_option maxHeartbeats 4000000 in
set_option maxRecDepth 100000 in
theorem born_29 {G : mG} {q0 : Nat} {a : Nat → Nat → Nat} {q1 : Nat} {a2 : Nat → Nat} {H : Heap} (hP : va_P G.2.1 vwCl (bornW G q0 a q1 a2) H) : va_at G.2.1 vwCl ((lG G q0 a q1 a2).1 29, mE (lG G q0 a q1 a2) μ0 29) H := by
  rw [mE_obj (ci := 1) rfl (by decide)]
  exact hP 29 _ rfl
set_option maxHeartbeats 4000000 in
set_option maxRecDepth 100000 in
theorem born_30 {G : mG} {q0 : Nat} {a : Nat → Nat → Nat} {q1 : Nat} {a2 : Nat → Nat} {H : Heap} (hP : va_P G.2.1 vwCl (bornW G q0 a q1 a2) H) : va_at G.2.1 vwCl ((lG G q0 a q1 a2).1 30, mE (lG G q0 a q1 a2) μ0 30) H := by
  rw [mE_obj (ci := 5) rfl (by decide)]
  exact hP 30 _ rfl
set_option maxHeartbeats 4000000 in
set_option maxRecDepth 100000 in
theorem born_31 {G : mG} {q0 : Nat} {a : Nat → Nat → Nat} {q1 : Nat} {a2 : Nat → Nat} {H : Heap} (hP : va_P G.2.1 vwCl (bornW G q0 a q1 a2) H) : va_at G.2.1 vwCl ((lG G q0 a q1 a2).1 31, mE (lG G q0 a q1 a2) μ0 31) H := by
  rw [mE_int rfl]
  exact hP 31 _ rfl
set_option maxHeartbeats 4000000 in
set_option maxRecDepth 100000 in
theorem born_32 {G : mG} {q0 : Nat} {a : Nat → Nat → Nat} {q1 : Nat} {a2 : Nat → Nat} {H : Heap} (hP : va_P G.2.1 vwCl (bornW G q0 a q1 a2) H) : va_at G.2.1 vwCl ((lG G q0 a q1 a2).1 32, mE (lG G q0 a q1 a2) μ0 32) H := by
  rw [mE_obj (ci := 5) rfl (by decide)]
  exact hP 32 _ rfl
set_option maxHeartbeats 4000000 in
set_option maxRecDepth 100000 in
theorem born_33 {G : mG} {q0 : Nat} {a : Nat → Nat → Nat} {q1 : Nat} {a2 : Nat → Nat} {H : Heap} (hP : va_P G.2.1 vwCl (bornW G q0 a q1 a2) H) : va_at G.2.1 vwCl ((lG G q0 a q1 a2).1 33, mE (lG G q0 a q1 a2) μ0 33) H := by
  rw [mE_int rfl]
  exact hP 33 _ rfl
set_option maxHeartbeats 4000000 in
set_option maxRecDepth 100000 in
theorem born_34 {G : mG} {q0 : Nat} {a : Nat → Nat → Nat} {q1 : Nat} {a2 : Nat → Nat} {H : Heap} (hP : va_P G.2.1 vwCl (bornW G q0 a q1 a2) H) : va_at G.2.1 vwCl ((lG G q0 a q1 a2).1 34, mE (lG G q0 a q1 a2) μ0 34) H := by
  rw [mE_ref (ci := 10) rfl (by decide)]
  exact va_at_refs (hP 34 _ rfl) (fun j hj => by
    have hj : j < 8 := hj
    rcases (show j = 0 ∨ j = 1 ∨ j = 2 ∨ j = 3 ∨ j = 4 ∨ j = 5 ∨ j = 6 ∨ j = 7 by omega) with rfl | rfl | rfl | rfl | rfl | rfl | rfl | rfl <;> rfl)
set_option maxHeartbeats 4000000 in
set_option maxRecDepth 100000 in
theorem born_35 {G : mG} {q0 : Nat} {a : Nat → Nat → Nat} {q1 : Nat} {a2 : Nat → Nat} {H : Heap} (hP : va_P G.2.1 vwCl (bornW G q0 a q1 a2) H) : va_at G.2.1 vwCl ((lG G q0 a q1 a2).1 35, mE (lG G q0 a q1 a2) μ0 35) H := by
  rw [mE_obj (ci := 0) rfl (by decide)]
  exact hP 35 _ rfl
set_option maxHeartbeats 4000000 in
set_option maxRecDepth 100000 in
theorem born_36 {G : mG} {q0 : Nat} {a : Nat → Nat → Nat} {q1 : Nat} {a2 : Nat → Nat} {H : Heap} (hP : va_P G.2.1 vwCl (bornW G q0 a q1 a2) H) : va_at G.2.1 vwCl ((lG G q0 a q1 a2).1 36, mE (lG G q0 a q1 a2) μ0 36) H := by
  rw [mE_obj (ci := 0) rfl (by decide)]
  exact hP 36 _ rfl
set_option maxHeartbeats 4000000 in
set_option maxRecDepth 100000 in
theorem born_37 {G : mG} {q0 : Nat} {a : Nat → Nat → Nat} {q1 : Nat} {a2 : Nat → Nat} {H : Heap} (hP : va_P G.2.1 vwCl (bornW G q0 a q1 a2) H) : va_at G.2.1 vwCl ((lG G q0 a q1 a2).1 37, mE (lG G q0 a q1 a2) μ0 37) H := by
  rw [mE_obj (ci := 0) rfl (by decide)]
  exact hP 37 _ rfl
set_option maxHeartbeats 4000000 in
set_option maxRecDepth 100000 in
theorem born_38 {G : mG} {q0 : Nat} {a : Nat → Nat → Nat} {q1 : Nat} {a2 : Nat → Nat} {H : Heap} (hP : va_P G.2.1 vwCl (bornW G q0 a q1 a2) H) : va_at G.2.1 vwCl ((lG G q0 a q1 a2).1 38, mE (lG G q0 a q1 a2) μ0 38) H := by
  rw [mE_obj (ci := 0) rfl (by decide)]
  exact hP 38 _ rfl
set_option maxHeartbeats 4000000 in
set_option maxRecDepth 100000 in
theorem born_39 {G : mG} {q0 : Nat} {a : Nat → Nat → Nat} {q1 : Nat} {a2 : Nat → Nat} {H : Heap} (hP : va_P G.2.1 vwCl (bornW G q0 a q1 a2) H) : va_at G.2.1 vwCl ((lG G q0 a q1 a2).1 39, mE (lG G q0 a q1 a2) μ0 39) H := by
  rw [mE_obj (ci := 0) rfl (by decide)]
  exact hP 39 _ rfl
set_option maxHeartbeats 4000000 in
set_option maxRecDepth 100000 in
theorem born_40 {G : mG} {q0 : Nat} {a : Nat → Nat → Nat} {q1 : Nat} {a2 : Nat → Nat} {H : Heap} (hP : va_P G.2.1 vwCl (bornW G q0 a q1 a2) H) : va_at G.2.1 vwCl ((lG G q0 a q1 a2).1 40, mE (lG G q0 a q1 a2) μ0 40) H := by
  rw [mE_obj (ci := 0) rfl (by decide)]
  exact hP 40 _ rfl
set_option maxHeartbeats 4000000 in
set_option maxRecDepth 100000 in
theorem born_41 {G : mG} {q0 : Nat} {a : Nat → Nat → Nat} {q1 : Nat} {a2 : Nat → Nat} {H : Heap} (hP : va_P G.2.1 vwCl (bornW G q0 a q1 a2) H) : va_at G.2.1 vwCl ((lG G q0 a q1 a2).1 41, mE (lG G q0 a q1 a2) μ0 41) H := by
  rw [mE_obj (ci := 0) rfl (by decide)]
  exact hP 41 _ rfl
set_option maxHeartbeats 4000000 in
set_option maxRecDepth 100000 in
theorem born_42 {G : mG} {q0 : Nat} {a : Nat → Nat → Nat} {q1 : Nat} {a2 : Nat → Nat} {H : Heap} (hP : va_P G.2.1 vwCl (bornW G q0 a q1 a2) H) : va_at G.2.1 vwCl ((lG G q0 a q1 a2).1 42, mE (lG G q0 a q1 a2) μ0 42) H := by
  rw [mE_obj (ci := 0) rfl (by decide)]
  exact hP 42 _ rfl
set_option maxHeartbeats 4000000 in
set_option maxRecDepth 100000 in
theorem born_43 {G : mG} {q0 : Nat} {a : Nat → Nat → Nat} {q1 : Nat} {a2 : Nat → Nat} {H : Heap} (hP : va_P G.2.1 vwCl (bornW G q0 a q1 a2) H) : va_at G.2.1 vwCl ((lG G q0 a q1 a2).1 43, mE (lG G q0 a q1 a2) μ0 43) H := by
  rw [mE_obj (ci := 4) rfl (by decide)]
  exact hP 43 _ rfl
set_option maxHeartbeats 4000000 in
set_option maxRecDepth 100000 in
theorem born_44 {G : mG} {q0 : Nat} {a : Nat → Nat → Nat} {q1 : Nat} {a2 : Nat → Nat} {H : Heap} (hP : va_P G.2.1 vwCl (bornW G q0 a q1 a2) H) : va_at G.2.1 vwCl ((lG G q0 a q1 a2).1 44, mE (lG G q0 a q1 a2) μ0 44) H := by
  rw [mE_int rfl]
  exact hP 44 _ rfl
set_option maxHeartbeats 4000000 in
set_option maxRecDepth 100000 in
theorem born_45 {G : mG} {q0 : Nat} {a : Nat → Nat → Nat} {q1 : Nat} {a2 : Nat → Nat} {H : Heap} (hP : va_P G.2.1 vwCl (bornW G q0 a q1 a2) H) : va_at G.2.1 vwCl ((lG G q0 a q1 a2).1 45, mE (lG G q0 a q1 a2) μ0 45) H := by
  rw [mE_obj (ci := 2) rfl (by decide)]
  exact hP 45 _ rfl
set_option maxHeartbeats 4000000 in
set_option maxRecDepth 100000 in
theorem born_46 {G : mG} {q0 : Nat} {a : Nat → Nat → Nat} {q1 : Nat} {a2 : Nat → Nat} {H : Heap} (hP : va_P G.2.1 vwCl (bornW G q0 a q1 a2) H) : va_at G.2.1 vwCl ((lG G q0 a q1 a2).1 46, mE (lG G q0 a q1 a2) μ0 46) H := by
  rw [mE_ref (ci := 11) rfl (by decide)]
  exact va_at_refs (hP 46 _ rfl) (fun j hj => by
    have hj : j < 4 := hj
    rcases (show j = 0 ∨ j = 1 ∨ j = 2 ∨ j = 3 by omega) with rfl | rfl | rfl | rfl <;> rfl)
set_option maxHeartbeats 4000000 in
set_option maxRecDepth 100000 in
theorem born_47 {G : mG} {q0 : Nat} {a : Nat → Nat → Nat} {q1 : Nat} {a2 : Nat → Nat} {H : Heap} (hP : va_P G.2.1 vwCl (bornW G q0 a q1 a2) H) : va_at G.2.1 vwCl ((lG G q0 a q1 a2).1 47, mE (lG G q0 a q1 a2) μ0 47) H := by
  rw [mE_obj (ci := 3) rfl (by decide)]
  exact hP 47 _ rfl
set_option maxHeartbeats 4000000 in
set_option maxRecDepth 100000 in
theorem born_48 {G : mG} {q0 : Nat} {a : Nat → Nat → Nat} {q1 : Nat} {a2 : Nat → Nat} {H : Heap} (hP : va_P G.2.1 vwCl (bornW G q0 a q1 a2) H) : va_at G.2.1 vwCl ((lG G q0 a q1 a2).1 48, mE (lG G q0 a q1 a2) μ0 48) H := by
  rw [mE_lng rfl]
  exact hP 48 _ rfl
set_option maxHeartbeats 4000000 in
set_option maxRecDepth 100000 in
theorem born_49 {G : mG} {q0 : Nat} {a : Nat → Nat → Nat} {q1 : Nat} {a2 : Nat → Nat} {H : Heap} (hP : va_P G.2.1 vwCl (bornW G q0 a q1 a2) H) : va_at G.2.1 vwCl ((lG G q0 a q1 a2).1 49, mE (lG G q0 a q1 a2) μ0 49) H := by
  rw [mE_obj (ci := 3) rfl (by decide)]
  exact hP 49 _ rfl
set_option maxHeartbeats 4000000 in
set_option maxRecDepth 100000 in
theorem born_50 {G : mG} {q0 : Nat} {a : Nat → Nat → Nat} {q1 : Nat} {a2 : Nat → Nat} {H : Heap} (hP : va_P G.2.1 vwCl (bornW G q0 a q1 a2) H) : va_at G.2.1 vwCl ((lG G q0 a q1 a2).1 50, mE (lG G q0 a q1 a2) μ0 50) H := by
  rw [mE_lng rfl]
  exact hP 50 _ rfl
set_option maxHeartbeats 4000000 in
set_option maxRecDepth 100000 in
theorem born_51 {G : mG} {q0 : Nat} {a : Nat → Nat → Nat} {q1 : Nat} {a2 : Nat → Nat} {H : Heap} (hP : va_P G.2.1 vwCl (bornW G q0 a q1 a2) H) : va_at G.2.1 vwCl ((lG G q0 a q1 a2).1 51, mE (lG G q0 a q1 a2) μ0 51) H := by
  rw [mE_obj (ci := 3) rfl (by decide)]
  exact hP 51 _ rfl
set_option maxHeartbeats 4000000 in
set_option maxRecDepth 100000 in
theorem born_52 {G : mG} {q0 : Nat} {a : Nat → Nat → Nat} {q1 : Nat} {a2 : Nat → Nat} {H : Heap} (hP : va_P G.2.1 vwCl (bornW G q0 a q1 a2) H) : va_at G.2.1 vwCl ((lG G q0 a q1 a2).1 52, mE (lG G q0 a q1 a2) μ0 52) H := by
  rw [mE_lng rfl]
  exact hP 52 _ rfl
set_option maxHeartbeats 4000000 in
set_option maxRecDepth 100000 in
theorem born_53 {G : mG} {q0 : Nat} {a : Nat → Nat → Nat} {q1 : Nat} {a2 : Nat → Nat} {H : Heap} (hP : va_P G.2.1 vwCl (bornW G q0 a q1 a2) H) : va_at G.2.1 vwCl ((lG G q0 a q1 a2).1 53, mE (lG G q0 a q1 a2) μ0 53) H := by
  rw [mE_obj (ci := 3) rfl (by decide)]
  exact hP 53 _ rfl
set_option maxHeartbeats 4000000 in
set_option maxRecDepth 100000 in
theorem born_54 {G : mG} {q0 : Nat} {a : Nat → Nat → Nat} {q1 : Nat} {a2 : Nat → Nat} {H : Heap} (hP : va_P G.2.1 vwCl (bornW G q0 a q1 a2) H) : va_at G.2.1 vwCl ((lG G q0 a q1 a2).1 54, mE (lG G q0 a q1 a2) μ0 54) H := by
  rw [mE_lng rfl]
  exact hP 54 _ rfl
set_option maxHeartbeats 4000000 in
set_option maxRecDepth 100000 in
theorem born_55 {G : mG} {q0 : Nat} {a : Nat → Nat → Nat} {q1 : Nat} {a2 : Nat → Nat} {H : Heap} (hP : va_P G.2.1 vwCl (bornW G q0 a q1 a2) H) : va_at G.2.1 vwCl ((lG G q0 a q1 a2).1 55, mE (lG G q0 a q1 a2) μ0 55) H := by
  rw [mE_int rfl]
  exact hP 55 _ rfl
set_option maxHeartbeats 4000000 in
set_option maxRecDepth 100000 in
theorem born_56 {G : mG} {q0 : Nat} {a : Nat → Nat → Nat} {q1 : Nat} {a2 : Nat → Nat} {H : Heap} (hP : va_P G.2.1 vwCl (bornW G q0 a q1 a2) H) : va_at G.2.1 vwCl ((lG G q0 a q1 a2).1 56, mE (lG G q0 a q1 a2) μ0 56) H := by
  rw [mE_obj (ci := 7) rfl (by decide)]
  exact hP 56 _ rfl
set_option maxHeartbeats 4000000 in
set_option maxRecDepth 100000 in
theorem born_57 {G : mG} {q0 : Nat} {a : Nat → Nat → Nat} {q1 : Nat} {a2 : Nat → Nat} {H : Heap} (hP : va_P G.2.1 vwCl (bornW G q0 a q1 a2) H) : va_at G.2.1 vwCl ((lG G q0 a q1 a2).1 57, mE (lG G q0 a q1 a2) μ0 57) H := by
  rw [mE_int rfl]
  exact hP 57 _ rfl
set_option maxHeartbeats 4000000 in
set_option maxRecDepth 100000 in
theorem born_58 {G : mG} {q0 : Nat} {a : Nat → Nat → Nat} {q1 : Nat} {a2 : Nat → Nat} {H : Heap} (hP : va_P G.2.1 vwCl (bornW G q0 a q1 a2) H) : va_at G.2.1 vwCl ((lG G q0 a q1 a2).1 58, mE (lG G q0 a q1 a2) μ0 58) H := by
  rw [mE_int rfl]
  exact hP 58 _ rfl
set_option maxHeartbeats 4000000 in
set_option maxRecDepth 100000 in
theorem born_59 {G : mG} {q0 : Nat} {a : Nat → Nat → Nat} {q1 : Nat} {a2 : Nat → Nat} {H : Heap} (hP : va_P G.2.1 vwCl (bornW G q0 a q1 a2) H) : va_at G.2.1 vwCl ((lG G q0 a q1 a2).1 59, mE (lG G q0 a q1 a2) μ0 59) H := by
  rw [mE_int rfl]
  exact hP 59 _ rfl
set_option maxHeartbeats 4000000 in
set_option maxRecDepth 100000 in
theorem born_60 {G : mG} {q0 : Nat} {a : Nat → Nat → Nat} {q1 : Nat} {a2 : Nat → Nat} {H : Heap} (hP : va_P G.2.1 vwCl (bornW G q0 a q1 a2) H) : va_at G.2.1 vwCl ((lG G q0 a q1 a2).1 60, mE (lG G q0 a q1 a2) μ0 60) H := by
  rw [mE_int rfl]
  exact hP 60 _ rfl
set_option maxHeartbeats 4000000 in
set_option maxRecDepth 100000 in
theorem born_61 {G : mG} {q0 : Nat} {a : Nat → Nat → Nat} {q1 : Nat} {a2 : Nat → Nat} {H : Heap} (hP : va_P G.2.1 vwCl (bornW G q0 a q1 a2) H) : va_at G.2.1 vwCl ((lG G q0 a q1 a2).1 61, mE (lG G q0 a q1 a2) μ0 61) H := by
  rw [mE_int rfl]
  exact hP 61 _ rfl
set_option maxHeartbeats 4000000 in
set_option maxRecDepth 100000 in
theorem born_62 {G : mG} {q0 : Nat} {a : Nat → Nat → Nat} {q1 : Nat} {a2 : Nat → Nat} {H : Heap} (hP : va_P G.2.1 vwCl (bornW G q0 a q1 a2) H) : va_at G.2.1 vwCl ((lG G q0 a q1 a2).1 62, mE (lG G q0 a q1 a2) μ0 62) H := by
  rw [mE_int rfl]
  exact hP 62 _ rfl
set_option maxHeartbeats 4000000 in
set_option maxRecDepth 100000 in
theorem born_63 {G : mG} {q0 : Nat} {a : Nat → Nat → Nat} {q1 : Nat} {a2 : Nat → Nat} {H : Heap} (hP : va_P G.2.1 vwCl (bornW G q0 a q1 a2) H) : va_at G.2.1 vwCl ((lG G q0 a q1 a2).1 63, mE (lG G q0 a q1 a2) μ0 63) H := by
  rw [mE_ref (ci := 12) rfl (by decide)]
  exact va_at_refs (hP 63 _ rfl) (fun j hj => by
    have hj : j < 6 := hj
    rcases (show j = 0 ∨ j = 1 ∨ j = 2 ∨ j = 3 ∨ j = 4 ∨ j = 5 by omega) with rfl | rfl | rfl | rfl | rfl | rfl <;> rfl)
set_option maxHeartbeats 4000000 in
set_option maxRecDepth 100000 in
theorem born_64 {G : mG} {q0 : Nat} {a : Nat → Nat → Nat} {q1 : Nat} {a2 : Nat → Nat} {H : Heap} (hP : va_P G.2.1 vwCl (bornW G q0 a q1 a2) H) : va_at G.2.1 vwCl ((lG G q0 a q1 a2).1 64, mE (lG G q0 a q1 a2) μ0 64) H := by
  rw [mE_int rfl]
  exact hP 64 _ rfl
set_option maxHeartbeats 4000000 in
set_option maxRecDepth 100000 in
theorem born_65 {G : mG} {q0 : Nat} {a : Nat → Nat → Nat} {q1 : Nat} {a2 : Nat → Nat} {H : Heap} (hP : va_P G.2.1 vwCl (bornW G q0 a q1 a2) H) : va_at G.2.1 vwCl ((lG G q0 a q1 a2).1 65, mE (lG G q0 a q1 a2) μ0 65) H := by
  rw [mE_int rfl]
  exact hP 65 _ rfl
set_option maxHeartbeats 4000000 in
set_option maxRecDepth 100000 in
theorem born_66 {G : mG} {q0 : Nat} {a : Nat → Nat → Nat} {q1 : Nat} {a2 : Nat → Nat} {H : Heap} (hP : va_P G.2.1 vwCl (bornW G q0 a q1 a2) H) : va_at G.2.1 vwCl ((lG G q0 a q1 a2).1 66, mE (lG G q0 a q1 a2) μ0 66) H := by
  rw [mE_int rfl]
  exact hP 66 _ rfl
set_option maxHeartbeats 4000000 in
set_option maxRecDepth 100000 in
theorem born_67 {G : mG} {q0 : Nat} {a : Nat → Nat → Nat} {q1 : Nat} {a2 : Nat → Nat} {H : Heap} (hP : va_P G.2.1 vwCl (bornW G q0 a q1 a2) H) : va_at G.2.1 vwCl ((lG G q0 a q1 a2).1 67, mE (lG G q0 a q1 a2) μ0 67) H := by
  rw [mE_lng rfl]
  exact hP 67 _ rfl
set_option maxHeartbeats 4000000 in
set_option maxRecDepth 100000 in
theorem born_68 {G : mG} {q0 : Nat} {a : Nat → Nat → Nat} {q1 : Nat} {a2 : Nat → Nat} {H : Heap} (hP : va_P G.2.1 vwCl (bornW G q0 a q1 a2) H) : va_at G.2.1 vwCl ((lG G q0 a q1 a2).1 68, mE (lG G q0 a q1 a2) μ0 68) H := by
  rw [mE_int rfl]
  exact hP 68 _ rfl
set_option maxHeartbeats 4000000 in
set_option maxRecDepth 100000 in
theorem born_69 {G : mG} {q0 : Nat} {a : Nat → Nat → Nat} {q1 : Nat} {a2 : Nat → Nat} {H : Heap} (hP : va_P G.2.1 vwCl (bornW G q0 a q1 a2) H) : va_at G.2.1 vwCl ((lG G q0 a q1 a2).1 69, mE (lG G q0 a q1 a2) μ0 69) H := by
  rw [mE_int rfl]
  exact hP 69 _ rfl
set_option maxHeartbeats 4000000 in
set_option maxRecDepth 100000 in
theorem born_70 {G : mG} {q0 : Nat} {a : Nat → Nat → Nat} {q1 : Nat} {a2 : Nat → Nat} {H : Heap} (hP : va_P G.2.1 vwCl (bornW G q0 a q1 a2) H) : va_at G.2.1 vwCl ((lG G q0 a q1 a2).1 70, mE (lG G q0 a q1 a2) μ0 70) H := by
  rw [mE_lng rfl]
  exact hP 70 _ rfl
set_option maxHeartbeats 4000000 in
set_option maxRecDepth 100000 in
theorem born_71 {G : mG} {q0 : Nat} {a : Nat → Nat → Nat} {q1 : Nat} {a2 : Nat → Nat} {H : Heap} (hP : va_P G.2.1 vwCl (bornW G q0 a q1 a2) H) : va_at G.2.1 vwCl ((lG G q0 a q1 a2).1 71, mE (lG G q0 a q1 a2) μ0 71) H := by
  rw [mE_lng rfl]
  exact hP 71 _ rfl
theorem born_P {G : mG} {q0 : Nat} {a : Nat → Nat → Nat} {q1 : Nat} {a2 : Nat → Nat} {H : Heap} (hP : va_P G.2.1 vwCl (bornW G q0 a q1 a2) H) : mH (lG G q0 a q1 a2) μ0 H := by
  intro k q hk
  obtain ⟨h72, rfl⟩ := mWs_get' hk
  match k, h72 with
  | 0, _ => exact born_0 (G := G) hP
  | 1, _ => exact born_1 (G := G) hP
  | 2, _ => exact born_2 (G := G) hP
  | 3, _ => exact born_3 (G := G) hP
  | 4, _ => exact born_4 (G := G) hP
  | 5, _ => exact born_5 (G := G) hP
  | 6, _ => exact born_6 (G := G) hP
  | 7, _ => exact born_7 (G := G) hP
  | 8, _ => exact born_8 (G := G) hP
  | 9, _ => exact born_9 (G := G) hP
  | 10, _ => exact born_10 (G := G) hP
  | 11, _ => exact born_11 (G := G) hP
  | 12, _ => exact born_12 (G := G) hP
  | 13, _ => exact born_13 (G := G) hP
  | 14, _ => exact born_14 (G := G) hP
  | 15, _ => exact born_15 (G := G) hP
  | 16, _ => exact born_16 (G := G) hP
  | 17, _ => exact born_17 (G := G) hP
  | 18, _ => exact born_18 (G := G) hP
  | 19, _ => exact born_19 (G := G) hP
  | 20, _ => exact born_20 (G := G) hP
  | 21, _ => exact born_21 (G := G) hP
  | 22, _ => exact born_22 (G := G) hP
  | 23, _ => exact born_23 (G := G) hP
  | 24, _ => exact born_24 (G := G) hP
  | 25, _ => exact born_25 (G := G) hP
  | 26, _ => exact born_26 (G := G) hP
  | 27, _ => exact born_27 (G := G) hP
  | 28, _ => exact born_28 (G := G) hP
  | 29, _ => exact born_29 (G := G) hP
  | 30, _ => exact born_30 (G := G) hP
  | 31, _ => exact born_31 (G := G) hP
  | 32, _ => exact born_32 (G := G) hP
  | 33, _ => exact born_33 (G := G) hP
  | 34, _ => exact born_34 (G := G) hP
  | 35, _ => exact born_35 (G := G) hP
  | 36, _ => exact born_36 (G := G) hP
  | 37, _ => exact born_37 (G := G) hP
  | 38, _ => exact born_38 (G := G) hP
  | 39, _ => exact born_39 (G := G) hP
  | 40, _ => exact born_40 (G := G) hP
  | 41, _ => exact born_41 (G := G) hP
  | 42, _ => exact born_42 (G := G) hP
  | 43, _ => exact born_43 (G := G) hP
  | 44, _ => exact born_44 (G := G) hP
  | 45, _ => exact born_45 (G := G) hP
  | 46, _ => exact born_46 (G := G) hP
  | 47, _ => exact born_47 (G := G) hP
  | 48, _ => exact born_48 (G := G) hP
  | 49, _ => exact born_49 (G := G) hP
  | 50, _ => exact born_50 (G := G) hP
  | 51, _ => exact born_51 (G := G) hP
  | 52, _ => exact born_52 (G := G) hP
  | 53, _ => exact born_53 (G := G) hP
  | 54, _ => exact born_54 (G := G) hP
  | 55, _ => exact born_55 (G := G) hP
  | 56, _ => exact born_56 (G := G) hP
  | 57, _ => exact born_57 (G := G) hP
  | 58, _ => exact born_58 (G := G) hP
  | 59, _ => exact born_59 (G := G) hP
  | 60, _ => exact born_60 (G := G) hP
  | 61, _ => exact born_61 (G := G) hP
  | 62, _ => exact born_62 (G := G) hP
  | 63, _ => exact born_63 (G := G) hP
  | 64, _ => exact born_64 (G := G) hP
  | 65, _ => exact born_65 (G := G) hP
  | 66, _ => exact born_66 (G := G) hP
  | 67, _ => exact born_67 (G := G) hP
  | 68, _ => exact born_68 (G := G) hP
  | 69, _ => exact born_69 (G := G) hP
  | 70, _ => exact born_70 (G := G) hP
  | 71, _ => exact born_71 (G := G) hP
  | k + 72, h => exact absurd h (by omega)

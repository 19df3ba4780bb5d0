/-! ===== one call on the class, then the same on the reference ===== -/
def qB1 (st : aS) (r : Int × aS) : Option Value → mMem → Prop := qI (fun z m => z = r.1 ∧ XR m r.2 ∧ MR m st)
def qB2 (r : Int × aS) : Option Value → mMem → Prop := qI (fun z m => z = r.1 ∧ XR m r.2 ∧ MR m r.2)
def qL1 (st : aS) (r : Int64 × aS) : Option Value → mMem → Prop := qL (fun z m => z = r.1 ∧ XR m r.2 ∧ MR m st)
def qL2 (r : Int64 × aS) : Option Value → mMem → Prop := qL (fun z m => z = r.1 ∧ XR m r.2 ∧ MR m r.2)
theorem toB1 {μ : mMem} {st : aS} {r : Int × aS} (hM : MR μ st) {o : Option Value} {m : mMem} (h : qX μ r o m) : qB1 st r o m := by
  obtain ⟨z, e, h1, h2, h3⟩ := h
  exact ⟨z, e, h1, h2, hM.xf h3⟩
theorem toB2 {μ : mMem} {r : Int × aS} (hX : XR μ r.2) (hI : SI r.2) {o : Option Value} {m : mMem} (h : qM μ r o m) : qB2 r o m := by
  obtain ⟨z, e, h1, h2, h3⟩ := h
  exact ⟨z, e, h1, hX.mf hI h3, h2⟩
theorem toL1 {μ : mMem} {st : aS} {r : Int64 × aS} (hM : MR μ st) {o : Option Value} {m : mMem} (h : qXl μ r o m) : qL1 st r o m := by
  obtain ⟨z, e, h1, h2, h3⟩ := h
  exact ⟨z, e, h1, h2, hM.xf h3⟩
theorem toL2 {μ : mMem} {r : Int64 × aS} (hX : XR μ r.2) (hI : SI r.2) {o : Option Value} {m : mMem} (h : qMl μ r o m) : qL2 r o m := by
  obtain ⟨z, e, h1, h2, h3⟩ := h
  exact ⟨z, e, h1, hX.mf hI h3, h2⟩

/-! ===== making objects: a world that grows (a list of cells), and a constructor's contract ===== -/
def nE (G : mG) (A : Nat → Prop) (U : State) : Prop := va_K G.2.1 vwCl (mTys G) U ∧ (∀ w ∈ mNest, va_Nw w U) ∧ va_AO RX0 U ∧ va_AO RX3 U ∧ va_AO "java/lang/String" U ∧ (∀ q ∈ sRefs, vk_R q.1 q.2.1 q.2.2.1 (G.1 (100 + q.2.2.2)) U) ∧ vk_S 10 sLen sByt (fun i => G.1 (100 + i)) (fun i => G.1 (110 + i)) A U U.heap
theorem nE.call {G : mG} {A B : Nat → Prop} {s U : State} (hW : s.WarmedH U.vm) (hk : ∀ a : Nat, a < s.heap.size → ¬ A a → U.heap[a]? = s.heap[a]?) (hAB : ∀ q, B q → A q) (h : nE G A s) : nE G B U :=
  ⟨h.1.moved hW.alike, fun w hw => mNest_warm hW (List.mem_filter.mp hw).2 (h.2.1 w hw), h.2.2.1.moved hW.alike, h.2.2.2.1.moved hW.alike, h.2.2.2.2.1.moved hW.alike, fun q hq => (h.2.2.2.2.2.1 q hq).warm hW, ((h.2.2.2.2.2.2.kept hk).moved hW.alike).narrow hAB⟩
theorem nE.same {G : mG} {A : Nat → Prop} {s U : State} (hv : U.vm = s.vm) (hh : U.heap = s.heap) (h : nE G A s) : nE G A U := by
  have ha : s.vm.Alike U.vm := by rw [hv]; exact Vm.Alike.refl _
  refine ⟨h.1.moved ha, fun w hw => mNest_same hv (List.mem_filter.mp hw).2 (h.2.1 w hw), h.2.2.1.moved ha, h.2.2.2.1.moved ha, h.2.2.2.2.1.moved ha, fun q hq => (h.2.2.2.2.2.1 q hq).same hv, ?_⟩
  rw [hh]; exact h.2.2.2.2.2.2.moved ha
def nC (X : mX) (cc : ByteArray) (nL : Nat) (own nm : String) (rm : Room) (G : mG) (A : Nat → Prop) : Prop := match X with
  | (p, e, R, s, m, args, below, meth, c) => p.tables.exec = Jvm.exec ∧ c.code = cc ∧ c.maxLocals = nL ∧ s.vm.findClass own = some m.cls ∧ meth.name = nm ∧ R = rm ∧ (∀ w ∈ mTb, w.before args s = true) ∧ nE G A s ∧ ∀ q : Nat, s.heap.size ≤ q → A q
def nW (X : mX) (cc : ByteArray) (nL : Nat) (own nm : String) (rm : Room) (G : mG) (A : Nat → Prop) (Q : State → Prop) (pc : Nat) (lv : List (Nat × Value)) (st : List Value) (ws : va_W) (k n : Nat) : Prop := match X with
  | (p, e, R, s, m, args, below, meth, c) => nC (p, e, R, s, m, args, below, meth, c) cc nL own nm rm G A → ∀ (H : Heap) (locs : List Loc) (ls : Array Slot), va_P G.2.1 vwCl ws H → va_D A ws → va_S A s.heap H locs → lv_has ls nL lv → W p G.2.2.2.2 e R s m args below meth c H locs k n Q (F0 m pc ls st)
def nR (d mc ms : Nat) : Room := { frames := d, cells := mc, slots := ms, locals := 37 * d }
/-- a constructor's contract: from the new object alone (W0) it comes to the cells sh a -/
def nPre (G : mG) (as : List Value) (W0 : va_W) (sz : Nat) : Array Value → State → Prop := fun v U => v = as.toArray ∧ U.heap.size = sz ∧ va_P G.2.1 vwCl W0 U.heap ∧ va_D (fun _ => True) W0 ∧ nE G (va_A W0 sz) U
def nM (G : mG) (y : MethodName) (cc : ByteArray) (nL d mc ms : Nat) (as : List Value) (W0 : va_W) (α : Type) (sh : α → va_W) : Prop := ∀ sz : Nat, Met G.2.2.2.2 y (Cond.code y cc nL none :: mTb) (nR d mc ms) (nPre G as W0 sz) (va_Qv (fun _ : α => True) (fun a t => va_P G.2.1 vwCl (sh a) t.heap ∧ va_D (va_A W0 sz) (sh a)) (va_A W0 sz)) mc ms (va_A W0 sz)
theorem nBlind {G : mG} {as : List Value} {W0 : va_W} {sz : Nat} : FrameBlind (nPre G as W0 sz) := fun a U g mk h => ⟨h.1, h.2.1, h.2.2.1, h.2.2.2.1, nE.same (s := U) (U := U.calling g mk a) rfl rfl h.2.2.2.2⟩
theorem nM.of {G : mG} {y : MethodName} {cc : ByteArray} {nL d mc ms : Nat} {as : List Value} {W0 : va_W} {α : Type} {sh : α → va_W} (hy : plainFor y = true) (hn : (lg_sl as).length ≤ nL)
    (h : ∀ (X : mX) (A : Nat → Prop) (Q : State → Prop), (∀ (pc : Nat) (lv : List (Nat × Value)) (a : α) (k n : Nat), decode cc pc = .ok (.return_, 1) → k ≤ mc → n ≤ ms → nW X cc nL y.cls y.name (nR d mc ms) G A Q pc lv [] (sh a) k n) → nW X cc nL y.cls y.name (nR d mc ms) G A Q 0 (lv_args 0 as) [] W0 0 0) : nM G y cc nL d mc ms as W0 α sh := by
  intro sz
  refine met_ofWF (cc := cc) (maxL := nL) (ret := none) hy rfl ?_
  intro p e s m args below meth c s₁ B hml hv
  obtain ⟨rfl, hsz, hP, hD, hE⟩ := hv
  subst hsz
  have hts := atoms_spec (ws := Cond.code y cc nL none :: mTb) B.pre
  have hown : s.vm.findClass y.cls = some m.cls := findClass_of_methodNamed B.named
  have hnm : meth.name = y.name := (name_of_methodNamed B.named B.method).1
  have hl := lv_entry as (n := nL) hn
  rw [lg_entry_eq]
  refine h (p, e, _, s, m, _, below, meth, c) (va_A W0 s.heap.size) _ ?_ ⟨B.exec, B.bytes, hml, hown, hnm, rfl, fun w hw => hts w (List.mem_cons_of_mem _ hw), hE, fun q hq => Or.inr hq⟩ s.heap [] _ hP hD.self va_S.rf hl
  intro pc lv a k n hd hk hn2 hC H locs ls hP hD hS hl
  refine W.widen hk hn2 ?_
  exact W.vret B.exec B.bytes B.returns (fun t ht hW => ⟨⟨a, rfl, trivial, by rw [ht]; exact hP, hD⟩, hS.F ht⟩) hS.2.2 hd B.notSynchronized
/-- a class that is made; a field that a constructor sets; a constructor: what the tables say -/
def nN (own : String) (idx ci N : Nat) (zf : List Value) : Prop := ∃ (C : String) (T : u_T) (ty : Nat → FieldType), vwCl[ci]? = some (C, T, N) ∧ (∀ w ∈ u_ws C T N, w ∈ mTb) ∧ (∀ k, k < N → parseFieldDescriptor (T k).2.2.1 = some (ty k)) ∧ (∀ j, j < N → defaultValue (ty j) = vp_V zf j) ∧ Cond.classLink own idx C ∈ mTb ∧ Cond.instantiable C N ∈ mTb ∧ Cond.initialized C ∈ mTb
def nP (own : String) (idx ci j : Nat) (fin : Bool) (ty : FieldType) : Prop := ∃ (C : String) (T : u_T) (N : Nat), mKc ci C T N ∧ j < N ∧ Cond.fieldLink own idx (T j).1 (T j).2.1 (T j).2.2.1 ∈ mTb ∧ (T j).2.2.2 = fin ∧ (T j).1 = own ∧ parseFieldDescriptor (T j).2.2.1 = some ty
def nI_ (y : MethodName) (cc : ByteArray) (nL n : Nat) : Prop := Cond.instanceMethod y ∈ mTb ∧ Cond.initialized y.cls ∈ mTb ∧ Cond.code y cc nL none ∈ mTb ∧ y.name = "<init>" ∧ y.cls ≠ "java/lang/invoke/MethodHandle" ∧ y.cls ≠ "java/lang/invoke/VarHandle" ∧ (parseMethodDescriptor y.desc).map (fun d => d.parameters.length) = some n
theorem oi_i : Cond.instanceMethod Lib.objectInit ∈ mTb := mTb_in (List.mem_of_getElem? (i := 84) (by decide +kernel)) rfl
theorem oi_c : Cond.code Lib.objectInit ⟨#[0xb1]⟩ 1 none ∈ mTb := mTb_in (List.mem_of_getElem? (i := 85) (by decide +kernel)) rfl
theorem ac_i : Cond.arrayClass .int ∈ mTb := mTb_in (List.mem_of_getElem? (i := 110) (by decide +kernel)) rfl
theorem ac_l : Cond.arrayClass .long ∈ mTb := mTb_in (List.mem_of_getElem? (i := 220) (by decide +kernel)) rfl
theorem va_nd_range : ∀ (l : List Nat), l.Nodup → va_nd l = true
  | [], _ => rfl
  | a :: l, h => by
    have h2 := List.nodup_cons.mp h
    show (decide (a ∉ l) && va_nd l) = true
    rw [va_nd_range l h2.2]
    simp [h2.1]
theorem n_range (W0 : va_W) (x : Nat × va_E) : (List.range W0.length).map (fun i => (W0 ++ [x])[i]?) = W0.map some := by
  apply List.ext_getElem?
  intro i
  rw [List.getElem?_map, List.getElem?_map]
  by_cases hi : i < W0.length
  · rw [List.getElem?_range hi]
    show some ((W0 ++ [x])[i]?) = Option.map some W0[i]?
    rw [List.getElem?_append_left hi, List.getElem?_eq_getElem hi]
    rfl
  · rw [List.getElem?_eq_none (by simpa using hi), List.getElem?_eq_none (by simpa using hi)]
    rfl
theorem n_last (W0 : va_W) (x : Nat × va_E) : [W0.length].map (fun i => (W0 ++ [x])[i]?) = [x].map some := by
  simp
section BORN
variable {X : mX} {cc : ByteArray} {nL : Nat} {own nm : String} {rm : Room} {G : mG} {A : Nat → Prop} {Q : State → Prop} {pc : Nat} {lv : List (Nat × Value)} {st : List Value} {ws : va_W} {k n : Nat}
theorem nw_aload {i : Fin 4} {a : Nat} (j : Nat) (hd : decode cc pc = .ok (.aload_n i, 1)) (hj : lv[j]? = some ((i : Nat), .ref a)) (kk : nW X cc nL own nm rm G A Q (pc + 1) lv (.ref a :: st) ws k n) : nW X cc nL own nm rm G A Q pc lv st ws k n := by
  obtain ⟨p, e, R, s, m, args, below, meth, c⟩ := X
  intro hC H locs ls hP hD hS hl
  exact lv_aload_n hC.1 hC.2.1 hd rfl (lv_at hl j hj) (kk hC H locs ls hP hD hS hl)
theorem nw_iload {i : Fin 4} {a : Int} (j : Nat) (hd : decode cc pc = .ok (.iload_n i, 1)) (hj : lv[j]? = some ((i : Nat), .int (iV a))) (kk : nW X cc nL own nm rm G A Q (pc + 1) lv (.int (iV a) :: st) ws k n) : nW X cc nL own nm rm G A Q pc lv st ws k n := by
  obtain ⟨p, e, R, s, m, args, below, meth, c⟩ := X
  intro hC H locs ls hP hD hS hl
  exact lv_iload_n hC.1 hC.2.1 hd rfl (lv_at hl j hj) (kk hC H locs ls hP hD hS hl)
theorem nw_dup {v : Value} (hd : decode cc pc = .ok (.dup, 1)) (hv : v.category = 1) (kk : nW X cc nL own nm rm G A Q (pc + 1) lv (v :: v :: st) ws k n) : nW X cc nL own nm rm G A Q pc lv (v :: st) ws k n := by
  obtain ⟨p, e, R, s, m, args, below, meth, c⟩ := X
  intro hC H locs ls hP hD hS hl
  exact lv_dup hC.1 hC.2.1 hd hv (kk hC H locs ls hP hD hS hl)
theorem nw_iconst {z : Int} (hd : decode cc pc = .ok (.iconst z, 1)) (kk : nW X cc nL own nm rm G A Q (pc + 1) lv (.int (iV z) :: st) ws k n) : nW X cc nL own nm rm G A Q pc lv st ws k n := by
  obtain ⟨p, e, R, s, m, args, below, meth, c⟩ := X
  intro hC H locs ls hP hD hS hl
  exact lv_iconst (v := iV z) hC.1 hC.2.1 hd rfl (kk hC H locs ls hP hD hS hl)
theorem nw_bipush {z : Int} (hd : decode cc pc = .ok (.bipush z, 2)) (hv : (Int8.ofInt z).toInt32 = iV z) (kk : nW X cc nL own nm rm G A Q (pc + 2) lv (.int (iV z) :: st) ws k n) : nW X cc nL own nm rm G A Q pc lv st ws k n := by
  obtain ⟨p, e, R, s, m, args, below, meth, c⟩ := X
  intro hC H locs ls hP hD hS hl
  exact lv_bipush (v := iV z) hC.1 hC.2.1 hd hv (kk hC H locs ls hP hD hS hl)
theorem nw_sipush {z : Int} (hd : decode cc pc = .ok (.sipush z, 3)) (hv : (Int16.ofInt z).toInt32 = iV z) (kk : nW X cc nL own nm rm G A Q (pc + 3) lv (.int (iV z) :: st) ws k n) : nW X cc nL own nm rm G A Q pc lv st ws k n := by
  obtain ⟨p, e, R, s, m, args, below, meth, c⟩ := X
  intro hC H locs ls hP hD hS hl
  exact lv_sipush (v := iV z) hC.1 hC.2.1 hd hv (kk hC H locs ls hP hD hS hl)
theorem nw_istore {i : Fin 4} {z : Int} (lv' : List (Nat × Value)) (hd : decode cc pc = .ok (.istore_n i, 1)) (hn : (i : Nat) < nL) (hl' : ((i : Nat), Value.int (iV z)) :: lv.filter (fun q => !(q.1 == (i : Nat)) && !(q.1 + 1 == (i : Nat) && q.2.category == 2)) = lv') (kk : nW X cc nL own nm rm G A Q (pc + 1) lv' st ws k n) : nW X cc nL own nm rm G A Q pc lv (.int (iV z) :: st) ws k n := by
  obtain ⟨p, e, R, s, m, args, below, meth, c⟩ := X
  intro hC H locs ls hP hD hS hl
  exact lv_istore_n hC.1 hC.2.1 hd rfl hl hn hl' (fun ls hl => kk hC H locs ls hP hD hS hl)
theorem nw_astore {i : Fin 4} {z : Nat} (lv' : List (Nat × Value)) (hd : decode cc pc = .ok (.astore_n i, 1)) (hn : (i : Nat) < nL) (hl' : ((i : Nat), Value.ref z) :: lv.filter (fun q => !(q.1 == (i : Nat)) && !(q.1 + 1 == (i : Nat) && q.2.category == 2)) = lv') (kk : nW X cc nL own nm rm G A Q (pc + 1) lv' st ws k n) : nW X cc nL own nm rm G A Q pc lv (.ref z :: st) ws k n := by
  obtain ⟨p, e, R, s, m, args, below, meth, c⟩ := X
  intro hC H locs ls hP hD hS hl
  exact lv_astore_n hC.1 hC.2.1 hd rfl hl hn hl' (fun ls hl => kk hC H locs ls hP hD hS hl)
theorem nw_iinc {i : Nat} {z c' z' : Int} (j : Nat) (lv' : List (Nat × Value)) (hd : decode cc pc = .ok (.iinc i c', 3)) (hj : lv[j]? = some (i, .int (iV z))) (hz : z + c' = z') (hn : i < nL) (hl' : (i, Value.int (iV z')) :: lv.filter (fun q => !(q.1 == i) && !(q.1 + 1 == i && q.2.category == 2)) = lv') (kk : nW X cc nL own nm rm G A Q (pc + 3) lv' st ws k n) : nW X cc nL own nm rm G A Q pc lv st ws k n := by
  obtain ⟨p, e, R, s, m, args, below, meth, c⟩ := X
  intro hC H locs ls hP hD hS hl
  refine lv_iinc (v := iV z') hC.1 hC.2.1 hd hl hj ?_ hn hl' (fun ls hl => kk hC H locs ls hP hD hS hl)
  show iV z + iV c' = iV z'
  rw [iV_add, hz]
theorem nw_goto {off : Int} (tgt : Nat) (hd : decode cc pc = .ok (.goto off, 3)) (ht : (pc : Int) + off = (tgt : Int)) (kk : nW X cc nL own nm rm G A Q tgt lv st ws k n) : nW X cc nL own nm rm G A Q pc lv st ws k n := by
  obtain ⟨p, e, R, s, m, args, below, meth, c⟩ := X
  intro hC H locs ls hP hD hS hl
  exact lv_goto hC.1 hC.2.1 hd ht (kk hC H locs ls hP hD hS hl)
theorem nw_geT {a b off : Int} (tgt : Nat) (hd : decode cc pc = .ok (.if_icmp .ge off, 3)) (ht : (pc : Int) + off = (tgt : Int)) (h : iV b ≤ iV a) (kk : nW X cc nL own nm rm G A Q tgt lv st ws k n) : nW X cc nL own nm rm G A Q pc lv (.int (iV b) :: .int (iV a) :: st) ws k n := by
  obtain ⟨p, e, R, s, m, args, below, meth, c⟩ := X
  intro hC H locs ls hP hD hS hl
  exact lv_icmp_ge hC.1 hC.2.1 hd ht (fun _ => kk hC H locs ls hP hD hS hl) (fun q => absurd h q)
theorem nw_geN {a b off : Int} (tgt : Nat) (hd : decode cc pc = .ok (.if_icmp .ge off, 3)) (ht : (pc : Int) + off = (tgt : Int)) (h : ¬ iV b ≤ iV a) (kk : nW X cc nL own nm rm G A Q (pc + 3) lv st ws k n) : nW X cc nL own nm rm G A Q pc lv (.int (iV b) :: .int (iV a) :: st) ws k n := by
  obtain ⟨p, e, R, s, m, args, below, meth, c⟩ := X
  intro hC H locs ls hP hD hS hl
  exact lv_icmp_ge hC.1 hC.2.1 hd ht (fun q => absurd q h) (fun _ => kk hC H locs ls hP hD hS hl)
theorem nw_obj {idx a : Nat} (hd : decode cc pc = .ok (.invokespecial idx, 3)) (hl : Cond.methodLink own idx Lib.objectInit ∈ mTb) (hf : 1 ≤ rm.frames) (hlo : 12 ≤ rm.locals) (kk : nW X cc nL own nm rm G A Q (pc + 3) lv [] ws k n) : nW X cc nL own nm rm G A Q pc lv [.ref a] ws k n := by
  obtain ⟨p, e, R, s, m, args, below, meth, c⟩ := X
  intro hC H locs ls hP hD hS hl2
  obtain ⟨hx, hb, hml, hown, hnm, rfl, hts, hE, hA⟩ := id hC
  exact W.objInit hx hb hown (hts _ hl) (hts _ oi_i) (hts _ oi_c) rfl (by rw [hml]; exact hl2.1) rfl hd hf hlo (kk hC H locs ls hP hD hS hl2)
theorem nw_new {idx ci N : Nat} {zf : List Value} (hd : decode cc pc = .ok (.new idx, 3)) (hs : nN own idx ci N zf) (h1 : k + 1 ≤ rm.cells) (h2 : n + N ≤ rm.slots) (kk : ∀ q : Nat, nW X cc nL own nm rm G A Q (pc + 3) lv (.ref q :: st) (ws ++ [(q, .inr (ci, zf))]) (k + 1) (n + N)) : nW X cc nL own nm rm G A Q pc lv st ws k n := by
  obtain ⟨p, e, R, s, m, args, below, meth, c⟩ := X
  intro hC H locs ls hP hD hS hl
  obtain ⟨hx, hb, hml, hown, hnm, rfl, hts, hE, hA⟩ := id hC
  obtain ⟨C, T, ty, g1, g2, g3, g4, g5, g6, g7⟩ := hs
  exact va_new hx hb hts g2 ty g3 hown (hts _ g5) (hts _ g6) (hts _ g7) hE.1 hP hD hS hA g1 g4 h1 h2 hd (fun q H1 hP hD hS => kk q hC H1 locs ls hP hD hS hl)
theorem nw_newI {z : Int} (N : Nat) (hd : decode cc pc = .ok (.newarray .int, 2)) (hz : z = (N : Int)) (hN : N ≤ 1000) (h1 : k + 1 ≤ rm.cells) (h2 : n + N ≤ rm.slots) (kk : ∀ q : Nat, nW X cc nL own nm rm G A Q (pc + 2) lv (.ref q :: st) (ws ++ [(q, .inl (G.2.2.1 0, N, .inl (fun _ => iV 0)))]) (k + 1) (n + N)) : nW X cc nL own nm rm G A Q pc lv (.int (iV z) :: st) ws k n := by
  obtain ⟨p, e, R, s, m, args, below, meth, c⟩ := X
  intro hC H locs ls hP hD hS hl
  obtain ⟨hx, hb, hml, hown, hnm, rfl, hts, hE, hA⟩ := id hC
  have hc : (iV z).toNatClampNeg = N := by rw [iV_clamp (by omega)]; omega
  refine va_newa (atype := .int) (ty := .int) (a0 := (N, .inl (fun _ => iV 0))) hx hb (hts _ ac_i) rfl hE.1 hP hD hS hA (fun cA => by rw [vp_cell_i, iV_0]; rfl) (fun q => ?_) hc (by show N * 4 ≤ _; omega) h1 h2 hd (fun q cA H1 hK1 hP hD hS => ?_)
  · rw [← iV_0, iV_lt (by omega) (by omega)] at q
    omega
  · have e1 : cA = G.2.2.1 0 := Option.some.inj ((show s.vm.findClass _ = some cA from (hK1.2 5 _ rfl).2).symm.trans (show s.vm.findClass _ = some (G.2.2.1 0) from (hE.1.2 0 _ rfl).2))
    subst e1
    exact kk q hC H1 locs ls hP hD hS hl
theorem nw_newL {z : Int} (N : Nat) (hd : decode cc pc = .ok (.newarray .long, 2)) (hz : z = (N : Int)) (hN : N ≤ 1000) (h1 : k + 1 ≤ rm.cells) (h2 : n + N ≤ rm.slots) (kk : ∀ q : Nat, nW X cc nL own nm rm G A Q (pc + 2) lv (.ref q :: st) (ws ++ [(q, .inl (G.2.2.1 1, N, .inr (.inl (fun _ => 0))))]) (k + 1) (n + N)) : nW X cc nL own nm rm G A Q pc lv (.int (iV z) :: st) ws k n := by
  obtain ⟨p, e, R, s, m, args, below, meth, c⟩ := X
  intro hC H locs ls hP hD hS hl
  obtain ⟨hx, hb, hml, hown, hnm, rfl, hts, hE, hA⟩ := id hC
  have hc : (iV z).toNatClampNeg = N := by rw [iV_clamp (by omega)]; omega
  refine va_newa (atype := .long) (ty := .long) (a0 := (N, .inr (.inl (fun _ => 0)))) hx hb (hts _ ac_l) rfl hE.1 hP hD hS hA (fun cA => rfl) (fun q => ?_) hc (by show N * 8 ≤ _; omega) h1 h2 hd (fun q cA H1 hK1 hP hD hS => ?_)
  · rw [← iV_0, iV_lt (by omega) (by omega)] at q
    omega
  · have e1 : cA = G.2.2.1 1 := Option.some.inj ((show s.vm.findClass _ = some cA from (hK1.2 5 _ rfl).2).symm.trans (show s.vm.findClass _ = some (G.2.2.1 1) from (hE.1.2 1 _ rfl).2))
    subst e1
    exact kk q hC H1 locs ls hP hD hS hl
theorem nw_newQ {idx : Nat} {C : String} {z : Int} (N t0 : Nat) (hd : decode cc pc = .ok (.anewarray idx, 3)) (hcl : Cond.classLink own idx C ∈ mTb) (hov : ∀ s : State, nE G A s → va_AO C s) (ht : (mTys G)[t0]? = some (G.2.2.1 t0, .object C)) (hz : z = (N : Int)) (hN : N ≤ 1000) (h1 : k + 1 ≤ rm.cells) (h2 : n + N ≤ rm.slots) (kk : ∀ q : Nat, nW X cc nL own nm rm G A Q (pc + 3) lv (.ref q :: st) (ws ++ [(q, .inl (G.2.2.1 t0, N, .inr (.inr (.inr (.inr (fun _ => none))))))]) (k + 1) (n + N)) : nW X cc nL own nm rm G A Q pc lv (.int (iV z) :: st) ws k n := by
  obtain ⟨p, e, R, s, m, args, below, meth, c⟩ := X
  intro hC H locs ls hP hD hS hl
  obtain ⟨hx, hb, hml, hown, hnm, rfl, hts, hE, hA⟩ := id hC
  have hc : (iV z).toNatClampNeg = N := by rw [iV_clamp (by omega)]; omega
  refine va_newq hx hb hown (hts _ hcl) (hov s hE) hE.1 hP hD hS hA (fun q => ?_) hc (by omega) h1 h2 hd (fun q cA H1 hK1 hP hD hS => ?_)
  · rw [← iV_0, iV_lt (by omega) (by omega)] at q
    omega
  · obtain ⟨kA, comp, -, -, -, f1⟩ := (hK1.2 5 _ rfl).2
    obtain ⟨kB, compB, -, -, -, f2⟩ := (hE.1.2 t0 _ ht).2
    have e1 : cA = G.2.2.1 t0 := Option.some.inj (f1.symm.trans f2)
    subst e1
    exact kk q hC H1 locs ls hP hD hS hl
theorem nw_put {idx ci j h0 : Nat} {fin : Bool} {ty : FieldType} {fs : List Value} {v : Value} (q0 : Nat) (ws' : va_W) (hd : decode cc pc = .ok (.putfield idx, 3)) (hs : nP own idx ci j fin ty) (hm : nm = "<init>") (hn : narrow ty v = v) (hfit : fits ty v = true) (he : ws[q0]? = some (h0, .inr (ci, fs))) (hj : j < fs.length) (hw : ws.set q0 (h0, .inr (ci, fs.set j v)) = ws') (kk : nW X cc nL own nm rm G A Q (pc + 3) lv st ws' k n) : nW X cc nL own nm rm G A Q pc lv (v :: .ref h0 :: st) ws k n := by
  obtain ⟨p, e, R, s, m, args, below, meth, c⟩ := X
  intro hC H locs ls hP hD hS hl
  obtain ⟨hx, hb, hml, hown, hnm, rfl, hts, hE, hA⟩ := id hC
  obtain ⟨C, T, N, ⟨hc, hin, ⟨ty0, hty⟩, hnm2, hN, hc8⟩, hjN, hlk, hfin, hdc, hpd⟩ := hs
  subst hw
  cases fin with
  | true => exact va_putF hx hb hts hin ty0 hty hnm2 hown hE.1 hP hD hS q0 he hc j hjN (hts _ hlk) (fun _ h9 => h9) hfin (hnm.trans hm) hdc hpd hn hfit hj hd (fun H1 locs1 hP hD hS => kk hC H1 locs1 ls hP hD hS hl)
  | false => exact va_put hx hb hts hin ty0 hty hnm2 hown hE.1 hP hD hS q0 he hc j hjN (hts _ hlk) (fun _ h9 => h9) hfin hpd hn hfit hj hd (fun H1 locs1 hP hD hS => kk hC H1 locs1 ls hP hD hS hl)
theorem nw_get {idx ci j h0 : Nat} {fs : List Value} {v : Value} (q0 : Nat) (hd : decode cc pc = .ok (.getfield idx, 3)) (hs : sG own idx ci j) (he : ws[q0]? = some (h0, .inr (ci, fs))) (hv : fs[j]? = some v) (kk : nW X cc nL own nm rm G A Q (pc + 3) lv (v :: st) ws k n) : nW X cc nL own nm rm G A Q pc lv (.ref h0 :: st) ws k n := by
  obtain ⟨p, e, R, s, m, args, below, meth, c⟩ := X
  intro hC H locs ls hP hD hS hl
  obtain ⟨hx, hb, hml, hown, hnm, rfl, hts, hE, hA⟩ := id hC
  obtain ⟨C, T, N, ⟨hc, hin, ⟨ty, hty⟩, hnm2, hN, hc8⟩, hj, hlk⟩ := hs
  rcases hlk with h | ⟨host, h⟩
  · exact va_get hx hb hts hin hown hE.1 hP q0 he hc j hj (hts _ h) (fun _ h9 => h9) hv hd (kk hC H locs ls hP hD hS hl)
  · exact va_getN hx hb hts hin hown hE.1 hP q0 he hc j hj (va_Nw.use rfl (hE.2.1 _ h)) (fun _ h9 => h9) hv hd (kk hC H locs ls hP hD hS hl)
theorem nw_astQ {z : Int} {N : Nat} (q0 t0 qk ci j : Nat) {a v : Nat} {r : vw_C} {f : Nat → Option Nat} {vs : List Value} (ws' : va_W) (hd : decode cc pc = .ok (.aastore, 1)) (ha : ws[q0]? = some (a, .inl (G.2.2.1 t0, N, .inr (.inr (.inr (.inr f)))))) (ht : (mTys G)[t0]? = some (G.2.2.1 t0, .object r.1)) (hv : ws[qk]? = some (v, .inr (ci, vs))) (hc : vwCl[ci]? = some r) (hz : z = (j : Int)) (hj : j < N) (hN : N ≤ 1000) (hw : ws.set q0 (a, .inl (G.2.2.1 t0, N, .inr (.inr (.inr (.inr (va_up f j (some v))))))) = ws') (kk : nW X cc nL own nm rm G A Q (pc + 1) lv st ws' k n) : nW X cc nL own nm rm G A Q pc lv (.ref v :: .int (iV z) :: .ref a :: st) ws k n := by
  obtain ⟨p, e, R, s, m, args, below, meth, c⟩ := X
  intro hC H locs ls hP hD hS hl
  obtain ⟨hx, hb, hml, hown, hnm, rfl, hts, hE, hA⟩ := id hC
  subst hw
  have hcl : (iV z).toNatClampNeg = j := by rw [iV_clamp (by omega)]; omega
  refine va_astq hx hb hE.1 hP hD hS q0 t0 qk ci ha ht hv hc (iV_in (by omega) (by omega)) hd (fun H1 locs1 hP hD hS => ?_)
  rw [hcl] at hP hD
  exact kk hC H1 locs1 ls hP hD hS hl
theorem nw_astS {z : Int} {N : Nat} (q0 j i : Nat) {a : Nat} {f : Nat → Option Nat} (ws' : va_W) (hd : decode cc pc = .ok (.aastore, 1)) (ha : ws[q0]? = some (a, .inl (G.2.2.1 4, N, .inr (.inr (.inr (.inr f)))))) (hi : i < 10) (hz : z = (j : Int)) (hj : j < N) (hN : N ≤ 1000) (hw : ws.set q0 (a, .inl (G.2.2.1 4, N, .inr (.inr (.inr (.inr (va_up f j (some (G.1 (100 + i)))))))))  = ws') (kk : nW X cc nL own nm rm G A Q (pc + 1) lv st ws' k n) : nW X cc nL own nm rm G A Q pc lv (.ref (G.1 (100 + i)) :: .int (iV z) :: .ref a :: st) ws k n := by
  obtain ⟨p, e, R, s, m, args, below, meth, c⟩ := X
  intro hC H locs ls hP hD hS hl
  obtain ⟨hx, hb, hml, hown, hnm, rfl, hts, hE, hA⟩ := id hC
  subst hw
  have hcl : (iV z).toNatClampNeg = j := by rw [iV_clamp (by omega)]; omega
  obtain ⟨cell, o1, o2, o3, -⟩ := ((hE.2.2.2.2.2.2.kept hS.2.1).1 i hi).1
  obtain ⟨kC, hkC, -⟩ := Vm.findClass_spec o3
  refine va_astqM (E := "java/lang/String") hx hb hE.1 hP hD hS q0 4 ha rfl ⟨cell, o1, o2, ⟨kC, hkC⟩, fun comp h => ?_⟩ (iV_in (by omega) (by omega)) hd (fun H1 locs1 hP hD hS => ?_)
  · have e1 : comp = cell.cls := Option.some.inj (h.symm.trans o3)
    rw [e1]
    exact va_asg _ _
  · rw [hcl] at hP hD
    exact kk hC H1 locs1 ls hP hD hS hl
theorem nw_ldcS {idx i : Nat} {tx : String} (hd : decode cc pc = .ok (.ldc idx, 2)) (hr : (own, idx, tx, i) ∈ sRefs) (kk : nW X cc nL own nm rm G A Q (pc + 2) lv (.ref (G.1 (100 + i)) :: st) ws k n) : nW X cc nL own nm rm G A Q pc lv st ws k n := by
  obtain ⟨p, e, R, s, m, args, below, meth, c⟩ := X
  intro hC H locs ls hP hD hS hl
  obtain ⟨hx, hb, hml, hown, hnm, rfl, hts, hE, hA⟩ := id hC
  exact va_ldcS hx hb hown (hE.2.2.2.2.2.1 _ hr) hd (kk hC H locs ls hP hD hS hl)
/-- the function of an array of references, told otherwise -/
theorem nw_refs {N cA : Nat} (q0 : Nat) {a : Nat} {f : Nat → Option Nat} (f' : Nat → Option Nat) (ws' : va_W) (ha : ws[q0]? = some (a, .inl (cA, N, .inr (.inr (.inr (.inr f)))))) (hf : ∀ j : Nat, j < N → f j = f' j) (hw : ws.set q0 (a, .inl (cA, N, .inr (.inr (.inr (.inr f'))))) = ws') (kk : nW X cc nL own nm rm G A Q pc lv st ws' k n) : nW X cc nL own nm rm G A Q pc lv st ws k n := by
  obtain ⟨p, e, R, s, m, args, below, meth, c⟩ := X
  intro hC H locs ls hP hD hS hl
  subst hw
  refine kk hC H locs ls (hP.set hD ha ?_ (fun q _ => rfl)) (hD.set ha) hS hl
  have h1 : H[a]? = some (vp_cell cA (N, .inr (.inr (.inr (.inr f))))) := hP q0 _ ha
  show H[a]? = some (vp_cell cA (N, .inr (.inr (.inr (.inr f')))))
  rw [h1, vp_cell_q, vp_cell_q]
  unfold arrV
  congr 2
  apply Array.ext
  · simp
  · intro i h1 h2
    simp only [Array.getElem_ofFn]
    rw [hf i (by simpa using h1)]
/-- a constructor is called: the other cells stay -/
theorem nw_run {idx : Nat} {y : MethodName} {cc' : ByteArray} {nL' d mc ms : Nat} {q : Nat} {x : va_E} {as rest : List Value} {W0 : va_W} {α : Type} {sh : α → va_W} (hst : as.reverse ++ .ref q :: rest = st) (hf : k + mc ≤ rm.cells ∧ n + ms ≤ rm.slots)
    (hrun : match X with
      | (p, e, R, s, m, args, below, meth, c) => nC (p, e, R, s, m, args, below, meth, c) cc nL own nm rm G A → ∀ (H : Heap) (locs : List Loc) (ls : Array Slot), ls.size = nL → PreS s H (nPre G (.ref q :: as) [(q, x)] H.size) (.ref q :: as) → va_Run p G.2.2.2.2 e R s m args below meth c H locs k n mc ms (F0 m pc ls st) rest (va_Qv (fun _ : α => True) (fun a t => va_P G.2.1 vwCl (sh a) t.heap ∧ va_D (va_A [(q, x)] H.size) (sh a)) (va_A [(q, x)] H.size) (Value.ref q :: as).toArray) (va_A [(q, x)] H.size))
    (kk : ∀ a : α, nW X cc nL own nm rm G A Q (pc + 3) lv rest (W0 ++ sh a) (k + mc) (n + ms)) : nW X cc nL own nm rm G A Q pc lv st (W0 ++ [(q, x)]) k n := by
  obtain ⟨p, e, R, s, m, args, below, meth, c⟩ := X
  intro hC H locs ls hP hD hS hl
  obtain ⟨hx, hb, hml, hown, hnm, rfl, hts, hE, hA⟩ := id hC
  have hC1 := n_last W0 (q, x)
  have hPc : va_P G.2.1 vwCl [(q, x)] H := fun i z hz => by
    have h0 : i < 1 := (List.getElem?_eq_some_iff.mp hz).1
    rw [show i = 0 by omega] at hz
    cases hz
    exact hP W0.length _ (by simp)
  have hDc : va_D A [(q, x)] := hD.sub [W0.length] rfl hC1
  have hFc := va_free (wc := [(q, x)]) hD hS hA [W0.length] hC1
  refine va_callv (hrun hC H locs ls hl.1 ⟨nBlind, fun U hU hW => ⟨rfl, by rw [hU], by rw [hU]; exact hPc, hDc.weaken (fun _ _ _ _ => trivial), hE.call hW (fun a h1 h2 => by rw [hU]; exact hS.2.1 a h1 h2) hFc⟩⟩) hS (fun z _ h => hFc z h) hFc (fun a t H1 locs1 ht hvm _ hB hz1 hk1 hS1 => ?_)
  obtain ⟨hP1, hD1⟩ := hB
  rw [ht] at hP1
  obtain ⟨hP2, hD2⟩ := va_join (wr := W0) hP hD [W0.length] (List.range W0.length) hC1 (n_range W0 (q, x)) (va_nd_range _ List.nodup_range) (fun i h1 h2 => by rw [List.mem_singleton] at h2; rw [List.mem_range] at h1; omega) hk1 hFc hP1 hD1
  exact kk a hC H1 locs1 ls hP2 hD2 hS1 hl
theorem nw_init {idx : Nat} {y : MethodName} {cc' : ByteArray} {nL' d nA mc ms : Nat} {q : Nat} {x : va_E} {as rest : List Value} {W0 : va_W} {α : Type} {sh : α → va_W} (hd : decode cc pc = .ok (.invokespecial idx, 3)) (hw : Cond.methodLink own idx y ∈ mTb) (hs : nI_ y cc' nL' nA) (hD : d + 1 ≤ rm.frames ∧ 8 + (nL' + 11) + 37 * d ≤ rm.locals) (hM : nM G y cc' nL' d mc ms (.ref q :: as) [(q, x)] α sh) (hn : as.length = nA) (hst : as.reverse ++ .ref q :: rest = st) (hr : (rest.map fun v => v.category).sum ≤ 8) (hf : k + mc ≤ rm.cells ∧ n + ms ≤ rm.slots)
    (kk : ∀ a : α, nW X cc nL own nm rm G A Q (pc + 3) lv rest (W0 ++ sh a) (k + mc) (n + ms)) : nW X cc nL own nm rm G A Q pc lv st (W0 ++ [(q, x)]) k n := by
  refine nw_run (y := y) (idx := idx) (cc' := cc') (nL' := nL') (d := d) (sh := sh) hst hf ?_ kk
  obtain ⟨p, e, R, s, m, args, below, meth, c⟩ := X
  intro hC H locs ls hls hp
  obtain ⟨hx, hb, hml, hown, hnm, rfl, hts, hE, hA⟩ := id hC
  obtain ⟨g1, g2, g3, g4, g5, g6, g7⟩ := hs
  exact va_runI (As := as) (rest := rest) ⟨hx, hb, hml, hown, hts⟩ (hM H.size) (cwI nA hts (goodIn_cons g3) rfl rfl rfl (hts _ g2) (hts _ hw) (hts _ g1) g4 ⟨g5, g6, g7⟩ hD) hp rfl hn hls hst.symm (lv_room hr) hd hf
theorem nw_initN {idx : Nat} {y : MethodName} {host : String} {cc' : ByteArray} {nL' d nA mc ms : Nat} {q : Nat} {x : va_E} {as rest : List Value} {W0 : va_W} {α : Type} {sh : α → va_W} (hd : decode cc pc = .ok (.invokespecial idx, 3)) (hw : Cond.methodLinkNest own idx y host ∈ mNest) (hs : nI_ y cc' nL' nA) (hD : d + 1 ≤ rm.frames ∧ 8 + (nL' + 11) + 37 * d ≤ rm.locals) (hM : nM G y cc' nL' d mc ms (.ref q :: as) [(q, x)] α sh) (hn : as.length = nA) (hst : as.reverse ++ .ref q :: rest = st) (hr : (rest.map fun v => v.category).sum ≤ 8) (hf : k + mc ≤ rm.cells ∧ n + ms ≤ rm.slots)
    (kk : ∀ a : α, nW X cc nL own nm rm G A Q (pc + 3) lv rest (W0 ++ sh a) (k + mc) (n + ms)) : nW X cc nL own nm rm G A Q pc lv st (W0 ++ [(q, x)]) k n := by
  refine nw_run (y := y) (idx := idx) (cc' := cc') (nL' := nL') (d := d) (sh := sh) hst hf ?_ kk
  obtain ⟨p, e, R, s, m, args, below, meth, c⟩ := X
  intro hC H locs ls hls hp
  obtain ⟨hx, hb, hml, hown, hnm, rfl, hts, hE, hA⟩ := id hC
  obtain ⟨g1, g2, g3, g4, g5, g6, g7⟩ := hs
  exact va_runIN (As := as) (rest := rest) ⟨hx, hb, hml, hown, hts⟩ (hM H.size) ⟨va_cnB nA hts (goodIn_cons g3) rfl rfl rfl (hE.2.1 _ hw) (hts _ g2) ⟨g5, g6, g7⟩ hD, g4, hts _ g1⟩ hp rfl hn hls hst.symm (lv_room hr) hd hf
end BORN

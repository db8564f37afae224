def nestT : List (String × Nat × MethodName) := [(RX0, 36, yX2_init), (RX6, 9, yX4_init), (RX6, 18, yX5_init), (RX6, 25, yX1_init), (RX6, 32, yX0_init)]
/-- what the constructors read of the tables beside their words -/
def NJ (U : State) : Prop := (∀ k ∈ nestT, va_Nw (.methodLinkNest k.1 k.2.1 k.2.2 RX6) U) ∧ va_AOA .long U
theorem NJ.warm {s U : State} (hW : s.WarmedH U.vm) (h : NJ s) : NJ U := ⟨fun k hk => va_Nw.warmM hW (h.1 k hk), over_moved (a := #[]) (a' := #[]) hW.alike h.2⟩
theorem NJ.same {s U : State} (hv : U.vm = s.vm) (h : NJ s) : NJ U := ⟨fun k hk => va_Nw.same rfl hv.symm (h.1 k hk), over_moved (a := #[]) (a' := #[]) (u := s) (E := U) (by rw [hv]; exact Vm.Alike.refl _) h.2⟩
def cPN (D : va_G) (y : Nat → ClassId) (w : va_W) (sz : Nat) (U : State) : Prop := cP D y w sz U ∧ NJ U
theorem cPN_blind {av : List Value} {D : va_G} {y : Nat → ClassId} {w : va_W} {sz : Nat} : FrameBlind (va_Pc av (cPN D y w sz)) := fun a U g mk h => by
  obtain ⟨q0, ⟨q1, qP, qK, qD⟩, qJ⟩ := h
  exact ⟨q0, ⟨q1, qP, va_K.moved (u := U) (U := U.calling g mk a) (Vm.Alike.refl U.vm) qK, qD⟩, NJ.same (s := U) (U := U.calling g mk a) rfl qJ⟩
abbrev QN (D : va_G) (y : Nat → ClassId) (A : Nat → Prop) (h0 : Nat) (wf : (Nat → Nat) → va_W) : Array Value → State → Outcome → State → Prop := va_Qv (fun (_ : Unit) => True) (fun (_ : Unit) (t : State) => ∃ q : Nat → Nat, q 0 = h0 ∧ cB D y A (wf q) t) A
theorem met_ofN {l : Launch} {y' : MethodName} {ws ws' : List Cond} {rm : Room} {av : List Value} {D : va_G} {y : Nat → ClassId} {w0 : va_W} {sz mc ms : Nat} {Qc : Array Value → State → Outcome → State → Prop} {cc : ByteArray} {maxL : Nat} {ret : Option FieldType} {own : String} (hy : plainName y'.cls = true) (ho : y'.cls = own) (hn : y'.name = "<init>") (hw : ws = Cond.code y' cc maxL ret :: ws') (hlen : (lg_sl av).length ≤ maxL)
    (body : ∀ (p : Program) (e : Env) (s : State) (m : MethodId) (below : List Frame) (meth : Method) (c : Code) (ls : Array Slot), CX p s m av.toArray meth c ws own cc maxL ret → meth.name = "<init>" → s.heap.size = sz → va_K D vwCl (tyl y) s → va_P D vwCl w0 s.heap → va_D (va_A w0 sz) w0 → (∀ q : Nat, s.heap.size ≤ q → va_A w0 sz q) → va_S (va_A w0 sz) s.heap s.heap [] → NJ s → lv_has ls maxL (lv_args 0 av) → W p l e rm s m av.toArray below meth c s.heap [] 0 0 (MQ below Qc av.toArray s mc ms (va_A w0 sz)) (F0 m 0 ls [])) : Met l y' ws rm (va_Pc av (cPN D y w0 sz)) Qc mc ms (va_A w0 sz) := by
  refine Met.ofW (cc := cc) (maxL := maxL) (ret := ret) hy hw ?_
  intro p e s m args below meth c s₁ B hml hv
  obtain ⟨rfl, ⟨hsz, hP, hK, hD0⟩, hJ⟩ := hv
  have hown : s.vm.findClass y'.cls = some m.cls := findClass_of_methodNamed B.named
  rw [ho] at hown
  have hin : meth.name = "<init>" := (name_of_methodNamed B.named B.method).1.trans hn
  rw [lg_entry_eq]
  exact body p e s m below meth c _ ⟨⟨B.exec, B.bytes, hml, hown, atoms_spec (ws := ws) B.pre⟩, B.returns, B.notSynchronized⟩ hin hsz hK hP hD0.self (fun q h => Or.inr (by rw [← hsz]; exact h)) va_S.rf hJ (lv_entry av hlen)
theorem endN {p : Program} {l : Launch} {e : Env} {R : Room} {s : State} {m : MethodId} {args : Array Value} {below : List Frame} {meth : Method} {c : Code} {H : Heap} {locs : List Loc} {Ts : List Cond} {own : String} {cc : ByteArray} {nL pc cells slots mc ms : Nat} {ls : Array Slot} {D : va_G} {y : Nat → ClassId} {A : Nat → Prop} {wf : (Nat → Nat) → va_W} {h0 : Nat} (C : CX p s m args meth c Ts own cc nL none) (hK : va_K D vwCl (tyl y) s) (q : Nat → Nat) (hq : q 0 = h0) (hP : va_P D vwCl (wf q) H) (hD : va_D A (wf q)) (hS : va_S A s.heap H locs) (h1 : cells ≤ mc) (h2 : slots ≤ ms) (d : decode cc pc = .ok (.return_, 1)) : W p l e R s m args below meth c H locs cells slots (MQ below (QN D y A h0 wf) args s mc ms A) (F0 m pc ls []) := by
  obtain ⟨⟨hx, hb, hml, hown, hts⟩, hr, hlocks⟩ := C
  refine W.widen h1 h2 ?_
  exact W.vret hx hb hr (fun t ht hW => ⟨⟨(), rfl, trivial, q, hq, by rw [ht]; exact hP, va_K.moved hW.alike hK, hD⟩, hS.F ht⟩) hS.2.2 d
/-- a new array of a class that is known -/
theorem va_newaY {p : Program} {l : Launch} {e : Env} {R : Room} {s : State} {m : MethodId} {args : Array Value} {below : List Frame} {meth : Method} {c : Code} {H : Heap} {locs : List Loc} {cc : ByteArray} {pc cells slots : Nat} {ls : Array Slot} {D : va_G} {y : Nat → ClassId} {A : Nat → Prop} {Q : State → Prop} {rest : List Value} {w : va_W} (hx : p.tables.exec = Jvm.exec) (hb : c.code = cc) {atype : ArrayType} (harr : (Cond.arrayClass (newarray.typeOf atype)).before args s = true) {ty : FieldType} (hty : newarray.typeOf atype = ty) (k : Nat) {cy : ClassId} (hk : (tyl y)[k]? = some (cy, ty)) (hno : ∀ C, ty ≠ .object C) (hK : va_K D vwCl (tyl y) s) (hP : va_P D vwCl w H) (hD : va_D A w) (hS : va_S A s.heap H locs) (hA : ∀ q, s.heap.size ≤ q → A q)
    {n : Int32} {N' : Nat} {a0 : vp_A} (ha : ∀ cA : ClassId, vp_cell cA a0 = arrV cA N' (fun _ => defaultValue ty)) (hn : ¬ n < 0) (hN : n.toNatClampNeg = N') (hbytes : N' * componentBytes ty ≤ 536870912) (hcells : cells + 1 ≤ R.cells) (hslots : slots + N' ≤ R.slots) (hdg : decode cc pc = .ok (.newarray atype, 2))
    (kk : ∀ (q : Nat) (H1 : Heap), va_P D vwCl (w ++ [(q, .inl (cy, a0))]) H1 → va_D A (w ++ [(q, .inl (cy, a0))]) → va_S A s.heap H1 locs → W p l e R s m args below meth c H1 locs (cells + 1) (slots + N') Q (F0 m (pc + 2) ls (.ref q :: rest))) : W p l e R s m args below meth c H locs cells slots Q (F0 m pc ls (.int n :: rest)) := by
  refine va_newa hx hb harr hty hK hP hD hS hA ha hn hN hbytes hcells hslots hdg (fun q cA H1 hK1 hP1 hD1 hS1 => ?_)
  have h1 := (hK1.2 (tyl y).length (cA, ty) (by rw [List.getElem?_append_right (Nat.le_refl _), Nat.sub_self]; rfl)).2
  have h2 := (hK.2 k (cy, ty) hk).2
  have e1 : s.vm.findClass ("[" ++ ty.toString) = some cA := by
    cases ty with
    | object C => exact absurd rfl (hno C)
    | _ => exact h1
  have e2 : s.vm.findClass ("[" ++ ty.toString) = some cy := by
    cases ty with
    | object C => exact absurd rfl (hno C)
    | _ => exact h2
  have e3 : cA = cy := Option.some.inj (e1.symm.trans e2)
  subst e3
  exact kk q H1 hP1 hD1 hS1
theorem newa_i {p : Program} {l : Launch} {e : Env} {R : Room} {s : State} {m : MethodId} {args : Array Value} {below : List Frame} {meth : Method} {c : Code} {H : Heap} {locs : List Loc} {cc : ByteArray} {pc cells slots : Nat} {ls : Array Slot} {D : va_G} {y : Nat → ClassId} {A : Nat → Prop} {Q : State → Prop} {rest : List Value} {w : va_W} (hx : p.tables.exec = Jvm.exec) (hb : c.code = cc) (harr : (Cond.arrayClass .int).before args s = true) (hK : va_K D vwCl (tyl y) s) (hP : va_P D vwCl w H) (hD : va_D A w) (hS : va_S A s.heap H locs) (hA : ∀ q, s.heap.size ≤ q → A q)
    {n : Int32} (N' : Nat) (hn : ¬ n < 0) (hN : n.toNatClampNeg = N') (hbytes : N' * componentBytes .int ≤ 536870912) (hcells : cells + 1 ≤ R.cells) (hslots : slots + N' ≤ R.slots) (hdg : decode cc pc = .ok (.newarray .int, 2))
    (kk : ∀ (q : Nat) (H1 : Heap), va_P D vwCl (w ++ [(q, .inl (y 0, (N', .inl (fun _ => 0))))]) H1 → va_D A (w ++ [(q, .inl (y 0, (N', .inl (fun _ => 0))))]) → va_S A s.heap H1 locs → W p l e R s m args below meth c H1 locs (cells + 1) (slots + N') Q (F0 m (pc + 2) ls (.ref q :: rest))) : W p l e R s m args below meth c H locs cells slots Q (F0 m pc ls (.int n :: rest)) :=
  va_newaY (atype := .int) (ty := .int) (a0 := (N', .inl (fun _ => 0))) hx hb harr rfl 0 rfl (fun _ h => by cases h) hK hP hD hS hA (fun cA => vp_cell_i cA N' (fun _ => 0)) hn hN hbytes hcells hslots hdg kk
theorem newa_l {p : Program} {l : Launch} {e : Env} {R : Room} {s : State} {m : MethodId} {args : Array Value} {below : List Frame} {meth : Method} {c : Code} {H : Heap} {locs : List Loc} {cc : ByteArray} {pc cells slots : Nat} {ls : Array Slot} {D : va_G} {y : Nat → ClassId} {A : Nat → Prop} {Q : State → Prop} {rest : List Value} {w : va_W} (hx : p.tables.exec = Jvm.exec) (hb : c.code = cc) (harr : (Cond.arrayClass .long).before args s = true) (hK : va_K D vwCl (tyl y) s) (hP : va_P D vwCl w H) (hD : va_D A w) (hS : va_S A s.heap H locs) (hA : ∀ q, s.heap.size ≤ q → A q)
    {n : Int32} (N' : Nat) (hn : ¬ n < 0) (hN : n.toNatClampNeg = N') (hbytes : N' * componentBytes .long ≤ 536870912) (hcells : cells + 1 ≤ R.cells) (hslots : slots + N' ≤ R.slots) (hdg : decode cc pc = .ok (.newarray .long, 2))
    (kk : ∀ (q : Nat) (H1 : Heap), va_P D vwCl (w ++ [(q, .inl (y 1, (N', .inr (.inl (fun _ => 0)))))]) H1 → va_D A (w ++ [(q, .inl (y 1, (N', .inr (.inl (fun _ => 0)))))]) → va_S A s.heap H1 locs → W p l e R s m args below meth c H1 locs (cells + 1) (slots + N') Q (F0 m (pc + 2) ls (.ref q :: rest))) : W p l e R s m args below meth c H locs cells slots Q (F0 m pc ls (.int n :: rest)) :=
  va_newaY (atype := .long) (ty := .long) (a0 := (N', .inr (.inl (fun _ => 0)))) hx hb harr rfl 1 rfl (fun _ h => by cases h) hK hP hD hS hA (fun cA => vp_cell_l cA N' (fun _ => 0)) hn hN hbytes hcells hslots hdg kk
theorem newa_c {p : Program} {l : Launch} {e : Env} {R : Room} {s : State} {m : MethodId} {args : Array Value} {below : List Frame} {meth : Method} {c : Code} {H : Heap} {locs : List Loc} {cc : ByteArray} {pc cells slots : Nat} {ls : Array Slot} {D : va_G} {y : Nat → ClassId} {A : Nat → Prop} {Q : State → Prop} {rest : List Value} {w : va_W} (hx : p.tables.exec = Jvm.exec) (hb : c.code = cc) (harr : (Cond.arrayClass .char).before args s = true) (hK : va_K D vwCl (tyl y) s) (hP : va_P D vwCl w H) (hD : va_D A w) (hS : va_S A s.heap H locs) (hA : ∀ q, s.heap.size ≤ q → A q)
    {n : Int32} (N' : Nat) (hn : ¬ n < 0) (hN : n.toNatClampNeg = N') (hbytes : N' * componentBytes .char ≤ 536870912) (hcells : cells + 1 ≤ R.cells) (hslots : slots + N' ≤ R.slots) (hdg : decode cc pc = .ok (.newarray .char, 2))
    (kk : ∀ (q : Nat) (H1 : Heap), va_P D vwCl (w ++ [(q, .inl (y 2, (N', .inl (fun _ => 0))))]) H1 → va_D A (w ++ [(q, .inl (y 2, (N', .inl (fun _ => 0))))]) → va_S A s.heap H1 locs → W p l e R s m args below meth c H1 locs (cells + 1) (slots + N') Q (F0 m (pc + 2) ls (.ref q :: rest))) : W p l e R s m args below meth c H locs cells slots Q (F0 m pc ls (.int n :: rest)) :=
  va_newaY (atype := .char) (ty := .char) (a0 := (N', .inl (fun _ => 0))) hx hb harr rfl 2 rfl (fun _ h => by cases h) hK hP hD hS hA (fun cA => vp_cell_i cA N' (fun _ => 0)) hn hN hbytes hcells hslots hdg kk
theorem newa_z {p : Program} {l : Launch} {e : Env} {R : Room} {s : State} {m : MethodId} {args : Array Value} {below : List Frame} {meth : Method} {c : Code} {H : Heap} {locs : List Loc} {cc : ByteArray} {pc cells slots : Nat} {ls : Array Slot} {D : va_G} {y : Nat → ClassId} {A : Nat → Prop} {Q : State → Prop} {rest : List Value} {w : va_W} (hx : p.tables.exec = Jvm.exec) (hb : c.code = cc) (harr : (Cond.arrayClass .boolean).before args s = true) (hK : va_K D vwCl (tyl y) s) (hP : va_P D vwCl w H) (hD : va_D A w) (hS : va_S A s.heap H locs) (hA : ∀ q, s.heap.size ≤ q → A q)
    {n : Int32} (N' : Nat) (hn : ¬ n < 0) (hN : n.toNatClampNeg = N') (hbytes : N' * componentBytes .boolean ≤ 536870912) (hcells : cells + 1 ≤ R.cells) (hslots : slots + N' ≤ R.slots) (hdg : decode cc pc = .ok (.newarray .boolean, 2))
    (kk : ∀ (q : Nat) (H1 : Heap), va_P D vwCl (w ++ [(q, .inl (y 3, (N', .inl (fun _ => 0))))]) H1 → va_D A (w ++ [(q, .inl (y 3, (N', .inl (fun _ => 0))))]) → va_S A s.heap H1 locs → W p l e R s m args below meth c H1 locs (cells + 1) (slots + N') Q (F0 m (pc + 2) ls (.ref q :: rest))) : W p l e R s m args below meth c H locs cells slots Q (F0 m pc ls (.int n :: rest)) :=
  va_newaY (atype := .boolean) (ty := .boolean) (a0 := (N', .inl (fun _ => 0))) hx hb harr rfl 3 rfl (fun _ h => by cases h) hK hP hD hS hA (fun cA => vp_cell_i cA N' (fun _ => 0)) hn hN hbytes hcells hslots hdg kk
theorem call_I {p : Program} {l : Launch} {e : Env} {R : Room} {s : State} {m : MethodId} {args : Array Value} {below : List Frame} {meth : Method} {c : Code} {H : Heap} {locs : List Loc} {Ts : List Cond} {own : String} {cc : ByteArray} {nL pc cells slots mc ms : Nat} {ls : Array Slot} {D : va_G} {y : Nat → ClassId} {A : Nat → Prop} {Q : State → Prop} {rest : List Value} {w : va_W} {rt : Option FieldType} {y' : MethodName} {ws' : List Cond} {rm : Room} {As : List Value} {wc wr : va_W} {wf : (Nat → Nat) → va_W} {index n maxL : Nat} {bytes : ByteArray} {b : Nat} (C : CX p s m args meth c Ts own cc nL rt)
    (hM : Met l y' ws' rm (va_Pc (.ref b :: As) (cPN D y wc H.size)) (QN D y (va_A wc H.size) b wf) mc ms (va_A wc H.size)) (cw : (CallB R s args own index y' bytes maxL none ws' rm mc ms n ∧ y'.name = "<init>" ∧ (Cond.instanceMethod y').before args s = true)) (hJ : NJ s) (hK : va_K D vwCl (tyl y) s) (hP : va_P D vwCl w H) (hD : va_D A w) (hS : va_S A s.heap H locs) (hA : ∀ q : Nat, s.heap.size ≤ q → A q) (isC isR : List Nat) (hC : isC.map (fun i => w[i]?) = wc.map some) (hCf : isC.filterMap (fun i => w[i]?) = wc) (hR : isR.map (fun i => w[i]?) = wr.map some) (hnC : va_nd isC = true) (hnR : va_nd isR = true) (hdis : ∀ i ∈ isR, i ∉ isC) (hn : As.length = n) (hls : ls.size = nL) (hrest : (rest.map fun v => v.category).sum ≤ 8) (d : decode cc pc = .ok (.invokespecial index, 3)) (hcs : cells + mc ≤ R.cells ∧ slots + ms ≤ R.slots)
    (kk : ∀ (q : Nat → Nat) (H1 : Heap) (locs1 : List Loc), q 0 = b → va_P D vwCl (wr ++ wf q) H1 → va_D A (wr ++ wf q) → va_S A s.heap H1 locs1 → W p l e R s m args below meth c H1 locs1 (cells + mc) (slots + ms) Q (F0 m (pc + 3) ls rest)) : W p l e R s m args below meth c H locs cells slots Q (F0 m pc ls (As.reverse ++ .ref b :: rest)) := by
  have hPc : va_P D vwCl wc H := hP.sub isC hCf
  have hDc : va_D A wc := hD.sub isC hnC hC
  have hFc := va_free (wc := wc) hD hS hA isC hC
  refine va_callv (va_runI (As := As) (rest := rest) C.1 hM cw ⟨cPN_blind, fun U hU hW => ⟨rfl, ⟨by rw [hU], by rw [hU]; exact hPc, va_K.moved hW.alike hK, hDc.weaken (fun _ _ _ _ => trivial)⟩, hJ.warm hW⟩⟩ rfl hn hls rfl (lv_room hrest) d hcs) hS (fun q _ h => hFc q h) hFc (fun u t H1 locs1 ht hvm hw hB hz1 hk1 hS1 => ?_)
  obtain ⟨q, hq, hP1, hK1, hD1⟩ := hB
  rw [ht] at hP1
  obtain ⟨hP2, hD2⟩ := va_join (wr := wr) (w1 := wf q) hP hD isC isR hC hR hnR hdis hk1 hFc hP1 hD1
  exact kk q H1 locs1 hq hP2 hD2 hS1
theorem call_IN {p : Program} {l : Launch} {e : Env} {R : Room} {s : State} {m : MethodId} {args : Array Value} {below : List Frame} {meth : Method} {c : Code} {H : Heap} {locs : List Loc} {Ts : List Cond} {own : String} {cc : ByteArray} {nL pc cells slots mc ms : Nat} {ls : Array Slot} {D : va_G} {y : Nat → ClassId} {A : Nat → Prop} {Q : State → Prop} {rest : List Value} {w : va_W} {rt : Option FieldType} {y' : MethodName} {ws' : List Cond} {rm : Room} {As : List Value} {wc wr : va_W} {wf : (Nat → Nat) → va_W} {index n maxL : Nat} {bytes : ByteArray} {b : Nat} {host : String} (C : CX p s m args meth c Ts own cc nL rt)
    (hM : Met l y' ws' rm (va_Pc (.ref b :: As) (cPN D y wc H.size)) (QN D y (va_A wc H.size) b wf) mc ms (va_A wc H.size)) (cw : (va_CN R s args own index y' host bytes maxL none ws' rm mc ms n ∧ y'.name = "<init>" ∧ (Cond.instanceMethod y').before args s = true)) (hJ : NJ s) (hK : va_K D vwCl (tyl y) s) (hP : va_P D vwCl w H) (hD : va_D A w) (hS : va_S A s.heap H locs) (hA : ∀ q : Nat, s.heap.size ≤ q → A q) (isC isR : List Nat) (hC : isC.map (fun i => w[i]?) = wc.map some) (hCf : isC.filterMap (fun i => w[i]?) = wc) (hR : isR.map (fun i => w[i]?) = wr.map some) (hnC : va_nd isC = true) (hnR : va_nd isR = true) (hdis : ∀ i ∈ isR, i ∉ isC) (hn : As.length = n) (hls : ls.size = nL) (hrest : (rest.map fun v => v.category).sum ≤ 8) (d : decode cc pc = .ok (.invokespecial index, 3)) (hcs : cells + mc ≤ R.cells ∧ slots + ms ≤ R.slots)
    (kk : ∀ (q : Nat → Nat) (H1 : Heap) (locs1 : List Loc), q 0 = b → va_P D vwCl (wr ++ wf q) H1 → va_D A (wr ++ wf q) → va_S A s.heap H1 locs1 → W p l e R s m args below meth c H1 locs1 (cells + mc) (slots + ms) Q (F0 m (pc + 3) ls rest)) : W p l e R s m args below meth c H locs cells slots Q (F0 m pc ls (As.reverse ++ .ref b :: rest)) := by
  have hPc : va_P D vwCl wc H := hP.sub isC hCf
  have hDc : va_D A wc := hD.sub isC hnC hC
  have hFc := va_free (wc := wc) hD hS hA isC hC
  refine va_callv (va_runIN (As := As) (rest := rest) C.1 hM cw ⟨cPN_blind, fun U hU hW => ⟨rfl, ⟨by rw [hU], by rw [hU]; exact hPc, va_K.moved hW.alike hK, hDc.weaken (fun _ _ _ _ => trivial)⟩, hJ.warm hW⟩⟩ rfl hn hls rfl (lv_room hrest) d hcs) hS (fun q _ h => hFc q h) hFc (fun u t H1 locs1 ht hvm hw hB hz1 hk1 hS1 => ?_)
  obtain ⟨q, hq, hP1, hK1, hD1⟩ := hB
  rw [ht] at hP1
  obtain ⟨hP2, hD2⟩ := va_join (wr := wr) (w1 := wf q) hP hD isC isR hC hR hnR hdis hk1 hFc hP1 hD1
  exact kk q H1 locs1 hq hP2 hD2 hS1
theorem pl0 {D : va_G} {cl : List vw_C} {w : va_W} {H : Heap} (h : va_P D cl w H) : va_P D cl (w ++ va_pl [] (fun _ => (.inr (0, []) : va_E))) H := by
  rw [show va_pl ([] : List Nat) (fun _ => (.inr (0, []) : va_E)) = [] from rfl, List.append_nil]; exact h
theorem pl0D {A : Nat → Prop} {w : va_W} (h : va_D A w) : va_D A (w ++ va_pl [] (fun _ => (.inr (0, []) : va_E))) := by
  rw [show va_pl ([] : List Nat) (fun _ => (.inr (0, []) : va_E)) = [] from rfl, List.append_nil]; exact h
theorem vr_all {l : List Nat} {f : Nat → va_E} {v : va_E} : va_pl ([] ++ l) (vr_up f l v) = l.map (fun a => (a, v)) := by
  unfold va_pl
  exact List.map_congr_left (fun a ha => by rw [vr_up_in (by simpa using ha)])
def qat (l : List Nat) (q : Nat → Nat) : Nat → Nat := fun i => if i < l.length then l.getD i 0 else q (i - l.length)
def qcat (n : Nat) (q1 q2 : Nat → Nat) : Nat → Nat := fun i => if i < n then q1 i else q2 (i - n)
theorem dfX3 : ∀ j, j < 3 → defaultValue (tyX3 j) = vp_V [.null, .null, .int 0] j := by
  intro j hj
  match j, hj with
  | 0, _ => rfl
  | 1, _ => rfl
  | 2, _ => rfl
  | k + 3, h => exact absurd h (by omega)
theorem dfX2 : ∀ j, j < 2 → defaultValue (tyX2 j) = vp_V [.null, .int 0] j := by
  intro j hj
  match j, hj with
  | 0, _ => rfl
  | 1, _ => rfl
  | k + 2, h => exact absurd h (by omega)
theorem dfX0 : ∀ j, j < 12 → defaultValue (tyX0 j) = vp_V [.null, .null, .null, .null, .null, .null, .null, .null, .null, .int 0, .int 0, .int 0] j := by
  intro j hj
  match j, hj with
  | 0, _ => rfl
  | 1, _ => rfl
  | 2, _ => rfl
  | 3, _ => rfl
  | 4, _ => rfl
  | 5, _ => rfl
  | 6, _ => rfl
  | 7, _ => rfl
  | 8, _ => rfl
  | 9, _ => rfl
  | 10, _ => rfl
  | 11, _ => rfl
  | k + 12, h => exact absurd h (by omega)
theorem dfX4 : ∀ j, j < 5 → defaultValue (tyX4 j) = vp_V [.null, .int 0, .int 0, .int 0, .int 0] j := by
  intro j hj
  match j, hj with
  | 0, _ => rfl
  | 1, _ => rfl
  | 2, _ => rfl
  | 3, _ => rfl
  | 4, _ => rfl
  | k + 5, h => exact absurd h (by omega)
theorem dfX5 : ∀ j, j < 3 → defaultValue (tyX5 j) = vp_V [.null, .null, .int 0] j := by
  intro j hj
  match j, hj with
  | 0, _ => rfl
  | 1, _ => rfl
  | 2, _ => rfl
  | k + 3, h => exact absurd h (by omega)
theorem dfX1 : ∀ j, j < 3 → defaultValue (tyX1 j) = vp_V [.null, .null, .int 0] j := by
  intro j hj
  match j, hj with
  | 0, _ => rfl
  | 1, _ => rfl
  | 2, _ => rfl
  | k + 3, h => exact absurd h (by omega)
theorem dfX6 : ∀ j, j < 5 → defaultValue (tyX6 j) = vp_V [.null, .null, .null, .null, .null] j := by
  intro j hj
  match j, hj with
  | 0, _ => rfl
  | 1, _ => rfl
  | 2, _ => rfl
  | 3, _ => rfl
  | 4, _ => rfl
  | k + 5, h => exact absurd h (by omega)
theorem dfX7 : ∀ j, j < 33 → defaultValue (tyX7 j) = vp_V [.int 0, .null, .int 0, .int 0, .int 0, .null, .null, .null, .null, .null, .null, .null, .null, .null, .null, .null, .null, .null, .null, .null, .int 0, .null, .null, .null, .int 0, .int 0, .int 0, .int 0, .long 0, .int 0, .null, .int 0, .int 0] j := by
  intro j hj
  match j, hj with
  | 0, _ => rfl
  | 1, _ => rfl
  | 2, _ => rfl
  | 3, _ => rfl
  | 4, _ => rfl
  | 5, _ => rfl
  | 6, _ => rfl
  | 7, _ => rfl
  | 8, _ => rfl
  | 9, _ => rfl
  | 10, _ => rfl
  | 11, _ => rfl
  | 12, _ => rfl
  | 13, _ => rfl
  | 14, _ => rfl
  | 15, _ => rfl
  | 16, _ => rfl
  | 17, _ => rfl
  | 18, _ => rfl
  | 19, _ => rfl
  | 20, _ => rfl
  | 21, _ => rfl
  | 22, _ => rfl
  | 23, _ => rfl
  | 24, _ => rfl
  | 25, _ => rfl
  | 26, _ => rfl
  | 27, _ => rfl
  | 28, _ => rfl
  | 29, _ => rfl
  | 30, _ => rfl
  | 31, _ => rfl
  | 32, _ => rfl
  | k + 33, h => exact absurd h (by omega)

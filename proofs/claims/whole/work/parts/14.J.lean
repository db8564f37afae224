def sLen : List Nat := [6, 4, 7, 4, 5, 5, 3]
def sByt : List (List Int32) := [[99, 111, 112, 112, 101, 114], [99, 111, 114, 101], [112, 114, 101, 112, 114, 101, 103], [109, 97, 115, 107], [115, 112, 97, 114, 101], [112, 114, 101, 115, 115], [118, 105, 97]]
def sIx (i : Nat) : Nat := 206 + 2 * i
def sTx : Nat → String := fun k => match k with
  | 0 => "copper"
  | 1 => "core"
  | 2 => "prepreg"
  | 3 => "mask"
  | 4 => "spare"
  | 5 => "press"
  | _ => "via"
/-- the words are in the heap, outside of A: their Strings at aK, the bytes at aV; what else the JDK's own methods read -/
def SJ (aK aV : Nat → Nat) (A : Nat → Prop) (U : State) (H : Heap) : Prop := (vk_S 7 sLen sByt aK aV A U H ∧ va_Z "java/lang/String" "COMPACT_STRINGS" "Z" (.int 1) A U H ∧ va_Zq "jdk/internal/util/Preconditions" "SIOOBE_FORMATTER" "Ljava/util/function/BiFunction;" A U H) ∧ (∀ i, i < 7 → vk_R RX6 (sIx i) (sTx i) (aK i) U) ∧ va_Nw (.methodLinkNest RX4 56 yX6_spellingOf RX6) U ∧ va_Nw (.methodLinkNest RX5 63 yX6_spellingOf RX6) U
theorem SJ.warm {aK aV : Nat → Nat} {A : Nat → Prop} {s U : State} {H : Heap} (hW : s.WarmedH U.vm) (h : SJ aK aV A s H) : SJ aK aV A U H := ⟨⟨vk_S.moved hW.alike h.1.1, va_Z.moved hW.alike h.1.2.1, va_Zq.moved hW.alike h.1.2.2⟩, fun i hi => vk_R.warm hW (h.2.1 i hi), va_Nw.warmM hW h.2.2.1, va_Nw.warmM hW h.2.2.2⟩
theorem SJ.same {aK aV : Nat → Nat} {A : Nat → Prop} {s U : State} {H : Heap} (hv : U.vm = s.vm) (h : SJ aK aV A s H) : SJ aK aV A U H := ⟨⟨vk_S.moved (by rw [hv]; exact Vm.Alike.refl _) h.1.1, va_Z.moved (by rw [hv]; exact Vm.Alike.refl _) h.1.2.1, va_Zq.moved (by rw [hv]; exact Vm.Alike.refl _) h.1.2.2⟩, fun i hi => vk_R.same hv (h.2.1 i hi), va_Nw.same rfl hv.symm h.2.2.1, va_Nw.same rfl hv.symm h.2.2.2⟩
theorem SJ.kept {aK aV : Nat → Nat} {A : Nat → Prop} {s : State} {H H1 : Heap} (hq : ∀ a : Nat, a < H.size → ¬ A a → H1[a]? = H[a]?) (h : SJ aK aV A s H) : SJ aK aV A s H1 := ⟨⟨h.1.1.kept hq, h.1.2.1.kept hq, h.1.2.2.kept hq⟩, h.2⟩
theorem SJ.narrow {aK aV : Nat → Nat} {A B : Nat → Prop} {s : State} {H : Heap} (hAB : ∀ q, B q → A q) (h : SJ aK aV A s H) : SJ aK aV B s H := ⟨⟨h.1.1.narrow hAB, h.1.2.1.narrow hAB, h.1.2.2.narrow hAB⟩, h.2⟩
/-- what a callee with the cells B starts with -/
theorem SJ.call {aK aV : Nat → Nat} {A B : Nat → Prop} {s U : State} {H : Heap} {locs : List Loc} (h : SJ aK aV A s s.heap) (hS : va_S A s.heap H locs) (hAB : ∀ q, B q → A q) (hU : U.heap = H) (hW : s.WarmedH U.vm) : SJ aK aV B U U.heap := by
  rw [hU]
  exact ((h.kept hS.2.1).narrow hAB).warm hW
def cPJ (D : va_G) (y : Nat → ClassId) (aK aV : Nat → Nat) (w : va_W) (sz : Nat) (U : State) : Prop := cP D y w sz U ∧ SJ aK aV (va_A w sz) U U.heap
theorem cPJ_blind {av : List Value} {D : va_G} {y : Nat → ClassId} {aK aV : Nat → Nat} {w : va_W} {sz : Nat} : FrameBlind (va_Pc av (cPJ D y aK aV w sz)) := fun a U g mk h => by
  obtain ⟨q0, ⟨q1, qP, qK, qD⟩, qJ⟩ := h
  exact ⟨q0, ⟨q1, qP, va_K.moved (u := U) (U := U.calling g mk a) (Vm.Alike.refl U.vm) qK, qD⟩, SJ.same (s := U) (U := U.calling g mk a) rfl qJ⟩
theorem met_ofJ {l : Launch} {y' : MethodName} {ws ws' : List Cond} {rm : Room} {av : List Value} {D : va_G} {y : Nat → ClassId} {aK aV : Nat → Nat} {w0 : va_W} {sz : Nat} {Qc : Array Value → State → Outcome → State → Prop} {cc : ByteArray} {maxL : Nat} {ret : Option FieldType} {own : String} (hy : plainName y'.cls = true) (ho : y'.cls = own) (hw : ws = Cond.code y' cc maxL ret :: ws') (hlen : (lg_sl av).length ≤ maxL)
    (body : ∀ (p : Program) (e : Env) (s : State) (m : MethodId) (below : List Frame) (meth : Method) (c : Code) (ls : Array Slot), CX p s m av.toArray meth c ws own cc maxL ret → s.heap.size = sz → va_K D vwCl (tyl y) s → va_P D vwCl w0 s.heap → va_D (va_A w0 sz) w0 → (∀ q : Nat, s.heap.size ≤ q → va_A w0 sz q) → va_S (va_A w0 sz) s.heap s.heap [] → SJ aK aV (va_A w0 sz) s s.heap → lv_has ls maxL (lv_args 0 av) → W p l e rm s m av.toArray below meth c s.heap [] 0 0 (MQ below Qc av.toArray s 0 0 (va_A w0 sz)) (F0 m 0 ls [])) : Met l y' ws rm (va_Pc av (cPJ D y aK aV w0 sz)) Qc 0 0 (va_A w0 sz) := by
  refine Met.ofW (cc := cc) (maxL := maxL) (ret := ret) hy hw ?_
  intro p e s m args below meth c s₁ B hml hv
  obtain ⟨rfl, ⟨hsz, hP, hK, hD0⟩, hJ⟩ := hv
  have hown : s.vm.findClass y'.cls = some m.cls := findClass_of_methodNamed B.named
  rw [ho] at hown
  rw [lg_entry_eq]
  exact body p e s m below meth c _ ⟨⟨B.exec, B.bytes, hml, hown, atoms_spec (ws := ws) B.pre⟩, B.returns, B.notSynchronized⟩ hsz hK hP hD0.self (fun q h => Or.inr (by rw [← hsz]; exact h)) va_S.rf hJ (lv_entry av hlen)
theorem end_n {p : Program} {l : Launch} {e : Env} {R : Room} {s : State} {m : MethodId} {args : Array Value} {below : List Frame} {meth : Method} {c : Code} {H : Heap} {locs : List Loc} {Ts : List Cond} {own : String} {cc : ByteArray} {nL pc : Nat} {ls : Array Slot} {D : va_G} {y : Nat → ClassId} {A : Nat → Prop} {w : va_W} {ty : FieldType} (C : CX p s m args meth c Ts own cc nL (some ty)) (hK : va_K D vwCl (tyl y) s) (hP : va_P D vwCl w H) (hD : va_D A w) (hS : va_S A s.heap H locs) {r : Int32} (hn : narrow ty (.int r) = .int r) (d : decode cc pc = .ok (.ireturn, 1)) : W p l e R s m args below meth c H locs 0 0 (MQ below (QI D y A r w) args s 0 0 A) (F0 m pc ls [.int r]) := by
  obtain ⟨⟨hx, hb, hml, hown, hts⟩, hr, hlocks⟩ := C
  exact W.zret hx hb hr hn (fun t ht hW => ⟨⟨r, (), rfl, rfl, by rw [ht]; exact hP, va_K.moved hW.alike hK, hD⟩, hS.F ht⟩) hS.2.2 d
theorem callJ_vi {p : Program} {l : Launch} {e : Env} {R : Room} {s : State} {m : MethodId} {args : Array Value} {below : List Frame} {meth : Method} {c : Code} {H : Heap} {locs : List Loc} {Ts : List Cond} {own : String} {cc : ByteArray} {nL pc : Nat} {ls : Array Slot} {D : va_G} {y : Nat → ClassId} {aK aV : Nat → Nat} {A : Nat → Prop} {w : va_W} {Q : State → Prop} {rt : Option FieldType} {y' : MethodName} {ws' : List Cond} {rm : Room} {As rest : List Value} {wc wr w1 : va_W} {C' : String} {b : Nat} {index n maxL : Nat} {bytes : ByteArray} {ret' : Option FieldType} {r : Int32} (C : CX p s m args meth c Ts own cc nL rt)
    (hM : Met l y' ws' rm (va_Pc (.ref b :: As) (cPJ D y aK aV wc H.size)) (QI D y (va_A wc H.size) r w1) 0 0 (va_A wc H.size)) (cw : CallW R s args own C' index y' bytes maxL ret' ws' rm 0 0 n) (hJ : SJ aK aV A s s.heap) (hK : va_K D vwCl (tyl y) s) (hP : va_P D vwCl w H) (hD : va_D A w) (hS : va_S A s.heap H locs) (hA : ∀ q : Nat, s.heap.size ≤ q → A q) (isC isR : List Nat) (hC : isC.map (fun i => w[i]?) = wc.map some) (hCf : isC.filterMap (fun i => w[i]?) = wc) (hR : isR.map (fun i => w[i]?) = wr.map some) (hnC : va_nd isC = true) (hnR : va_nd isR = true) (hdis : ∀ i ∈ isR, i ∉ isC) (hrcv : ∃ cell : Cell, H[b]? = some cell ∧ cell.vm.isStatics = false ∧ s.vm.findClass C' = some cell.cls) (hn : As.length = n) (hls : ls.size = nL) (hrest : (rest.map fun v => v.category).sum ≤ 8) (d : decode cc pc = .ok (.invokevirtual index, 3))
    (kk : ∀ (H1 : Heap) (locs1 : List Loc), va_P D vwCl (wr ++ w1) H1 → va_D A (wr ++ w1) → va_S A s.heap H1 locs1 → W p l e R s m args below meth c H1 locs1 0 0 Q (F0 m (pc + 3) ls (.int r :: rest))) : W p l e R s m args below meth c H locs 0 0 Q (F0 m pc ls (As.reverse ++ .ref b :: rest)) := by
  have hPc : va_P D vwCl wc H := hP.sub isC hCf
  have hDc : va_D A wc := hD.sub isC hnC hC
  have hFc := va_free (wc := wc) hD hS hA isC hC
  refine va_calli (va_runV (As := As) (rest := rest) C.1 hM cw ⟨cPJ_blind, hrcv, fun U hU hW => ⟨rfl, ⟨by rw [hU], by rw [hU]; exact hPc, va_K.moved hW.alike hK, hDc.weaken (fun _ _ _ _ => trivial)⟩, hJ.call hS hFc hU hW⟩⟩ rfl hn hls rfl (lv_room hrest) d ⟨Nat.zero_le _, Nat.zero_le _⟩) hS (fun q _ h => hFc q h) hFc (fun r' u t H1 locs1 ht hvm hw hB hz1 hk1 hS1 => ?_)
  subst hw
  obtain ⟨hP1, hK1, hD1⟩ := hB
  rw [ht] at hP1
  obtain ⟨hP2, hD2⟩ := va_join (wr := wr) (w1 := w1) hP hD isC isR hC hR hnR hdis hk1 hFc hP1 hD1
  exact kk H1 locs1 hP2 hD2 hS1
theorem callJ_vl {p : Program} {l : Launch} {e : Env} {R : Room} {s : State} {m : MethodId} {args : Array Value} {below : List Frame} {meth : Method} {c : Code} {H : Heap} {locs : List Loc} {Ts : List Cond} {own : String} {cc : ByteArray} {nL pc : Nat} {ls : Array Slot} {D : va_G} {y : Nat → ClassId} {aK aV : Nat → Nat} {A : Nat → Prop} {w : va_W} {Q : State → Prop} {rt : Option FieldType} {y' : MethodName} {ws' : List Cond} {rm : Room} {As rest : List Value} {wc wr w1 : va_W} {C' : String} {b : Nat} {index n maxL : Nat} {bytes : ByteArray} {ret' : Option FieldType} {r : Int64} (C : CX p s m args meth c Ts own cc nL rt)
    (hM : Met l y' ws' rm (va_Pc (.ref b :: As) (cPJ D y aK aV wc H.size)) (QL D y (va_A wc H.size) r w1) 0 0 (va_A wc H.size)) (cw : CallW R s args own C' index y' bytes maxL ret' ws' rm 0 0 n) (hJ : SJ aK aV A s s.heap) (hK : va_K D vwCl (tyl y) s) (hP : va_P D vwCl w H) (hD : va_D A w) (hS : va_S A s.heap H locs) (hA : ∀ q : Nat, s.heap.size ≤ q → A q) (isC isR : List Nat) (hC : isC.map (fun i => w[i]?) = wc.map some) (hCf : isC.filterMap (fun i => w[i]?) = wc) (hR : isR.map (fun i => w[i]?) = wr.map some) (hnC : va_nd isC = true) (hnR : va_nd isR = true) (hdis : ∀ i ∈ isR, i ∉ isC) (hrcv : ∃ cell : Cell, H[b]? = some cell ∧ cell.vm.isStatics = false ∧ s.vm.findClass C' = some cell.cls) (hn : As.length = n) (hls : ls.size = nL) (hrest : (rest.map fun v => v.category).sum ≤ 8) (d : decode cc pc = .ok (.invokevirtual index, 3))
    (kk : ∀ (H1 : Heap) (locs1 : List Loc), va_P D vwCl (wr ++ w1) H1 → va_D A (wr ++ w1) → va_S A s.heap H1 locs1 → W p l e R s m args below meth c H1 locs1 0 0 Q (F0 m (pc + 3) ls (.long r :: rest))) : W p l e R s m args below meth c H locs 0 0 Q (F0 m pc ls (As.reverse ++ .ref b :: rest)) := by
  have hPc : va_P D vwCl wc H := hP.sub isC hCf
  have hDc : va_D A wc := hD.sub isC hnC hC
  have hFc := va_free (wc := wc) hD hS hA isC hC
  refine va_calll (va_runV (As := As) (rest := rest) C.1 hM cw ⟨cPJ_blind, hrcv, fun U hU hW => ⟨rfl, ⟨by rw [hU], by rw [hU]; exact hPc, va_K.moved hW.alike hK, hDc.weaken (fun _ _ _ _ => trivial)⟩, hJ.call hS hFc hU hW⟩⟩ rfl hn hls rfl (lv_room hrest) d ⟨Nat.zero_le _, Nat.zero_le _⟩) hS (fun q _ h => hFc q h) hFc (fun r' u t H1 locs1 ht hvm hw hB hz1 hk1 hS1 => ?_)
  subst hw
  obtain ⟨hP1, hK1, hD1⟩ := hB
  rw [ht] at hP1
  obtain ⟨hP2, hD2⟩ := va_join (wr := wr) (w1 := w1) hP hD isC isR hC hR hnR hdis hk1 hFc hP1 hD1
  exact kk H1 locs1 hP2 hD2 hS1
theorem callJ_vv {p : Program} {l : Launch} {e : Env} {R : Room} {s : State} {m : MethodId} {args : Array Value} {below : List Frame} {meth : Method} {c : Code} {H : Heap} {locs : List Loc} {Ts : List Cond} {own : String} {cc : ByteArray} {nL pc : Nat} {ls : Array Slot} {D : va_G} {y : Nat → ClassId} {aK aV : Nat → Nat} {A : Nat → Prop} {w : va_W} {Q : State → Prop} {rt : Option FieldType} {y' : MethodName} {ws' : List Cond} {rm : Room} {As rest : List Value} {wc wr w1 : va_W} {C' : String} {b : Nat} {index n maxL : Nat} {bytes : ByteArray} {ret' : Option FieldType}  (C : CX p s m args meth c Ts own cc nL rt)
    (hM : Met l y' ws' rm (va_Pc (.ref b :: As) (cPJ D y aK aV wc H.size)) (QV D y (va_A wc H.size) w1) 0 0 (va_A wc H.size)) (cw : CallW R s args own C' index y' bytes maxL ret' ws' rm 0 0 n) (hJ : SJ aK aV A s s.heap) (hK : va_K D vwCl (tyl y) s) (hP : va_P D vwCl w H) (hD : va_D A w) (hS : va_S A s.heap H locs) (hA : ∀ q : Nat, s.heap.size ≤ q → A q) (isC isR : List Nat) (hC : isC.map (fun i => w[i]?) = wc.map some) (hCf : isC.filterMap (fun i => w[i]?) = wc) (hR : isR.map (fun i => w[i]?) = wr.map some) (hnC : va_nd isC = true) (hnR : va_nd isR = true) (hdis : ∀ i ∈ isR, i ∉ isC) (hrcv : ∃ cell : Cell, H[b]? = some cell ∧ cell.vm.isStatics = false ∧ s.vm.findClass C' = some cell.cls) (hn : As.length = n) (hls : ls.size = nL) (hrest : (rest.map fun v => v.category).sum ≤ 8) (d : decode cc pc = .ok (.invokevirtual index, 3))
    (kk : ∀ (H1 : Heap) (locs1 : List Loc), va_P D vwCl (wr ++ w1) H1 → va_D A (wr ++ w1) → va_S A s.heap H1 locs1 → W p l e R s m args below meth c H1 locs1 0 0 Q (F0 m (pc + 3) ls (rest))) : W p l e R s m args below meth c H locs 0 0 Q (F0 m pc ls (As.reverse ++ .ref b :: rest)) := by
  have hPc : va_P D vwCl wc H := hP.sub isC hCf
  have hDc : va_D A wc := hD.sub isC hnC hC
  have hFc := va_free (wc := wc) hD hS hA isC hC
  refine va_callv (va_runV (As := As) (rest := rest) C.1 hM cw ⟨cPJ_blind, hrcv, fun U hU hW => ⟨rfl, ⟨by rw [hU], by rw [hU]; exact hPc, va_K.moved hW.alike hK, hDc.weaken (fun _ _ _ _ => trivial)⟩, hJ.call hS hFc hU hW⟩⟩ rfl hn hls rfl (lv_room hrest) d ⟨Nat.zero_le _, Nat.zero_le _⟩) hS (fun q _ h => hFc q h) hFc (fun u t H1 locs1 ht hvm hw hB hz1 hk1 hS1 => ?_)
  obtain ⟨hP1, hK1, hD1⟩ := hB
  rw [ht] at hP1
  obtain ⟨hP2, hD2⟩ := va_join (wr := wr) (w1 := w1) hP hD isC isR hC hR hnR hdis hk1 hFc hP1 hD1
  exact kk H1 locs1 hP2 hD2 hS1
theorem callJ_si {p : Program} {l : Launch} {e : Env} {R : Room} {s : State} {m : MethodId} {args : Array Value} {below : List Frame} {meth : Method} {c : Code} {H : Heap} {locs : List Loc} {Ts : List Cond} {own : String} {cc : ByteArray} {nL pc : Nat} {ls : Array Slot} {D : va_G} {y : Nat → ClassId} {aK aV : Nat → Nat} {A : Nat → Prop} {w : va_W} {Q : State → Prop} {rt : Option FieldType} {y' : MethodName} {ws' : List Cond} {rm : Room} {As rest : List Value} {wc wr w1 : va_W} {index n maxL : Nat} {bytes : ByteArray} {ret' : Option FieldType} {r : Int32} (C : CX p s m args meth c Ts own cc nL rt)
    (hM : Met l y' ws' rm (va_Pc (As) (cPJ D y aK aV wc H.size)) (QI D y (va_A wc H.size) r w1) 0 0 (va_A wc H.size)) (cw : CallB R s args own index y' bytes maxL ret' ws' rm 0 0 n ∧ (Cond.static y').before args s = true) (hJ : SJ aK aV A s s.heap) (hK : va_K D vwCl (tyl y) s) (hP : va_P D vwCl w H) (hD : va_D A w) (hS : va_S A s.heap H locs) (hA : ∀ q : Nat, s.heap.size ≤ q → A q) (isC isR : List Nat) (hC : isC.map (fun i => w[i]?) = wc.map some) (hCf : isC.filterMap (fun i => w[i]?) = wc) (hR : isR.map (fun i => w[i]?) = wr.map some) (hnC : va_nd isC = true) (hnR : va_nd isR = true) (hdis : ∀ i ∈ isR, i ∉ isC) (hn : As.length = n) (hls : ls.size = nL) (hrest : (rest.map fun v => v.category).sum ≤ 8) (d : decode cc pc = .ok (.invokestatic index, 3))
    (kk : ∀ (H1 : Heap) (locs1 : List Loc), va_P D vwCl (wr ++ w1) H1 → va_D A (wr ++ w1) → va_S A s.heap H1 locs1 → W p l e R s m args below meth c H1 locs1 0 0 Q (F0 m (pc + 3) ls (.int r :: rest))) : W p l e R s m args below meth c H locs 0 0 Q (F0 m pc ls (As.reverse ++ rest)) := by
  have hPc : va_P D vwCl wc H := hP.sub isC hCf
  have hDc : va_D A wc := hD.sub isC hnC hC
  have hFc := va_free (wc := wc) hD hS hA isC hC
  refine va_calli (va_runS (As := As) (rest := rest) C.1 hM cw ⟨cPJ_blind, fun U hU hW => ⟨rfl, ⟨by rw [hU], by rw [hU]; exact hPc, va_K.moved hW.alike hK, hDc.weaken (fun _ _ _ _ => trivial)⟩, hJ.call hS hFc hU hW⟩⟩ rfl hn hls rfl (lv_room hrest) d ⟨Nat.zero_le _, Nat.zero_le _⟩) hS (fun q _ h => hFc q h) hFc (fun r' u t H1 locs1 ht hvm hw hB hz1 hk1 hS1 => ?_)
  subst hw
  obtain ⟨hP1, hK1, hD1⟩ := hB
  rw [ht] at hP1
  obtain ⟨hP2, hD2⟩ := va_join (wr := wr) (w1 := w1) hP hD isC isR hC hR hnR hdis hk1 hFc hP1 hD1
  exact kk H1 locs1 hP2 hD2 hS1
theorem callJ_sl {p : Program} {l : Launch} {e : Env} {R : Room} {s : State} {m : MethodId} {args : Array Value} {below : List Frame} {meth : Method} {c : Code} {H : Heap} {locs : List Loc} {Ts : List Cond} {own : String} {cc : ByteArray} {nL pc : Nat} {ls : Array Slot} {D : va_G} {y : Nat → ClassId} {aK aV : Nat → Nat} {A : Nat → Prop} {w : va_W} {Q : State → Prop} {rt : Option FieldType} {y' : MethodName} {ws' : List Cond} {rm : Room} {As rest : List Value} {wc wr w1 : va_W} {index n maxL : Nat} {bytes : ByteArray} {ret' : Option FieldType} {r : Int64} (C : CX p s m args meth c Ts own cc nL rt)
    (hM : Met l y' ws' rm (va_Pc (As) (cPJ D y aK aV wc H.size)) (QL D y (va_A wc H.size) r w1) 0 0 (va_A wc H.size)) (cw : CallB R s args own index y' bytes maxL ret' ws' rm 0 0 n ∧ (Cond.static y').before args s = true) (hJ : SJ aK aV A s s.heap) (hK : va_K D vwCl (tyl y) s) (hP : va_P D vwCl w H) (hD : va_D A w) (hS : va_S A s.heap H locs) (hA : ∀ q : Nat, s.heap.size ≤ q → A q) (isC isR : List Nat) (hC : isC.map (fun i => w[i]?) = wc.map some) (hCf : isC.filterMap (fun i => w[i]?) = wc) (hR : isR.map (fun i => w[i]?) = wr.map some) (hnC : va_nd isC = true) (hnR : va_nd isR = true) (hdis : ∀ i ∈ isR, i ∉ isC) (hn : As.length = n) (hls : ls.size = nL) (hrest : (rest.map fun v => v.category).sum ≤ 8) (d : decode cc pc = .ok (.invokestatic index, 3))
    (kk : ∀ (H1 : Heap) (locs1 : List Loc), va_P D vwCl (wr ++ w1) H1 → va_D A (wr ++ w1) → va_S A s.heap H1 locs1 → W p l e R s m args below meth c H1 locs1 0 0 Q (F0 m (pc + 3) ls (.long r :: rest))) : W p l e R s m args below meth c H locs 0 0 Q (F0 m pc ls (As.reverse ++ rest)) := by
  have hPc : va_P D vwCl wc H := hP.sub isC hCf
  have hDc : va_D A wc := hD.sub isC hnC hC
  have hFc := va_free (wc := wc) hD hS hA isC hC
  refine va_calll (va_runS (As := As) (rest := rest) C.1 hM cw ⟨cPJ_blind, fun U hU hW => ⟨rfl, ⟨by rw [hU], by rw [hU]; exact hPc, va_K.moved hW.alike hK, hDc.weaken (fun _ _ _ _ => trivial)⟩, hJ.call hS hFc hU hW⟩⟩ rfl hn hls rfl (lv_room hrest) d ⟨Nat.zero_le _, Nat.zero_le _⟩) hS (fun q _ h => hFc q h) hFc (fun r' u t H1 locs1 ht hvm hw hB hz1 hk1 hS1 => ?_)
  subst hw
  obtain ⟨hP1, hK1, hD1⟩ := hB
  rw [ht] at hP1
  obtain ⟨hP2, hD2⟩ := va_join (wr := wr) (w1 := w1) hP hD isC isR hC hR hnR hdis hk1 hFc hP1 hD1
  exact kk H1 locs1 hP2 hD2 hS1
theorem callJ_sv {p : Program} {l : Launch} {e : Env} {R : Room} {s : State} {m : MethodId} {args : Array Value} {below : List Frame} {meth : Method} {c : Code} {H : Heap} {locs : List Loc} {Ts : List Cond} {own : String} {cc : ByteArray} {nL pc : Nat} {ls : Array Slot} {D : va_G} {y : Nat → ClassId} {aK aV : Nat → Nat} {A : Nat → Prop} {w : va_W} {Q : State → Prop} {rt : Option FieldType} {y' : MethodName} {ws' : List Cond} {rm : Room} {As rest : List Value} {wc wr w1 : va_W} {index n maxL : Nat} {bytes : ByteArray} {ret' : Option FieldType}  (C : CX p s m args meth c Ts own cc nL rt)
    (hM : Met l y' ws' rm (va_Pc (As) (cPJ D y aK aV wc H.size)) (QV D y (va_A wc H.size) w1) 0 0 (va_A wc H.size)) (cw : CallB R s args own index y' bytes maxL ret' ws' rm 0 0 n ∧ (Cond.static y').before args s = true) (hJ : SJ aK aV A s s.heap) (hK : va_K D vwCl (tyl y) s) (hP : va_P D vwCl w H) (hD : va_D A w) (hS : va_S A s.heap H locs) (hA : ∀ q : Nat, s.heap.size ≤ q → A q) (isC isR : List Nat) (hC : isC.map (fun i => w[i]?) = wc.map some) (hCf : isC.filterMap (fun i => w[i]?) = wc) (hR : isR.map (fun i => w[i]?) = wr.map some) (hnC : va_nd isC = true) (hnR : va_nd isR = true) (hdis : ∀ i ∈ isR, i ∉ isC) (hn : As.length = n) (hls : ls.size = nL) (hrest : (rest.map fun v => v.category).sum ≤ 8) (d : decode cc pc = .ok (.invokestatic index, 3))
    (kk : ∀ (H1 : Heap) (locs1 : List Loc), va_P D vwCl (wr ++ w1) H1 → va_D A (wr ++ w1) → va_S A s.heap H1 locs1 → W p l e R s m args below meth c H1 locs1 0 0 Q (F0 m (pc + 3) ls (rest))) : W p l e R s m args below meth c H locs 0 0 Q (F0 m pc ls (As.reverse ++ rest)) := by
  have hPc : va_P D vwCl wc H := hP.sub isC hCf
  have hDc : va_D A wc := hD.sub isC hnC hC
  have hFc := va_free (wc := wc) hD hS hA isC hC
  refine va_callv (va_runS (As := As) (rest := rest) C.1 hM cw ⟨cPJ_blind, fun U hU hW => ⟨rfl, ⟨by rw [hU], by rw [hU]; exact hPc, va_K.moved hW.alike hK, hDc.weaken (fun _ _ _ _ => trivial)⟩, hJ.call hS hFc hU hW⟩⟩ rfl hn hls rfl (lv_room hrest) d ⟨Nat.zero_le _, Nat.zero_le _⟩) hS (fun q _ h => hFc q h) hFc (fun u t H1 locs1 ht hvm hw hB hz1 hk1 hS1 => ?_)
  obtain ⟨hP1, hK1, hD1⟩ := hB
  rw [ht] at hP1
  obtain ⟨hP2, hD2⟩ := va_join (wr := wr) (w1 := w1) hP hD isC isR hC hR hnR hdis hk1 hFc hP1 hD1
  exact kk H1 locs1 hP2 hD2 hS1
set_option maxHeartbeats 4000000 in
set_option maxRecDepth 100000 in
theorem c_J0_coder_7d493 (l : Launch) (D : va_G) (y : Nat → ClassId) (aK aV : Nat → Nat) (sz : Nat) {i : Nat} (hi : i < 7) : Met l yJ0_coder_7d493 wsJ0_coder_7d493 ({ frames := 0, cells := 0, slots := 0, locals := 0 } : Room) (va_Pc [.ref (aK i)] (cPJ D y aK aV ([] : va_W) sz)) (QI D y (va_A ([] : va_W) sz) 0 ([] : va_W)) 0 0 (va_A ([] : va_W) sz) := by
  refine met_ofJ (own := RJ0) (cc := cJ0_coder_7d493) (maxL := 1) (ret := (some .byte)) (by decide) rfl rfl (Nat.le_of_ble_eq_true rfl) ?_
  intro p e s m below meth c ls C hsz hK hP hD hA hS hJ hl
  obtain ⟨⟨hx, hb, hml, hown, hts⟩, hr, hlocks⟩ := id C
  generalize va_A ([] : va_W) sz = A at hD hA hS hJ ⊢
  generalize ([.ref (aK i)] : List Value).toArray = args at C hts ⊢
  have hl : lv_has ls 1 [(0, .ref (aK i))] := hl
  refine va_gets hx hb hJ.1.2.1 hS hown (hts (Cond.fieldLink RJ0 38 "java/lang/String" "COMPACT_STRINGS" "Z") (by decide +kernel)) (fun _ h9 => h9) dJ0_coder_7d493_0 ?_
  refine lv_if_eq (tgt := 13) hx hb dJ0_coder_7d493_3 (by decide) (fun h => absurd h (by decide)) (fun _ => ?_)
  refine lv_aload_n hx hb dJ0_coder_7d493_6 rfl (lv_at hl 0 rfl) ?_
  refine vk_getf hx hb (hJ.1.1.1 i hi).2.1 hS hown (hts (Cond.fieldLink RJ0 15 "java/lang/String" "coder" "B") (by decide +kernel)) (fun _ h9 => h9) dJ0_coder_7d493_7 ?_
  refine lv_goto (tgt := 14) hx hb dJ0_coder_7d493_10 (by decide) ?_
  exact end_n C hK hP hD hS (by decide) dJ0_coder_7d493_14
set_option maxHeartbeats 4000000 in
set_option maxRecDepth 100000 in
theorem c_J0_isLatin1_aae02 (l : Launch) (D : va_G) (y : Nat → ClassId) (aK aV : Nat → Nat) (sz : Nat) {i : Nat} (hi : i < 7) : Met l yJ0_isLatin1_aae02 wsJ0_isLatin1_aae02 ({ frames := 0, cells := 0, slots := 0, locals := 0 } : Room) (va_Pc [.ref (aK i)] (cPJ D y aK aV ([] : va_W) sz)) (QI D y (va_A ([] : va_W) sz) 1 ([] : va_W)) 0 0 (va_A ([] : va_W) sz) := by
  refine met_ofJ (own := RJ0) (cc := cJ0_isLatin1_aae02) (maxL := 1) (ret := (some .boolean)) (by decide) rfl rfl (Nat.le_of_ble_eq_true rfl) ?_
  intro p e s m below meth c ls C hsz hK hP hD hA hS hJ hl
  obtain ⟨⟨hx, hb, hml, hown, hts⟩, hr, hlocks⟩ := id C
  generalize va_A ([] : va_W) sz = A at hD hA hS hJ ⊢
  generalize ([.ref (aK i)] : List Value).toArray = args at C hts ⊢
  have hl : lv_has ls 1 [(0, .ref (aK i))] := hl
  refine va_gets hx hb hJ.1.2.1 hS hown (hts (Cond.fieldLink RJ0 38 "java/lang/String" "COMPACT_STRINGS" "Z") (by decide +kernel)) (fun _ h9 => h9) dJ0_isLatin1_aae02_0 ?_
  refine lv_if_eq (tgt := 17) hx hb dJ0_isLatin1_aae02_3 (by decide) (fun h => absurd h (by decide)) (fun _ => ?_)
  refine lv_aload_n hx hb dJ0_isLatin1_aae02_6 rfl (lv_at hl 0 rfl) ?_
  refine vk_getf hx hb (hJ.1.1.1 i hi).2.1 hS hown (hts (Cond.fieldLink RJ0 15 "java/lang/String" "coder" "B") (by decide +kernel)) (fun _ h9 => h9) dJ0_isLatin1_aae02_7 ?_
  refine lv_if_ne (tgt := 17) hx hb dJ0_isLatin1_aae02_10 (by decide) (fun h => absurd rfl h) (fun _ => ?_)
  refine lv_iconst (v := (1 : Int32)) hx hb dJ0_isLatin1_aae02_13 (by decide) ?_
  refine lv_goto (tgt := 18) hx hb dJ0_isLatin1_aae02_14 (by decide) ?_
  exact end_n C hK hP hD hS (by decide) dJ0_isLatin1_aae02_18
set_option maxHeartbeats 4000000 in
set_option maxRecDepth 100000 in
theorem c_J0_length_8abf5 (l : Launch) (D : va_G) (y : Nat → ClassId) (aK aV : Nat → Nat) (sz : Nat) {i : Nat} (hi : i < 7) : Met l yJ0_length_8abf5 wsJ0_length_8abf5 ({ frames := 1, cells := 0, slots := 0, locals := 20 } : Room) (va_Pc [.ref (aK i)] (cPJ D y aK aV ([] : va_W) sz)) (QI D y (va_A ([] : va_W) sz) (Int32.ofNat (sLen.getD i 0)) ([] : va_W)) 0 0 (va_A ([] : va_W) sz) := by
  refine met_ofJ (own := RJ0) (cc := cJ0_length_8abf5) (maxL := 1) (ret := (some .int)) (by decide) rfl rfl (Nat.le_of_ble_eq_true rfl) ?_
  intro p e s m below meth c ls C hsz hK hP hD hA hS hJ hl
  obtain ⟨⟨hx, hb, hml, hown, hts⟩, hr, hlocks⟩ := id C
  generalize va_A ([] : va_W) sz = A at hD hA hS hJ ⊢
  generalize ([.ref (aK i)] : List Value).toArray = args at C hts ⊢
  have hl : lv_has ls 1 [(0, .ref (aK i))] := hl
  refine lv_aload_n hx hb dJ0_length_8abf5_0 rfl (lv_at hl 0 rfl) ?_
  refine vk_getf hx hb (hJ.1.1.1 i hi).2.2.1 hS hown (hts (Cond.fieldLink RJ0 9 "java/lang/String" "value" "[B") (by decide +kernel)) (fun _ h9 => h9) dJ0_length_8abf5_1 ?_
  refine va_tlen (v := Int32.ofNat (sLen.getD i 0)) hx hb (hJ.1.1.1 i hi).2.2.2 hS rfl dJ0_length_8abf5_4 ?_
  refine lv_aload_n hx hb dJ0_length_8abf5_5 rfl (lv_at hl 0 rfl) ?_
  refine callJ_vi (wc := ([] : va_W)) (wr := ([] : va_W)) (As := []) (rest := [.int (Int32.ofNat (sLen.getD i 0))]) C (c_J0_coder_7d493 l D y aK aV _ hi) (cwV 0 hts gJ0_length_8abf5_J0_coder_7d493 rfl rfl rfl (by decide +kernel) ⟨Nat.le_of_ble_eq_true rfl, Nat.le_of_ble_eq_true rfl⟩) hJ hK hP hD hS hA [] [] rfl rfl rfl rfl rfl (by decide) (vk_recv hJ.1.1 hi hS) rfl hl.1 (Nat.le_of_ble_eq_true rfl) dJ0_length_8abf5_6 (fun H locs hP hD hS => ?_)
  refine lv_ishr hx hb dJ0_length_8abf5_9 ?_
  rw [sb_shr0]
  exact end_i C hK hP hD hS dJ0_length_8abf5_10
set_option maxHeartbeats 4000000 in
set_option maxRecDepth 100000 in
theorem c_J3_checkIndex_8e157'n (l : Launch) (D : va_G) (y : Nat → ClassId) (aK aV : Nat → Nat) (sz : Nat) {i0 n0 : Int32} (h0 : ¬ i0 < 0) (h1 : i0 < n0) : Met l yJ3_checkIndex_8e157 wsJ3_checkIndex_8e157 ({ frames := 0, cells := 0, slots := 0, locals := 0 } : Room) (va_Pc [.int i0, .int n0, .null] (cPJ D y aK aV ([] : va_W) sz)) (QI D y (va_A ([] : va_W) sz) i0 ([] : va_W)) 0 0 (va_A ([] : va_W) sz) := by
  refine met_ofJ (own := RJ3) (cc := cJ3_checkIndex_8e157) (maxL := 3) (ret := (some .int)) (by decide) rfl rfl (Nat.le_of_ble_eq_true rfl) ?_
  intro p e s m below meth c ls C hsz hK hP hD hA hS hJ hl
  obtain ⟨⟨hx, hb, hml, hown, hts⟩, hr, hlocks⟩ := id C
  generalize va_A ([] : va_W) sz = A at hD hA hS hJ ⊢
  generalize ([.int i0, .int n0, .null] : List Value).toArray = args at C hts ⊢
  have hl : lv_has ls 3 [(0, .int i0), (1, .int n0), (2, .null)] := hl
  refine lv_iload_n hx hb dJ3_checkIndex_8e157_0 rfl (lv_at hl 0 rfl) ?_
  refine lv_if_lt (tgt := 9) hx hb dJ3_checkIndex_8e157_1 (by decide) (fun h => absurd h h0) (fun _ => ?_)
  refine lv_iload_n hx hb dJ3_checkIndex_8e157_4 rfl (lv_at hl 0 rfl) ?_
  refine lv_iload_n hx hb dJ3_checkIndex_8e157_5 rfl (lv_at hl 1 rfl) ?_
  refine lv_icmp_lt (tgt := 16) hx hb dJ3_checkIndex_8e157_6 (by decide) (fun _ => ?_) (fun h => absurd h1 h)
  refine lv_iload_n hx hb dJ3_checkIndex_8e157_16 rfl (lv_at hl 0 rfl) ?_
  exact end_i C hK hP hD hS dJ3_checkIndex_8e157_17
set_option maxHeartbeats 4000000 in
set_option maxRecDepth 100000 in
theorem c_J3_checkIndex_8e157'r (l : Launch) (D : va_G) (y : Nat → ClassId) (aK aV : Nat → Nat) (sz : Nat) {i0 n0 : Int32} {t9 : Nat} (h0 : ¬ i0 < 0) (h1 : i0 < n0) : Met l yJ3_checkIndex_8e157 wsJ3_checkIndex_8e157 ({ frames := 0, cells := 0, slots := 0, locals := 0 } : Room) (va_Pc [.int i0, .int n0, .ref t9] (cPJ D y aK aV ([] : va_W) sz)) (QI D y (va_A ([] : va_W) sz) i0 ([] : va_W)) 0 0 (va_A ([] : va_W) sz) := by
  refine met_ofJ (own := RJ3) (cc := cJ3_checkIndex_8e157) (maxL := 3) (ret := (some .int)) (by decide) rfl rfl (Nat.le_of_ble_eq_true rfl) ?_
  intro p e s m below meth c ls C hsz hK hP hD hA hS hJ hl
  obtain ⟨⟨hx, hb, hml, hown, hts⟩, hr, hlocks⟩ := id C
  generalize va_A ([] : va_W) sz = A at hD hA hS hJ ⊢
  generalize ([.int i0, .int n0, .ref t9] : List Value).toArray = args at C hts ⊢
  have hl : lv_has ls 3 [(0, .int i0), (1, .int n0), (2, .ref t9)] := hl
  refine lv_iload_n hx hb dJ3_checkIndex_8e157_0 rfl (lv_at hl 0 rfl) ?_
  refine lv_if_lt (tgt := 9) hx hb dJ3_checkIndex_8e157_1 (by decide) (fun h => absurd h h0) (fun _ => ?_)
  refine lv_iload_n hx hb dJ3_checkIndex_8e157_4 rfl (lv_at hl 0 rfl) ?_
  refine lv_iload_n hx hb dJ3_checkIndex_8e157_5 rfl (lv_at hl 1 rfl) ?_
  refine lv_icmp_lt (tgt := 16) hx hb dJ3_checkIndex_8e157_6 (by decide) (fun _ => ?_) (fun h => absurd h1 h)
  refine lv_iload_n hx hb dJ3_checkIndex_8e157_16 rfl (lv_at hl 0 rfl) ?_
  exact end_i C hK hP hD hS dJ3_checkIndex_8e157_17
set_option maxHeartbeats 4000000 in
set_option maxRecDepth 100000 in
theorem c_J0_checkIndex_df160 (l : Launch) (D : va_G) (y : Nat → ClassId) (aK aV : Nat → Nat) (sz : Nat) {i0 n0 : Int32} (h0 : ¬ i0 < 0) (h1 : i0 < n0) : Met l yJ0_checkIndex_df160 wsJ0_checkIndex_df160 ({ frames := 1, cells := 0, slots := 0, locals := 22 } : Room) (va_Pc [.int i0, .int n0] (cPJ D y aK aV ([] : va_W) sz)) (QV D y (va_A ([] : va_W) sz) ([] : va_W)) 0 0 (va_A ([] : va_W) sz) := by
  refine met_ofJ (own := RJ0) (cc := cJ0_checkIndex_df160) (maxL := 2) (ret := none) (by decide) rfl rfl (Nat.le_of_ble_eq_true rfl) ?_
  intro p e s m below meth c ls C hsz hK hP hD hA hS hJ hl
  obtain ⟨⟨hx, hb, hml, hown, hts⟩, hr, hlocks⟩ := id C
  generalize va_A ([] : va_W) sz = A at hD hA hS hJ ⊢
  generalize ([.int i0, .int n0] : List Value).toArray = args at C hts ⊢
  have hl : lv_has ls 2 [(0, .int i0), (1, .int n0)] := hl
  refine lv_iload_n hx hb dJ0_checkIndex_df160_0 rfl (lv_at hl 0 rfl) ?_
  refine lv_iload_n hx hb dJ0_checkIndex_df160_1 rfl (lv_at hl 1 rfl) ?_
  rcases hJ.1.2.2 with hZ | ⟨t9, hZ⟩
  · refine va_gets hx hb hZ hS hown (hts (Cond.fieldLink RJ0 1053 "jdk/internal/util/Preconditions" "SIOOBE_FORMATTER" "Ljava/util/function/BiFunction;") (by decide +kernel)) (fun _ h9 => h9) dJ0_checkIndex_df160_2 ?_
    refine callJ_si (wc := ([] : va_W)) (wr := ([] : va_W)) (As := [.int i0, .int n0, .null]) (rest := []) C (c_J3_checkIndex_8e157'n l D y aK aV _ h0 h1) (va_cwS 3 hts gJ0_checkIndex_df160_J3_checkIndex_8e157 rfl rfl rfl (by decide +kernel) ⟨Nat.le_of_ble_eq_true rfl, Nat.le_of_ble_eq_true rfl⟩) hJ hK hP hD hS hA [] [] rfl rfl rfl rfl rfl (by decide) rfl hl.1 (Nat.le_of_ble_eq_true rfl) dJ0_checkIndex_df160_5 (fun H locs hP hD hS => ?_)
    refine lv_pop hx hb dJ0_checkIndex_df160_8 rfl ?_
    exact end_v C hK hP hD hS dJ0_checkIndex_df160_9
  · refine va_gets hx hb hZ hS hown (hts (Cond.fieldLink RJ0 1053 "jdk/internal/util/Preconditions" "SIOOBE_FORMATTER" "Ljava/util/function/BiFunction;") (by decide +kernel)) (fun _ h9 => h9) dJ0_checkIndex_df160_2 ?_
    refine callJ_si (wc := ([] : va_W)) (wr := ([] : va_W)) (As := [.int i0, .int n0, .ref t9]) (rest := []) C (c_J3_checkIndex_8e157'r l D y aK aV _ h0 h1) (va_cwS 3 hts gJ0_checkIndex_df160_J3_checkIndex_8e157 rfl rfl rfl (by decide +kernel) ⟨Nat.le_of_ble_eq_true rfl, Nat.le_of_ble_eq_true rfl⟩) hJ hK hP hD hS hA [] [] rfl rfl rfl rfl rfl (by decide) rfl hl.1 (Nat.le_of_ble_eq_true rfl) dJ0_checkIndex_df160_5 (fun H locs hP hD hS => ?_)
    refine lv_pop hx hb dJ0_checkIndex_df160_8 rfl ?_
    exact end_v C hK hP hD hS dJ0_checkIndex_df160_9
def sCh (i : Nat) (k : Int32) : Int32 := (((((sByt.getD i []).getD k.toNatClampNeg 0) &&& 255).toUInt32 % 65536).toInt32)
theorem s7 {i : Nat} (hi : i < 7) : sLen.getD i 0 < 2 ^ 31 := by
  match i, hi with
  | 0, _ => decide
  | 1, _ => decide
  | 2, _ => decide
  | 3, _ => decide
  | 4, _ => decide
  | 5, _ => decide
  | 6, _ => decide
theorem inb_ok {i : Int32} {n : Nat} (hn : n < 2 ^ 31) (h : inb i n) : ¬ i < 0 ∧ i < Int32.ofNat n := by
  obtain ⟨j, hj, rfl⟩ := vp_in_of h hn
  exact ⟨nI_pos (by omega), nI_lt hj hn⟩
set_option maxHeartbeats 4000000 in
set_option maxRecDepth 100000 in
theorem c_J1_charAt_3b067 (l : Launch) (D : va_G) (y : Nat → ClassId) (aK aV : Nat → Nat) (sz : Nat) {i : Nat} {k0 : Int32} (hi : i < 7) (hk : inb k0 (sLen.getD i 0)) : Met l yJ1_charAt_3b067 wsJ1_charAt_3b067 ({ frames := 2, cells := 0, slots := 0, locals := 43 } : Room) (va_Pc [.ref (aV i), .int k0] (cPJ D y aK aV ([] : va_W) sz)) (QI D y (va_A ([] : va_W) sz) (sCh i k0) ([] : va_W)) 0 0 (va_A ([] : va_W) sz) := by
  refine met_ofJ (own := RJ1) (cc := cJ1_charAt_3b067) (maxL := 2) (ret := (some .char)) (by decide) rfl rfl (Nat.le_of_ble_eq_true rfl) ?_
  intro p e s m below meth c ls C hsz hK hP hD hA hS hJ hl
  obtain ⟨⟨hx, hb, hml, hown, hts⟩, hr, hlocks⟩ := id C
  generalize va_A ([] : va_W) sz = A at hD hA hS hJ ⊢
  generalize ([.ref (aV i), .int k0] : List Value).toArray = args at C hts ⊢
  have hl : lv_has ls 2 [(0, .ref (aV i)), (1, .int k0)] := hl
  obtain ⟨h0, h1⟩ := inb_ok (s7 hi) hk
  refine lv_iload_n hx hb dJ1_charAt_3b067_0 rfl (lv_at hl 1 rfl) ?_
  refine lv_aload_n hx hb dJ1_charAt_3b067_1 rfl (lv_at hl 0 rfl) ?_
  refine va_tlen (v := Int32.ofNat (sLen.getD i 0)) hx hb (hJ.1.1.1 i hi).2.2.2 hS rfl dJ1_charAt_3b067_2 ?_
  refine callJ_sv (wc := ([] : va_W)) (wr := ([] : va_W)) (As := [.int k0, .int (Int32.ofNat (sLen.getD i 0))]) (rest := []) C (c_J0_checkIndex_df160 l D y aK aV _ h0 h1) (va_cwS 2 hts gJ1_charAt_3b067_J0_checkIndex_df160 rfl rfl rfl (by decide +kernel) ⟨Nat.le_of_ble_eq_true rfl, Nat.le_of_ble_eq_true rfl⟩) hJ hK hP hD hS hA [] [] rfl rfl rfl rfl rfl (by decide) rfl hl.1 (Nat.le_of_ble_eq_true rfl) dJ1_charAt_3b067_3 (fun H locs hP hD hS => ?_)
  refine lv_aload_n hx hb dJ1_charAt_3b067_6 rfl (lv_at hl 0 rfl) ?_
  refine lv_iload_n hx hb dJ1_charAt_3b067_7 rfl (lv_at hl 1 rfl) ?_
  refine va_tb (v := .int ((sByt.getD i []).getD k0.toNatClampNeg 0)) hx hb (hJ.1.1.1 i hi).2.2.2 hS hk rfl dJ1_charAt_3b067_8 ?_
  refine lv_sipush (v := (255 : Int32)) hx hb dJ1_charAt_3b067_9 (by decide) ?_
  refine lv_iand hx hb dJ1_charAt_3b067_12 ?_
  refine lv_i2c (v := sCh i k0) hx hb dJ1_charAt_3b067_13 rfl ?_
  exact end_n C hK hP hD hS (pk_nc _) dJ1_charAt_3b067_14
set_option maxHeartbeats 4000000 in
set_option maxRecDepth 100000 in
theorem c_J0_charAt_5068e (l : Launch) (D : va_G) (y : Nat → ClassId) (aK aV : Nat → Nat) (sz : Nat) {i : Nat} {k0 : Int32} (hi : i < 7) (hk : inb k0 (sLen.getD i 0)) : Met l yJ0_charAt_5068e wsJ0_charAt_5068e ({ frames := 3, cells := 0, slots := 0, locals := 64 } : Room) (va_Pc [.ref (aK i), .int k0] (cPJ D y aK aV ([] : va_W) sz)) (QI D y (va_A ([] : va_W) sz) (sCh i k0) ([] : va_W)) 0 0 (va_A ([] : va_W) sz) := by
  refine met_ofJ (own := RJ0) (cc := cJ0_charAt_5068e) (maxL := 2) (ret := (some .char)) (by decide) rfl rfl (Nat.le_of_ble_eq_true rfl) ?_
  intro p e s m below meth c ls C hsz hK hP hD hA hS hJ hl
  obtain ⟨⟨hx, hb, hml, hown, hts⟩, hr, hlocks⟩ := id C
  generalize va_A ([] : va_W) sz = A at hD hA hS hJ ⊢
  generalize ([.ref (aK i), .int k0] : List Value).toArray = args at C hts ⊢
  have hl : lv_has ls 2 [(0, .ref (aK i)), (1, .int k0)] := hl
  refine lv_aload_n hx hb dJ0_charAt_5068e_0 rfl (lv_at hl 0 rfl) ?_
  refine callJ_vi (wc := ([] : va_W)) (wr := ([] : va_W)) (As := []) (rest := []) C (c_J0_isLatin1_aae02 l D y aK aV _ hi) (cwV 0 hts gJ0_charAt_5068e_J0_isLatin1_aae02 rfl rfl rfl (by decide +kernel) ⟨Nat.le_of_ble_eq_true rfl, Nat.le_of_ble_eq_true rfl⟩) hJ hK hP hD hS hA [] [] rfl rfl rfl rfl rfl (by decide) (vk_recv hJ.1.1 hi hS) rfl hl.1 (Nat.le_of_ble_eq_true rfl) dJ0_charAt_5068e_1 (fun H locs hP hD hS => ?_)
  refine lv_if_eq (tgt := 16) hx hb dJ0_charAt_5068e_4 (by decide) (fun h => absurd h (by decide)) (fun _ => ?_)
  refine lv_aload_n hx hb dJ0_charAt_5068e_7 rfl (lv_at hl 0 rfl) ?_
  refine vk_getf hx hb (hJ.1.1.1 i hi).2.2.1 hS hown (hts (Cond.fieldLink RJ0 9 "java/lang/String" "value" "[B") (by decide +kernel)) (fun _ h9 => h9) dJ0_charAt_5068e_8 ?_
  refine lv_iload_n hx hb dJ0_charAt_5068e_11 rfl (lv_at hl 1 rfl) ?_
  refine callJ_si (wc := ([] : va_W)) (wr := ([] : va_W)) (As := [.ref (aV i), .int k0]) (rest := []) C (c_J1_charAt_3b067 l D y aK aV _ hi hk) (va_cwS 2 hts gJ0_charAt_5068e_J1_charAt_3b067 rfl rfl rfl (by decide +kernel) ⟨Nat.le_of_ble_eq_true rfl, Nat.le_of_ble_eq_true rfl⟩) hJ hK hP hD hS hA [] [] rfl rfl rfl rfl rfl (by decide) rfl hl.1 (Nat.le_of_ble_eq_true rfl) dJ0_charAt_5068e_12 (fun H locs hP hD hS => ?_)
  exact end_n C hK hP hD hS (pk_nc _) dJ0_charAt_5068e_15
def spl (v : Int32) : Nat := if v = 0 then 0 else if v = 1 then 1 else if v = 2 then 2 else if v = 3 then 3 else if v = 4 then 4 else if v = 5 then 5 else 6
theorem spl_lt (v : Int32) : spl v < 7 := by unfold spl; repeat' split
                                             all_goals decide
abbrev QS (D : va_G) (y : Nat → ClassId) (A : Nat → Prop) (a : Nat) (w : va_W) : Array Value → State → Outcome → State → Prop := va_Qr (fun (_ : Unit) => True) (fun (_ : Unit) (a' : Nat) (t : State) => a' = a ∧ cB D y A w t) A
theorem end_a {p : Program} {l : Launch} {e : Env} {R : Room} {s : State} {m : MethodId} {args : Array Value} {below : List Frame} {meth : Method} {c : Code} {H : Heap} {locs : List Loc} {Ts : List Cond} {own : String} {cc : ByteArray} {nL pc : Nat} {ls : Array Slot} {D : va_G} {y : Nat → ClassId} {A : Nat → Prop} {w : va_W} {n9 : String} (C : CX p s m args meth c Ts own cc nL (some (.object n9))) (hK : va_K D vwCl (tyl y) s) (hP : va_P D vwCl w H) (hD : va_D A w) (hS : va_S A s.heap H locs) {a b : Nat} (hab : b = a) (d : decode cc pc = .ok (.areturn, 1)) : W p l e R s m args below meth c H locs 0 0 (MQ below (QS D y A a w) args s 0 0 A) (F0 m pc ls [.ref b]) := by
  subst hab
  obtain ⟨⟨hx, hb, hml, hown, hts⟩, hr, hlocks⟩ := C
  exact W.aret hx hb hr (Or.inl ⟨_, rfl⟩) (Or.inr ⟨_, rfl⟩) (fun t ht hW => ⟨⟨(), b, rfl, trivial, rfl, by rw [ht]; exact hP, va_K.moved hW.alike hK, hD⟩, hS.F ht⟩) hS.2.2 d
set_option maxHeartbeats 4000000 in
set_option maxRecDepth 100000 in
theorem c_X6_spellingOf (l : Launch) (D : va_G) (y : Nat → ClassId) (aK aV : Nat → Nat) (sz : Nat) (v0 : Int32) : Met l yX6_spellingOf wsX6_spellingOf ({ frames := 0, cells := 0, slots := 0, locals := 0 } : Room) (va_Pc [.int v0] (cPJ D y aK aV ([] : va_W) sz)) (QS D y (va_A ([] : va_W) sz) (aK (spl v0)) ([] : va_W)) 0 0 (va_A ([] : va_W) sz) := by
  refine met_ofJ (own := RX6) (cc := cX6_spellingOf) (maxL := 1) (ret := (some (.object "java/lang/String"))) (by decide) rfl rfl (Nat.le_of_ble_eq_true rfl) ?_
  intro p e s m below meth c ls C hsz hK hP hD hA hS hJ hl
  obtain ⟨⟨hx, hb, hml, hown, hts⟩, hr, hlocks⟩ := id C
  generalize va_A ([] : va_W) sz = A at hD hA hS hJ ⊢
  generalize ([.int v0] : List Value).toArray = args at C hts ⊢
  have hl : lv_has ls 1 [(0, .int v0)] := hl
  refine lv_iload_n hx hb dX6_spellingOf_0 rfl (lv_at hl 0 rfl) ?_
  by_cases h0 : v0 = (0 : Int32)
  · refine ts_in (k := (0 : Int32)) (tgt := 40) hx hb dX6_spellingOf_1 h0 (by decide) (by decide) rfl (by decide) ?_
    refine va_ldcS hx hb hown (hJ.2.1 0 (by decide)) dX6_spellingOf_40 ?_
    exact end_a C hK hP hD hS (by rw [h0]; rfl) dX6_spellingOf_42
  · skip
    by_cases h1 : v0 = (1 : Int32)
    · refine ts_in (k := (1 : Int32)) (tgt := 43) hx hb dX6_spellingOf_1 h1 (by decide) (by decide) rfl (by decide) ?_
      refine va_ldcS hx hb hown (hJ.2.1 1 (by decide)) dX6_spellingOf_43 ?_
      exact end_a C hK hP hD hS (by rw [h1]; rfl) dX6_spellingOf_45
    · skip
      by_cases h2 : v0 = (2 : Int32)
      · refine ts_in (k := (2 : Int32)) (tgt := 46) hx hb dX6_spellingOf_1 h2 (by decide) (by decide) rfl (by decide) ?_
        refine va_ldcS hx hb hown (hJ.2.1 2 (by decide)) dX6_spellingOf_46 ?_
        exact end_a C hK hP hD hS (by rw [h2]; rfl) dX6_spellingOf_48
      · skip
        by_cases h3 : v0 = (3 : Int32)
        · refine ts_in (k := (3 : Int32)) (tgt := 49) hx hb dX6_spellingOf_1 h3 (by decide) (by decide) rfl (by decide) ?_
          refine va_ldcS hx hb hown (hJ.2.1 3 (by decide)) dX6_spellingOf_49 ?_
          exact end_a C hK hP hD hS (by rw [h3]; rfl) dX6_spellingOf_51
        · skip
          by_cases h4 : v0 = (4 : Int32)
          · refine ts_in (k := (4 : Int32)) (tgt := 52) hx hb dX6_spellingOf_1 h4 (by decide) (by decide) rfl (by decide) ?_
            refine va_ldcS hx hb hown (hJ.2.1 4 (by decide)) dX6_spellingOf_52 ?_
            exact end_a C hK hP hD hS (by rw [h4]; rfl) dX6_spellingOf_54
          · skip
            by_cases h5 : v0 = (5 : Int32)
            · refine ts_in (k := (5 : Int32)) (tgt := 55) hx hb dX6_spellingOf_1 h5 (by decide) (by decide) rfl (by decide) ?_
              refine va_ldcS hx hb hown (hJ.2.1 5 (by decide)) dX6_spellingOf_55 ?_
              exact end_a C hK hP hD hS (by rw [h5]; rfl) dX6_spellingOf_57
            · skip
              refine lv_tableOut (tgt := 58) hx hb dX6_spellingOf_1 (ts_out6 h0 h1 h2 h3 h4 h5) (by decide) ?_
              refine va_ldcS hx hb hown (hJ.2.1 6 (by decide)) dX6_spellingOf_58 ?_
              exact end_a C hK hP hD hS (by simp only [spl, h0, h1, h2, h3, h4, h5, if_false]) dX6_spellingOf_60
theorem call_spell {p : Program} {l : Launch} {e : Env} {R : Room} {s : State} {m : MethodId} {args : Array Value} {below : List Frame} {meth : Method} {c : Code} {H : Heap} {locs : List Loc} {Ts : List Cond} {own : String} {cc : ByteArray} {nL pc : Nat} {ls : Array Slot} {D : va_G} {y : Nat → ClassId} {aK aV : Nat → Nat} {A : Nat → Prop} {w : va_W} {Q : State → Prop} {rt : Option FieldType} {rest : List Value} {index : Nat} {v0 : Int32} (C : CX p s m args meth c Ts own cc nL rt) (hN : va_Nw (.methodLinkNest own index yX6_spellingOf RX6) s) (hG : GoodIn Ts wsX6_spellingOf) (hst : (Cond.static yX6_spellingOf).before args s = true) (hini : (Cond.initialized RX6).before args s = true) (hR : 1 ≤ R.frames ∧ 20 ≤ R.locals) (hJ : SJ aK aV A s s.heap) (hK : va_K D vwCl (tyl y) s) (hP : va_P D vwCl w H) (hD : va_D A w) (hS : va_S A s.heap H locs) (hA : ∀ q : Nat, s.heap.size ≤ q → A q) (hls : ls.size = nL) (hrest : (rest.map fun v => v.category).sum ≤ 8) (d : decode cc pc = .ok (.invokestatic index, 3))
    (kk : ∀ (H1 : Heap) (locs1 : List Loc), va_P D vwCl w H1 → va_D A w → va_S A s.heap H1 locs1 → W p l e R s m args below meth c H1 locs1 0 0 Q (F0 m (pc + 3) ls (.ref (aK (spl v0)) :: rest))) : W p l e R s m args below meth c H locs 0 0 Q (F0 m pc ls (.int v0 :: rest)) := by
  have hFc : ∀ q, va_A ([] : va_W) H.size q → A q := va_free (wc := ([] : va_W)) hD hS hA [] rfl
  refine va_callr (va_runSN (As := [.int v0]) (rest := rest) C.1 (c_X6_spellingOf l D y aK aV H.size v0) ⟨va_cnB 1 C.1.2.2.2.2 hG rfl rfl rfl hN hini (by decide +kernel) hR, hst, trivial⟩ ⟨cPJ_blind, fun U hU hW => ⟨rfl, ⟨by rw [hU], fun k q h => by simp at h, va_K.moved hW.alike hK, ⟨fun i j p q h => by simp at h, fun k q h => by simp at h⟩⟩, hJ.call hS hFc hU hW⟩⟩ rfl rfl hls rfl (lv_room hrest) d ⟨Nat.zero_le _, Nat.zero_le _⟩) hS (fun q _ h => hFc q h) hFc (fun u ra t H1 locs1 ht hvm hw hB hz1 hk1 hS1 => ?_)
  obtain ⟨rfl, hP1, hK1, hD1⟩ := hB
  refine kk H1 locs1 ?_ hD hS1
  intro k q hk
  have hlt := (hP k q hk).lt
  exact (hP k q hk).kept (hk1 q.1 hlt (fun z => by
    rcases z with ⟨k9, e9, h9⟩ | h9
    · simp at h9
    · omega))

def excs : List String := ["java/lang/IndexOutOfBoundsException", "java/lang/IllegalStateException", "java/lang/IllegalArgumentException"]
def sups : List String := ["java/lang/RuntimeException", "java/lang/Exception", Bundle.tN]
def exN (k : Nat) : String := match k with
  | 1 => "java/lang/IndexOutOfBoundsException"
  | 2 => "java/lang/IllegalStateException"
  | _ => "java/lang/IllegalArgumentException"
def msgT : List (Nat × String) := [(74, "a spare layer has no thickness"), (124, "no such pressing, or nothing such to tell of it"), (144, "no share of a whole"), (161, "no bounds of a thickness"), (183, "no character ahead of the first one"), (188, "no stack"), (190, "no such layer"), (195, "no such copper layer"), (198, "no such list"), (200, "no such end or part")]
/-- what a throw reads: Throwable's two statics, the messages, that each class is castable to itself -/
def TJ (tA : Nat → Nat) (A : Nat → Prop) (U : State) (H : Heap) : Prop := (vx_Zq Bundle.tN "UNASSIGNED_STACK" Bundle.steD A U H ∧ vx_Zq Bundle.tN "SUPPRESSED_SENTINEL" Bundle.listD A U H) ∧ (∀ k ∈ msgT, vk_R RX6 k.1 k.2 (tA k.1) U) ∧ (∀ X ∈ excs, va_Nw (.castable X X) U) ∧ ∀ Y ∈ sups, va_Nw (.declares (Bundle.initS Y)) U
/-- the words of a throw that aren't good ones -/
def excW (k : Nat) : List Cond := [.castable (exN k) (exN k), .declares (Bundle.initS "java/lang/RuntimeException"), .declares (Bundle.initS "java/lang/Exception"), .declares (Bundle.initS Bundle.tN)]
theorem TJ.warm {tA : Nat → Nat} {A : Nat → Prop} {s U : State} {H : Heap} (hW : s.WarmedH U.vm) (h : TJ tA A s H) : TJ tA A U H := ⟨⟨vx_Zq.moved hW.alike h.1.1, vx_Zq.moved hW.alike h.1.2⟩, fun k hk => vk_R.warm hW (h.2.1 k hk), fun X hX => va_Nw.warmC hW (h.2.2.1 X hX), fun Y hY => va_Nw.warmD hW (h.2.2.2 Y hY)⟩
theorem TJ.same {tA : Nat → Nat} {A : Nat → Prop} {s U : State} {H : Heap} (hv : U.vm = s.vm) (h : TJ tA A s H) : TJ tA A U H := ⟨⟨vx_Zq.moved (by rw [hv]; exact Vm.Alike.refl _) h.1.1, vx_Zq.moved (by rw [hv]; exact Vm.Alike.refl _) h.1.2⟩, fun k hk => vk_R.same hv (h.2.1 k hk), fun X hX => va_Nw.same rfl hv.symm (h.2.2.1 X hX), fun Y hY => va_Nw.same rfl hv.symm (h.2.2.2 Y hY)⟩
theorem TJ.call {tA : Nat → Nat} {A B : Nat → Prop} {s U : State} {H : Heap} {locs : List Loc} (h : TJ tA A s s.heap) (hS : va_S A s.heap H locs) (hAB : ∀ q, B q → A q) (hU : U.heap = H) (hW : s.WarmedH U.vm) : TJ tA B U U.heap := by
  rw [hU]
  exact TJ.warm hW ⟨⟨(h.1.1.kept hS.2.1).narrow hAB, (h.1.2.kept hS.2.1).narrow hAB⟩, h.2⟩
def cPX (D : va_G) (y : Nat → ClassId) (aK aV tA : Nat → Nat) (w : va_W) (sz : Nat) (U : State) : Prop := cP D y w sz U ∧ SJ aK aV (va_A w sz) U U.heap ∧ TJ tA (va_A w sz) U U.heap
theorem cPX_blind {av : List Value} {D : va_G} {y : Nat → ClassId} {aK aV tA : Nat → Nat} {w : va_W} {sz : Nat} : FrameBlind (va_Pc av (cPX D y aK aV tA w sz)) := fun a U g mk h => by
  obtain ⟨q0, ⟨q1, qP, qK, qD⟩, qJ, qT⟩ := h
  exact ⟨q0, ⟨q1, qP, va_K.moved (u := U) (U := U.calling g mk a) (Vm.Alike.refl U.vm) qK, qD⟩, SJ.same (s := U) (U := U.calling g mk a) rfl qJ, TJ.same (s := U) (U := U.calling g mk a) rfl qT⟩
abbrev TI (D : va_G) (y : Nat → ClassId) (A : Nat → Prop) (cd : Nat) (r : Int32) (w : va_W) : Array Value → State → Outcome → State → Prop := va_Qi (fun (r' : Int32) (_ : Unit) => cd = 0 ∧ r' = r) (fun (_ : Unit) (t : State) => cB D y A w t) A
abbrev TL (D : va_G) (y : Nat → ClassId) (A : Nat → Prop) (cd : Nat) (r : Int64) (w : va_W) : Array Value → State → Outcome → State → Prop := va_Ql (fun (r' : Int64) (_ : Unit) => cd = 0 ∧ r' = r) (fun (_ : Unit) (t : State) => cB D y A w t) A
abbrev TV (D : va_G) (y : Nat → ClassId) (A : Nat → Prop) (cd : Nat) (w : va_W) : Array Value → State → Outcome → State → Prop := va_Qv (fun (_ : Unit) => cd = 0) (fun (_ : Unit) (t : State) => cB D y A w t) A
abbrev XT (D : va_G) (y : Nat → ClassId) (A : Nat → Prop) (cd : Nat) (w : va_W) : String → State → State → Prop := vx_X (fun (_ : Unit) => ¬ cd = 0) (fun (E : String) (_ : Unit) (t : State) => E = exN cd ∧ cB D y A w t) A
/-- a method that may throw, from its start; it has no table of its own -/
theorem met_ofT {l : Launch} {y' : MethodName} {ws ws' : List Cond} {rm : Room} {av : List Value} {D : va_G} {y : Nat → ClassId} {aK aV tA : Nat → Nat} {w0 : va_W} {sz mc ms : Nat} {Qc : Array Value → State → Outcome → State → Prop} {XC : String → State → State → Prop} {cc : ByteArray} {maxL : Nat} {ret : Option FieldType} {own : String} (hy : plainName y'.cls = true) (ho : y'.cls = own) (hw : ws = Cond.code y' cc maxL ret :: ws') (hlen : (lg_sl av).length ≤ maxL)
    (body : ∀ (p : Program) (e : Env) (s : State) (m : MethodId) (below : List Frame) (meth : Method) (c : Code) (ls : Array Slot), CX p s m av.toArray meth c ws own cc maxL ret → (∀ x ∈ c.exceptionTable.toList, False) → s.heap.size = sz → va_K D vwCl (tyl y) s → va_P D vwCl w0 s.heap → va_D (va_A w0 sz) w0 → (∀ q : Nat, s.heap.size ≤ q → va_A w0 sz q) → va_S (va_A w0 sz) s.heap s.heap [] → SJ aK aV (va_A w0 sz) s s.heap → TJ tA (va_A w0 sz) s s.heap → lv_has ls maxL (lv_args 0 av) → W p l e rm s m av.toArray below meth c s.heap [] 0 0 (vx_MQ below Qc XC av.toArray s mc ms (va_A w0 sz)) (F0 m 0 ls [])) : vx_Met l y' ws rm (va_Pc av (cPX D y aK aV tA w0 sz)) Qc XC mc ms (va_A w0 sz) := by
  refine vx_ofW (cc := cc) (maxL := maxL) (ret := ret) hy hw ?_
  intro p e s m args below meth c s₁ B hml hex hv
  obtain ⟨rfl, ⟨hsz, hP, hK, hD0⟩, hJ, hT⟩ := hv
  have hown : s.vm.findClass y'.cls = some m.cls := findClass_of_methodNamed B.named
  rw [ho] at hown
  rw [lg_entry_eq]
  exact body p e s m below meth c _ ⟨⟨B.exec, B.bytes, hml, hown, atoms_spec (ws := ws) B.pre⟩, B.returns, B.notSynchronized⟩ hex hsz hK hP hD0.self (fun q h => Or.inr (by rw [← hsz]; exact h)) va_S.rf hJ hT (lv_entry av hlen)
/-- the same where it never throws -/
theorem met_ofX {l : Launch} {y' : MethodName} {ws ws' : List Cond} {rm : Room} {av : List Value} {D : va_G} {y : Nat → ClassId} {aK aV tA : Nat → Nat} {w0 : va_W} {sz mc ms : Nat} {Qc : Array Value → State → Outcome → State → Prop} {cc : ByteArray} {maxL : Nat} {ret : Option FieldType} {own : String} (hy : plainName y'.cls = true) (ho : y'.cls = own) (hw : ws = Cond.code y' cc maxL ret :: ws') (hlen : (lg_sl av).length ≤ maxL)
    (body : ∀ (p : Program) (e : Env) (s : State) (m : MethodId) (below : List Frame) (meth : Method) (c : Code) (ls : Array Slot), CX p s m av.toArray meth c ws own cc maxL ret → s.heap.size = sz → va_K D vwCl (tyl y) s → va_P D vwCl w0 s.heap → va_D (va_A w0 sz) w0 → (∀ q : Nat, s.heap.size ≤ q → va_A w0 sz q) → va_S (va_A w0 sz) s.heap s.heap [] → SJ aK aV (va_A w0 sz) s s.heap → TJ tA (va_A w0 sz) s s.heap → lv_has ls maxL (lv_args 0 av) → W p l e rm s m av.toArray below meth c s.heap [] 0 0 (MQ below Qc av.toArray s mc ms (va_A w0 sz)) (F0 m 0 ls [])) : Met l y' ws rm (va_Pc av (cPX D y aK aV tA w0 sz)) Qc mc ms (va_A w0 sz) := by
  refine Met.ofW (cc := cc) (maxL := maxL) (ret := ret) hy hw ?_
  intro p e s m args below meth c s₁ B hml hv
  obtain ⟨rfl, ⟨hsz, hP, hK, hD0⟩, hJ, hT⟩ := hv
  have hown : s.vm.findClass y'.cls = some m.cls := findClass_of_methodNamed B.named
  rw [ho] at hown
  rw [lg_entry_eq]
  exact body p e s m below meth c _ ⟨⟨B.exec, B.bytes, hml, hown, atoms_spec (ws := ws) B.pre⟩, B.returns, B.notSynchronized⟩ hsz hK hP hD0.self (fun q h => Or.inr (by rw [← hsz]; exact h)) va_S.rf hJ hT (lv_entry av hlen)
section ENDT
variable {p : Program} {l : Launch} {e : Env} {R : Room} {s : State} {m : MethodId} {args : Array Value} {below : List Frame} {meth : Method} {c : Code} {H : Heap} {locs : List Loc} {Ts : List Cond} {own : String} {cc : ByteArray} {nL pc cells slots mc ms : Nat} {ls : Array Slot} {D : va_G} {y : Nat → ClassId} {A : Nat → Prop} {w : va_W} {XC : String → State → State → Prop} {rest : List Value}
theorem endT_i {ty : FieldType} (C : CX p s m args meth c Ts own cc nL (some ty)) (hK : va_K D vwCl (tyl y) s) (hP : va_P D vwCl w H) (hD : va_D A w) (hS : va_S A s.heap H locs) {r : Int32} (hn : narrow ty (.int r) = .int r) (h1 : cells ≤ mc) (h2 : slots ≤ ms) (d : decode cc pc = .ok (.ireturn, 1)) : W p l e R s m args below meth c H locs cells slots (vx_MQ below (TI D y A 0 r w) XC args s mc ms A) (F0 m pc ls [.int r]) := by
  obtain ⟨⟨hx, hb, hml, hown, hts⟩, hr, hlocks⟩ := C
  refine W.widen h1 h2 ?_
  exact vx_ret (W.zret hx hb hr hn (fun t ht hW => ⟨⟨r, (), rfl, ⟨rfl, rfl⟩, by rw [ht]; exact hP, va_K.moved hW.alike hK, hD⟩, hS.F ht⟩) hS.2.2 d)
theorem endT_l (C : CX p s m args meth c Ts own cc nL (some .long)) (hK : va_K D vwCl (tyl y) s) (hP : va_P D vwCl w H) (hD : va_D A w) (hS : va_S A s.heap H locs) {r : Int64} (h1 : cells ≤ mc) (h2 : slots ≤ ms) (d : decode cc pc = .ok (.lreturn, 1)) : W p l e R s m args below meth c H locs cells slots (vx_MQ below (TL D y A 0 r w) XC args s mc ms A) (F0 m pc ls [.long r]) := by
  obtain ⟨⟨hx, hb, hml, hown, hts⟩, hr, hlocks⟩ := C
  refine W.widen h1 h2 ?_
  exact vx_ret (W.lret hx hb hr (fun t ht hW => ⟨⟨r, (), rfl, ⟨rfl, rfl⟩, by rw [ht]; exact hP, va_K.moved hW.alike hK, hD⟩, hS.F ht⟩) hS.2.2 d)
theorem endT_v (C : CX p s m args meth c Ts own cc nL none) (hK : va_K D vwCl (tyl y) s) (hP : va_P D vwCl w H) (hD : va_D A w) (hS : va_S A s.heap H locs) (h1 : cells ≤ mc) (h2 : slots ≤ ms) (d : decode cc pc = .ok (.return_, 1)) : W p l e R s m args below meth c H locs cells slots (vx_MQ below (TV D y A 0 w) XC args s mc ms A) (F0 m pc ls []) := by
  obtain ⟨⟨hx, hb, hml, hown, hts⟩, hr, hlocks⟩ := C
  refine W.widen h1 h2 ?_
  exact vx_ret (W.vret hx hb hr (fun t ht hW => ⟨⟨(), rfl, rfl, by rw [ht]; exact hP, va_K.moved hW.alike hK, hD⟩, hS.F ht⟩) hS.2.2 d)
/-- thrown by a callee, not caught here -/
theorem outT {Qc : Array Value → State → Outcome → State → Prop} {rt : Option FieldType} {cd : Nat} {ce : Cell} {q9 : Addr} (C : CX p s m args meth c Ts own cc nL rt) (hex : ∀ x ∈ c.exceptionTable.toList, False) (hK : va_K D vwCl (tyl y) s) (hP : va_P D vwCl w H) (hD : va_D A w) (hS : va_S A s.heap H locs) (hcd : ¬ cd = 0) (hcell : H[q9]? = some ce) (hv : ce.vm = .none) (hcl : s.vm.findClass (exN cd) = some ce.cls) (h1 : cells ≤ mc) (h2 : slots ≤ ms) : vx_W p l e R s m args below meth c H locs cells slots (vx_MQ below Qc (XT D y A cd w) args s mc ms A) (F0 m pc ls rest) q9 := by
  obtain ⟨⟨hx, hb, hml, hown, hts⟩, hr, hlocks⟩ := C
  exact vx_out (fun x hx => (hex x hx).elim) hlocks hcell hv hcl (fun t ht hW => ⟨(), hcd, ⟨rfl, by rw [ht]; exact hP, va_K.moved hW hK, hD⟩, hS.F ht⟩) hS.2.2 h1 h2
/-- 'throw new E("text")' -/
theorem throwT {Qc : Array Value → State → Outcome → State → Prop} {rt : Option FieldType} {cd ik is ic sa : Nat} {text : String} {tA : Nat → Nat} (C : CX p s m args meth c Ts own cc nL rt) (hl : l.stackTraces = false) (hex : ∀ x ∈ c.exceptionTable.toList, False) (hT : TJ tA A s s.heap) (hK : va_K D vwCl (tyl y) s) (hP : va_P D vwCl w H) (hD : va_D A w) (hS : va_S A s.heap H locs) (hls : ls.size = nL) (hcd : ¬ cd = 0) (hfit : Bundle.fit (exN cd) = true) (hk : (Cond.classLink own ik (exN cd)).before args s = true) (hini : (Cond.initialized (exN cd)).before args s = true) (hstr : vk_R own is text sa s)
    (h1 : ∀ w ∈ (vx_atS own ic (exN cd) ["java/lang/RuntimeException", "java/lang/Exception"]).filter goodWord, w ∈ Ts) (h2 : ∀ w ∈ (vx_atS own ic (exN cd) ["java/lang/RuntimeException", "java/lang/Exception"]).filter (fun w => !goodWord w), w ∈ excW cd) (hce : exN cd ∈ excs) (hgood : ∀ w ∈ Cond.classLink own ik (exN cd) :: Cond.initialized (exN cd) :: vx_atS own ic (exN cd) ["java/lang/RuntimeException", "java/lang/Exception"], vx_ot w = true)
    (d0 : decode cc pc = .ok (.new ik, 3)) (d3 : decode cc (pc + 3) = .ok (.dup, 1)) (d4 : decode cc (pc + 4) = .ok (.ldc is, 2)) (d6 : decode cc (pc + 6) = .ok (.invokespecial ic, 3)) (d9 : decode cc (pc + 9) = .ok (.athrow, 1)) (hR : 6 ≤ R.frames) (hR2 : (rest.map fun v => v.category).sum + 82 ≤ R.locals) (hR3 : cells + 1 ≤ R.cells) (hR4 : slots + 6 ≤ R.slots) (hm1 : cells + 1 ≤ mc) (hm2 : slots + 6 ≤ ms) : W p l e R s m args below meth c H locs cells slots (vx_MQ below Qc (XT D y A cd w) args s mc ms A) (F0 m pc ls rest) := by
  obtain ⟨⟨hx, hb, hml, hown, hts⟩, hr, hlocks⟩ := C
  have hat := vx_hat (args := args) (s := s) (fun w hw => hts w (h1 w hw)) h2 (fun w hw => by
    simp only [excW, List.mem_cons, List.not_mem_nil, or_false] at hw
    rcases hw with rfl | rfl | rfl | rfl
    · exact va_Nw.use rfl (hT.2.2.1 _ hce)
    · exact va_Nw.use rfl (hT.2.2.2 _ (by simp [sups]))
    · exact va_Nw.use rfl (hT.2.2.2 _ (by simp [sups]))
    · exact va_Nw.use rfl (hT.2.2.2 _ (by simp [sups])))
  refine vx_throwS hx hb hl (names := ["java/lang/RuntimeException", "java/lang/Exception"]) hown hfit (by decide) hk hini hstr hat hgood hT.1.1 hT.1.2 hS (by rw [hls, hml]) d0 d3 d4 d6 d9 (fun x hx => (hex x hx).elim) hR hR2 hR3 hR4 hlocks ?_ hS.2.2 hm1 hm2
  intro t hvm hsz hq
  refine ⟨(), hcd, ⟨rfl, ?_, va_K.moved hvm hK, hD⟩, ?_⟩
  · exact hP.kept (fun k q hk => hq q.1 ((hP k q hk).lt))
  · exact ⟨Nat.le_trans hS.1 hsz, fun q h1 h2 => by rw [hq q (Nat.lt_of_lt_of_le h1 hS.1)]; exact hS.2.1 q h1 h2⟩
end ENDT
theorem callXP_vi {p : Program} {l : Launch} {e : Env} {R : Room} {s : State} {m : MethodId} {args : Array Value} {below : List Frame} {meth : Method} {c : Code} {H : Heap} {locs : List Loc} {Ts : List Cond} {own : String} {cc : ByteArray} {nL pc cells slots : Nat} {ls : Array Slot} {D : va_G} {y : Nat → ClassId} {A : Nat → Prop} {w : va_W} {Q : State → Prop} {rt : Option FieldType} {y' : MethodName} {ws' : List Cond} {rm : Room} {As rest : List Value} {wc wr w1 : va_W} {index n maxL mc ms : Nat} {bytes : ByteArray} {ret' : Option FieldType} {C' : String} {b : Nat} {r : Int32} (C : CX p s m args meth c Ts own cc nL rt)
    (hM : Met l y' ws' rm (va_Pc (.ref b :: As) (cP D y wc H.size)) (QI D y (va_A wc H.size) r w1) mc ms (va_A wc H.size)) (cw : CallW R s args own C' index y' bytes maxL ret' ws' rm mc ms n) (hK : va_K D vwCl (tyl y) s) (hP : va_P D vwCl w H) (hD : va_D A w) (hS : va_S A s.heap H locs) (hA : ∀ q : Nat, s.heap.size ≤ q → A q) (isC isR : List Nat) (hC : isC.map (fun i => w[i]?) = wc.map some) (hCf : isC.filterMap (fun i => w[i]?) = wc) (hR : isR.map (fun i => w[i]?) = wr.map some) (hnC : va_nd isC = true) (hnR : va_nd isR = true) (hdis : ∀ i ∈ isR, i ∉ isC) (hrcv : ∃ cell : Cell, H[b]? = some cell ∧ cell.vm.isStatics = false ∧ s.vm.findClass C' = some cell.cls) (hn : As.length = n) (hls : ls.size = nL) (hrest : (rest.map fun v => v.category).sum ≤ 8) (d : decode cc pc = .ok (.invokevirtual index, 3)) (hcs : cells + mc ≤ R.cells ∧ slots + ms ≤ R.slots)
    (kk : ∀ (H1 : Heap) (locs1 : List Loc), va_P D vwCl (wr ++ w1) H1 → va_D A (wr ++ w1) → va_S A s.heap H1 locs1 → W p l e R s m args below meth c H1 locs1 (cells + mc) (slots + ms) Q (F0 m (pc + 3) ls (.int r :: rest))) : W p l e R s m args below meth c H locs cells slots Q (F0 m pc ls (As.reverse ++ .ref b :: rest)) := by
  have hPc : va_P D vwCl wc H := hP.sub isC hCf
  have hDc : va_D A wc := hD.sub isC hnC hC
  have hFc := va_free (wc := wc) hD hS hA isC hC
  refine va_calli (va_runV (As := As) (rest := rest) C.1 hM cw ⟨cP_blind, hrcv, fun U hU hW => ⟨rfl, by rw [hU], by rw [hU]; exact hPc, va_K.moved hW.alike hK, hDc.weaken (fun _ _ _ _ => trivial)⟩⟩ rfl hn hls rfl (lv_room hrest) d hcs) hS (fun q _ h => hFc q h) hFc (fun r' u t H1 locs1 ht hvm hw hB hz1 hk1 hS1 => ?_)
  subst hw
  obtain ⟨hP1, hK1, hD1⟩ := hB
  rw [ht] at hP1
  obtain ⟨hP2, hD2⟩ := va_join (wr := wr) (w1 := w1) hP hD isC isR hC hR hnR hdis hk1 hFc hP1 hD1
  exact kk H1 locs1 hP2 hD2 hS1
theorem callXP_vl {p : Program} {l : Launch} {e : Env} {R : Room} {s : State} {m : MethodId} {args : Array Value} {below : List Frame} {meth : Method} {c : Code} {H : Heap} {locs : List Loc} {Ts : List Cond} {own : String} {cc : ByteArray} {nL pc cells slots : Nat} {ls : Array Slot} {D : va_G} {y : Nat → ClassId} {A : Nat → Prop} {w : va_W} {Q : State → Prop} {rt : Option FieldType} {y' : MethodName} {ws' : List Cond} {rm : Room} {As rest : List Value} {wc wr w1 : va_W} {index n maxL mc ms : Nat} {bytes : ByteArray} {ret' : Option FieldType} {C' : String} {b : Nat} {r : Int64} (C : CX p s m args meth c Ts own cc nL rt)
    (hM : Met l y' ws' rm (va_Pc (.ref b :: As) (cP D y wc H.size)) (QL D y (va_A wc H.size) r w1) mc ms (va_A wc H.size)) (cw : CallW R s args own C' index y' bytes maxL ret' ws' rm mc ms n) (hK : va_K D vwCl (tyl y) s) (hP : va_P D vwCl w H) (hD : va_D A w) (hS : va_S A s.heap H locs) (hA : ∀ q : Nat, s.heap.size ≤ q → A q) (isC isR : List Nat) (hC : isC.map (fun i => w[i]?) = wc.map some) (hCf : isC.filterMap (fun i => w[i]?) = wc) (hR : isR.map (fun i => w[i]?) = wr.map some) (hnC : va_nd isC = true) (hnR : va_nd isR = true) (hdis : ∀ i ∈ isR, i ∉ isC) (hrcv : ∃ cell : Cell, H[b]? = some cell ∧ cell.vm.isStatics = false ∧ s.vm.findClass C' = some cell.cls) (hn : As.length = n) (hls : ls.size = nL) (hrest : (rest.map fun v => v.category).sum ≤ 8) (d : decode cc pc = .ok (.invokevirtual index, 3)) (hcs : cells + mc ≤ R.cells ∧ slots + ms ≤ R.slots)
    (kk : ∀ (H1 : Heap) (locs1 : List Loc), va_P D vwCl (wr ++ w1) H1 → va_D A (wr ++ w1) → va_S A s.heap H1 locs1 → W p l e R s m args below meth c H1 locs1 (cells + mc) (slots + ms) Q (F0 m (pc + 3) ls (.long r :: rest))) : W p l e R s m args below meth c H locs cells slots Q (F0 m pc ls (As.reverse ++ .ref b :: rest)) := by
  have hPc : va_P D vwCl wc H := hP.sub isC hCf
  have hDc : va_D A wc := hD.sub isC hnC hC
  have hFc := va_free (wc := wc) hD hS hA isC hC
  refine va_calll (va_runV (As := As) (rest := rest) C.1 hM cw ⟨cP_blind, hrcv, fun U hU hW => ⟨rfl, by rw [hU], by rw [hU]; exact hPc, va_K.moved hW.alike hK, hDc.weaken (fun _ _ _ _ => trivial)⟩⟩ rfl hn hls rfl (lv_room hrest) d hcs) hS (fun q _ h => hFc q h) hFc (fun r' u t H1 locs1 ht hvm hw hB hz1 hk1 hS1 => ?_)
  subst hw
  obtain ⟨hP1, hK1, hD1⟩ := hB
  rw [ht] at hP1
  obtain ⟨hP2, hD2⟩ := va_join (wr := wr) (w1 := w1) hP hD isC isR hC hR hnR hdis hk1 hFc hP1 hD1
  exact kk H1 locs1 hP2 hD2 hS1
theorem callXP_vv {p : Program} {l : Launch} {e : Env} {R : Room} {s : State} {m : MethodId} {args : Array Value} {below : List Frame} {meth : Method} {c : Code} {H : Heap} {locs : List Loc} {Ts : List Cond} {own : String} {cc : ByteArray} {nL pc cells slots : Nat} {ls : Array Slot} {D : va_G} {y : Nat → ClassId} {A : Nat → Prop} {w : va_W} {Q : State → Prop} {rt : Option FieldType} {y' : MethodName} {ws' : List Cond} {rm : Room} {As rest : List Value} {wc wr w1 : va_W} {index n maxL mc ms : Nat} {bytes : ByteArray} {ret' : Option FieldType} {C' : String} {b : Nat}  (C : CX p s m args meth c Ts own cc nL rt)
    (hM : Met l y' ws' rm (va_Pc (.ref b :: As) (cP D y wc H.size)) (QV D y (va_A wc H.size) w1) mc ms (va_A wc H.size)) (cw : CallW R s args own C' index y' bytes maxL ret' ws' rm mc ms n) (hK : va_K D vwCl (tyl y) s) (hP : va_P D vwCl w H) (hD : va_D A w) (hS : va_S A s.heap H locs) (hA : ∀ q : Nat, s.heap.size ≤ q → A q) (isC isR : List Nat) (hC : isC.map (fun i => w[i]?) = wc.map some) (hCf : isC.filterMap (fun i => w[i]?) = wc) (hR : isR.map (fun i => w[i]?) = wr.map some) (hnC : va_nd isC = true) (hnR : va_nd isR = true) (hdis : ∀ i ∈ isR, i ∉ isC) (hrcv : ∃ cell : Cell, H[b]? = some cell ∧ cell.vm.isStatics = false ∧ s.vm.findClass C' = some cell.cls) (hn : As.length = n) (hls : ls.size = nL) (hrest : (rest.map fun v => v.category).sum ≤ 8) (d : decode cc pc = .ok (.invokevirtual index, 3)) (hcs : cells + mc ≤ R.cells ∧ slots + ms ≤ R.slots)
    (kk : ∀ (H1 : Heap) (locs1 : List Loc), va_P D vwCl (wr ++ w1) H1 → va_D A (wr ++ w1) → va_S A s.heap H1 locs1 → W p l e R s m args below meth c H1 locs1 (cells + mc) (slots + ms) Q (F0 m (pc + 3) ls (rest))) : W p l e R s m args below meth c H locs cells slots Q (F0 m pc ls (As.reverse ++ .ref b :: rest)) := by
  have hPc : va_P D vwCl wc H := hP.sub isC hCf
  have hDc : va_D A wc := hD.sub isC hnC hC
  have hFc := va_free (wc := wc) hD hS hA isC hC
  refine va_callv (va_runV (As := As) (rest := rest) C.1 hM cw ⟨cP_blind, hrcv, fun U hU hW => ⟨rfl, by rw [hU], by rw [hU]; exact hPc, va_K.moved hW.alike hK, hDc.weaken (fun _ _ _ _ => trivial)⟩⟩ rfl hn hls rfl (lv_room hrest) d hcs) hS (fun q _ h => hFc q h) hFc (fun u t H1 locs1 ht hvm hw hB hz1 hk1 hS1 => ?_)
  obtain ⟨hP1, hK1, hD1⟩ := hB
  rw [ht] at hP1
  obtain ⟨hP2, hD2⟩ := va_join (wr := wr) (w1 := w1) hP hD isC isR hC hR hnR hdis hk1 hFc hP1 hD1
  exact kk H1 locs1 hP2 hD2 hS1
theorem callXP_si {p : Program} {l : Launch} {e : Env} {R : Room} {s : State} {m : MethodId} {args : Array Value} {below : List Frame} {meth : Method} {c : Code} {H : Heap} {locs : List Loc} {Ts : List Cond} {own : String} {cc : ByteArray} {nL pc cells slots : Nat} {ls : Array Slot} {D : va_G} {y : Nat → ClassId} {A : Nat → Prop} {w : va_W} {Q : State → Prop} {rt : Option FieldType} {y' : MethodName} {ws' : List Cond} {rm : Room} {As rest : List Value} {wc wr w1 : va_W} {index n maxL mc ms : Nat} {bytes : ByteArray} {ret' : Option FieldType} {r : Int32} (C : CX p s m args meth c Ts own cc nL rt)
    (hM : Met l y' ws' rm (va_Pc (As) (cP D y wc H.size)) (QI D y (va_A wc H.size) r w1) mc ms (va_A wc H.size)) (cw : CallB R s args own index y' bytes maxL ret' ws' rm mc ms n ∧ (Cond.static y').before args s = true) (hK : va_K D vwCl (tyl y) s) (hP : va_P D vwCl w H) (hD : va_D A w) (hS : va_S A s.heap H locs) (hA : ∀ q : Nat, s.heap.size ≤ q → A q) (isC isR : List Nat) (hC : isC.map (fun i => w[i]?) = wc.map some) (hCf : isC.filterMap (fun i => w[i]?) = wc) (hR : isR.map (fun i => w[i]?) = wr.map some) (hnC : va_nd isC = true) (hnR : va_nd isR = true) (hdis : ∀ i ∈ isR, i ∉ isC) (hn : As.length = n) (hls : ls.size = nL) (hrest : (rest.map fun v => v.category).sum ≤ 8) (d : decode cc pc = .ok (.invokestatic index, 3)) (hcs : cells + mc ≤ R.cells ∧ slots + ms ≤ R.slots)
    (kk : ∀ (H1 : Heap) (locs1 : List Loc), va_P D vwCl (wr ++ w1) H1 → va_D A (wr ++ w1) → va_S A s.heap H1 locs1 → W p l e R s m args below meth c H1 locs1 (cells + mc) (slots + ms) Q (F0 m (pc + 3) ls (.int r :: rest))) : W p l e R s m args below meth c H locs cells slots Q (F0 m pc ls (As.reverse ++ rest)) := by
  have hPc : va_P D vwCl wc H := hP.sub isC hCf
  have hDc : va_D A wc := hD.sub isC hnC hC
  have hFc := va_free (wc := wc) hD hS hA isC hC
  refine va_calli (va_runS (As := As) (rest := rest) C.1 hM cw ⟨cP_blind, fun U hU hW => ⟨rfl, by rw [hU], by rw [hU]; exact hPc, va_K.moved hW.alike hK, hDc.weaken (fun _ _ _ _ => trivial)⟩⟩ rfl hn hls rfl (lv_room hrest) d hcs) hS (fun q _ h => hFc q h) hFc (fun r' u t H1 locs1 ht hvm hw hB hz1 hk1 hS1 => ?_)
  subst hw
  obtain ⟨hP1, hK1, hD1⟩ := hB
  rw [ht] at hP1
  obtain ⟨hP2, hD2⟩ := va_join (wr := wr) (w1 := w1) hP hD isC isR hC hR hnR hdis hk1 hFc hP1 hD1
  exact kk H1 locs1 hP2 hD2 hS1
theorem callXP_sl {p : Program} {l : Launch} {e : Env} {R : Room} {s : State} {m : MethodId} {args : Array Value} {below : List Frame} {meth : Method} {c : Code} {H : Heap} {locs : List Loc} {Ts : List Cond} {own : String} {cc : ByteArray} {nL pc cells slots : Nat} {ls : Array Slot} {D : va_G} {y : Nat → ClassId} {A : Nat → Prop} {w : va_W} {Q : State → Prop} {rt : Option FieldType} {y' : MethodName} {ws' : List Cond} {rm : Room} {As rest : List Value} {wc wr w1 : va_W} {index n maxL mc ms : Nat} {bytes : ByteArray} {ret' : Option FieldType} {r : Int64} (C : CX p s m args meth c Ts own cc nL rt)
    (hM : Met l y' ws' rm (va_Pc (As) (cP D y wc H.size)) (QL D y (va_A wc H.size) r w1) mc ms (va_A wc H.size)) (cw : CallB R s args own index y' bytes maxL ret' ws' rm mc ms n ∧ (Cond.static y').before args s = true) (hK : va_K D vwCl (tyl y) s) (hP : va_P D vwCl w H) (hD : va_D A w) (hS : va_S A s.heap H locs) (hA : ∀ q : Nat, s.heap.size ≤ q → A q) (isC isR : List Nat) (hC : isC.map (fun i => w[i]?) = wc.map some) (hCf : isC.filterMap (fun i => w[i]?) = wc) (hR : isR.map (fun i => w[i]?) = wr.map some) (hnC : va_nd isC = true) (hnR : va_nd isR = true) (hdis : ∀ i ∈ isR, i ∉ isC) (hn : As.length = n) (hls : ls.size = nL) (hrest : (rest.map fun v => v.category).sum ≤ 8) (d : decode cc pc = .ok (.invokestatic index, 3)) (hcs : cells + mc ≤ R.cells ∧ slots + ms ≤ R.slots)
    (kk : ∀ (H1 : Heap) (locs1 : List Loc), va_P D vwCl (wr ++ w1) H1 → va_D A (wr ++ w1) → va_S A s.heap H1 locs1 → W p l e R s m args below meth c H1 locs1 (cells + mc) (slots + ms) Q (F0 m (pc + 3) ls (.long r :: rest))) : W p l e R s m args below meth c H locs cells slots Q (F0 m pc ls (As.reverse ++ rest)) := by
  have hPc : va_P D vwCl wc H := hP.sub isC hCf
  have hDc : va_D A wc := hD.sub isC hnC hC
  have hFc := va_free (wc := wc) hD hS hA isC hC
  refine va_calll (va_runS (As := As) (rest := rest) C.1 hM cw ⟨cP_blind, fun U hU hW => ⟨rfl, by rw [hU], by rw [hU]; exact hPc, va_K.moved hW.alike hK, hDc.weaken (fun _ _ _ _ => trivial)⟩⟩ rfl hn hls rfl (lv_room hrest) d hcs) hS (fun q _ h => hFc q h) hFc (fun r' u t H1 locs1 ht hvm hw hB hz1 hk1 hS1 => ?_)
  subst hw
  obtain ⟨hP1, hK1, hD1⟩ := hB
  rw [ht] at hP1
  obtain ⟨hP2, hD2⟩ := va_join (wr := wr) (w1 := w1) hP hD isC isR hC hR hnR hdis hk1 hFc hP1 hD1
  exact kk H1 locs1 hP2 hD2 hS1
theorem callXP_sv {p : Program} {l : Launch} {e : Env} {R : Room} {s : State} {m : MethodId} {args : Array Value} {below : List Frame} {meth : Method} {c : Code} {H : Heap} {locs : List Loc} {Ts : List Cond} {own : String} {cc : ByteArray} {nL pc cells slots : Nat} {ls : Array Slot} {D : va_G} {y : Nat → ClassId} {A : Nat → Prop} {w : va_W} {Q : State → Prop} {rt : Option FieldType} {y' : MethodName} {ws' : List Cond} {rm : Room} {As rest : List Value} {wc wr w1 : va_W} {index n maxL mc ms : Nat} {bytes : ByteArray} {ret' : Option FieldType}  (C : CX p s m args meth c Ts own cc nL rt)
    (hM : Met l y' ws' rm (va_Pc (As) (cP D y wc H.size)) (QV D y (va_A wc H.size) w1) mc ms (va_A wc H.size)) (cw : CallB R s args own index y' bytes maxL ret' ws' rm mc ms n ∧ (Cond.static y').before args s = true) (hK : va_K D vwCl (tyl y) s) (hP : va_P D vwCl w H) (hD : va_D A w) (hS : va_S A s.heap H locs) (hA : ∀ q : Nat, s.heap.size ≤ q → A q) (isC isR : List Nat) (hC : isC.map (fun i => w[i]?) = wc.map some) (hCf : isC.filterMap (fun i => w[i]?) = wc) (hR : isR.map (fun i => w[i]?) = wr.map some) (hnC : va_nd isC = true) (hnR : va_nd isR = true) (hdis : ∀ i ∈ isR, i ∉ isC) (hn : As.length = n) (hls : ls.size = nL) (hrest : (rest.map fun v => v.category).sum ≤ 8) (d : decode cc pc = .ok (.invokestatic index, 3)) (hcs : cells + mc ≤ R.cells ∧ slots + ms ≤ R.slots)
    (kk : ∀ (H1 : Heap) (locs1 : List Loc), va_P D vwCl (wr ++ w1) H1 → va_D A (wr ++ w1) → va_S A s.heap H1 locs1 → W p l e R s m args below meth c H1 locs1 (cells + mc) (slots + ms) Q (F0 m (pc + 3) ls (rest))) : W p l e R s m args below meth c H locs cells slots Q (F0 m pc ls (As.reverse ++ rest)) := by
  have hPc : va_P D vwCl wc H := hP.sub isC hCf
  have hDc : va_D A wc := hD.sub isC hnC hC
  have hFc := va_free (wc := wc) hD hS hA isC hC
  refine va_callv (va_runS (As := As) (rest := rest) C.1 hM cw ⟨cP_blind, fun U hU hW => ⟨rfl, by rw [hU], by rw [hU]; exact hPc, va_K.moved hW.alike hK, hDc.weaken (fun _ _ _ _ => trivial)⟩⟩ rfl hn hls rfl (lv_room hrest) d hcs) hS (fun q _ h => hFc q h) hFc (fun u t H1 locs1 ht hvm hw hB hz1 hk1 hS1 => ?_)
  obtain ⟨hP1, hK1, hD1⟩ := hB
  rw [ht] at hP1
  obtain ⟨hP2, hD2⟩ := va_join (wr := wr) (w1 := w1) hP hD isC isR hC hR hnR hdis hk1 hFc hP1 hD1
  exact kk H1 locs1 hP2 hD2 hS1
theorem callXJ_vi {p : Program} {l : Launch} {e : Env} {R : Room} {s : State} {m : MethodId} {args : Array Value} {below : List Frame} {meth : Method} {c : Code} {H : Heap} {locs : List Loc} {Ts : List Cond} {own : String} {cc : ByteArray} {nL pc cells slots : Nat} {ls : Array Slot} {D : va_G} {y : Nat → ClassId} {aK aV : Nat → Nat} {A : Nat → Prop} {w : va_W} {Q : State → Prop} {rt : Option FieldType} {y' : MethodName} {ws' : List Cond} {rm : Room} {As rest : List Value} {wc wr w1 : va_W} {index n maxL mc ms : Nat} {bytes : ByteArray} {ret' : Option FieldType} {C' : String} {b : Nat} {r : Int32} (C : CX p s m args meth c Ts own cc nL rt)
    (hM : Met l y' ws' rm (va_Pc (.ref b :: As) (cPJ D y aK aV wc H.size)) (QI D y (va_A wc H.size) r w1) mc ms (va_A wc H.size)) (cw : CallW R s args own C' index y' bytes maxL ret' ws' rm mc ms n) (hJ : SJ aK aV A s s.heap) (hK : va_K D vwCl (tyl y) s) (hP : va_P D vwCl w H) (hD : va_D A w) (hS : va_S A s.heap H locs) (hA : ∀ q : Nat, s.heap.size ≤ q → A q) (isC isR : List Nat) (hC : isC.map (fun i => w[i]?) = wc.map some) (hCf : isC.filterMap (fun i => w[i]?) = wc) (hR : isR.map (fun i => w[i]?) = wr.map some) (hnC : va_nd isC = true) (hnR : va_nd isR = true) (hdis : ∀ i ∈ isR, i ∉ isC) (hrcv : ∃ cell : Cell, H[b]? = some cell ∧ cell.vm.isStatics = false ∧ s.vm.findClass C' = some cell.cls) (hn : As.length = n) (hls : ls.size = nL) (hrest : (rest.map fun v => v.category).sum ≤ 8) (d : decode cc pc = .ok (.invokevirtual index, 3)) (hcs : cells + mc ≤ R.cells ∧ slots + ms ≤ R.slots)
    (kk : ∀ (H1 : Heap) (locs1 : List Loc), va_P D vwCl (wr ++ w1) H1 → va_D A (wr ++ w1) → va_S A s.heap H1 locs1 → W p l e R s m args below meth c H1 locs1 (cells + mc) (slots + ms) Q (F0 m (pc + 3) ls (.int r :: rest))) : W p l e R s m args below meth c H locs cells slots Q (F0 m pc ls (As.reverse ++ .ref b :: rest)) := by
  have hPc : va_P D vwCl wc H := hP.sub isC hCf
  have hDc : va_D A wc := hD.sub isC hnC hC
  have hFc := va_free (wc := wc) hD hS hA isC hC
  refine va_calli (va_runV (As := As) (rest := rest) C.1 hM cw ⟨cPJ_blind, hrcv, fun U hU hW => ⟨rfl, ⟨by rw [hU], by rw [hU]; exact hPc, va_K.moved hW.alike hK, hDc.weaken (fun _ _ _ _ => trivial)⟩, hJ.call hS hFc hU hW⟩⟩ rfl hn hls rfl (lv_room hrest) d hcs) hS (fun q _ h => hFc q h) hFc (fun r' u t H1 locs1 ht hvm hw hB hz1 hk1 hS1 => ?_)
  subst hw
  obtain ⟨hP1, hK1, hD1⟩ := hB
  rw [ht] at hP1
  obtain ⟨hP2, hD2⟩ := va_join (wr := wr) (w1 := w1) hP hD isC isR hC hR hnR hdis hk1 hFc hP1 hD1
  exact kk H1 locs1 hP2 hD2 hS1
theorem callXJ_vl {p : Program} {l : Launch} {e : Env} {R : Room} {s : State} {m : MethodId} {args : Array Value} {below : List Frame} {meth : Method} {c : Code} {H : Heap} {locs : List Loc} {Ts : List Cond} {own : String} {cc : ByteArray} {nL pc cells slots : Nat} {ls : Array Slot} {D : va_G} {y : Nat → ClassId} {aK aV : Nat → Nat} {A : Nat → Prop} {w : va_W} {Q : State → Prop} {rt : Option FieldType} {y' : MethodName} {ws' : List Cond} {rm : Room} {As rest : List Value} {wc wr w1 : va_W} {index n maxL mc ms : Nat} {bytes : ByteArray} {ret' : Option FieldType} {C' : String} {b : Nat} {r : Int64} (C : CX p s m args meth c Ts own cc nL rt)
    (hM : Met l y' ws' rm (va_Pc (.ref b :: As) (cPJ D y aK aV wc H.size)) (QL D y (va_A wc H.size) r w1) mc ms (va_A wc H.size)) (cw : CallW R s args own C' index y' bytes maxL ret' ws' rm mc ms n) (hJ : SJ aK aV A s s.heap) (hK : va_K D vwCl (tyl y) s) (hP : va_P D vwCl w H) (hD : va_D A w) (hS : va_S A s.heap H locs) (hA : ∀ q : Nat, s.heap.size ≤ q → A q) (isC isR : List Nat) (hC : isC.map (fun i => w[i]?) = wc.map some) (hCf : isC.filterMap (fun i => w[i]?) = wc) (hR : isR.map (fun i => w[i]?) = wr.map some) (hnC : va_nd isC = true) (hnR : va_nd isR = true) (hdis : ∀ i ∈ isR, i ∉ isC) (hrcv : ∃ cell : Cell, H[b]? = some cell ∧ cell.vm.isStatics = false ∧ s.vm.findClass C' = some cell.cls) (hn : As.length = n) (hls : ls.size = nL) (hrest : (rest.map fun v => v.category).sum ≤ 8) (d : decode cc pc = .ok (.invokevirtual index, 3)) (hcs : cells + mc ≤ R.cells ∧ slots + ms ≤ R.slots)
    (kk : ∀ (H1 : Heap) (locs1 : List Loc), va_P D vwCl (wr ++ w1) H1 → va_D A (wr ++ w1) → va_S A s.heap H1 locs1 → W p l e R s m args below meth c H1 locs1 (cells + mc) (slots + ms) Q (F0 m (pc + 3) ls (.long r :: rest))) : W p l e R s m args below meth c H locs cells slots Q (F0 m pc ls (As.reverse ++ .ref b :: rest)) := by
  have hPc : va_P D vwCl wc H := hP.sub isC hCf
  have hDc : va_D A wc := hD.sub isC hnC hC
  have hFc := va_free (wc := wc) hD hS hA isC hC
  refine va_calll (va_runV (As := As) (rest := rest) C.1 hM cw ⟨cPJ_blind, hrcv, fun U hU hW => ⟨rfl, ⟨by rw [hU], by rw [hU]; exact hPc, va_K.moved hW.alike hK, hDc.weaken (fun _ _ _ _ => trivial)⟩, hJ.call hS hFc hU hW⟩⟩ rfl hn hls rfl (lv_room hrest) d hcs) hS (fun q _ h => hFc q h) hFc (fun r' u t H1 locs1 ht hvm hw hB hz1 hk1 hS1 => ?_)
  subst hw
  obtain ⟨hP1, hK1, hD1⟩ := hB
  rw [ht] at hP1
  obtain ⟨hP2, hD2⟩ := va_join (wr := wr) (w1 := w1) hP hD isC isR hC hR hnR hdis hk1 hFc hP1 hD1
  exact kk H1 locs1 hP2 hD2 hS1
theorem callXJ_vv {p : Program} {l : Launch} {e : Env} {R : Room} {s : State} {m : MethodId} {args : Array Value} {below : List Frame} {meth : Method} {c : Code} {H : Heap} {locs : List Loc} {Ts : List Cond} {own : String} {cc : ByteArray} {nL pc cells slots : Nat} {ls : Array Slot} {D : va_G} {y : Nat → ClassId} {aK aV : Nat → Nat} {A : Nat → Prop} {w : va_W} {Q : State → Prop} {rt : Option FieldType} {y' : MethodName} {ws' : List Cond} {rm : Room} {As rest : List Value} {wc wr w1 : va_W} {index n maxL mc ms : Nat} {bytes : ByteArray} {ret' : Option FieldType} {C' : String} {b : Nat}  (C : CX p s m args meth c Ts own cc nL rt)
    (hM : Met l y' ws' rm (va_Pc (.ref b :: As) (cPJ D y aK aV wc H.size)) (QV D y (va_A wc H.size) w1) mc ms (va_A wc H.size)) (cw : CallW R s args own C' index y' bytes maxL ret' ws' rm mc ms n) (hJ : SJ aK aV A s s.heap) (hK : va_K D vwCl (tyl y) s) (hP : va_P D vwCl w H) (hD : va_D A w) (hS : va_S A s.heap H locs) (hA : ∀ q : Nat, s.heap.size ≤ q → A q) (isC isR : List Nat) (hC : isC.map (fun i => w[i]?) = wc.map some) (hCf : isC.filterMap (fun i => w[i]?) = wc) (hR : isR.map (fun i => w[i]?) = wr.map some) (hnC : va_nd isC = true) (hnR : va_nd isR = true) (hdis : ∀ i ∈ isR, i ∉ isC) (hrcv : ∃ cell : Cell, H[b]? = some cell ∧ cell.vm.isStatics = false ∧ s.vm.findClass C' = some cell.cls) (hn : As.length = n) (hls : ls.size = nL) (hrest : (rest.map fun v => v.category).sum ≤ 8) (d : decode cc pc = .ok (.invokevirtual index, 3)) (hcs : cells + mc ≤ R.cells ∧ slots + ms ≤ R.slots)
    (kk : ∀ (H1 : Heap) (locs1 : List Loc), va_P D vwCl (wr ++ w1) H1 → va_D A (wr ++ w1) → va_S A s.heap H1 locs1 → W p l e R s m args below meth c H1 locs1 (cells + mc) (slots + ms) Q (F0 m (pc + 3) ls (rest))) : W p l e R s m args below meth c H locs cells slots Q (F0 m pc ls (As.reverse ++ .ref b :: rest)) := by
  have hPc : va_P D vwCl wc H := hP.sub isC hCf
  have hDc : va_D A wc := hD.sub isC hnC hC
  have hFc := va_free (wc := wc) hD hS hA isC hC
  refine va_callv (va_runV (As := As) (rest := rest) C.1 hM cw ⟨cPJ_blind, hrcv, fun U hU hW => ⟨rfl, ⟨by rw [hU], by rw [hU]; exact hPc, va_K.moved hW.alike hK, hDc.weaken (fun _ _ _ _ => trivial)⟩, hJ.call hS hFc hU hW⟩⟩ rfl hn hls rfl (lv_room hrest) d hcs) hS (fun q _ h => hFc q h) hFc (fun u t H1 locs1 ht hvm hw hB hz1 hk1 hS1 => ?_)
  obtain ⟨hP1, hK1, hD1⟩ := hB
  rw [ht] at hP1
  obtain ⟨hP2, hD2⟩ := va_join (wr := wr) (w1 := w1) hP hD isC isR hC hR hnR hdis hk1 hFc hP1 hD1
  exact kk H1 locs1 hP2 hD2 hS1
theorem callXJ_si {p : Program} {l : Launch} {e : Env} {R : Room} {s : State} {m : MethodId} {args : Array Value} {below : List Frame} {meth : Method} {c : Code} {H : Heap} {locs : List Loc} {Ts : List Cond} {own : String} {cc : ByteArray} {nL pc cells slots : Nat} {ls : Array Slot} {D : va_G} {y : Nat → ClassId} {aK aV : Nat → Nat} {A : Nat → Prop} {w : va_W} {Q : State → Prop} {rt : Option FieldType} {y' : MethodName} {ws' : List Cond} {rm : Room} {As rest : List Value} {wc wr w1 : va_W} {index n maxL mc ms : Nat} {bytes : ByteArray} {ret' : Option FieldType} {r : Int32} (C : CX p s m args meth c Ts own cc nL rt)
    (hM : Met l y' ws' rm (va_Pc (As) (cPJ D y aK aV wc H.size)) (QI D y (va_A wc H.size) r w1) mc ms (va_A wc H.size)) (cw : CallB R s args own index y' bytes maxL ret' ws' rm mc ms n ∧ (Cond.static y').before args s = true) (hJ : SJ aK aV A s s.heap) (hK : va_K D vwCl (tyl y) s) (hP : va_P D vwCl w H) (hD : va_D A w) (hS : va_S A s.heap H locs) (hA : ∀ q : Nat, s.heap.size ≤ q → A q) (isC isR : List Nat) (hC : isC.map (fun i => w[i]?) = wc.map some) (hCf : isC.filterMap (fun i => w[i]?) = wc) (hR : isR.map (fun i => w[i]?) = wr.map some) (hnC : va_nd isC = true) (hnR : va_nd isR = true) (hdis : ∀ i ∈ isR, i ∉ isC) (hn : As.length = n) (hls : ls.size = nL) (hrest : (rest.map fun v => v.category).sum ≤ 8) (d : decode cc pc = .ok (.invokestatic index, 3)) (hcs : cells + mc ≤ R.cells ∧ slots + ms ≤ R.slots)
    (kk : ∀ (H1 : Heap) (locs1 : List Loc), va_P D vwCl (wr ++ w1) H1 → va_D A (wr ++ w1) → va_S A s.heap H1 locs1 → W p l e R s m args below meth c H1 locs1 (cells + mc) (slots + ms) Q (F0 m (pc + 3) ls (.int r :: rest))) : W p l e R s m args below meth c H locs cells slots Q (F0 m pc ls (As.reverse ++ rest)) := by
  have hPc : va_P D vwCl wc H := hP.sub isC hCf
  have hDc : va_D A wc := hD.sub isC hnC hC
  have hFc := va_free (wc := wc) hD hS hA isC hC
  refine va_calli (va_runS (As := As) (rest := rest) C.1 hM cw ⟨cPJ_blind, fun U hU hW => ⟨rfl, ⟨by rw [hU], by rw [hU]; exact hPc, va_K.moved hW.alike hK, hDc.weaken (fun _ _ _ _ => trivial)⟩, hJ.call hS hFc hU hW⟩⟩ rfl hn hls rfl (lv_room hrest) d hcs) hS (fun q _ h => hFc q h) hFc (fun r' u t H1 locs1 ht hvm hw hB hz1 hk1 hS1 => ?_)
  subst hw
  obtain ⟨hP1, hK1, hD1⟩ := hB
  rw [ht] at hP1
  obtain ⟨hP2, hD2⟩ := va_join (wr := wr) (w1 := w1) hP hD isC isR hC hR hnR hdis hk1 hFc hP1 hD1
  exact kk H1 locs1 hP2 hD2 hS1
theorem callXJ_sl {p : Program} {l : Launch} {e : Env} {R : Room} {s : State} {m : MethodId} {args : Array Value} {below : List Frame} {meth : Method} {c : Code} {H : Heap} {locs : List Loc} {Ts : List Cond} {own : String} {cc : ByteArray} {nL pc cells slots : Nat} {ls : Array Slot} {D : va_G} {y : Nat → ClassId} {aK aV : Nat → Nat} {A : Nat → Prop} {w : va_W} {Q : State → Prop} {rt : Option FieldType} {y' : MethodName} {ws' : List Cond} {rm : Room} {As rest : List Value} {wc wr w1 : va_W} {index n maxL mc ms : Nat} {bytes : ByteArray} {ret' : Option FieldType} {r : Int64} (C : CX p s m args meth c Ts own cc nL rt)
    (hM : Met l y' ws' rm (va_Pc (As) (cPJ D y aK aV wc H.size)) (QL D y (va_A wc H.size) r w1) mc ms (va_A wc H.size)) (cw : CallB R s args own index y' bytes maxL ret' ws' rm mc ms n ∧ (Cond.static y').before args s = true) (hJ : SJ aK aV A s s.heap) (hK : va_K D vwCl (tyl y) s) (hP : va_P D vwCl w H) (hD : va_D A w) (hS : va_S A s.heap H locs) (hA : ∀ q : Nat, s.heap.size ≤ q → A q) (isC isR : List Nat) (hC : isC.map (fun i => w[i]?) = wc.map some) (hCf : isC.filterMap (fun i => w[i]?) = wc) (hR : isR.map (fun i => w[i]?) = wr.map some) (hnC : va_nd isC = true) (hnR : va_nd isR = true) (hdis : ∀ i ∈ isR, i ∉ isC) (hn : As.length = n) (hls : ls.size = nL) (hrest : (rest.map fun v => v.category).sum ≤ 8) (d : decode cc pc = .ok (.invokestatic index, 3)) (hcs : cells + mc ≤ R.cells ∧ slots + ms ≤ R.slots)
    (kk : ∀ (H1 : Heap) (locs1 : List Loc), va_P D vwCl (wr ++ w1) H1 → va_D A (wr ++ w1) → va_S A s.heap H1 locs1 → W p l e R s m args below meth c H1 locs1 (cells + mc) (slots + ms) Q (F0 m (pc + 3) ls (.long r :: rest))) : W p l e R s m args below meth c H locs cells slots Q (F0 m pc ls (As.reverse ++ rest)) := by
  have hPc : va_P D vwCl wc H := hP.sub isC hCf
  have hDc : va_D A wc := hD.sub isC hnC hC
  have hFc := va_free (wc := wc) hD hS hA isC hC
  refine va_calll (va_runS (As := As) (rest := rest) C.1 hM cw ⟨cPJ_blind, fun U hU hW => ⟨rfl, ⟨by rw [hU], by rw [hU]; exact hPc, va_K.moved hW.alike hK, hDc.weaken (fun _ _ _ _ => trivial)⟩, hJ.call hS hFc hU hW⟩⟩ rfl hn hls rfl (lv_room hrest) d hcs) hS (fun q _ h => hFc q h) hFc (fun r' u t H1 locs1 ht hvm hw hB hz1 hk1 hS1 => ?_)
  subst hw
  obtain ⟨hP1, hK1, hD1⟩ := hB
  rw [ht] at hP1
  obtain ⟨hP2, hD2⟩ := va_join (wr := wr) (w1 := w1) hP hD isC isR hC hR hnR hdis hk1 hFc hP1 hD1
  exact kk H1 locs1 hP2 hD2 hS1
theorem callXJ_sv {p : Program} {l : Launch} {e : Env} {R : Room} {s : State} {m : MethodId} {args : Array Value} {below : List Frame} {meth : Method} {c : Code} {H : Heap} {locs : List Loc} {Ts : List Cond} {own : String} {cc : ByteArray} {nL pc cells slots : Nat} {ls : Array Slot} {D : va_G} {y : Nat → ClassId} {aK aV : Nat → Nat} {A : Nat → Prop} {w : va_W} {Q : State → Prop} {rt : Option FieldType} {y' : MethodName} {ws' : List Cond} {rm : Room} {As rest : List Value} {wc wr w1 : va_W} {index n maxL mc ms : Nat} {bytes : ByteArray} {ret' : Option FieldType}  (C : CX p s m args meth c Ts own cc nL rt)
    (hM : Met l y' ws' rm (va_Pc (As) (cPJ D y aK aV wc H.size)) (QV D y (va_A wc H.size) w1) mc ms (va_A wc H.size)) (cw : CallB R s args own index y' bytes maxL ret' ws' rm mc ms n ∧ (Cond.static y').before args s = true) (hJ : SJ aK aV A s s.heap) (hK : va_K D vwCl (tyl y) s) (hP : va_P D vwCl w H) (hD : va_D A w) (hS : va_S A s.heap H locs) (hA : ∀ q : Nat, s.heap.size ≤ q → A q) (isC isR : List Nat) (hC : isC.map (fun i => w[i]?) = wc.map some) (hCf : isC.filterMap (fun i => w[i]?) = wc) (hR : isR.map (fun i => w[i]?) = wr.map some) (hnC : va_nd isC = true) (hnR : va_nd isR = true) (hdis : ∀ i ∈ isR, i ∉ isC) (hn : As.length = n) (hls : ls.size = nL) (hrest : (rest.map fun v => v.category).sum ≤ 8) (d : decode cc pc = .ok (.invokestatic index, 3)) (hcs : cells + mc ≤ R.cells ∧ slots + ms ≤ R.slots)
    (kk : ∀ (H1 : Heap) (locs1 : List Loc), va_P D vwCl (wr ++ w1) H1 → va_D A (wr ++ w1) → va_S A s.heap H1 locs1 → W p l e R s m args below meth c H1 locs1 (cells + mc) (slots + ms) Q (F0 m (pc + 3) ls (rest))) : W p l e R s m args below meth c H locs cells slots Q (F0 m pc ls (As.reverse ++ rest)) := by
  have hPc : va_P D vwCl wc H := hP.sub isC hCf
  have hDc : va_D A wc := hD.sub isC hnC hC
  have hFc := va_free (wc := wc) hD hS hA isC hC
  refine va_callv (va_runS (As := As) (rest := rest) C.1 hM cw ⟨cPJ_blind, fun U hU hW => ⟨rfl, ⟨by rw [hU], by rw [hU]; exact hPc, va_K.moved hW.alike hK, hDc.weaken (fun _ _ _ _ => trivial)⟩, hJ.call hS hFc hU hW⟩⟩ rfl hn hls rfl (lv_room hrest) d hcs) hS (fun q _ h => hFc q h) hFc (fun u t H1 locs1 ht hvm hw hB hz1 hk1 hS1 => ?_)
  obtain ⟨hP1, hK1, hD1⟩ := hB
  rw [ht] at hP1
  obtain ⟨hP2, hD2⟩ := va_join (wr := wr) (w1 := w1) hP hD isC isR hC hR hnR hdis hk1 hFc hP1 hD1
  exact kk H1 locs1 hP2 hD2 hS1
theorem callXX_vi {p : Program} {l : Launch} {e : Env} {R : Room} {s : State} {m : MethodId} {args : Array Value} {below : List Frame} {meth : Method} {c : Code} {H : Heap} {locs : List Loc} {Ts : List Cond} {own : String} {cc : ByteArray} {nL pc cells slots : Nat} {ls : Array Slot} {D : va_G} {y : Nat → ClassId} {aK aV tA : Nat → Nat} {A : Nat → Prop} {w : va_W} {Q : State → Prop} {rt : Option FieldType} {y' : MethodName} {ws' : List Cond} {rm : Room} {As rest : List Value} {wc wr w1 : va_W} {index n maxL mc ms : Nat} {bytes : ByteArray} {ret' : Option FieldType} {C' : String} {b : Nat} {r : Int32} (C : CX p s m args meth c Ts own cc nL rt)
    (hM : Met l y' ws' rm (va_Pc (.ref b :: As) (cPX D y aK aV tA wc H.size)) (QI D y (va_A wc H.size) r w1) mc ms (va_A wc H.size)) (cw : CallW R s args own C' index y' bytes maxL ret' ws' rm mc ms n) (hJ : SJ aK aV A s s.heap) (hT : TJ tA A s s.heap) (hK : va_K D vwCl (tyl y) s) (hP : va_P D vwCl w H) (hD : va_D A w) (hS : va_S A s.heap H locs) (hA : ∀ q : Nat, s.heap.size ≤ q → A q) (isC isR : List Nat) (hC : isC.map (fun i => w[i]?) = wc.map some) (hCf : isC.filterMap (fun i => w[i]?) = wc) (hR : isR.map (fun i => w[i]?) = wr.map some) (hnC : va_nd isC = true) (hnR : va_nd isR = true) (hdis : ∀ i ∈ isR, i ∉ isC) (hrcv : ∃ cell : Cell, H[b]? = some cell ∧ cell.vm.isStatics = false ∧ s.vm.findClass C' = some cell.cls) (hn : As.length = n) (hls : ls.size = nL) (hrest : (rest.map fun v => v.category).sum ≤ 8) (d : decode cc pc = .ok (.invokevirtual index, 3)) (hcs : cells + mc ≤ R.cells ∧ slots + ms ≤ R.slots)
    (kk : ∀ (H1 : Heap) (locs1 : List Loc), va_P D vwCl (wr ++ w1) H1 → va_D A (wr ++ w1) → va_S A s.heap H1 locs1 → W p l e R s m args below meth c H1 locs1 (cells + mc) (slots + ms) Q (F0 m (pc + 3) ls (.int r :: rest))) : W p l e R s m args below meth c H locs cells slots Q (F0 m pc ls (As.reverse ++ .ref b :: rest)) := by
  have hPc : va_P D vwCl wc H := hP.sub isC hCf
  have hDc : va_D A wc := hD.sub isC hnC hC
  have hFc := va_free (wc := wc) hD hS hA isC hC
  refine va_calli (va_runV (As := As) (rest := rest) C.1 hM cw ⟨cPX_blind, hrcv, fun U hU hW => ⟨rfl, ⟨by rw [hU], by rw [hU]; exact hPc, va_K.moved hW.alike hK, hDc.weaken (fun _ _ _ _ => trivial)⟩, hJ.call hS hFc hU hW, hT.call hS hFc hU hW⟩⟩ rfl hn hls rfl (lv_room hrest) d hcs) hS (fun q _ h => hFc q h) hFc (fun r' u t H1 locs1 ht hvm hw hB hz1 hk1 hS1 => ?_)
  subst hw
  obtain ⟨hP1, hK1, hD1⟩ := hB
  rw [ht] at hP1
  obtain ⟨hP2, hD2⟩ := va_join (wr := wr) (w1 := w1) hP hD isC isR hC hR hnR hdis hk1 hFc hP1 hD1
  exact kk H1 locs1 hP2 hD2 hS1
theorem callT_vi {p : Program} {l : Launch} {e : Env} {R : Room} {s : State} {m : MethodId} {args : Array Value} {below : List Frame} {meth : Method} {c : Code} {H : Heap} {locs : List Loc} {Ts : List Cond} {own : String} {cc : ByteArray} {nL pc cells slots : Nat} {ls : Array Slot} {D : va_G} {y : Nat → ClassId} {aK aV tA : Nat → Nat} {A : Nat → Prop} {w : va_W} {Q : State → Prop} {rt : Option FieldType} {y' : MethodName} {ws' : List Cond} {rm : Room} {As rest : List Value} {wc wr w1 : va_W} {index n maxL mc ms : Nat} {bytes : ByteArray} {ret' : Option FieldType} {C' : String} {b : Nat} {r : Int32} {cd : Nat} (C : CX p s m args meth c Ts own cc nL rt)
    (hM : vx_Met l y' ws' rm (va_Pc (.ref b :: As) (cPX D y aK aV tA wc H.size)) (TI D y (va_A wc H.size) cd r w1) (XT D y (va_A wc H.size) cd w1) mc ms (va_A wc H.size)) (cw : CallW R s args own C' index y' bytes maxL ret' ws' rm mc ms n) (hJ : SJ aK aV A s s.heap) (hT : TJ tA A s s.heap) (hK : va_K D vwCl (tyl y) s) (hP : va_P D vwCl w H) (hD : va_D A w) (hS : va_S A s.heap H locs) (hA : ∀ q : Nat, s.heap.size ≤ q → A q) (isC isR : List Nat) (hC : isC.map (fun i => w[i]?) = wc.map some) (hCf : isC.filterMap (fun i => w[i]?) = wc) (hR : isR.map (fun i => w[i]?) = wr.map some) (hnC : va_nd isC = true) (hnR : va_nd isR = true) (hdis : ∀ i ∈ isR, i ∉ isC) (hrcv : ∃ cell : Cell, H[b]? = some cell ∧ cell.vm.isStatics = false ∧ s.vm.findClass C' = some cell.cls) (hn : As.length = n) (hls : ls.size = nL) (hrest : (rest.map fun v => v.category).sum ≤ 8) (d : decode cc pc = .ok (.invokevirtual index, 3)) (hcs : cells + mc ≤ R.cells ∧ slots + ms ≤ R.slots)
    (kx : ∀ (ce : Cell) (q9 : Addr) (H1 : Heap) (locs1 : List Loc), ¬ cd = 0 → va_P D vwCl (wr ++ w1) H1 → va_D A (wr ++ w1) → va_S A s.heap H1 locs1 → H1[q9]? = some ce → ce.vm = .none → s.vm.findClass (exN cd) = some ce.cls → vx_W p l e R s m args below meth c H1 locs1 (cells + mc) (slots + ms) Q (F0 m pc ls rest) q9)
    (kk : ∀ (H1 : Heap) (locs1 : List Loc), cd = 0 → va_P D vwCl (wr ++ w1) H1 → va_D A (wr ++ w1) → va_S A s.heap H1 locs1 → W p l e R s m args below meth c H1 locs1 (cells + mc) (slots + ms) Q (F0 m (pc + 3) ls (.int r :: rest))) : W p l e R s m args below meth c H locs cells slots Q (F0 m pc ls (As.reverse ++ .ref b :: rest)) := by
  have hPc : va_P D vwCl wc H := hP.sub isC hCf
  have hDc : va_D A wc := hD.sub isC hnC hC
  have hFc := va_free (wc := wc) hD hS hA isC hC
  refine vx_calli (vx_runV (As := As) (rest := rest) C.1 hM cw ⟨cPX_blind, hrcv, fun U hU hW => ⟨rfl, ⟨by rw [hU], by rw [hU]; exact hPc, va_K.moved hW.alike hK, hDc.weaken (fun _ _ _ _ => trivial)⟩, hJ.call hS hFc hU hW, hT.call hS hFc hU hW⟩⟩ rfl hn hls rfl (lv_room hrest) d hcs) hS (fun q _ h => hFc q h) hFc (fun q _ h => hFc q h) (fun E ce q9 u t H1 locs1 ht hvm hw hB hz1 hk1 hS1 hce hcv hcl => ?_) (fun r' u t H1 locs1 ht hvm hw hB hz1 hk1 hS1 => ?_)
  · obtain ⟨rfl, hP1, hK1, hD1⟩ := hB
    rw [ht] at hP1
    obtain ⟨hP2, hD2⟩ := va_join (wr := wr) (w1 := w1) hP hD isC isR hC hR hnR hdis hk1 hFc hP1 hD1
    exact kx ce q9 H1 locs1 hw hP2 hD2 hS1 hce hcv hcl
  · obtain ⟨hP1, hK1, hD1⟩ := hB
    rw [ht] at hP1
    obtain ⟨hP2, hD2⟩ := va_join (wr := wr) (w1 := w1) hP hD isC isR hC hR hnR hdis hk1 hFc hP1 hD1
    obtain ⟨hw0, rfl⟩ := hw
    exact kk H1 locs1 hw0 hP2 hD2 hS1
theorem callXX_vl {p : Program} {l : Launch} {e : Env} {R : Room} {s : State} {m : MethodId} {args : Array Value} {below : List Frame} {meth : Method} {c : Code} {H : Heap} {locs : List Loc} {Ts : List Cond} {own : String} {cc : ByteArray} {nL pc cells slots : Nat} {ls : Array Slot} {D : va_G} {y : Nat → ClassId} {aK aV tA : Nat → Nat} {A : Nat → Prop} {w : va_W} {Q : State → Prop} {rt : Option FieldType} {y' : MethodName} {ws' : List Cond} {rm : Room} {As rest : List Value} {wc wr w1 : va_W} {index n maxL mc ms : Nat} {bytes : ByteArray} {ret' : Option FieldType} {C' : String} {b : Nat} {r : Int64} (C : CX p s m args meth c Ts own cc nL rt)
    (hM : Met l y' ws' rm (va_Pc (.ref b :: As) (cPX D y aK aV tA wc H.size)) (QL D y (va_A wc H.size) r w1) mc ms (va_A wc H.size)) (cw : CallW R s args own C' index y' bytes maxL ret' ws' rm mc ms n) (hJ : SJ aK aV A s s.heap) (hT : TJ tA A s s.heap) (hK : va_K D vwCl (tyl y) s) (hP : va_P D vwCl w H) (hD : va_D A w) (hS : va_S A s.heap H locs) (hA : ∀ q : Nat, s.heap.size ≤ q → A q) (isC isR : List Nat) (hC : isC.map (fun i => w[i]?) = wc.map some) (hCf : isC.filterMap (fun i => w[i]?) = wc) (hR : isR.map (fun i => w[i]?) = wr.map some) (hnC : va_nd isC = true) (hnR : va_nd isR = true) (hdis : ∀ i ∈ isR, i ∉ isC) (hrcv : ∃ cell : Cell, H[b]? = some cell ∧ cell.vm.isStatics = false ∧ s.vm.findClass C' = some cell.cls) (hn : As.length = n) (hls : ls.size = nL) (hrest : (rest.map fun v => v.category).sum ≤ 8) (d : decode cc pc = .ok (.invokevirtual index, 3)) (hcs : cells + mc ≤ R.cells ∧ slots + ms ≤ R.slots)
    (kk : ∀ (H1 : Heap) (locs1 : List Loc), va_P D vwCl (wr ++ w1) H1 → va_D A (wr ++ w1) → va_S A s.heap H1 locs1 → W p l e R s m args below meth c H1 locs1 (cells + mc) (slots + ms) Q (F0 m (pc + 3) ls (.long r :: rest))) : W p l e R s m args below meth c H locs cells slots Q (F0 m pc ls (As.reverse ++ .ref b :: rest)) := by
  have hPc : va_P D vwCl wc H := hP.sub isC hCf
  have hDc : va_D A wc := hD.sub isC hnC hC
  have hFc := va_free (wc := wc) hD hS hA isC hC
  refine va_calll (va_runV (As := As) (rest := rest) C.1 hM cw ⟨cPX_blind, hrcv, fun U hU hW => ⟨rfl, ⟨by rw [hU], by rw [hU]; exact hPc, va_K.moved hW.alike hK, hDc.weaken (fun _ _ _ _ => trivial)⟩, hJ.call hS hFc hU hW, hT.call hS hFc hU hW⟩⟩ rfl hn hls rfl (lv_room hrest) d hcs) hS (fun q _ h => hFc q h) hFc (fun r' u t H1 locs1 ht hvm hw hB hz1 hk1 hS1 => ?_)
  subst hw
  obtain ⟨hP1, hK1, hD1⟩ := hB
  rw [ht] at hP1
  obtain ⟨hP2, hD2⟩ := va_join (wr := wr) (w1 := w1) hP hD isC isR hC hR hnR hdis hk1 hFc hP1 hD1
  exact kk H1 locs1 hP2 hD2 hS1
theorem callT_vl {p : Program} {l : Launch} {e : Env} {R : Room} {s : State} {m : MethodId} {args : Array Value} {below : List Frame} {meth : Method} {c : Code} {H : Heap} {locs : List Loc} {Ts : List Cond} {own : String} {cc : ByteArray} {nL pc cells slots : Nat} {ls : Array Slot} {D : va_G} {y : Nat → ClassId} {aK aV tA : Nat → Nat} {A : Nat → Prop} {w : va_W} {Q : State → Prop} {rt : Option FieldType} {y' : MethodName} {ws' : List Cond} {rm : Room} {As rest : List Value} {wc wr w1 : va_W} {index n maxL mc ms : Nat} {bytes : ByteArray} {ret' : Option FieldType} {C' : String} {b : Nat} {r : Int64} {cd : Nat} (C : CX p s m args meth c Ts own cc nL rt)
    (hM : vx_Met l y' ws' rm (va_Pc (.ref b :: As) (cPX D y aK aV tA wc H.size)) (TL D y (va_A wc H.size) cd r w1) (XT D y (va_A wc H.size) cd w1) mc ms (va_A wc H.size)) (cw : CallW R s args own C' index y' bytes maxL ret' ws' rm mc ms n) (hJ : SJ aK aV A s s.heap) (hT : TJ tA A s s.heap) (hK : va_K D vwCl (tyl y) s) (hP : va_P D vwCl w H) (hD : va_D A w) (hS : va_S A s.heap H locs) (hA : ∀ q : Nat, s.heap.size ≤ q → A q) (isC isR : List Nat) (hC : isC.map (fun i => w[i]?) = wc.map some) (hCf : isC.filterMap (fun i => w[i]?) = wc) (hR : isR.map (fun i => w[i]?) = wr.map some) (hnC : va_nd isC = true) (hnR : va_nd isR = true) (hdis : ∀ i ∈ isR, i ∉ isC) (hrcv : ∃ cell : Cell, H[b]? = some cell ∧ cell.vm.isStatics = false ∧ s.vm.findClass C' = some cell.cls) (hn : As.length = n) (hls : ls.size = nL) (hrest : (rest.map fun v => v.category).sum ≤ 8) (d : decode cc pc = .ok (.invokevirtual index, 3)) (hcs : cells + mc ≤ R.cells ∧ slots + ms ≤ R.slots)
    (kx : ∀ (ce : Cell) (q9 : Addr) (H1 : Heap) (locs1 : List Loc), ¬ cd = 0 → va_P D vwCl (wr ++ w1) H1 → va_D A (wr ++ w1) → va_S A s.heap H1 locs1 → H1[q9]? = some ce → ce.vm = .none → s.vm.findClass (exN cd) = some ce.cls → vx_W p l e R s m args below meth c H1 locs1 (cells + mc) (slots + ms) Q (F0 m pc ls rest) q9)
    (kk : ∀ (H1 : Heap) (locs1 : List Loc), cd = 0 → va_P D vwCl (wr ++ w1) H1 → va_D A (wr ++ w1) → va_S A s.heap H1 locs1 → W p l e R s m args below meth c H1 locs1 (cells + mc) (slots + ms) Q (F0 m (pc + 3) ls (.long r :: rest))) : W p l e R s m args below meth c H locs cells slots Q (F0 m pc ls (As.reverse ++ .ref b :: rest)) := by
  have hPc : va_P D vwCl wc H := hP.sub isC hCf
  have hDc : va_D A wc := hD.sub isC hnC hC
  have hFc := va_free (wc := wc) hD hS hA isC hC
  refine vx_calll (vx_runV (As := As) (rest := rest) C.1 hM cw ⟨cPX_blind, hrcv, fun U hU hW => ⟨rfl, ⟨by rw [hU], by rw [hU]; exact hPc, va_K.moved hW.alike hK, hDc.weaken (fun _ _ _ _ => trivial)⟩, hJ.call hS hFc hU hW, hT.call hS hFc hU hW⟩⟩ rfl hn hls rfl (lv_room hrest) d hcs) hS (fun q _ h => hFc q h) hFc (fun q _ h => hFc q h) (fun E ce q9 u t H1 locs1 ht hvm hw hB hz1 hk1 hS1 hce hcv hcl => ?_) (fun r' u t H1 locs1 ht hvm hw hB hz1 hk1 hS1 => ?_)
  · obtain ⟨rfl, hP1, hK1, hD1⟩ := hB
    rw [ht] at hP1
    obtain ⟨hP2, hD2⟩ := va_join (wr := wr) (w1 := w1) hP hD isC isR hC hR hnR hdis hk1 hFc hP1 hD1
    exact kx ce q9 H1 locs1 hw hP2 hD2 hS1 hce hcv hcl
  · obtain ⟨hP1, hK1, hD1⟩ := hB
    rw [ht] at hP1
    obtain ⟨hP2, hD2⟩ := va_join (wr := wr) (w1 := w1) hP hD isC isR hC hR hnR hdis hk1 hFc hP1 hD1
    obtain ⟨hw0, rfl⟩ := hw
    exact kk H1 locs1 hw0 hP2 hD2 hS1
theorem callXX_vv {p : Program} {l : Launch} {e : Env} {R : Room} {s : State} {m : MethodId} {args : Array Value} {below : List Frame} {meth : Method} {c : Code} {H : Heap} {locs : List Loc} {Ts : List Cond} {own : String} {cc : ByteArray} {nL pc cells slots : Nat} {ls : Array Slot} {D : va_G} {y : Nat → ClassId} {aK aV tA : Nat → Nat} {A : Nat → Prop} {w : va_W} {Q : State → Prop} {rt : Option FieldType} {y' : MethodName} {ws' : List Cond} {rm : Room} {As rest : List Value} {wc wr w1 : va_W} {index n maxL mc ms : Nat} {bytes : ByteArray} {ret' : Option FieldType} {C' : String} {b : Nat}  (C : CX p s m args meth c Ts own cc nL rt)
    (hM : Met l y' ws' rm (va_Pc (.ref b :: As) (cPX D y aK aV tA wc H.size)) (QV D y (va_A wc H.size) w1) mc ms (va_A wc H.size)) (cw : CallW R s args own C' index y' bytes maxL ret' ws' rm mc ms n) (hJ : SJ aK aV A s s.heap) (hT : TJ tA A s s.heap) (hK : va_K D vwCl (tyl y) s) (hP : va_P D vwCl w H) (hD : va_D A w) (hS : va_S A s.heap H locs) (hA : ∀ q : Nat, s.heap.size ≤ q → A q) (isC isR : List Nat) (hC : isC.map (fun i => w[i]?) = wc.map some) (hCf : isC.filterMap (fun i => w[i]?) = wc) (hR : isR.map (fun i => w[i]?) = wr.map some) (hnC : va_nd isC = true) (hnR : va_nd isR = true) (hdis : ∀ i ∈ isR, i ∉ isC) (hrcv : ∃ cell : Cell, H[b]? = some cell ∧ cell.vm.isStatics = false ∧ s.vm.findClass C' = some cell.cls) (hn : As.length = n) (hls : ls.size = nL) (hrest : (rest.map fun v => v.category).sum ≤ 8) (d : decode cc pc = .ok (.invokevirtual index, 3)) (hcs : cells + mc ≤ R.cells ∧ slots + ms ≤ R.slots)
    (kk : ∀ (H1 : Heap) (locs1 : List Loc), va_P D vwCl (wr ++ w1) H1 → va_D A (wr ++ w1) → va_S A s.heap H1 locs1 → W p l e R s m args below meth c H1 locs1 (cells + mc) (slots + ms) Q (F0 m (pc + 3) ls (rest))) : W p l e R s m args below meth c H locs cells slots Q (F0 m pc ls (As.reverse ++ .ref b :: rest)) := by
  have hPc : va_P D vwCl wc H := hP.sub isC hCf
  have hDc : va_D A wc := hD.sub isC hnC hC
  have hFc := va_free (wc := wc) hD hS hA isC hC
  refine va_callv (va_runV (As := As) (rest := rest) C.1 hM cw ⟨cPX_blind, hrcv, fun U hU hW => ⟨rfl, ⟨by rw [hU], by rw [hU]; exact hPc, va_K.moved hW.alike hK, hDc.weaken (fun _ _ _ _ => trivial)⟩, hJ.call hS hFc hU hW, hT.call hS hFc hU hW⟩⟩ rfl hn hls rfl (lv_room hrest) d hcs) hS (fun q _ h => hFc q h) hFc (fun u t H1 locs1 ht hvm hw hB hz1 hk1 hS1 => ?_)
  obtain ⟨hP1, hK1, hD1⟩ := hB
  rw [ht] at hP1
  obtain ⟨hP2, hD2⟩ := va_join (wr := wr) (w1 := w1) hP hD isC isR hC hR hnR hdis hk1 hFc hP1 hD1
  exact kk H1 locs1 hP2 hD2 hS1
theorem callT_vv {p : Program} {l : Launch} {e : Env} {R : Room} {s : State} {m : MethodId} {args : Array Value} {below : List Frame} {meth : Method} {c : Code} {H : Heap} {locs : List Loc} {Ts : List Cond} {own : String} {cc : ByteArray} {nL pc cells slots : Nat} {ls : Array Slot} {D : va_G} {y : Nat → ClassId} {aK aV tA : Nat → Nat} {A : Nat → Prop} {w : va_W} {Q : State → Prop} {rt : Option FieldType} {y' : MethodName} {ws' : List Cond} {rm : Room} {As rest : List Value} {wc wr w1 : va_W} {index n maxL mc ms : Nat} {bytes : ByteArray} {ret' : Option FieldType} {C' : String} {b : Nat}  {cd : Nat} (C : CX p s m args meth c Ts own cc nL rt)
    (hM : vx_Met l y' ws' rm (va_Pc (.ref b :: As) (cPX D y aK aV tA wc H.size)) (TV D y (va_A wc H.size) cd w1) (XT D y (va_A wc H.size) cd w1) mc ms (va_A wc H.size)) (cw : CallW R s args own C' index y' bytes maxL ret' ws' rm mc ms n) (hJ : SJ aK aV A s s.heap) (hT : TJ tA A s s.heap) (hK : va_K D vwCl (tyl y) s) (hP : va_P D vwCl w H) (hD : va_D A w) (hS : va_S A s.heap H locs) (hA : ∀ q : Nat, s.heap.size ≤ q → A q) (isC isR : List Nat) (hC : isC.map (fun i => w[i]?) = wc.map some) (hCf : isC.filterMap (fun i => w[i]?) = wc) (hR : isR.map (fun i => w[i]?) = wr.map some) (hnC : va_nd isC = true) (hnR : va_nd isR = true) (hdis : ∀ i ∈ isR, i ∉ isC) (hrcv : ∃ cell : Cell, H[b]? = some cell ∧ cell.vm.isStatics = false ∧ s.vm.findClass C' = some cell.cls) (hn : As.length = n) (hls : ls.size = nL) (hrest : (rest.map fun v => v.category).sum ≤ 8) (d : decode cc pc = .ok (.invokevirtual index, 3)) (hcs : cells + mc ≤ R.cells ∧ slots + ms ≤ R.slots)
    (kx : ∀ (ce : Cell) (q9 : Addr) (H1 : Heap) (locs1 : List Loc), ¬ cd = 0 → va_P D vwCl (wr ++ w1) H1 → va_D A (wr ++ w1) → va_S A s.heap H1 locs1 → H1[q9]? = some ce → ce.vm = .none → s.vm.findClass (exN cd) = some ce.cls → vx_W p l e R s m args below meth c H1 locs1 (cells + mc) (slots + ms) Q (F0 m pc ls rest) q9)
    (kk : ∀ (H1 : Heap) (locs1 : List Loc), cd = 0 → va_P D vwCl (wr ++ w1) H1 → va_D A (wr ++ w1) → va_S A s.heap H1 locs1 → W p l e R s m args below meth c H1 locs1 (cells + mc) (slots + ms) Q (F0 m (pc + 3) ls (rest))) : W p l e R s m args below meth c H locs cells slots Q (F0 m pc ls (As.reverse ++ .ref b :: rest)) := by
  have hPc : va_P D vwCl wc H := hP.sub isC hCf
  have hDc : va_D A wc := hD.sub isC hnC hC
  have hFc := va_free (wc := wc) hD hS hA isC hC
  refine vx_callv (vx_runV (As := As) (rest := rest) C.1 hM cw ⟨cPX_blind, hrcv, fun U hU hW => ⟨rfl, ⟨by rw [hU], by rw [hU]; exact hPc, va_K.moved hW.alike hK, hDc.weaken (fun _ _ _ _ => trivial)⟩, hJ.call hS hFc hU hW, hT.call hS hFc hU hW⟩⟩ rfl hn hls rfl (lv_room hrest) d hcs) hS (fun q _ h => hFc q h) hFc (fun q _ h => hFc q h) (fun E ce q9 u t H1 locs1 ht hvm hw hB hz1 hk1 hS1 hce hcv hcl => ?_) (fun u t H1 locs1 ht hvm hw hB hz1 hk1 hS1 => ?_)
  · obtain ⟨rfl, hP1, hK1, hD1⟩ := hB
    rw [ht] at hP1
    obtain ⟨hP2, hD2⟩ := va_join (wr := wr) (w1 := w1) hP hD isC isR hC hR hnR hdis hk1 hFc hP1 hD1
    exact kx ce q9 H1 locs1 hw hP2 hD2 hS1 hce hcv hcl
  · obtain ⟨hP1, hK1, hD1⟩ := hB
    rw [ht] at hP1
    obtain ⟨hP2, hD2⟩ := va_join (wr := wr) (w1 := w1) hP hD isC isR hC hR hnR hdis hk1 hFc hP1 hD1
    have hw0 := hw
    exact kk H1 locs1 hw0 hP2 hD2 hS1
theorem callXX_si {p : Program} {l : Launch} {e : Env} {R : Room} {s : State} {m : MethodId} {args : Array Value} {below : List Frame} {meth : Method} {c : Code} {H : Heap} {locs : List Loc} {Ts : List Cond} {own : String} {cc : ByteArray} {nL pc cells slots : Nat} {ls : Array Slot} {D : va_G} {y : Nat → ClassId} {aK aV tA : Nat → Nat} {A : Nat → Prop} {w : va_W} {Q : State → Prop} {rt : Option FieldType} {y' : MethodName} {ws' : List Cond} {rm : Room} {As rest : List Value} {wc wr w1 : va_W} {index n maxL mc ms : Nat} {bytes : ByteArray} {ret' : Option FieldType} {r : Int32} (C : CX p s m args meth c Ts own cc nL rt)
    (hM : Met l y' ws' rm (va_Pc (As) (cPX D y aK aV tA wc H.size)) (QI D y (va_A wc H.size) r w1) mc ms (va_A wc H.size)) (cw : CallB R s args own index y' bytes maxL ret' ws' rm mc ms n ∧ (Cond.static y').before args s = true) (hJ : SJ aK aV A s s.heap) (hT : TJ tA A s s.heap) (hK : va_K D vwCl (tyl y) s) (hP : va_P D vwCl w H) (hD : va_D A w) (hS : va_S A s.heap H locs) (hA : ∀ q : Nat, s.heap.size ≤ q → A q) (isC isR : List Nat) (hC : isC.map (fun i => w[i]?) = wc.map some) (hCf : isC.filterMap (fun i => w[i]?) = wc) (hR : isR.map (fun i => w[i]?) = wr.map some) (hnC : va_nd isC = true) (hnR : va_nd isR = true) (hdis : ∀ i ∈ isR, i ∉ isC) (hn : As.length = n) (hls : ls.size = nL) (hrest : (rest.map fun v => v.category).sum ≤ 8) (d : decode cc pc = .ok (.invokestatic index, 3)) (hcs : cells + mc ≤ R.cells ∧ slots + ms ≤ R.slots)
    (kk : ∀ (H1 : Heap) (locs1 : List Loc), va_P D vwCl (wr ++ w1) H1 → va_D A (wr ++ w1) → va_S A s.heap H1 locs1 → W p l e R s m args below meth c H1 locs1 (cells + mc) (slots + ms) Q (F0 m (pc + 3) ls (.int r :: rest))) : W p l e R s m args below meth c H locs cells slots Q (F0 m pc ls (As.reverse ++ rest)) := by
  have hPc : va_P D vwCl wc H := hP.sub isC hCf
  have hDc : va_D A wc := hD.sub isC hnC hC
  have hFc := va_free (wc := wc) hD hS hA isC hC
  refine va_calli (va_runS (As := As) (rest := rest) C.1 hM cw ⟨cPX_blind, fun U hU hW => ⟨rfl, ⟨by rw [hU], by rw [hU]; exact hPc, va_K.moved hW.alike hK, hDc.weaken (fun _ _ _ _ => trivial)⟩, hJ.call hS hFc hU hW, hT.call hS hFc hU hW⟩⟩ rfl hn hls rfl (lv_room hrest) d hcs) hS (fun q _ h => hFc q h) hFc (fun r' u t H1 locs1 ht hvm hw hB hz1 hk1 hS1 => ?_)
  subst hw
  obtain ⟨hP1, hK1, hD1⟩ := hB
  rw [ht] at hP1
  obtain ⟨hP2, hD2⟩ := va_join (wr := wr) (w1 := w1) hP hD isC isR hC hR hnR hdis hk1 hFc hP1 hD1
  exact kk H1 locs1 hP2 hD2 hS1
theorem callT_si {p : Program} {l : Launch} {e : Env} {R : Room} {s : State} {m : MethodId} {args : Array Value} {below : List Frame} {meth : Method} {c : Code} {H : Heap} {locs : List Loc} {Ts : List Cond} {own : String} {cc : ByteArray} {nL pc cells slots : Nat} {ls : Array Slot} {D : va_G} {y : Nat → ClassId} {aK aV tA : Nat → Nat} {A : Nat → Prop} {w : va_W} {Q : State → Prop} {rt : Option FieldType} {y' : MethodName} {ws' : List Cond} {rm : Room} {As rest : List Value} {wc wr w1 : va_W} {index n maxL mc ms : Nat} {bytes : ByteArray} {ret' : Option FieldType} {r : Int32} {cd : Nat} (C : CX p s m args meth c Ts own cc nL rt)
    (hM : vx_Met l y' ws' rm (va_Pc (As) (cPX D y aK aV tA wc H.size)) (TI D y (va_A wc H.size) cd r w1) (XT D y (va_A wc H.size) cd w1) mc ms (va_A wc H.size)) (cw : CallB R s args own index y' bytes maxL ret' ws' rm mc ms n ∧ (Cond.static y').before args s = true) (hJ : SJ aK aV A s s.heap) (hT : TJ tA A s s.heap) (hK : va_K D vwCl (tyl y) s) (hP : va_P D vwCl w H) (hD : va_D A w) (hS : va_S A s.heap H locs) (hA : ∀ q : Nat, s.heap.size ≤ q → A q) (isC isR : List Nat) (hC : isC.map (fun i => w[i]?) = wc.map some) (hCf : isC.filterMap (fun i => w[i]?) = wc) (hR : isR.map (fun i => w[i]?) = wr.map some) (hnC : va_nd isC = true) (hnR : va_nd isR = true) (hdis : ∀ i ∈ isR, i ∉ isC) (hn : As.length = n) (hls : ls.size = nL) (hrest : (rest.map fun v => v.category).sum ≤ 8) (d : decode cc pc = .ok (.invokestatic index, 3)) (hcs : cells + mc ≤ R.cells ∧ slots + ms ≤ R.slots)
    (kx : ∀ (ce : Cell) (q9 : Addr) (H1 : Heap) (locs1 : List Loc), ¬ cd = 0 → va_P D vwCl (wr ++ w1) H1 → va_D A (wr ++ w1) → va_S A s.heap H1 locs1 → H1[q9]? = some ce → ce.vm = .none → s.vm.findClass (exN cd) = some ce.cls → vx_W p l e R s m args below meth c H1 locs1 (cells + mc) (slots + ms) Q (F0 m pc ls rest) q9)
    (kk : ∀ (H1 : Heap) (locs1 : List Loc), cd = 0 → va_P D vwCl (wr ++ w1) H1 → va_D A (wr ++ w1) → va_S A s.heap H1 locs1 → W p l e R s m args below meth c H1 locs1 (cells + mc) (slots + ms) Q (F0 m (pc + 3) ls (.int r :: rest))) : W p l e R s m args below meth c H locs cells slots Q (F0 m pc ls (As.reverse ++ rest)) := by
  have hPc : va_P D vwCl wc H := hP.sub isC hCf
  have hDc : va_D A wc := hD.sub isC hnC hC
  have hFc := va_free (wc := wc) hD hS hA isC hC
  refine vx_calli (vx_runS (As := As) (rest := rest) C.1 hM cw ⟨cPX_blind, fun U hU hW => ⟨rfl, ⟨by rw [hU], by rw [hU]; exact hPc, va_K.moved hW.alike hK, hDc.weaken (fun _ _ _ _ => trivial)⟩, hJ.call hS hFc hU hW, hT.call hS hFc hU hW⟩⟩ rfl hn hls rfl (lv_room hrest) d hcs) hS (fun q _ h => hFc q h) hFc (fun q _ h => hFc q h) (fun E ce q9 u t H1 locs1 ht hvm hw hB hz1 hk1 hS1 hce hcv hcl => ?_) (fun r' u t H1 locs1 ht hvm hw hB hz1 hk1 hS1 => ?_)
  · obtain ⟨rfl, hP1, hK1, hD1⟩ := hB
    rw [ht] at hP1
    obtain ⟨hP2, hD2⟩ := va_join (wr := wr) (w1 := w1) hP hD isC isR hC hR hnR hdis hk1 hFc hP1 hD1
    exact kx ce q9 H1 locs1 hw hP2 hD2 hS1 hce hcv hcl
  · obtain ⟨hP1, hK1, hD1⟩ := hB
    rw [ht] at hP1
    obtain ⟨hP2, hD2⟩ := va_join (wr := wr) (w1 := w1) hP hD isC isR hC hR hnR hdis hk1 hFc hP1 hD1
    obtain ⟨hw0, rfl⟩ := hw
    exact kk H1 locs1 hw0 hP2 hD2 hS1
theorem callXX_sl {p : Program} {l : Launch} {e : Env} {R : Room} {s : State} {m : MethodId} {args : Array Value} {below : List Frame} {meth : Method} {c : Code} {H : Heap} {locs : List Loc} {Ts : List Cond} {own : String} {cc : ByteArray} {nL pc cells slots : Nat} {ls : Array Slot} {D : va_G} {y : Nat → ClassId} {aK aV tA : Nat → Nat} {A : Nat → Prop} {w : va_W} {Q : State → Prop} {rt : Option FieldType} {y' : MethodName} {ws' : List Cond} {rm : Room} {As rest : List Value} {wc wr w1 : va_W} {index n maxL mc ms : Nat} {bytes : ByteArray} {ret' : Option FieldType} {r : Int64} (C : CX p s m args meth c Ts own cc nL rt)
    (hM : Met l y' ws' rm (va_Pc (As) (cPX D y aK aV tA wc H.size)) (QL D y (va_A wc H.size) r w1) mc ms (va_A wc H.size)) (cw : CallB R s args own index y' bytes maxL ret' ws' rm mc ms n ∧ (Cond.static y').before args s = true) (hJ : SJ aK aV A s s.heap) (hT : TJ tA A s s.heap) (hK : va_K D vwCl (tyl y) s) (hP : va_P D vwCl w H) (hD : va_D A w) (hS : va_S A s.heap H locs) (hA : ∀ q : Nat, s.heap.size ≤ q → A q) (isC isR : List Nat) (hC : isC.map (fun i => w[i]?) = wc.map some) (hCf : isC.filterMap (fun i => w[i]?) = wc) (hR : isR.map (fun i => w[i]?) = wr.map some) (hnC : va_nd isC = true) (hnR : va_nd isR = true) (hdis : ∀ i ∈ isR, i ∉ isC) (hn : As.length = n) (hls : ls.size = nL) (hrest : (rest.map fun v => v.category).sum ≤ 8) (d : decode cc pc = .ok (.invokestatic index, 3)) (hcs : cells + mc ≤ R.cells ∧ slots + ms ≤ R.slots)
    (kk : ∀ (H1 : Heap) (locs1 : List Loc), va_P D vwCl (wr ++ w1) H1 → va_D A (wr ++ w1) → va_S A s.heap H1 locs1 → W p l e R s m args below meth c H1 locs1 (cells + mc) (slots + ms) Q (F0 m (pc + 3) ls (.long r :: rest))) : W p l e R s m args below meth c H locs cells slots Q (F0 m pc ls (As.reverse ++ rest)) := by
  have hPc : va_P D vwCl wc H := hP.sub isC hCf
  have hDc : va_D A wc := hD.sub isC hnC hC
  have hFc := va_free (wc := wc) hD hS hA isC hC
  refine va_calll (va_runS (As := As) (rest := rest) C.1 hM cw ⟨cPX_blind, fun U hU hW => ⟨rfl, ⟨by rw [hU], by rw [hU]; exact hPc, va_K.moved hW.alike hK, hDc.weaken (fun _ _ _ _ => trivial)⟩, hJ.call hS hFc hU hW, hT.call hS hFc hU hW⟩⟩ rfl hn hls rfl (lv_room hrest) d hcs) hS (fun q _ h => hFc q h) hFc (fun r' u t H1 locs1 ht hvm hw hB hz1 hk1 hS1 => ?_)
  subst hw
  obtain ⟨hP1, hK1, hD1⟩ := hB
  rw [ht] at hP1
  obtain ⟨hP2, hD2⟩ := va_join (wr := wr) (w1 := w1) hP hD isC isR hC hR hnR hdis hk1 hFc hP1 hD1
  exact kk H1 locs1 hP2 hD2 hS1
theorem callT_sl {p : Program} {l : Launch} {e : Env} {R : Room} {s : State} {m : MethodId} {args : Array Value} {below : List Frame} {meth : Method} {c : Code} {H : Heap} {locs : List Loc} {Ts : List Cond} {own : String} {cc : ByteArray} {nL pc cells slots : Nat} {ls : Array Slot} {D : va_G} {y : Nat → ClassId} {aK aV tA : Nat → Nat} {A : Nat → Prop} {w : va_W} {Q : State → Prop} {rt : Option FieldType} {y' : MethodName} {ws' : List Cond} {rm : Room} {As rest : List Value} {wc wr w1 : va_W} {index n maxL mc ms : Nat} {bytes : ByteArray} {ret' : Option FieldType} {r : Int64} {cd : Nat} (C : CX p s m args meth c Ts own cc nL rt)
    (hM : vx_Met l y' ws' rm (va_Pc (As) (cPX D y aK aV tA wc H.size)) (TL D y (va_A wc H.size) cd r w1) (XT D y (va_A wc H.size) cd w1) mc ms (va_A wc H.size)) (cw : CallB R s args own index y' bytes maxL ret' ws' rm mc ms n ∧ (Cond.static y').before args s = true) (hJ : SJ aK aV A s s.heap) (hT : TJ tA A s s.heap) (hK : va_K D vwCl (tyl y) s) (hP : va_P D vwCl w H) (hD : va_D A w) (hS : va_S A s.heap H locs) (hA : ∀ q : Nat, s.heap.size ≤ q → A q) (isC isR : List Nat) (hC : isC.map (fun i => w[i]?) = wc.map some) (hCf : isC.filterMap (fun i => w[i]?) = wc) (hR : isR.map (fun i => w[i]?) = wr.map some) (hnC : va_nd isC = true) (hnR : va_nd isR = true) (hdis : ∀ i ∈ isR, i ∉ isC) (hn : As.length = n) (hls : ls.size = nL) (hrest : (rest.map fun v => v.category).sum ≤ 8) (d : decode cc pc = .ok (.invokestatic index, 3)) (hcs : cells + mc ≤ R.cells ∧ slots + ms ≤ R.slots)
    (kx : ∀ (ce : Cell) (q9 : Addr) (H1 : Heap) (locs1 : List Loc), ¬ cd = 0 → va_P D vwCl (wr ++ w1) H1 → va_D A (wr ++ w1) → va_S A s.heap H1 locs1 → H1[q9]? = some ce → ce.vm = .none → s.vm.findClass (exN cd) = some ce.cls → vx_W p l e R s m args below meth c H1 locs1 (cells + mc) (slots + ms) Q (F0 m pc ls rest) q9)
    (kk : ∀ (H1 : Heap) (locs1 : List Loc), cd = 0 → va_P D vwCl (wr ++ w1) H1 → va_D A (wr ++ w1) → va_S A s.heap H1 locs1 → W p l e R s m args below meth c H1 locs1 (cells + mc) (slots + ms) Q (F0 m (pc + 3) ls (.long r :: rest))) : W p l e R s m args below meth c H locs cells slots Q (F0 m pc ls (As.reverse ++ rest)) := by
  have hPc : va_P D vwCl wc H := hP.sub isC hCf
  have hDc : va_D A wc := hD.sub isC hnC hC
  have hFc := va_free (wc := wc) hD hS hA isC hC
  refine vx_calll (vx_runS (As := As) (rest := rest) C.1 hM cw ⟨cPX_blind, fun U hU hW => ⟨rfl, ⟨by rw [hU], by rw [hU]; exact hPc, va_K.moved hW.alike hK, hDc.weaken (fun _ _ _ _ => trivial)⟩, hJ.call hS hFc hU hW, hT.call hS hFc hU hW⟩⟩ rfl hn hls rfl (lv_room hrest) d hcs) hS (fun q _ h => hFc q h) hFc (fun q _ h => hFc q h) (fun E ce q9 u t H1 locs1 ht hvm hw hB hz1 hk1 hS1 hce hcv hcl => ?_) (fun r' u t H1 locs1 ht hvm hw hB hz1 hk1 hS1 => ?_)
  · obtain ⟨rfl, hP1, hK1, hD1⟩ := hB
    rw [ht] at hP1
    obtain ⟨hP2, hD2⟩ := va_join (wr := wr) (w1 := w1) hP hD isC isR hC hR hnR hdis hk1 hFc hP1 hD1
    exact kx ce q9 H1 locs1 hw hP2 hD2 hS1 hce hcv hcl
  · obtain ⟨hP1, hK1, hD1⟩ := hB
    rw [ht] at hP1
    obtain ⟨hP2, hD2⟩ := va_join (wr := wr) (w1 := w1) hP hD isC isR hC hR hnR hdis hk1 hFc hP1 hD1
    obtain ⟨hw0, rfl⟩ := hw
    exact kk H1 locs1 hw0 hP2 hD2 hS1
theorem callXX_sv {p : Program} {l : Launch} {e : Env} {R : Room} {s : State} {m : MethodId} {args : Array Value} {below : List Frame} {meth : Method} {c : Code} {H : Heap} {locs : List Loc} {Ts : List Cond} {own : String} {cc : ByteArray} {nL pc cells slots : Nat} {ls : Array Slot} {D : va_G} {y : Nat → ClassId} {aK aV tA : Nat → Nat} {A : Nat → Prop} {w : va_W} {Q : State → Prop} {rt : Option FieldType} {y' : MethodName} {ws' : List Cond} {rm : Room} {As rest : List Value} {wc wr w1 : va_W} {index n maxL mc ms : Nat} {bytes : ByteArray} {ret' : Option FieldType}  (C : CX p s m args meth c Ts own cc nL rt)
    (hM : Met l y' ws' rm (va_Pc (As) (cPX D y aK aV tA wc H.size)) (QV D y (va_A wc H.size) w1) mc ms (va_A wc H.size)) (cw : CallB R s args own index y' bytes maxL ret' ws' rm mc ms n ∧ (Cond.static y').before args s = true) (hJ : SJ aK aV A s s.heap) (hT : TJ tA A s s.heap) (hK : va_K D vwCl (tyl y) s) (hP : va_P D vwCl w H) (hD : va_D A w) (hS : va_S A s.heap H locs) (hA : ∀ q : Nat, s.heap.size ≤ q → A q) (isC isR : List Nat) (hC : isC.map (fun i => w[i]?) = wc.map some) (hCf : isC.filterMap (fun i => w[i]?) = wc) (hR : isR.map (fun i => w[i]?) = wr.map some) (hnC : va_nd isC = true) (hnR : va_nd isR = true) (hdis : ∀ i ∈ isR, i ∉ isC) (hn : As.length = n) (hls : ls.size = nL) (hrest : (rest.map fun v => v.category).sum ≤ 8) (d : decode cc pc = .ok (.invokestatic index, 3)) (hcs : cells + mc ≤ R.cells ∧ slots + ms ≤ R.slots)
    (kk : ∀ (H1 : Heap) (locs1 : List Loc), va_P D vwCl (wr ++ w1) H1 → va_D A (wr ++ w1) → va_S A s.heap H1 locs1 → W p l e R s m args below meth c H1 locs1 (cells + mc) (slots + ms) Q (F0 m (pc + 3) ls (rest))) : W p l e R s m args below meth c H locs cells slots Q (F0 m pc ls (As.reverse ++ rest)) := by
  have hPc : va_P D vwCl wc H := hP.sub isC hCf
  have hDc : va_D A wc := hD.sub isC hnC hC
  have hFc := va_free (wc := wc) hD hS hA isC hC
  refine va_callv (va_runS (As := As) (rest := rest) C.1 hM cw ⟨cPX_blind, fun U hU hW => ⟨rfl, ⟨by rw [hU], by rw [hU]; exact hPc, va_K.moved hW.alike hK, hDc.weaken (fun _ _ _ _ => trivial)⟩, hJ.call hS hFc hU hW, hT.call hS hFc hU hW⟩⟩ rfl hn hls rfl (lv_room hrest) d hcs) hS (fun q _ h => hFc q h) hFc (fun u t H1 locs1 ht hvm hw hB hz1 hk1 hS1 => ?_)
  obtain ⟨hP1, hK1, hD1⟩ := hB
  rw [ht] at hP1
  obtain ⟨hP2, hD2⟩ := va_join (wr := wr) (w1 := w1) hP hD isC isR hC hR hnR hdis hk1 hFc hP1 hD1
  exact kk H1 locs1 hP2 hD2 hS1
theorem callT_sv {p : Program} {l : Launch} {e : Env} {R : Room} {s : State} {m : MethodId} {args : Array Value} {below : List Frame} {meth : Method} {c : Code} {H : Heap} {locs : List Loc} {Ts : List Cond} {own : String} {cc : ByteArray} {nL pc cells slots : Nat} {ls : Array Slot} {D : va_G} {y : Nat → ClassId} {aK aV tA : Nat → Nat} {A : Nat → Prop} {w : va_W} {Q : State → Prop} {rt : Option FieldType} {y' : MethodName} {ws' : List Cond} {rm : Room} {As rest : List Value} {wc wr w1 : va_W} {index n maxL mc ms : Nat} {bytes : ByteArray} {ret' : Option FieldType}  {cd : Nat} (C : CX p s m args meth c Ts own cc nL rt)
    (hM : vx_Met l y' ws' rm (va_Pc (As) (cPX D y aK aV tA wc H.size)) (TV D y (va_A wc H.size) cd w1) (XT D y (va_A wc H.size) cd w1) mc ms (va_A wc H.size)) (cw : CallB R s args own index y' bytes maxL ret' ws' rm mc ms n ∧ (Cond.static y').before args s = true) (hJ : SJ aK aV A s s.heap) (hT : TJ tA A s s.heap) (hK : va_K D vwCl (tyl y) s) (hP : va_P D vwCl w H) (hD : va_D A w) (hS : va_S A s.heap H locs) (hA : ∀ q : Nat, s.heap.size ≤ q → A q) (isC isR : List Nat) (hC : isC.map (fun i => w[i]?) = wc.map some) (hCf : isC.filterMap (fun i => w[i]?) = wc) (hR : isR.map (fun i => w[i]?) = wr.map some) (hnC : va_nd isC = true) (hnR : va_nd isR = true) (hdis : ∀ i ∈ isR, i ∉ isC) (hn : As.length = n) (hls : ls.size = nL) (hrest : (rest.map fun v => v.category).sum ≤ 8) (d : decode cc pc = .ok (.invokestatic index, 3)) (hcs : cells + mc ≤ R.cells ∧ slots + ms ≤ R.slots)
    (kx : ∀ (ce : Cell) (q9 : Addr) (H1 : Heap) (locs1 : List Loc), ¬ cd = 0 → va_P D vwCl (wr ++ w1) H1 → va_D A (wr ++ w1) → va_S A s.heap H1 locs1 → H1[q9]? = some ce → ce.vm = .none → s.vm.findClass (exN cd) = some ce.cls → vx_W p l e R s m args below meth c H1 locs1 (cells + mc) (slots + ms) Q (F0 m pc ls rest) q9)
    (kk : ∀ (H1 : Heap) (locs1 : List Loc), cd = 0 → va_P D vwCl (wr ++ w1) H1 → va_D A (wr ++ w1) → va_S A s.heap H1 locs1 → W p l e R s m args below meth c H1 locs1 (cells + mc) (slots + ms) Q (F0 m (pc + 3) ls (rest))) : W p l e R s m args below meth c H locs cells slots Q (F0 m pc ls (As.reverse ++ rest)) := by
  have hPc : va_P D vwCl wc H := hP.sub isC hCf
  have hDc : va_D A wc := hD.sub isC hnC hC
  have hFc := va_free (wc := wc) hD hS hA isC hC
  refine vx_callv (vx_runS (As := As) (rest := rest) C.1 hM cw ⟨cPX_blind, fun U hU hW => ⟨rfl, ⟨by rw [hU], by rw [hU]; exact hPc, va_K.moved hW.alike hK, hDc.weaken (fun _ _ _ _ => trivial)⟩, hJ.call hS hFc hU hW, hT.call hS hFc hU hW⟩⟩ rfl hn hls rfl (lv_room hrest) d hcs) hS (fun q _ h => hFc q h) hFc (fun q _ h => hFc q h) (fun E ce q9 u t H1 locs1 ht hvm hw hB hz1 hk1 hS1 hce hcv hcl => ?_) (fun u t H1 locs1 ht hvm hw hB hz1 hk1 hS1 => ?_)
  · obtain ⟨rfl, hP1, hK1, hD1⟩ := hB
    rw [ht] at hP1
    obtain ⟨hP2, hD2⟩ := va_join (wr := wr) (w1 := w1) hP hD isC isR hC hR hnR hdis hk1 hFc hP1 hD1
    exact kx ce q9 H1 locs1 hw hP2 hD2 hS1 hce hcv hcl
  · obtain ⟨hP1, hK1, hD1⟩ := hB
    rw [ht] at hP1
    obtain ⟨hP2, hD2⟩ := va_join (wr := wr) (w1 := w1) hP hD isC isR hC hR hnR hdis hk1 hFc hP1 hD1
    have hw0 := hw
    exact kk H1 locs1 hw0 hP2 hD2 hS1

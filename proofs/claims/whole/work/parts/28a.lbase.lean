/-- which exceptions are none of another's class -/
def LJ (U : State) : Prop := va_Nc (exN 2) (exN 1) U ∧ va_Nc (exN 3) (exN 1) U
theorem LJ.moved {s U : State} (h : LJ s) (hW : s.vm.Alike U.vm) : LJ U := ⟨va_Nc.moved hW h.1, va_Nc.moved hW h.2⟩
def cPL (D : va_G) (y : Nat → ClassId) (aK aV tA : Nat → Nat) (w : va_W) (sz : Nat) (U : State) : Prop := cPX D y aK aV tA w sz U ∧ LJ U
theorem cPL_blind {av : List Value} {D : va_G} {y : Nat → ClassId} {aK aV tA : Nat → Nat} {w : va_W} {sz : Nat} : FrameBlind (va_Pc av (cPL D y aK aV tA w sz)) := fun a U g mk h => by
  obtain ⟨q0, q1, q2⟩ := h
  obtain ⟨r0, r1⟩ := cPX_blind a U g mk ⟨q0, q1⟩
  exact ⟨r0, r1, LJ.moved (U := U.calling g mk a) q2 (Vm.Alike.refl U.vm)⟩
theorem met_ofL {l : Launch} {y' : MethodName} {ws ws' : List Cond} {rm : Room} {av : List Value} {D : va_G} {y : Nat → ClassId} {aK aV tA : Nat → Nat} {w0 : va_W} {sz mc ms : Nat} {Qc : Array Value → State → Outcome → State → Prop} {XC : String → State → State → Prop} {cc : ByteArray} {maxL : Nat} {ret : Option FieldType} {own : String} {hh : List (Nat × Nat × Nat × Nat)} (hy : plainName y'.cls = true) (ho : y'.cls = own) (hw : ws = Cond.codeWith y' cc maxL ret hh :: ws') (hlen : (lg_sl av).length ≤ maxL)
    (body : ∀ (p : Program) (e : Env) (s : State) (m : MethodId) (below : List Frame) (meth : Method) (c : Code) (ls : Array Slot), CX p s m av.toArray meth c ws own cc maxL ret → c.exceptionTable.toList = tableOf hh → s.heap.size = sz → va_K D vwCl (tyl y) s → va_P D vwCl w0 s.heap → va_D (va_A w0 sz) w0 → (∀ q : Nat, s.heap.size ≤ q → va_A w0 sz q) → va_S (va_A w0 sz) s.heap s.heap [] → SJ aK aV (va_A w0 sz) s s.heap → TJ tA (va_A w0 sz) s s.heap → LJ s → lv_has ls maxL (lv_args 0 av) → W p l e rm s m av.toArray below meth c s.heap [] 0 0 (vx_MQ below Qc XC av.toArray s mc ms (va_A w0 sz)) (F0 m 0 ls [])) : vx_Met l y' ws rm (va_Pc av (cPL D y aK aV tA w0 sz)) Qc XC mc ms (va_A w0 sz) := by
  refine vx_ofWH (cc := cc) (maxL := maxL) (ret := ret) (hh := hh) hy hw ?_
  intro p e s m args below meth c s₁ B hml hv
  obtain ⟨rfl, ⟨⟨hsz, hP, hK, hD0⟩, hJ, hT⟩, hL⟩ := hv
  have hown : s.vm.findClass y'.cls = some m.cls := findClass_of_methodNamed B.named
  rw [ho] at hown
  rw [lg_entry_eq]
  have hts := atoms_spec (ws := ws) B.pre
  exact body p e s m below meth c _ ⟨⟨B.exec, B.bytes, hml, hown, hts⟩, B.returns, B.notSynchronized⟩ (vx_table (x := y') B (hts _ (by rw [hw]; exact List.mem_cons_self))) hsz hK hP hD0.self (fun q h => Or.inr (by rw [← hsz]; exact h)) va_S.rf hJ hT hL (lv_entry av hlen)
/-- a static method with handlers, that never throws -/
theorem callS_i {p : Program} {l : Launch} {e : Env} {R : Room} {s : State} {m : MethodId} {args : Array Value} {below : List Frame} {meth : Method} {c : Code} {H : Heap} {locs : List Loc} {Ts : List Cond} {own : String} {cc : ByteArray} {nL pc cells slots : Nat} {ls : Array Slot} {D : va_G} {y : Nat → ClassId} {aK aV tA : Nat → Nat} {A : Nat → Prop} {w : va_W} {Q : State → Prop} {y' : MethodName} {ws' : List Cond} {rm : Room} {As rest : List Value} {wc wr w1 : va_W} {index n maxL mc ms : Nat} {bytes : ByteArray} {ret' : Option FieldType} {hh : List (Nat × Nat × Nat × Nat)} {r : Int32} (C : CallFix p m c cc nL s args Ts own)
    (hM : vx_Met l y' ws' rm (va_Pc As (cPL D y aK aV tA wc H.size)) (TI D y (va_A wc H.size) 0 r w1) (XT D y (va_A wc H.size) 0 w1) mc ms (va_A wc H.size)) (cw : vx_CSW R s args own index y' bytes maxL ret' hh ws' rm mc ms n) (hJ : SJ aK aV A s s.heap) (hT : TJ tA A s s.heap) (hL : LJ s) (hK : va_K D vwCl (tyl y) s) (hP : va_P D vwCl w H) (hD : va_D A w) (hS : va_S A s.heap H locs) (hA : ∀ q : Nat, s.heap.size ≤ q → A q) (isC isR : List Nat) (hC : isC.map (fun i => w[i]?) = wc.map some) (hCf : isC.filterMap (fun i => w[i]?) = wc) (hR : isR.map (fun i => w[i]?) = wr.map some) (hnC : va_nd isC = true) (hnR : va_nd isR = true) (hdis : ∀ i ∈ isR, i ∉ isC) (hn : As.length = n) (hls : ls.size = nL) (hrest : (rest.map fun v => v.category).sum ≤ 8) (d : decode cc pc = .ok (.invokestatic index, 3)) (hcs : cells + mc ≤ R.cells ∧ slots + ms ≤ R.slots)
    (kk : ∀ (H1 : Heap) (locs1 : List Loc), va_P D vwCl (wr ++ w1) H1 → va_D A (wr ++ w1) → va_S A s.heap H1 locs1 → W p l e R s m args below meth c H1 locs1 (cells + mc) (slots + ms) Q (F0 m (pc + 3) ls (.int r :: rest))) : W p l e R s m args below meth c H locs cells slots Q (F0 m pc ls (As.reverse ++ rest)) := by
  have hPc : va_P D vwCl wc H := hP.sub isC hCf
  have hDc : va_D A wc := hD.sub isC hnC hC
  have hFc := va_free (wc := wc) hD hS hA isC hC
  refine vx_calli (vx_runSX (As := As) (rest := rest) C hM cw ⟨cPL_blind, fun U hU hW => ⟨rfl, ⟨⟨by rw [hU], by rw [hU]; exact hPc, va_K.moved hW.alike hK, hDc.weaken (fun _ _ _ _ => trivial)⟩, hJ.call hS hFc hU hW, hT.call hS hFc hU hW⟩, hL.moved hW.alike⟩⟩ rfl hn hls rfl (lv_room hrest) d hcs) hS (fun q _ h => hFc q h) hFc (fun q _ h => hFc q h) (fun E ce q9 u t H1 locs1 ht hvm hw hB hz1 hk1 hS1 hce hcv hcl => absurd rfl hw) (fun r' u t H1 locs1 ht hvm hw hB hz1 hk1 hS1 => ?_)
  obtain ⟨hP1, hK1, hD1⟩ := hB
  rw [ht] at hP1
  obtain ⟨hP2, hD2⟩ := va_join (wr := wr) (w1 := w1) hP hD isC isR hC hR hnR hdis hk1 hFc hP1 hD1
  obtain ⟨-, rfl⟩ := hw
  exact kk H1 locs1 hP2 hD2 hS1

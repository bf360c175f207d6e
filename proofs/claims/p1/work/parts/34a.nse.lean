/-! a throw of NoSuchElementException with a text: its constructor calls the next one by another place of the pool than its fellows' -/
abbrev nz_X : String := "java/util/NoSuchElementException"
abbrev nz_Y : String := "java/lang/RuntimeException"
def nz_cs : List Cond := Bundle.passSAtoms nz_X nz_Y 13 prog_40_method_4_code ++ Bundle.chainSAtoms nz_Y ["java/lang/Exception"]
/-- the fellows' list, without what the constructor's own code and link say -/
def nz_rest : List Cond := (Bundle.ownAtoms RX9 214 nz_X fz_EN).filter (fun w => !(decide (w = .methodLink nz_X 7 (Bundle.initS nz_Y)) || decide (w = .code (Bundle.initS nz_X) Bundle.six 2 none)))
def nz_L : List Cond := nz_rest ++ nz_cs
def nz_F : List Cond := nz_L.filter vx_no
theorem nz_at : ∀ w ∈ nz_F, w ∈ lw_tbl ∧ (goodWord w || fz_kind w) = true := by decide +kernel
theorem nz_ok : ∀ w ∈ Cond.classLink RX9 210 nz_X :: Cond.initialized nz_X :: nz_F, vx_ot w = true := by decide +kernel
theorem nz_m1 : ∀ w ∈ Bundle.throwableAtoms, w ∈ nz_L := by decide +kernel
theorem nz_m2 : ∀ w ∈ Bundle.throwableSAtoms, w ∈ nz_L := by decide +kernel
theorem nz_m3 : ∀ w ∈ Bundle.passSAtoms nz_X nz_Y 13 prog_40_method_4_code, w ∈ nz_L := fun w h => List.mem_append_right _ (List.mem_append_left _ h)
theorem nz_m4 : ∀ w ∈ Bundle.chainSAtoms nz_Y ["java/lang/Exception"], w ∈ nz_L := fun w h => List.mem_append_right _ (List.mem_append_right _ h)
theorem nz_d0 : decode prog_40_method_4_code 0 = .ok (.aload_n 0, 1) := by decide +kernel
theorem nz_d1 : decode prog_40_method_4_code 1 = .ok (.aload_n 1, 1) := by decide +kernel
theorem nz_d2 : decode prog_40_method_4_code 2 = .ok (.invokespecial 13, 3) := by decide +kernel
theorem nz_d5 : decode prog_40_method_4_code 5 = .ok (.return_, 1) := by decide +kernel
theorem nz_w1 : Cond.selects nz_X Bundle.tFill0 Bundle.tFill0 ∈ nz_L := by decide +kernel
theorem nz_w2 : Cond.selects nz_X Bundle.tFill Bundle.tFill ∈ nz_L := by decide +kernel
theorem nz_w3 : Cond.instantiable nz_X 6 ∈ nz_L := by decide +kernel
theorem nz_w4 : Cond.isRef (.static Bundle.tN "UNASSIGNED_STACK" Bundle.steD) ∈ nz_L := by decide +kernel
theorem nz_w5 : Cond.isRef (.static Bundle.tN "SUPPRESSED_SENTINEL" Bundle.listD) ∈ nz_L := by decide +kernel
theorem nz_w6 : Cond.fieldLink Bundle.tN 198 Bundle.tN "backtrace" "Ljava/lang/Object;" ∈ nz_L := by decide +kernel
theorem nz_w7 : Cond.lays Bundle.tN Bundle.tN "backtrace" "Ljava/lang/Object;" ∈ nz_L := by decide +kernel
theorem nz_wC : Cond.lays nz_X Bundle.tN "cause" "Ljava/lang/Throwable;" ∈ nz_L := by decide +kernel
theorem nz_wS : Cond.lays nz_X Bundle.tN "stackTrace" Bundle.steD ∈ nz_L := by decide +kernel
theorem nz_wP : Cond.lays nz_X Bundle.tN "suppressedExceptions" Bundle.listD ∈ nz_L := by decide +kernel
theorem nz_wM : Cond.lays nz_X Bundle.tN "detailMessage" "Ljava/lang/String;" ∈ nz_L := by decide +kernel
theorem nz_wB : Cond.lays nz_X Bundle.tN "backtrace" "Ljava/lang/Object;" ∈ nz_L := by decide +kernel
theorem nz_wL : Cond.methodLink RX9 214 (Bundle.initS nz_X) ∈ nz_L := by decide +kernel
set_option maxHeartbeats 2000000 in
/-- from the constructor's call to the end of the frame -/
theorem nz_ctor {p : Program} {l : Launch} {e : Env} {R : Room} {s : State} {m : MethodId} {args : Array Value} {below : List Frame} {meth : Method} {c : Code} {V : State} {cells slots : Nat} (X : Stand p l e R s m args below meth c V [] cells slots) (hx : p.tables.exec = Jvm.exec) (htr : e.platform.stackTraces = false)
    (hown : s.vm.findClass RX9 = some m.cls) (h : ∀ w ∈ nz_L, w.before args s = true) {a : Addr} {cX : ClassId} {kX : Class} (hfX : s.vm.findClass nz_X = some cX) (hkX : s.vm.classes[cX]? = some kX) (hcell : V.heap[a]? = some (freshCell cX kX)) (hnew : s.heap.size ≤ a)
    {sa : Addr} {g : JFrame} (hg : g.method = m) (hsize : g.locals.size = c.maxLocals) (hlk : g.locked = none) (hen : g.entered = []) {rest : List Value} (hst : g.stack = .ref sa :: .ref a :: .ref a :: rest)
    (d7 : decode c.code g.pc = .ok (.invokespecial 214, 3)) (d10 : decode c.code (g.pc + 3) = .ok (.athrow, 1)) (hout : ∀ x ∈ c.exceptionTable.toList, covers x (g.pc + 3) = false)
    (hRf : 5 < R.frames) (hRl : 2 * g.monitorRoom + ((Value.ref a :: rest).map fun v => v.category).sum + 81 ≤ R.locals) (hlocks : meth.locks = false) :
    ∃ U : State, Steps p.tables e below (V.setTop g) U ∧ U.status = .running ∧ Ended U below (.threw a) ∧ s.WarmedH U.vm ∧ s.sameButNew ({ U with vm := s.vm } : State) [] cells slots ∧
      ∃ ce, U.heap[a]? = some ce ∧ ce.vm = .none ∧ s.vm.findClass nz_X = some ce.cls := by
  have p1 : e.platform.frameOwnsMonitors = true := by rw [X.admits.platform]
  have p2 : e.platform.finalization = false := by rw [X.admits.platform]
  have p3 : e.platform.magicAccessors = ({} : Platform).magicAccessors := by rw [X.admits.platform]
  have w : ∀ x, x ∈ nz_L → x.holds args s none s [] = true := fun x hx => h x hx
  obtain ⟨T, Z0, L, -, Y⟩ := ThrowableC.of_atoms (args := args) p1 p2 p3 (fun x hx => h x (nz_m1 x hx))
  obtain ⟨Z, M, LZ, LM, hnZ⟩ := Init0T.ofS_atoms (args := args) p3 L Y (fun x hx => h x (nz_m2 x hx))
  obtain ⟨P0, L0, hm0, hs0⟩ := PassC.ofS_atoms (args := args) (s := s) p3 (X := nz_X) (Y := nz_Y) (by decide +kernel) (by decide +kernel) nz_d0 nz_d1 nz_d2 nz_d5 (fun x hx => h x (nz_m3 x hx))
  obtain ⟨P1, Ps, hlen, L1, hL, hm1, hk1, hks⟩ := Bundle.chainS (args := args) p3 hnZ ["java/lang/Exception"] nz_Y (by decide +kernel) (by decide +kernel) (fun x hx => h x (nz_m4 x hx))
  have hlen : Ps.length = 1 := hlen
  have hs1 : P0.sup = P1.m := Option.some.inj (hs0.symm.trans hm1)
  have hf0 : s.vm.findClass nz_X = some P0.m.cls := findClass_of_methodNamed hm0
  cases Option.some.inj (hfX.symm.trans hf0)
  obtain ⟨c1, kX', hc1, hk, hord, -, -, hn6⟩ := Cond.instantiable_spec (w _ nz_w3)
  cases Option.some.inj (hc1.symm.trans hf0)
  cases Option.some.inj (hkX.symm.trans hk)
  have sel : ∀ {y : MethodName} {mm : MethodId}, y.cls = Bundle.tN → s.methodNamed? y = some mm → (y.cls ≠ "java/lang/invoke/MethodHandle" ∧ y.cls ≠ "java/lang/invoke/VarHandle") → Cond.selects nz_X y y ∈ nz_L → selectMethod e.platform s.vm P0.m.cls mm = .method mm := by
    intro y mm _ hy hne hw
    obtain ⟨c2, r2, m2, q1, q2, q3, q4, -⟩ := Cond.selects_spec (w _ hw)
    cases Option.some.inj (q1.symm.trans hf0)
    cases Option.some.inj (q2.symm.trans (State.methodFound?_of_named hy hne))
    cases Option.some.inj (q3.symm.trans hy)
    rw [Launch.admits_selectMethod X.admits]
    exact q4
  have selA := sel (y := Bundle.tFill0) rfl Y.fill0 (by decide) nz_w1
  have selB := sel (y := Bundle.tFill) rfl Y.fill (by decide) nz_w2
  obtain ⟨cs0, hcs0, his⟩ := Y.statics
  obtain ⟨u0, hu0⟩ := Cond.staticRefV Y.unassigned L.unassignedStatic L.statics hcs0 his (w _ nz_w4)
  obtain ⟨sen, hsen⟩ := Cond.staticRefV Y.sentinel L.sentinelStatic L.statics hcs0 his (w _ nz_w5)
  obtain ⟨ci8, i8, fB, k8, g8, a8, sB, -, nB, tB, ffB⟩ := Cond.ownField (t := .object "java/lang/Object") Y.found L.cls (by decide +kernel) (w _ nz_w6) (w _ nz_w7) e.platform p3
  obtain ⟨cs1, hcs1, hes, -, hke⟩ := X.same.2.2.2.2.2 T.aS cs0 hcs0
  have hcs : V.heap[T.aS]? = some cs1 := hcs1
  have hno : ∀ i, (⟨T.aS, i⟩ : Loc) ∉ ([] : List Loc) := fun i hi => nomatch hi
  have hkn : cs1.vm ≠ .unknown := by
    rw [hes]
    intro hu
    rw [show cs0.vm = .unknown from hu] at his
    cases his
  have hne : T.aS ≠ a := Nat.ne_of_lt (Nat.lt_of_lt_of_le (Array.getElem?_eq_some_iff.mp hcs0).1 hnew)
  obtain ⟨iM, ffM⟩ := Y.msg
  obtain ⟨yC, dC, eC, nC⟩ := Cond.laysAt hf0 hk Y.cause (w _ nz_wC)
  obtain ⟨yS, dS, eS, nS⟩ := Cond.laysAt hf0 hk Y.stack (w _ nz_wS)
  obtain ⟨yP, dP, eP, nP⟩ := Cond.laysAt hf0 hk Y.supp (w _ nz_wP)
  obtain ⟨yM, dM, eM, nM⟩ := Cond.laysAt hf0 hk ffM (w _ nz_wM)
  obtain ⟨yB, dB, eB, nBB⟩ := Cond.laysAt hf0 hk ffB (w _ nz_wB)
  have bC := Cond.laysApart eB eC nBB nC (by rw [nB, Y.causeName]; decide)
  have bS := Cond.laysApart eB eS nBB nS (by rw [nB, Y.stackName]; decide)
  have bP := Cond.laysApart eB eP nBB nP (by rw [nB, Y.suppName]; decide)
  have hskip : SkipFacts T e.platform s (fun u => u) u0 ((preparedCellV T.toThrowableT (freshCell P0.m.cls kX) a u0 sen).withEntry V.cur) :=
    ⟨{ ci198 := ci8, i198 := i8, fBack := fB }, ⟨k8, g8, a8, sB⟩, by
      have := fresh_default (c := P0.m.cls) yB
      rw [tB] at this
      simpa [preparedCellV, Cell.setSlot, Cell.withEntry, Array.getElem?_setIfInBounds, bC, bS, bP, bC.symm, bS.symm, bP.symm, defaultValue] using this, fun _ _ => rfl⟩
  obtain ⟨tm, mC, cC, kC, v1, hnC, -, -, -, -, -, -, -, hW1, st1⟩ := Steps.initColdS (tb := p.tables) (e := e) (below := below) (s := s) (U := V) X.here hx X.warmed p3 hown (t := Bundle.initS nz_X) rfl rfl (by decide +kernel)
    (w _ nz_wL) (h (.instanceMethod (Bundle.initS nz_X)) (nz_m3 _ (by simp [Bundle.passSAtoms]))) (bytes := prog_40_method_4_code) (maxL := 2) (h (.code (Bundle.initS nz_X) prog_40_method_4_code 2 none) (nz_m3 _ (by simp [Bundle.passSAtoms])))
    (f := g) hg (a := a) (msg := .ref sa) (rest := .ref a :: rest) hst d7
  cases Option.some.inj (hnC.symm.trans hm0)
  have X1 := X.noted hW1
  obtain ⟨v2, X2, st2⟩ := X1.ctorMessageOffV hx (g := { g with stack := .ref a :: rest }) hg hsize T L Z LZ M LM (P0 :: P1 :: Ps)
    (fun P hP => by
      rcases List.mem_cons.mp hP with rfl | hP
      · exact L0
      · rcases List.mem_cons.mp hP with rfl | hP
        · exact L1
        · exact hL P hP) ⟨hs1, hk1, hks⟩ (u0 := u0) (sen := sen) (self := a) (msg := .ref sa) rfl (cell := freshCell P0.m.cls kX) (cellS := cs1)
    hcell (fun _ => by simp) (by simp) rfl rfl selA selB hcs hne hkn (by rw [hke _ (hno _)]; exact hu0) (by rw [hke _ (hno _)]; exact hsen)
    (Takes.of_laid hk hord yC (by rw [Y.causeType]; rfl)) (Takes.of_laid hk hord yS (by rw [Y.stackType]; exact fits_refV_array _ u0)) (Takes.of_laid hk hord yP (by rw [Y.suppType]; exact fits_refV_object _ sen))
    (Takes.of_laid hk hord yM (by rw [Y.msgType]; exact fits_refV_object _ ⟨.ref sa, rfl⟩)) Y.objLocals hskip htr [] d7
    (by simp only [List.length_cons, hlen]; omega) (by simp only [List.length_cons, hlen]; exact hRl)
  obtain ⟨hwalk, hrun, hended, hWU, hsame⟩ := X2.athrowLeaves hx (g := { g with stack := .ref a :: rest, pc := g.pc + 3 }) hg hlk hen hout (a := a) (rest := rest) rfl d10
  have hlt : a < ((V.setVm v1).setVm v2).heap.size := (Array.getElem?_eq_some_iff.mp hcell).1
  have hU := heapAt_setCell_self (s := (V.setVm v1).setVm v2) (plainBareV T.toThrowableT (freshCell P0.m.cls kX) a u0 sen (.ref sa)) hlt
  refine ⟨_, st1 _ (fun acts => ?_), hrun, hended, hWU, hsame.weaken (fun y hy hlt' => ?_) (Nat.le_refl _) (Nat.le_refl _), _, hU, rfl, hf0⟩
  · rw [doInvoke_state]
    exact st2 _ hwalk
  · rcases List.mem_append.mp hy with h1 | h1
    · exact h1
    · exfalso
      have hb : y.base = a := by
        simp only [List.mem_cons, List.not_mem_nil, or_false] at h1
        rcases h1 with rfl | rfl | rfl | rfl | rfl <;> rfl
      rw [hb] at hlt'
      exact Nat.not_lt.mpr hnew hlt'
set_option maxHeartbeats 2000000 in
/-- `throw new NoSuchElementException(text)` by ldc_w, not caught here -/
theorem nz_throwW {p : Program} {l : Launch} {e : Env} {R : Room} {s : State} {m : MethodId} {args : Array Value} {below : List Frame} {meth : Method} {c : Code} {H : Heap} {locs : List Loc} {cells slots : Nat} {cc : ByteArray} {pc mc ms : Nat} {ls : Array Slot} {rest : List Value} {A : Nat → Prop}
    {px : String → Prop} {Qc : Array Value → State → Outcome → State → Prop} {text : String} {is : Nat} {y0 : MethodName} {b0 : ByteArray} {n0 : Nat} {r0 : Option FieldType} (hx : p.tables.exec = Jvm.exec) (hb : c.code = cc) (hl : l.stackTraces = false) (hown : s.vm.findClass RX9 = some m.cls) (hts : ∀ w ∈ fz_ws y0 b0 n0 r0, w.before args s = true) (hG : fz_GS A s)
    (hk : Cond.classLink RX9 210 nz_X ∈ fz_WA ∧ Cond.initialized nz_X ∈ fz_WA) (htx : (is, text) ∈ fz_TX)
    (hS : va_S A s.heap H locs) (hsize : ls.size = c.maxLocals) (d0 : decode cc pc = .ok (.new 210, 3)) (d3 : decode cc (pc + 3) = .ok (.dup, 1)) (d4 : decode cc (pc + 4) = .ok (.ldc_w is, 3)) (d7 : decode cc (pc + 7) = .ok (.invokespecial 214, 3)) (d10 : decode cc (pc + 10) = .ok (.athrow, 1))
    (ht : ∀ x ∈ c.exceptionTable.toList, False) (hlocks : meth.locks = false) (hR : 5 < R.frames ∧ (rest.map fun v => v.category).sum + 83 ≤ R.locals ∧ cells + 1 ≤ R.cells ∧ slots + 6 ≤ R.slots) (hp : px nz_X) (hc : cells + 1 ≤ mc ∧ slots + 6 ≤ ms) :
    W p l e R s m args below meth c H locs cells slots (vx_MQ below Qc (fz_XC px A) args s mc ms A) (F0 m pc ls rest) := by
  obtain ⟨sa, hstr⟩ := hG.2.2.2.1 _ htx
  intro T hT X
  have htr : e.platform.stackTraces = false := (show e.platform.stackTraces = l.stackTraces by rw [X.admits.platform]).trans hl
  have Y := vx_rebase X (R' := { frames := R.frames, locals := R.locals, cells := 1, slots := 6 }) (Nat.le_refl _) (Nat.le_refl _) hR.2.2.1 hR.2.2.2
  obtain ⟨s', hA⟩ : ∃ z, z = (T.setVm s.vm).setFrames (.invoking m args :: below) := ⟨_, rfl⟩
  rw [← hA] at Y
  have hvm : s'.vm = s.vm := by rw [hA]; rfl
  have hhp : s'.heap = H := by rw [hA]; exact hT
  have hW0 : s.WarmedH s'.vm := by rw [hvm]; exact State.WarmedH.refl s
  have hat := fz_hat hts hG nz_at
  have hat' : ∀ w ∈ nz_F, w.before args s' = true := fun w hw => vx_ot_at hW0 hvm.symm (nz_ok w (List.mem_cons_of_mem _ (List.mem_cons_of_mem _ hw))) (hat w hw)
  have hk' : (Cond.classLink RX9 210 nz_X).before args s' = true := vx_ot_at hW0 hvm.symm (nz_ok _ List.mem_cons_self) (hts _ (fz_m hk.1))
  have hini' : (Cond.initialized nz_X).before args s' = true := vx_ot_at hW0 hvm.symm (nz_ok _ (List.mem_cons_of_mem _ List.mem_cons_self)) (hts _ (fz_m hk.2))
  have hU' : vx_Zq Bundle.tN "UNASSIGNED_STACK" Bundle.steD A s' s'.heap := by rw [hhp]; exact vx_Zq.moved hW0.alike (hG.1.kept hS.2.1)
  have hN' : vx_Zq Bundle.tN "SUPPRESSED_SENTINEL" Bundle.listD A s' s'.heap := by rw [hhp]; exact vx_Zq.moved hW0.alike (hG.2.1.kept hS.2.1)
  have h : ∀ w ∈ nz_L, w.before args s' = true := vx_own hat' (vx_isRefq hU'.1) (vx_isRefq hN'.1) hU'.2.word hN'.2.word
  have hown' : s'.vm.findClass RX9 = some m.cls := by rw [hvm]; exact hown
  have hstr' : vk_R RX9 is text sa s' := vk_R.warm hW0 hstr
  obtain ⟨v1, cX, kX, hfX, hkX, -, -, X1, st1⟩ := Y.newCold hx (own := RX9) (C := nz_X) (index := 210) (n := 6) hown' hk' (h _ nz_w3) hini'
    (g := F0 m pc ls rest) rfl (by rw [hb]; exact d0) (Nat.le_refl _) (Nat.le_refl _)
  generalize hT1 : (T.setVm v1).pushCell { cls := cX, slots := kX.instanceTypes.map defaultValue, vm := .none } = T1 at X1 st1
  have hcellA : T1.heap[T.heap.size]? = some (freshCell cX kX) := by rw [← hT1]; exact State.heap_pushCell_size _ _
  have d3' : decode c.code (pc + 3) = .ok (.dup, 1) := by rw [hb]; exact d3
  have d4' : decode c.code (pc + 4) = .ok (.ldc_w is, 3) := by rw [hb]; exact d4
  have hcat : (Value.ref T.heap.size).category = 1 := rfl
  obtain ⟨U, hsteps, hrun, hend, hW, hsame, ce, hce, hcv, hcc⟩ := nz_ctor X1 hx htr hown' h hfX hkX hcellA (by rw [hhp, hT]; exact Nat.le_refl _) (sa := sa)
    (g := { method := m, pc := pc + 7, locals := ls, stack := .ref sa :: .ref T.heap.size :: .ref T.heap.size :: rest, locked := none }) rfl hsize rfl rfl (rest := rest) rfl
    (by rw [hb]; exact d7) (by rw [hb]; exact d10) (fun x hx => (ht x hx).elim) hR.1 (by simp only [List.map_cons, List.sum_cons, hcat]; have := hR.2.1; omega) hlocks
  obtain ⟨f1, f2⟩ := vx_frame hsame
  rw [hhp] at f1 f2
  have hcl : s.vm.findClass nz_X = some ce.cls := by
    rw [hvm] at hcc
    exact hcc
  have hall : s.sameButNew ({ U with vm := s.vm } : State) locs mc ms := by
    subst hA
    obtain ⟨e1, e2⟩ := hsame
    rw [State.setFrames_setFrames] at e1
    have h2 : (T.setVm s.vm).sameButNew ({ U with vm := s.vm } : State) [] (0 + 1) (0 + 6) := ⟨e1, e2⟩
    have h3 := X.same.trans h2
    rw [List.append_nil] at h3
    exact h3.mono hc.1 hc.2
  refine ⟨U, ?_, .threw T.heap.size, hrun, hend, Or.inr ⟨T.heap.size, rfl, nz_X, ce, locs, ⟨(), trivial, hp, Nat.le_trans hS.1 f1, fun q g1 g2 => (f2 q (Nat.lt_of_lt_of_le g1 hS.1) (fun z hz => nomatch hz)).trans (hS.2.1 q g1 g2)⟩, hce, hcv, hcl, State.WarmedH.trans hW0 hW, hall, hS.2.2⟩⟩
  refine st1 _ ?_
  show Steps p.tables e below (T1.setTop { method := m, pc := pc + 3, locals := ls, stack := .ref T.heap.size :: rest, locked := none }) _
  jvm_step X1.here [X1.here.top, hx, d3', Value.category]
  exact X1.ldcStringW hx (own := RX9) (text := text) (index := is) (a := sa) hown' hstr'.1 hstr'.2
    (g := { method := m, pc := pc + 4, locals := ls, stack := .ref T.heap.size :: .ref T.heap.size :: rest, locked := none }) rfl d4' _ hsteps

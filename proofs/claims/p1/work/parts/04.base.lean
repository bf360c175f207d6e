/-! the walker's own layer: one list of words for all methods, one form of contract, rows for calls, ends and throws -/
def fz_WA : List Cond := lw_tbl.filter goodWord
def fz_kind : Cond → Bool
  | .declares _ => true
  | .castable _ _ => true
  | .methodLinkNest _ _ _ _ => true
  | .privateMethod _ => true
  | _ => false
theorem fz_tin {w : Cond} (i : Nat) (h : tables_1[i]? = some w) : w ∈ lw_tbl := List.mem_append_right _ (List.mem_of_getElem? h)
theorem fz_sin {w : Cond} (i : Nat) (h : (k2_sels lw_privs)[i]? = some w) : w ∈ lw_tbl := List.mem_append_left _ (List.mem_of_getElem? h)
theorem fz_in {w : Cond} (h : w ∈ lw_tbl) (g : goodWord w = true) : w ∈ fz_WA := List.mem_filter.mpr ⟨h, g⟩
abbrev fz_ws (y : MethodName) (b : ByteArray) (n : Nat) (r : Option FieldType) : List Cond := Cond.code y b n r :: fz_WA
theorem fz_m {w c : Cond} (h : w ∈ fz_WA) : w ∈ c :: fz_WA := List.mem_cons_of_mem _ h
theorem fz_goodWA {w : Cond} (h : w ∈ fz_WA) : (w.onTables && w.keeps) = true ∨ ∃ ty, w = .arrayClass ty := good_of_word (List.mem_filter.mp h).2
theorem fz_gW {L : List Cond} {c : Cond} (h : ∀ w ∈ L, w ∈ fz_WA) : GoodIn (c :: fz_WA) L := fun w hw => ⟨List.mem_cons_of_mem _ (h w hw), fz_goodWA (h w hw)⟩
theorem fz_allWA {y : MethodName} {b : ByteArray} {n : Nat} {r : Option FieldType} (h : Cond.code y b n r ∈ fz_WA) : ∀ w ∈ fz_ws y b n r, w ∈ fz_WA := fun w hw => (List.mem_cons.mp hw).elim (fun e => e ▸ h) id
theorem fz_g {y : MethodName} {b : ByteArray} {n : Nat} {r : Option FieldType} {c : Cond} (h : Cond.code y b n r ∈ fz_WA) : GoodIn (c :: fz_WA) (fz_ws y b n r) := fz_gW (fz_allWA h)
theorem fz_gV {c : Cond} {own C : String} {i : Nat} {y : MethodName} {b : ByteArray} {n : Nat} {r : Option FieldType} (h5 : Cond.code y b n r ∈ fz_WA) (h1 : Cond.methodLink own i y ∈ fz_WA) (h2 : Cond.instanceMethod y ∈ fz_WA) (h3 : Cond.selects C y y ∈ fz_WA) (h4 : Cond.initialized C ∈ fz_WA) : GoodIn (c :: fz_WA) (wsV own i C y (fz_ws y b n r)) := by
  refine fz_gW fun w hw => ?_
  unfold wsV at hw
  rcases List.mem_append.mp hw with h | h
  · simp only [List.mem_cons, List.not_mem_nil, or_false] at h
    rcases h with rfl | rfl | rfl | rfl <;> assumption
  · exact fz_allWA h5 w h
theorem fz_gS {c : Cond} {own : String} {i : Nat} {y : MethodName} {b : ByteArray} {n : Nat} {r : Option FieldType} (h5 : Cond.code y b n r ∈ fz_WA) (h1 : Cond.methodLink own i y ∈ fz_WA) (h2 : Cond.static y ∈ fz_WA) (h4 : Cond.initialized y.cls ∈ fz_WA) : GoodIn (c :: fz_WA) (va_wsS own i y (fz_ws y b n r)) := by
  refine fz_gW fun w hw => ?_
  unfold va_wsS at hw
  rcases List.mem_append.mp hw with h | h
  · simp only [List.mem_cons, List.not_mem_nil, or_false] at h
    rcases h with rfl | rfl | rfl <;> assumption
  · exact fz_allWA h5 w h
/-- the texts of the class's own throws: place in the pool, text -/
def fz_TX : List (Nat × String) := [(491, "no such node"), (71, "no such node can be added there"), (81, "there have been all nodes"), (91, "the root stays"), (100, "the node cannot be moved there"), (503, "no such part"), (163, "no such child"), (166, "no such rule"), (180, "no such page"), (182, "no such length"), (505, "no such day"), (499, "no such copy"), (212, "the copy can be shown on no day"), (507, "no such capacity"), (222, "no further container"), (496, "no such container"), (493, "the node is no unit"), (249, "no room in the container"), (254, "the node is in no container"), (262, "no such position"), (267, "no further container, or no room in it"), (273, "both containers are the same"), (287, "the mark refers to no unit"), (292, "no such set of hidden pages"), (295, "there have been all copies"), (323, "no such number of seats"), (328, "no such reader"), (333, "there are all requests"), (354, "the request is refused"), (501, "no such request"), (418, "there are no units"), (424, "no such level"), (434, "the input buffer is full"), (445, "a node of the text cannot be added"), (474, "no such index"), (480, "no change can be taken back"), (486, "nothing was saved")]
/-- which exception is no case of which other -/
def fz_NC : List (String × String) := [("java/lang/IllegalArgumentException", "java/lang/IndexOutOfBoundsException"), ("java/lang/IllegalStateException", "java/lang/IndexOutOfBoundsException"), ("java/util/NoSuchElementException", "java/lang/IndexOutOfBoundsException"), ("java/lang/UnsupportedOperationException", "java/lang/IndexOutOfBoundsException"), ("java/lang/ArithmeticException", "java/lang/IndexOutOfBoundsException"), ("java/lang/IndexOutOfBoundsException", "java/lang/IllegalArgumentException"), ("java/lang/IllegalStateException", "java/lang/IllegalArgumentException"), ("java/util/NoSuchElementException", "java/lang/IllegalArgumentException"), ("java/lang/UnsupportedOperationException", "java/lang/IllegalArgumentException"), ("java/lang/ArithmeticException", "java/lang/IllegalArgumentException"), ("java/lang/IndexOutOfBoundsException", "java/lang/IllegalStateException"), ("java/lang/IllegalArgumentException", "java/lang/IllegalStateException"), ("java/util/NoSuchElementException", "java/lang/IllegalStateException"), ("java/lang/UnsupportedOperationException", "java/lang/IllegalStateException"), ("java/lang/ArithmeticException", "java/lang/IllegalStateException"), ("java/lang/IndexOutOfBoundsException", "java/util/NoSuchElementException"), ("java/lang/IllegalArgumentException", "java/util/NoSuchElementException"), ("java/lang/IllegalStateException", "java/util/NoSuchElementException"), ("java/lang/UnsupportedOperationException", "java/util/NoSuchElementException"), ("java/lang/ArithmeticException", "java/util/NoSuchElementException"), ("java/lang/IndexOutOfBoundsException", "java/lang/UnsupportedOperationException"), ("java/lang/IllegalArgumentException", "java/lang/UnsupportedOperationException"), ("java/lang/IllegalStateException", "java/lang/UnsupportedOperationException"), ("java/util/NoSuchElementException", "java/lang/UnsupportedOperationException"), ("java/lang/ArithmeticException", "java/lang/UnsupportedOperationException"), ("java/lang/IndexOutOfBoundsException", "java/lang/ArithmeticException"), ("java/lang/IllegalArgumentException", "java/lang/ArithmeticException"), ("java/lang/IllegalStateException", "java/lang/ArithmeticException"), ("java/util/NoSuchElementException", "java/lang/ArithmeticException"), ("java/lang/UnsupportedOperationException", "java/lang/ArithmeticException")]
theorem fz_warmP {x : MethodName} {s U : State} (hW : s.WarmedH U.vm) (hZ : va_Nw (.privateMethod x) s) : va_Nw (.privateMethod x) U := va_tabs rfl (rfl : (s.setVm U.vm).vm = U.vm) (by rw [Cond.privateMethod_setVm hW.alike]; exact hZ)
theorem fz_warmO {ty : FieldType} {s U : State} (hW : s.WarmedH U.vm) (h : (Cond.arrayOver ty).before #[] s = true) : (Cond.arrayOver ty).before #[] U = true := by
  have h2 : (Cond.arrayOver ty).before #[] (s.setVm U.vm) = true := by rw [Cond.arrayOver_setVmC hW.alike]; exact h
  exact h2
theorem fz_warm {s U : State} {w : Cond} (hk : fz_kind w = true) (hW : s.WarmedH U.vm) (h : va_Nw w s) : va_Nw w U := by
  cases w <;> first | exact va_Nw.warmD hW h | exact va_Nw.warmC hW h | exact va_Nw.warmM hW h | exact fz_warmP hW h | (simp [fz_kind] at hk; done)
/-- what the Statement gives of the machine's statics and tables beyond the words -/
def fz_GS (A : Nat → Prop) (U : State) : Prop :=
  vx_Zq Bundle.tN "UNASSIGNED_STACK" Bundle.steD A U U.heap ∧ vx_Zq Bundle.tN "SUPPRESSED_SENTINEL" Bundle.listD A U U.heap ∧ va_Z "java/lang/String" "COMPACT_STRINGS" "Z" (.int 1) A U U.heap ∧ (∀ q ∈ fz_TX, ∃ sa, vk_R RX9 q.1 q.2 sa U) ∧ (∀ w ∈ lw_tbl, fz_kind w = true → va_Nw w U) ∧ (∀ q ∈ fz_NC, va_Nc q.1 q.2 U) ∧ ∀ ty : FieldType, Cond.arrayOver ty ∈ lw_tbl → (Cond.arrayOver ty).before #[] U = true
theorem fz_GS_to {A0 A1 : Nat → Prop} {s U : State} {H : Heap} {locs : List Loc} (hG : fz_GS A0 s) (hS : va_S A0 s.heap H locs) (sub : ∀ q, A1 q → A0 q) (hU : U.heap = H) (hW : s.WarmedH U.vm) : fz_GS A1 U := by
  obtain ⟨h1, h2, h3, h4, h5, h6, h7⟩ := hG
  have hq : ∀ a, a < s.heap.size → ¬ A0 a → H[a]? = s.heap[a]? := hS.2.1
  refine ⟨?_, ?_, ?_, ?_, ?_, ?_, ?_⟩
  · rw [hU]; exact ((h1.kept hq).narrow sub).moved hW.alike
  · rw [hU]; exact ((h2.kept hq).narrow sub).moved hW.alike
  · rw [hU]; exact ((h3.kept hq).narrow sub).moved hW.alike
  · intro q hq
    obtain ⟨sa, h⟩ := h4 q hq
    exact ⟨sa, h.warm hW⟩
  · intro w hw hk
    exact fz_warm hk hW (h5 w hw hk)
  · intro q hq
    exact (h6 q hq).moved hW.alike
  · intro ty hty
    exact fz_warmO hW (h7 ty hty)
/-- a contract's start: the world ws, all in A, and A all that is new -/
def fz_PC (A : Nat → Prop) (D : va_G) (tys : List (ClassId × FieldType)) (ws : va_W) (U : State) : Prop := (∀ a, U.heap.size ≤ a → A a) ∧ va_P D vwCl ws U.heap ∧ va_K D vwCl tys U ∧ va_D A ws ∧ fz_GS A U
theorem fz_blind {A : Nat → Prop} {D : va_G} {tys : List (ClassId × FieldType)} {ws : va_W} {av : List Value} : FrameBlind (va_Pc av (fz_PC A D tys ws)) := fun a U g mk q => by
  obtain ⟨q0, q1, q2, q3, q4, q5⟩ := q
  exact ⟨q0, q1, q2, va_K.moved (u := U) (U := U.calling g mk a) (Vm.Alike.refl U.vm) q3, q4, fz_GS_to (H := U.heap) (locs := []) q5 va_S.rf (fun _ h => h) rfl (State.WarmedH.refl U)⟩
theorem fz_pre {A A0 : Nat → Prop} {s : State} {H : Heap} {locs : List Loc} {D : va_G} {tys : List (ClassId × FieldType)} {ws : va_W} {av : List Value} (hA : ∀ a, H.size ≤ a → A a) (sub : ∀ q, A q → A0 q) (hP : va_P D vwCl ws H) (hK : va_K D vwCl tys s) (hD : va_D A ws) (hG : fz_GS A0 s) (hS : va_S A0 s.heap H locs) : ∀ U : State, U.heap = H → s.WarmedH U.vm → va_Pc av (fz_PC A D tys ws) av.toArray U :=
  fun U hU hW => ⟨rfl, by rw [hU]; exact hA, by rw [hU]; exact hP, va_K.moved hW.alike hK, hD, fz_GS_to hG hS sub hU hW⟩
theorem fz_Dsame {A : Nat → Prop} {ws ws' : va_W} (h : va_D A ws) (e : ws'.map Prod.fst = ws.map Prod.fst) : va_D A ws' := by
  have g : ∀ (k : Nat) (q : Nat × va_E), ws'[k]? = some q → ∃ r : Nat × va_E, ws[k]? = some r ∧ r.1 = q.1 := by
    intro k q hq
    have h1 : (ws'.map Prod.fst)[k]? = some q.1 := by rw [List.getElem?_map, hq]; rfl
    rw [e, List.getElem?_map] at h1
    cases hr : ws[k]? with
    | none => rw [hr] at h1; cases h1
    | some r =>
      rw [hr] at h1
      exact ⟨r, rfl, Option.some.inj h1⟩
  refine ⟨fun i j p q hi hj hpq => ?_, fun k q hk => ?_⟩
  · obtain ⟨p', h1, e1⟩ := g i p hi
    obtain ⟨q', h2, e2⟩ := g j q hj
    exact h.1 i j p' q' h1 h2 (by rw [e1, e2, hpq])
  · obtain ⟨r, h1, e1⟩ := g k q hk
    rw [← e1]
    exact h.2 k r h1
/-- what an exception leaves behind: its class's name as told -/
abbrev fz_XC (px : String → Prop) (A : Nat → Prop) : String → State → State → Prop := vx_X (fun _ : Unit => True) (fun E _ _ => px E) A
abbrev fz_QI {S : Type} (D : va_G) (A : Nat → Prop) (w1 : S → va_W) (post : Int32 → S → Prop) := va_Qi post (fun u t => va_P D vwCl (w1 u) t.heap) A
abbrev fz_QV {S : Type} (D : va_G) (A : Nat → Prop) (w1 : S → va_W) (post : S → Prop) := va_Qv post (fun u t => va_P D vwCl (w1 u) t.heap) A
section FZB
variable {l : Launch} {y : MethodName} {b : ByteArray} {n : Nat} {r : Option FieldType} {rm : Room} {A : Nat → Prop} {D : va_G} {tys : List (ClassId × FieldType)} {ws : va_W} {av : List Value} {Qc : Array Value → State → Outcome → State → Prop} {XC : String → State → State → Prop} {mc ms : Nat}
theorem fz_of (hy : plainName y.cls = true) (hn : (lg_sl av).length ≤ n)
    (body : ∀ (p : Program) (e : Env) (s : State) (m : MethodId) (below : List Frame) (meth : Method) (c : Code), p.tables.exec = Jvm.exec → c.code = b → meth.sig.returnType = r → c.maxLocals = n → s.vm.findClass y.cls = some m.cls → meth.locks = false → (∀ w ∈ fz_ws y b n r, w.before av.toArray s = true) → meth.name = y.name →
      (∀ a, s.heap.size ≤ a → A a) → va_P D vwCl ws s.heap → va_K D vwCl tys s → va_D A ws → fz_GS A s → va_S A s.heap s.heap [] → ∀ ls : Array Slot, lv_has ls n (lv_args 0 av) →
      W p l e rm s m av.toArray below meth c s.heap [] 0 0 (MQ below Qc av.toArray s mc ms A) (F0 m 0 ls [])) : Met l y (fz_ws y b n r) rm (va_Pc av (fz_PC A D tys ws)) Qc mc ms A := by
  refine Met.ofW (cc := b) (maxL := n) (ret := r) hy rfl ?_
  intro p e s m args below meth c s₁ B hml hv
  obtain ⟨rfl, hA, hP, hK, hD, hG⟩ := hv
  rw [lg_entry_eq]
  exact body p e s m below meth c B.exec B.bytes B.returns hml (findClass_of_methodNamed B.named) B.notSynchronized (atoms_spec (ws := fz_ws y b n r) B.pre) (name_of_methodNamed B.named B.method).1 hA hP hK hD hG va_S.rf _ (lv_entry av hn)
theorem fz_ofX (hy : plainName y.cls = true) (hn : (lg_sl av).length ≤ n)
    (body : ∀ (p : Program) (e : Env) (s : State) (m : MethodId) (below : List Frame) (meth : Method) (c : Code), p.tables.exec = Jvm.exec → c.code = b → meth.sig.returnType = r → c.maxLocals = n → s.vm.findClass y.cls = some m.cls → meth.locks = false → (∀ w ∈ fz_ws y b n r, w.before av.toArray s = true) → (∀ x ∈ c.exceptionTable.toList, False) →
      (∀ a, s.heap.size ≤ a → A a) → va_P D vwCl ws s.heap → va_K D vwCl tys s → va_D A ws → fz_GS A s → va_S A s.heap s.heap [] → ∀ ls : Array Slot, lv_has ls n (lv_args 0 av) →
      W p l e rm s m av.toArray below meth c s.heap [] 0 0 (vx_MQ below Qc XC av.toArray s mc ms A) (F0 m 0 ls [])) : vx_Met l y (fz_ws y b n r) rm (va_Pc av (fz_PC A D tys ws)) Qc XC mc ms A := by
  refine vx_ofW (cc := b) (maxL := n) (ret := r) hy rfl ?_
  intro p e s m args below meth c s₁ B hml ht hv
  obtain ⟨rfl, hA, hP, hK, hD, hG⟩ := hv
  rw [lg_entry_eq]
  exact body p e s m below meth c B.exec B.bytes B.returns hml (findClass_of_methodNamed B.named) B.notSynchronized (atoms_spec (ws := fz_ws y b n r) B.pre) ht hA hP hK hD hG va_S.rf _ (lv_entry av hn)
end FZB
section FZR
variable {p : Program} {l : Launch} {e : Env} {R : Room} {s : State} {m : MethodId} {args : Array Value} {below : List Frame} {meth : Method} {c : Code} {H : Heap} {locs : List Loc} {cells slots : Nat} {Q : State → Prop}
variable {cc : ByteArray} {pc : Nat} {ls : Array Slot} {rest st0 : List Value} {D : va_G} {A A1 : Nat → Prop} {tys : List (ClassId × FieldType)} {ws wc : va_W} {mc ms : Nat}
theorem fz_I {x y : Int32} (h : x = y) (k : W p l e R s m args below meth c H locs cells slots Q (F0 m pc ls (.int y :: rest))) : W p l e R s m args below meth c H locs cells slots Q (F0 m pc ls (.int x :: rest)) := h ▸ k
theorem fz_V {x y : Value} (h : x = y) (k : W p l e R s m args below meth c H locs cells slots Q (F0 m pc ls (y :: rest))) : W p l e R s m args below meth c H locs cells slots Q (F0 m pc ls (x :: rest)) := h ▸ k
theorem fz_vin {i : Int32} {n : Nat} (h : ¬ (i < 0 ∨ n ≤ i.toNatClampNeg)) : vp_in i n := h
theorem fz_iret {S : Type} {post : Int32 → S → Prop} {w1 : S → va_W} {ty : FieldType} {v : Int32} (hx : p.tables.exec = Jvm.exec) (hb : c.code = cc) (hr : meth.sig.returnType = some ty) (hn : narrow ty (.int v) = .int v) (hlocks : meth.locks = false) (hS : va_S A s.heap H locs) (hdg : decode cc pc = .ok (.ireturn, 1)) (u : S) (hp : post v u) (hP : va_P D vwCl (w1 u) H) (hc : cells ≤ mc) (hs : slots ≤ ms) :
    W p l e R s m args below meth c H locs cells slots (MQ below (fz_QI D A w1 post) args s mc ms A) (F0 m pc ls [.int v]) :=
  W.widen hc hs (W.zret hx hb hr hn (fun t ht _ => ⟨⟨v, u, rfl, hp, (show va_P D vwCl (w1 u) t.heap by rw [ht]; exact hP)⟩, hS.F ht⟩) hS.2.2 hdg hlocks)
theorem fz_vret {S : Type} {post : S → Prop} {w1 : S → va_W} (hx : p.tables.exec = Jvm.exec) (hb : c.code = cc) (hr : meth.sig.returnType = none) (hlocks : meth.locks = false) (hS : va_S A s.heap H locs) (hdg : decode cc pc = .ok (.return_, 1)) (u : S) (hp : post u) (hP : va_P D vwCl (w1 u) H) (hc : cells ≤ mc) (hs : slots ≤ ms) :
    W p l e R s m args below meth c H locs cells slots (MQ below (fz_QV D A w1 post) args s mc ms A) (F0 m pc ls []) :=
  W.widen hc hs (W.vret hx hb hr (fun t ht _ => ⟨⟨u, rfl, hp, (show va_P D vwCl (w1 u) t.heap by rw [ht]; exact hP)⟩, hS.F ht⟩) hS.2.2 hdg hlocks)
/-- not caught here -/
theorem fz_out {px : String → Prop} {Qc : Array Value → State → Outcome → State → Prop} {E : String} {ce : Cell} {q : Addr} (ht : ∀ x ∈ c.exceptionTable.toList, False) (hlocks : meth.locks = false) (hS : va_S A s.heap H locs) (hcell : H[q]? = some ce) (hv : ce.vm = .none) (hcl : s.vm.findClass E = some ce.cls) (hp : px E) (hc : cells ≤ mc) (hs : slots ≤ ms) :
    vx_W p l e R s m args below meth c H locs cells slots (vx_MQ below Qc (fz_XC px A) args s mc ms A) (F0 m pc ls rest) q :=
  vx_out (fun x hx => (ht x hx).elim) hlocks hcell hv hcl (fun t h _ => ⟨(), trivial, hp, hS.F h⟩) hS.2.2 hc hs
end FZR

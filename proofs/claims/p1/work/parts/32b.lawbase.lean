def fz_LF (q2 : Nat → Nat) (f : Nat → Nat → Int32) (pa : Nat → Option Nat) (v : Nat → Int32) (f2 : Nat → Nat → Int32) (pa2 : Nat → Option Nat) (v2 : Nat → Int32) : Prop := v 0 = 3 ∧ v 1 = 1 ∧ v 2 = 1 ∧ v 3 = 0 ∧ v 4 = 0 ∧ v 5 = 0 ∧ v 6 = 0 ∧ v 7 = 0 ∧ v 8 = 0 ∧ v 9 = 0 ∧ v 10 = 0 ∧ v 11 = 0 ∧ v 12 = 0 ∧ v 13 = 0 ∧ v 14 = 0 ∧ v 15 = 0 ∧ v 17 = 0 ∧ f 2 0 = 0 ∧ f 4 0 = 0 ∧ f 5 0 = (-1) ∧ f 6 0 = 0 ∧ f 7 0 = 0 ∧ f 8 0 = (-1) ∧ f 9 0 = (-1) ∧ f 11 0 = (-1) ∧ f 18 0 = (-1) ∧ f 19 0 = (-1) ∧ pa 0 = none ∧ pa 1 = none ∧ pa 8 = none ∧ v2 0 = 0 ∧ v2 5 = 0 ∧ v2 6 = 0 ∧ v2 7 = 0 ∧ v2 8 = 0 ∧ v2 9 = 0 ∧ v2 10 = 0 ∧ v2 11 = 0 ∧ v2 12 = 0 ∧ v2 13 = 0 ∧ v2 15 = 0 ∧ v2 16 = 0 ∧ v2 17 = 0 ∧ v2 18 = 0 ∧ v2 19 = 0 ∧ v2 21 = 0 ∧ f2 1 0 = 1 ∧ f2 1 1 = 1 ∧ f2 1 2 = 0 ∧ f2 1 3 = 0 ∧ f2 1 4 = 0 ∧ f2 1 5 = 3 ∧ f2 1 6 = 0 ∧ f2 1 7 = 1 ∧ f2 1 8 = 0 ∧ f2 1 9 = (-1) ∧ f2 1 10 = 0 ∧ f2 1 11 = (-1) ∧ f2 1 12 = (-1) ∧ f2 1 13 = (-1) ∧ f2 1 15 = (-1) ∧ f2 1 16 = (-1) ∧ f2 1 17 = 0 ∧ pa2 0 = some (q2 7)
theorem m_thrown (l : Launch) (A : Nat → Prop) (D : va_G) (k : Nat → ClassId) (q : Nat → Nat) (u : Nat → Int32) :
    Met l yX10_thrown (fz_ws yX10_thrown cX10_thrown 1 (some .int)) { frames := 12, cells := 0, slots := 0, locals := 160 } (va_Pc [.ref (q 0)] (fz_PC A D (fz_tys k) (fz_MO q u))) (fz_QI D A (fun (_ : Unit) => fz_MO q u) (fun (r : Int32) (_ : Unit) => r = u 0)) 0 0 A := by
  refine fz_of (by decide +kernel) (Nat.le_of_ble_eq_true rfl) ?_
  intro p e s m below meth c hx hb hr hml hown hlocks hts hin hA hP hK hD hG hS ls hl
  have hown : s.vm.findClass RX10 = some m.cls := hown
  have hl : lv_has ls 1 [(0, .ref (q 0))] := hl
  refine lv_aload_n hx hb dX10_thrown_0 rfl (lv_at hl 0 rfl) ?_
  refine va_get (D := D) (ci := 14) (v := .int (u 0)) (C := RX10) (T := TX10) (N := 22) hx hb hts (fun w9 h9 => fz_m (fin_X10 w9 h9)) hown hK hP 0 rfl rfl 0 (by decide) (hts _ (fz_m fm_463)) (fun _ h9 => h9) rfl dX10_thrown_1 ?_
  exact fz_iret hx hb hr rfl hlocks hS dX10_thrown_4 () rfl hP (Nat.le_of_ble_eq_true rfl) (Nat.le_of_ble_eq_true rfl)
theorem fz_hts9 {args : Array Value} {s : State} (hts : ∀ w ∈ lw_tbl, w.before args s = true) : ∀ w ∈ Cond.initialized RL :: fz_WA, w.before args s = true := fun w hw => by
  rcases List.mem_cons.mp hw with rfl | h
  · exact hts _ (List.mem_filter.mp fm_816).1
  · exact hts _ (List.mem_filter.mp h).1
theorem fz_gSW {c0 : Cond} {own : String} {i : Nat} {y : MethodName} {b : ByteArray} {n : Nat} {r : Option FieldType} {hh : List (Nat × Nat × Nat × Nat)} (h5 : Cond.codeWith y b n r hh ∈ fz_WA) (h1 : Cond.methodLink own i y ∈ fz_WA) (h2 : Cond.static y ∈ fz_WA) (h4 : Cond.initialized y.cls ∈ fz_WA) : GoodIn (c0 :: fz_WA) (va_wsS own i y (Cond.codeWith y b n r hh :: fz_WA)) := by
  refine fz_gW fun w hw => ?_
  unfold va_wsS at hw
  rcases List.mem_append.mp hw with h | h
  · simp only [List.mem_cons, List.not_mem_nil, or_false] at h
    rcases h with rfl | rfl | rfl <;> assumption
  · rcases List.mem_cons.mp h with rfl | h
    · exact h5
    · exact h
section FZT
variable {p : Program} {l : Launch} {e : Env} {s : State} {m : MethodId} {below : List Frame} {meth : Method} {c : Code} {b L : Nat} {xs : Nat → Int32} {H : Heap} {locs : List Loc} {cells slots : Nat}
theorem lw_exit (C0 : lw_At p s m meth c b L xs) (hc : cells ≤ 600006) (hs : slots ≤ 7302056) (hS : va_S (fun q : Nat => s.heap.size ≤ q) s.heap H locs) (ls : Array Slot) : W p l e room_1 s m #[Value.ref b] below meth c H locs cells slots (lw_Z below #[Value.ref b] s) (F0 m 2463 ls []) := by
  obtain ⟨hx, hb, hr, hml, hown, hts, hX, hbl, hlocks, hgv⟩ := C0
  refine lv_iconst (v := 1) hx hb dL_law_2463 (by decide) ?_
  refine va_forget (fun q hq => hS.2.2 q hq) ?_
  refine W.widen (k := 600006) (n := 7302056) hc hs ?_
  exact lw_ret (d0 := s.drawn) (Drawn.sameBut.refl s.drawn lw_cs) hx hb hr hlocks dL_law_2464
theorem lw_tail (hL : L = 6) (C0 : lw_At p s m meth c b L xs) (hc : cells ≤ 600006) (hs : slots ≤ 7302056) (hS : va_S (fun q : Nat => s.heap.size ≤ q) s.heap H locs) (ls : Array Slot) (hl : lv_has ls 9 [(5, .int 0), (0, .ref b)]) : W p l e room_1 s m #[Value.ref b] below meth c H locs cells slots (lw_Z below #[Value.ref b] s) (F0 m 2457 ls []) := by
  obtain ⟨hx, hb, hr, hml, hown, hts, hX, hbl, hlocks, hgv⟩ := id C0
  have hbA : ¬ (fun q : Nat => s.heap.size ≤ q) b := Nat.not_le.mpr hbl
  subst hL
  refine lv_iinc (v := 6) (lv' := [(5, .int 6), (0, .ref b)]) hx hb dL_law_2457 hl (k := 0) rfl (by decide) (by decide) rfl (fun ls hl => ?_)
  refine lv_goto (tgt := 28) hx hb dL_law_2460 (by decide) ?_
  refine lv_iload hx hb dL_law_28 (lv_at hl 0 rfl) ?_
  refine lv_aload_n hx hb dL_law_30 rfl (lv_at hl 1 rfl) ?_
  refine va_slen hx hb hX hbl hbA hS dL_law_31 ?_
  refine fz_I (y := 6) (by decide) ?_
  refine lv_bipush (v := 6) hx hb dL_law_32 (by decide) ?_
  refine lv_isub hx hb dL_law_34 ?_
  refine fz_I (y := 0) (by decide) ?_
  refine lv_icmp_gt (tgt := 2463) hx hb dL_law_35 (by decide) (fun c9 => ?_) (fun c9 => absurd (by decide) c9)
  exact lw_exit C0 hc hs hS ls
end FZT
theorem fz_cVd {p : Program} {l : Launch} {e : Env} {R : Room} {s : State} {m : MethodId} {args : Array Value} {below : List Frame} {meth : Method} {c : Code} {H : Heap} {locs : List Loc} {cells slots : Nat} {Q : State → Prop} {cc bytes : ByteArray} {pc nL maxL n index mc ms : Nat} {ls : Array Slot} {rest st0 As : List Value} {D : va_G} {A A1 : Nat → Prop} {tys : List (ClassId × FieldType)} {wc : va_W} {y : MethodName} {ret : Option FieldType} {wsy Ts : List Cond} {rm : Room} {own C : String} {b : Nat} {S : Type} {post : UInt64 → S → Prop} {w1 : S → va_W} (S0 : CallFix p m c cc nL s args Ts own) (hM : Met l y wsy rm (va_Pc (.ref b :: As) (fz_PC A1 D tys wc)) (fz_QD D A1 w1 post) mc ms A1) (cw : CallW R s args own C index y bytes maxL ret wsy rm mc ms n) (hrecv : ∃ cellB : Cell, H[b]? = some cellB ∧ cellB.vm.isStatics = false ∧ s.vm.findClass C = some cellB.cls) (sub : ∀ q, A1 q → A q) (hA1 : ∀ a, H.size ≤ a → A1 a) (hG : fz_GS A s) (hS : va_S A s.heap H locs) (hP : va_P D vwCl wc H) (hK : va_K D vwCl tys s) (hD : va_D A1 wc) (hn : As.length = n) (hsize : ls.size = nL) (hst : st0 = As.reverse ++ .ref b :: rest) (hcat : (rest.map fun v => v.category).sum ≤ 8) (hdg : decode cc pc = .ok (.invokevirtual index, 3)) (hf : cells + mc ≤ R.cells ∧ slots + ms ≤ R.slots)
    (kk : ∀ (r : UInt64) (u : S) (H1 : Heap) (locs1 : List Loc), post r u → H.size ≤ H1.size → (∀ q : Nat, q < H.size → ¬ A1 q → H1[q]? = H[q]?) → va_P D vwCl (w1 u) H1 → va_S A s.heap H1 locs1 → W p l e R s m args below meth c H1 locs1 (cells + mc) (slots + ms) Q (F0 m (pc + 3) ls (.double r :: rest))) : W p l e R s m args below meth c H locs cells slots Q (F0 m pc ls st0) :=
  va_calld (va_runV (As := As) (rest := rest) S0 hM cw ⟨fz_blind, hrecv, fz_pre hA1 sub hP hK hD hG hS⟩ rfl hn hsize hst (lv_room hcat) hdg hf) hS (fun q _ h => sub q h) sub (fun r u t H1 locs1 ht hvm hw hB hz1 hk1 hS1 => kk r u H1 locs1 hw hz1 hk1 (by rw [← ht]; exact hB) hS1)

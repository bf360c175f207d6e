set_option maxHeartbeats 4000000 in
set_option maxRecDepth 100000 in
theorem m_setk (l : Launch) (A : Nat → Prop) (D : va_G) (k : Nat → ClassId) (q : Nat → Nat) (f : Nat → Nat → Int32) (pa : Nat → Option Nat) (v : Nat → Int32) (n i : Nat) (hn : n ≤ 1) (hi : i < 31) :
    Met l yX10_set (fz_ws yX10_set cX10_set 4 none) { frames := 12, cells := 0, slots := 0, locals := 160 } (va_Pc [Value.ref (q 0), .int (nI n), .int (nI i), .int 0] (fz_PC A D (fz_tys k) (fz_WM k q f pa v))) (fz_QV D A (fun (_ : Unit) => fz_WM k q (va_up f 1 (upd (f 1) (7 + n * 31 + i) 0)) pa v) (fun (_ : Unit) => True)) 0 0 A := by
  refine fz_of (by decide +kernel) (Nat.le_of_ble_eq_true rfl) ?_
  intro p e s m below meth c hx hb hr hml hown hlocks hts hin hA hP hK hD hG hS ls hl
  have hown : s.vm.findClass RX10 = some m.cls := hown
  have hl : lv_has ls 4 [(0, .ref (q 0)), (1, .int (nI n)), (2, .int (nI i)), (3, .int 0)] := hl
  refine lv_aload_n hx hb dX10_set_0 rfl (lv_at hl 0 rfl) ?_
  refine va_get (D := D) (ci := 14) (v := .ref (q 1)) (C := RX10) (T := TX10) (N := 22) hx hb hts (fun w9 h9 => fz_m (fin_X10 w9 h9)) hown hK hP 0 rfl rfl 1 (by decide) (hts _ (fz_m fm_462)) (fun _ h9 => h9) rfl dX10_set_1 ?_
  refine lv_bipush (v := 7) hx hb dX10_set_4 (by decide) ?_
  refine lv_iload_n hx hb dX10_set_6 rfl (lv_at hl 1 rfl) ?_
  refine lv_bipush (v := 31) hx hb dX10_set_7 (by decide) ?_
  refine lv_imul hx hb dX10_set_9 ?_
  refine lv_iadd hx hb dX10_set_10 ?_
  refine lv_iload_n hx hb dX10_set_11 rfl (lv_at hl 2 rfl) ?_
  refine lv_iadd hx hb dX10_set_12 ?_
  have e9 : (7 : Int32) + nI n * 31 + nI i = nI (7 + n * 31 + i) := by
    rw [← nI_add (7 + n * 31) i, ← nI_add 7 (n * 31), ← pk_mul n 31]; rfl
  refine fz_I (y := nI (7 + n * 31 + i)) e9 ?_
  refine lv_iload_n hx hb dX10_set_13 rfl (lv_at hl 3 rfl) ?_
  have hlt : 7 + n * 31 + i < 10535 := by omega
  refine va_iast hx hb hK hP hD hS 1 0 rfl rfl (vp_in_nI hlt (by omega)) dX10_set_14 (fun H locs hP hD hS => ?_)
  rw [nI_clamp (show 7 + n * 31 + i < 2 ^ 31 by omega)] at hP
  have hP : va_P D vwCl (fz_WM k q (va_up f 1 (upd (f 1) (7 + n * 31 + i) 0)) pa v) H := hP
  exact fz_vret hx hb hr hlocks hS dX10_set_15 () trivial hP (Nat.le_refl _) (Nat.le_refl _)

set_option maxHeartbeats 4000000 in
set_option maxRecDepth 100000 in
theorem m_copyRow17 (l : Launch) (A : Nat → Prop) (D : va_G) (k : Nat → ClassId) (q : Nat → Nat) (f : Nat → Nat → Int32) (pa : Nat → Option Nat) (v : Nat → Int32) :
    Met l yX10_copyRow (fz_ws yX10_copyRow cX10_copyRow 3 none) { frames := 12, cells := 0, slots := 0, locals := 160 } (va_Pc [Value.ref (q 1), .ref (q 7)] (fz_PC A D (fz_tys k) (fz_WM k q f pa v))) (fz_QV D A (fun (u : Nat → Int32) => fz_WM k q (va_up f 7 u) pa v) (fun (_ : Nat → Int32) => True)) 0 0 A := by
  refine fz_of (by decide +kernel) (Nat.le_of_ble_eq_true rfl) ?_
  intro p e s m below meth c hx hb hr hml hown hlocks hts hin hA hP hK hD hG hS ls hl
  have hl : lv_has ls 3 [(0, .ref (q 1)), (1, .ref (q 7))] := hl
  have loop : ∀ (j i : Nat), i + j = 10535 → ∀ (u : Nat → Int32) (H : Heap) (locs : List Loc), va_P D vwCl (fz_WM k q (va_up f 7 u) pa v) H → va_D A (fz_WM k q (va_up f 7 u) pa v) → va_S A s.heap H locs → ∀ ls : Array Slot, lv_has ls 3 [(2, .int (nI i)), (0, .ref (q 1)), (1, .ref (q 7))] →
      W p l e { frames := 12, cells := 0, slots := 0, locals := 160 } s m [Value.ref (q 1), .ref (q 7)].toArray below meth c H locs 0 0 (MQ below (fz_QV D A (fun (u : Nat → Int32) => fz_WM k q (va_up f 7 u) pa v) (fun (_ : Nat → Int32) => True)) [Value.ref (q 1), .ref (q 7)].toArray s 0 0 A) (F0 m 2 ls []) := by
    intro j
    induction j with
    | zero =>
      intro i hi u H locs hP hD hS ls hl
      have e9 : i = 10535 := by omega
      subst e9
      refine lv_iload_n hx hb dX10_copyRow_2 rfl (lv_at hl 0 rfl) ?_
      refine lv_sipush (v := 10535) hx hb dX10_copyRow_3 (by decide) ?_
      refine lv_icmp_ge (tgt := 21) hx hb dX10_copyRow_6 (by decide) (fun c9 => ?_) (fun c9 => absurd (show nI 10535 ≤ nI 10535 from nI_le (Nat.le_refl 10535) (by decide)) c9)
      exact fz_vret hx hb hr hlocks hS dX10_copyRow_21 u trivial hP (Nat.le_refl _) (Nat.le_refl _)
    | succ j ih =>
      intro i hi u H locs hP hD hS ls hl
      have hlt : i < 10535 := by omega
      refine lv_iload_n hx hb dX10_copyRow_2 rfl (lv_at hl 0 rfl) ?_
      refine lv_sipush (v := 10535) hx hb dX10_copyRow_3 (by decide) ?_
      refine lv_icmp_ge (tgt := 21) hx hb dX10_copyRow_6 (by decide) (fun c9 => absurd c9 (show ¬ (nI 10535 ≤ nI i) from nI_ge hlt (by decide))) (fun c9 => ?_)
      refine lv_aload_n hx hb dX10_copyRow_9 rfl (lv_at hl 2 rfl) ?_
      refine lv_iload_n hx hb dX10_copyRow_10 rfl (lv_at hl 0 rfl) ?_
      refine lv_aload_n hx hb dX10_copyRow_11 rfl (lv_at hl 1 rfl) ?_
      refine lv_iload_n hx hb dX10_copyRow_12 rfl (lv_at hl 0 rfl) ?_
      refine va_iald hx hb hK hP 1 0 rfl rfl (vp_in_nI hlt (by omega)) dX10_copyRow_13 ?_
      refine va_iast hx hb hK hP hD hS 7 0 rfl rfl (vp_in_nI hlt (by omega)) dX10_copyRow_14 (fun H locs hP hD hS => ?_)
      refine lv_iinc (v := nI (i + 1)) (lv' := [(2, .int (nI (i + 1))), (0, .ref (q 1)), (1, .ref (q 7))]) hx hb dX10_copyRow_15 hl (k := 0) rfl (nI_1 i) (by decide) rfl (fun ls hl => ?_)
      refine lv_goto (tgt := 2) hx hb dX10_copyRow_18 (by decide) ?_
      exact ih (i + 1) (by omega) (upd u (nI i).toNatClampNeg (f 1 (nI i).toNatClampNeg)) H locs hP hD hS ls hl
  refine lv_iconst (v := 0) hx hb dX10_copyRow_0 (by decide) ?_
  refine lv_istore_n (lv' := [(2, .int 0), (0, .ref (q 1)), (1, .ref (q 7))]) hx hb dX10_copyRow_1 rfl hl (by decide) rfl (fun ls hl => ?_)
  exact loop 10535 0 rfl (f 7) _ _ hP hD hS ls hl

set_option maxHeartbeats 4000000 in
set_option maxRecDepth 100000 in
theorem m_copyRow12 (l : Launch) (A : Nat → Prop) (D : va_G) (k : Nat → ClassId) (q : Nat → Nat) (f : Nat → Nat → Int32) (pa : Nat → Option Nat) (v : Nat → Int32) :
    Met l yX10_copyRow (fz_ws yX10_copyRow cX10_copyRow 3 none) { frames := 12, cells := 0, slots := 0, locals := 160 } (va_Pc [Value.ref (q 1), .ref (q 2)] (fz_PC A D (fz_tys k) (fz_WM k q f pa v))) (fz_QV D A (fun (u : Nat → Int32) => fz_WM k q (va_up f 2 u) pa v) (fun (_ : Nat → Int32) => True)) 0 0 A := by
  refine fz_of (by decide +kernel) (Nat.le_of_ble_eq_true rfl) ?_
  intro p e s m below meth c hx hb hr hml hown hlocks hts hin hA hP hK hD hG hS ls hl
  have hl : lv_has ls 3 [(0, .ref (q 1)), (1, .ref (q 2))] := hl
  have loop : ∀ (j i : Nat), i + j = 10535 → ∀ (u : Nat → Int32) (H : Heap) (locs : List Loc), va_P D vwCl (fz_WM k q (va_up f 2 u) pa v) H → va_D A (fz_WM k q (va_up f 2 u) pa v) → va_S A s.heap H locs → ∀ ls : Array Slot, lv_has ls 3 [(2, .int (nI i)), (0, .ref (q 1)), (1, .ref (q 2))] →
      W p l e { frames := 12, cells := 0, slots := 0, locals := 160 } s m [Value.ref (q 1), .ref (q 2)].toArray below meth c H locs 0 0 (MQ below (fz_QV D A (fun (u : Nat → Int32) => fz_WM k q (va_up f 2 u) pa v) (fun (_ : Nat → Int32) => True)) [Value.ref (q 1), .ref (q 2)].toArray s 0 0 A) (F0 m 2 ls []) := by
    intro j
    induction j with
    | zero =>
      intro i hi u H locs hP hD hS ls hl
      have e9 : i = 10535 := by omega
      subst e9
      refine lv_iload_n hx hb dX10_copyRow_2 rfl (lv_at hl 0 rfl) ?_
      refine lv_sipush (v := 10535) hx hb dX10_copyRow_3 (by decide) ?_
      refine lv_icmp_ge (tgt := 21) hx hb dX10_copyRow_6 (by decide) (fun c9 => ?_) (fun c9 => absurd (show nI 10535 ≤ nI 10535 from nI_le (Nat.le_refl 10535) (by decide)) c9)
      exact fz_vret hx hb hr hlocks hS dX10_copyRow_21 u trivial hP (Nat.le_refl _) (Nat.le_refl _)
    | succ j ih =>
      intro i hi u H locs hP hD hS ls hl
      have hlt : i < 10535 := by omega
      refine lv_iload_n hx hb dX10_copyRow_2 rfl (lv_at hl 0 rfl) ?_
      refine lv_sipush (v := 10535) hx hb dX10_copyRow_3 (by decide) ?_
      refine lv_icmp_ge (tgt := 21) hx hb dX10_copyRow_6 (by decide) (fun c9 => absurd c9 (show ¬ (nI 10535 ≤ nI i) from nI_ge hlt (by decide))) (fun c9 => ?_)
      refine lv_aload_n hx hb dX10_copyRow_9 rfl (lv_at hl 2 rfl) ?_
      refine lv_iload_n hx hb dX10_copyRow_10 rfl (lv_at hl 0 rfl) ?_
      refine lv_aload_n hx hb dX10_copyRow_11 rfl (lv_at hl 1 rfl) ?_
      refine lv_iload_n hx hb dX10_copyRow_12 rfl (lv_at hl 0 rfl) ?_
      refine va_iald hx hb hK hP 1 0 rfl rfl (vp_in_nI hlt (by omega)) dX10_copyRow_13 ?_
      refine va_iast hx hb hK hP hD hS 2 0 rfl rfl (vp_in_nI hlt (by omega)) dX10_copyRow_14 (fun H locs hP hD hS => ?_)
      refine lv_iinc (v := nI (i + 1)) (lv' := [(2, .int (nI (i + 1))), (0, .ref (q 1)), (1, .ref (q 2))]) hx hb dX10_copyRow_15 hl (k := 0) rfl (nI_1 i) (by decide) rfl (fun ls hl => ?_)
      refine lv_goto (tgt := 2) hx hb dX10_copyRow_18 (by decide) ?_
      exact ih (i + 1) (by omega) (upd u (nI i).toNatClampNeg (f 1 (nI i).toNatClampNeg)) H locs hP hD hS ls hl
  refine lv_iconst (v := 0) hx hb dX10_copyRow_0 (by decide) ?_
  refine lv_istore_n (lv' := [(2, .int 0), (0, .ref (q 1)), (1, .ref (q 2))]) hx hb dX10_copyRow_1 rfl hl (by decide) rfl (fun ls hl => ?_)
  exact loop 10535 0 rfl (f 2) _ _ hP hD hS ls hl
